
/-! ===== the class takes its survey ===== -/
def FS (h h' : Hp) : Prop := (∀ k, ¬ (60 ≤ k ∧ k ≤ 70) → h'.1 k = h.1 k) ∧ ∀ k, k ≠ 69 → h'.2 k = h.2 k
theorem FS.rf (h : Hp) : FS h h := ⟨fun _ _ => rfl, fun _ _ => rfl⟩
theorem FS.tr {a b c : Hp} (p : FS a b) (q : FS b c) : FS a c := ⟨fun k hk => (q.1 k hk).trans (p.1 k hk), fun k hk => (q.2 k hk).trans (p.2 k hk)⟩
theorem FS.si {a b : Hp} {k : Nat} {f : Nat → Int32} (p : FS a b) (h1 : 60 ≤ k) (h2 : k ≤ 70) : FS a (sI b k f) := ⟨fun j hj => by rw [sI_n (by omega)]; exact p.1 j hj, p.2⟩
theorem FS.sl {a b : Hp} {f : Nat → Int64} (p : FS a b) : FS a (sL b 69 f) := ⟨p.1, fun j hj => by rw [sL_n hj]; exact p.2 j hj⟩
theorem FS.same {a b : Hp} (p : FS a b) : Same a b := by
  refine ⟨fun k hk => p.1 k (fun z => ?_), ⟨by rw [p.1 51 (by omega)], by rw [p.1 72 (by omega)], by rw [p.1 72 (by omega)]⟩, fun k hk => p.2 k (fun z => by rw [z] at hk; cases hk)⟩
  have : ∀ j, j < 11 → pers (60 + j) = false := by decide
  have := this (k - 60) (by omega)
  rw [show 60 + (k - 60) = k by omega, hk] at this
  cases this
theorem FS.cr {a b : Hp} {s : Nat → Nat → Int32} (p : FS a b) (c : CR a 1 s) : CR b 1 s := c.same (fun j h1 h2 => p.1 _ (by omega))
def SVt (h : Hp) (s : Nat → Nat → Int32) (g : Int32) (t : Nat) : Prop := h.1 62 t = nI (clN s t % 12) ∧ h.1 63 t = nI (clN s t / 12) ∧ h.1 64 t = nI (moN s t) ∧ ∀ k, k < 12 → h.1 65 (t * 12 + k) = nI (nrN (spN s g t) k)
def SV0 (h : Hp) (s : Nat → Nat → Int32) (g : Int32) : Prop := h.1 60 1 = nI (nT s) ∧ h.1 60 2 = nI (fvN s) ∧ ∀ t, t < nT s → h.1 61 t = nI (spN s g t)
def SV (h : Hp) (s : Nat → Nat → Int32) (g : Int32) : Prop := SV0 h s g ∧ ∀ t, t < nT s → SVt h s g t
def spR (s : Nat → Nat → Int32) (g : Int32) (f : Nat → Int32) (l : Nat) : Nat → Int32 := fun j => if j < 16 then nI (spF s g j l) else f j
theorem spR_0 (s : Nat → Nat → Int32) (g : Int32) (f : Nat → Int32) : filI f 16 (nI 4095) = spR s g f 0 := by
  funext j; unfold filI spR; rfl
theorem spR_n {s : Nat → Nat → Int32} {g : Int32} {f : Nat → Int32} {l : Nat} (h : cB s g (nN s) l = false) : spR s g f (l + 1) = spR s g f l := by
  funext j; unfold spR
  split
  · rw [spF, h, Bool.false_and, if_neg (by decide)]
  · rfl
theorem spR_y {s : Nat → Nat → Int32} {g : Int32} {f : Nat → Int32} {l t : Nat} (h : cB s g (nN s) l = true) (ht : t < 16) (e : s 4 (9 * l + 1) = nI t) : upd (spR s g f l) t (nI (spF s g t l) &&& nI (letN s l)) = spR s g f (l + 1) := by
  funext j; rw [upd_at]; unfold spR
  by_cases q : j = t
  · rw [if_pos q, if_pos (by omega), q, spF, h, Bool.true_and, if_pos (decide_eq_true e), and_nI]
  · rw [if_neg q]
    split
    · rename_i z
      rw [spF, h, Bool.true_and, if_neg (fun y => q (by have := (nI_eq (by omega) (by omega)).mp ((of_decide_eq_true y).symm.trans e); exact this))]
    · rfl
theorem lt_ok {s : Nat → Nat → Int32} (w : WF s) {l : Nat} (hl : l < nN s) : ∃ t, t < nT s ∧ s 4 (9 * l + 1) = nI t := by
  obtain ⟨k, t, x, d, r, q, z, y, a1, a2, a3, a4, a5, a6, a7, a8, b1, b2, b3, b4, b5, b6, b7, b8, b9, b10⟩ := w.l l hl
  exact ⟨t, b2, a2⟩
theorem mx1 {f : Nat} (h1 : 1 ≤ f) (h2 : f < 2 ^ 31) : (if nI 1 < nI f then nI f else nI 1) = nI f := by
  by_cases e : f = 1
  · rw [e]; rfl
  · rw [if_pos (nI_lt (by omega) h2)]

theorem c_takeSpans {h : Hp} {s : Nat → Nat → Int32} (w : WF s) (c : CR h 1 s) (g : Int32) : Gd mX4_takeSpans 0 [.ref 60, .ref 1, .int g, .null, .null] [] h (none, sI h 61 (spR s g (h.1 61) (nN s))) := by
  have lN := w.n.2
  have lT := w.t.2
  have key := loopG (P := fun l => Gd mX4_takeSpans 19 [.ref 60, .ref 1, .int g, .int (nI (cS s g)), .int (nI l)] [] (sI h 61 (spR s g (h.1 61) l)) (none, sI h 61 (spR s g (h.1 61) (nN s)))) (n := nN s) ?_ ?_ 0 (by omega)
  · have cf : CR (sI h 61 (filI (h.1 61) 16 (nI 4095))) 1 s := ((FS.rf h).si (by decide) (by decide)).cr c
    have key := gd_eqH (congrArg (sI h 61) (spR_0 s g (h.1 61))) key
    refine gd_ald0 dX4_takeSpans_0 (by decide) ?_
    refine gd_getR (r := 61) dX4_takeSpans_1 fl_4_9 rfl rfl rfl (by decide) ?_
    refine gd_sipush (v := nI 4095) dX4_takeSpans_4 (by decide) ?_
    refine gd_cS2v dX4_takeSpans_7 ct_4_82 ⟨Nat.le_of_ble_eq_true rfl, Nat.le_of_ble_eq_true rfl⟩ (Nat.le_of_ble_eq_true rfl) (Nat.le_of_ble_eq_true rfl) (c_fill61 _ _) ?_
    refine gd_ald1 dX4_takeSpans_10 (by decide) ?_
    refine gd_ild2 dX4_takeSpans_11 ?_
    refine gd_cV1i dX4_takeSpans_12 ct_4_88 rc_1 ⟨Nat.le_of_ble_eq_true rfl, Nat.le_of_ble_eq_true rfl⟩ (Nat.le_of_ble_eq_true rfl) (Nat.le_of_ble_eq_true rfl) (c_counting w cf g) ?_
    refine gd_ist3 dX4_takeSpans_15 rfl ?_
    refine gd_ic0 dX4_takeSpans_16 ?_
    refine gd_ist4 dX4_takeSpans_17 rfl ?_
    exact key
  · refine gd_ild4 dX4_takeSpans_19 ?_
    refine gd_ald1 dX4_takeSpans_21 (by decide) ?_
    refine gd_getR (r := 6) dX4_takeSpans_22 fl_4_91 rfl rfl rfl (by decide) ?_
    refine gd_getI dX4_takeSpans_25 fl_4_95 rfl rfl ?_
    refine gd_icmp_ge_t 71 dX4_takeSpans_28 (by decide) (by rw [show (sI h 61 (spR s g (h.1 61) (nN s))).1 6 9 = nI (nN s) from c.n1.trans w.n.1]; exact nI_le (by omega) (by omega)) ?_
    refine gd_vret dX4_takeSpans_71 rfl ?_
    rfl
  · intro l hl ih
    have cc : CR (sI h 61 (spR s g (h.1 61) l)) 1 s := ((FS.rf h).si (by decide) (by decide)).cr c
    obtain ⟨t, ht, et⟩ := lt_ok w hl
    have EN : (sI h 61 (spR s g (h.1 61) l)).1 6 9 = nI (nN s) := c.n1.trans w.n.1
    cases hb : cB s g (nN s) l with
    | false =>
      rw [spR_n hb] at ih
      refine gd_ild4 dX4_takeSpans_19 ?_
      refine gd_ald1 dX4_takeSpans_21 (by decide) ?_
      refine gd_getR (r := 6) dX4_takeSpans_22 fl_4_91 rfl rfl rfl (by decide) ?_
      refine gd_getI dX4_takeSpans_25 fl_4_95 rfl rfl ?_
      refine gd_icmp_ge_f 71 dX4_takeSpans_28 (by decide) (by rw [EN]; exact nI_ge (by omega) (by omega)) ?_
      refine gd_ild3 dX4_takeSpans_31 ?_
      refine gd_ild4 dX4_takeSpans_32 ?_
      refine gd_ishr dX4_takeSpans_34 ?_
      refine gd_ic1 dX4_takeSpans_35 ?_
      refine gd_iand dX4_takeSpans_36 ?_
      rw [bit_nI (by have := cS_lt w g; omega) (by omega), cS_bit hl]
      refine gd_ic1 dX4_takeSpans_37 ?_
      refine gd_icmp_ne_t 65 dX4_takeSpans_38 (by decide) (by rw [hb]; decide) ?_
      refine gd_iinc4 (b := nI 1) dX4_takeSpans_65 (by decide) rfl ?_
      rw [nI_add]
      refine gd_goto 19 dX4_takeSpans_68 (by decide) ?_
      exact ih
    | true =>
      refine gd_ild4 dX4_takeSpans_19 ?_
      refine gd_ald1 dX4_takeSpans_21 (by decide) ?_
      refine gd_getR (r := 6) dX4_takeSpans_22 fl_4_91 rfl rfl rfl (by decide) ?_
      refine gd_getI dX4_takeSpans_25 fl_4_95 rfl rfl ?_
      refine gd_icmp_ge_f 71 dX4_takeSpans_28 (by decide) (by rw [EN]; exact nI_ge (by omega) (by omega)) ?_
      refine gd_ild3 dX4_takeSpans_31 ?_
      refine gd_ild4 dX4_takeSpans_32 ?_
      refine gd_ishr dX4_takeSpans_34 ?_
      refine gd_ic1 dX4_takeSpans_35 ?_
      refine gd_iand dX4_takeSpans_36 ?_
      rw [bit_nI (by have := cS_lt w g; omega) (by omega), cS_bit hl]
      refine gd_ic1 dX4_takeSpans_37 ?_
      refine gd_icmp_ne_f 65 dX4_takeSpans_38 (by decide) (by rw [hb]; decide) ?_
      refine gd_ald0 dX4_takeSpans_41 (by decide) ?_
      refine gd_getR (r := 61) dX4_takeSpans_42 fl_4_9 rfl rfl rfl (by decide) ?_
      refine gd_ald1 dX4_takeSpans_45 (by decide) ?_
      refine gd_getR (r := 6) dX4_takeSpans_46 fl_4_91 rfl rfl rfl (by decide) ?_
      refine gd_getR (r := 8) dX4_takeSpans_49 fl_4_100 rfl rfl rfl (by decide) ?_
      refine gd_ild4 dX4_takeSpans_52 ?_
      refine gd_iald (n := 30) dX4_takeSpans_54 rfl (by decide) (by repeat' (first | with_reducible rfl | apply ni_add | apply ni_mul)) (by omega) ?_
      rw [show (sI h 61 (spR s g (h.1 61) l)).1 8 l = nI t from (c.lt1 l hl).trans et]
      refine gd_dup2 (by decide) dX4_takeSpans_55 ?_
      refine gd_iald (n := 16) dX4_takeSpans_56 rfl (by decide) (by repeat' (first | with_reducible rfl | apply ni_add | apply ni_mul)) (by omega) ?_
      rw [show (sI h 61 (spR s g (h.1 61) l)).1 61 t = nI (spF s g t l) from if_pos (by omega)]
      refine gd_ald1 dX4_takeSpans_57 (by decide) ?_
      refine gd_ild4 dX4_takeSpans_58 ?_
      refine gd_cV1i dX4_takeSpans_60 ct_4_103 rc_1 ⟨Nat.le_of_ble_eq_true rfl, Nat.le_of_ble_eq_true rfl⟩ (Nat.le_of_ble_eq_true rfl) (Nat.le_of_ble_eq_true rfl) (c_letSet w cc hl) ?_
      refine gd_iand dX4_takeSpans_63 ?_
      refine gd_iast (n := 16) dX4_takeSpans_64 rfl (by decide) (by repeat' (first | with_reducible rfl | apply ni_add | apply ni_mul)) (by omega) ?_
      refine gd_iinc4 (b := nI 1) dX4_takeSpans_65 (by decide) rfl ?_
      rw [nI_add]
      refine gd_goto 19 dX4_takeSpans_68 (by decide) ?_
      rw [sI_s, spR_y hb (by omega) et, sI_sI]
      exact ih

theorem svt_o {h h' : Hp} {s : Nat → Nat → Int32} {g : Int32} {t : Nat} (q : SVt h s g t) (e2 : h'.1 62 t = h.1 62 t) (e3 : h'.1 63 t = h.1 63 t) (e4 : h'.1 64 t = h.1 64 t) (e5 : ∀ k, k < 12 → h'.1 65 (t * 12 + k) = h.1 65 (t * 12 + k)) : SVt h' s g t :=
  ⟨e2.trans q.1, e3.trans q.2.1, e4.trans q.2.2.1, fun k hk => (e5 k hk).trans (q.2.2.2 k hk)⟩
theorem sv0_o {h h' : Hp} {s : Nat → Nat → Int32} {g : Int32} (q : SV0 h s g) (e0 : h'.1 60 = h.1 60) (e1 : h'.1 61 = h.1 61) : SV0 h' s g := by
  refine ⟨by rw [e0]; exact q.1, by rw [e0]; exact q.2.1, by rw [e1]; exact q.2.2⟩
theorem upd_n {f : Nat → Int32} {k j : Nat} {v : Int32} (h : j ≠ k) : upd f k v j = f j := if_neg h

def IK (h : Hp) (s : Nat → Nat → Int32) (g : Int32) (t k : Nat) (h' : Hp) : Prop := FS h h' ∧ SV0 h' s g ∧ (∀ u, u < t → SVt h' s g u) ∧ h'.1 62 t = nI (clN s t % 12) ∧ h'.1 63 t = nI (clN s t / 12) ∧ h'.1 64 t = nI (moN s t) ∧ ∀ j, j < k → h'.1 65 (t * 12 + j) = nI (nrN (spN s g t) j)
def IT (h : Hp) (s : Nat → Nat → Int32) (g : Int32) (t : Nat) (h' : Hp) : Prop := FS h h' ∧ SV0 h' s g ∧ ∀ u, u < t → SVt h' s g u
theorem lp_take1 {h : Hp} {s : Nat → Nat → Int32} (w : WF s) {g : Int32} {t : Nat} {l4 : Int32} (ht : t < nT s) (ih : ∀ h' l4 l5, IT h s g (t + 1) h' → ∃ h2, Gd mX4_take 32 [.ref 60, .ref 1, .int g, .int (nI (t + 1)), l4, l5] [] h' (none, h2) ∧ FS h h2 ∧ SV h2 s g) : ∀ h', IK h s g t 0 h' → ∃ h2, Gd mX4_take 98 [.ref 60, .ref 1, .int g, .int (nI t), .int l4, .int (nI 0)] [] h' (none, h2) ∧ FS h h2 ∧ SV h2 s g := by
  have lT := w.t.2
  refine loopG (P := fun k => ∀ h', IK h s g t k h' → ∃ h2, Gd mX4_take 98 [.ref 60, .ref 1, .int g, .int (nI t), .int l4, .int (nI k)] [] h' (none, h2) ∧ FS h h2 ∧ SV h2 s g) (n := 12) ?_ ?_ 0 (by omega)
  · intro h' q
    have hq : ∀ u, u < t + 1 → SVt h' s g u := by
      intro u hu
      by_cases z : u = t
      · rw [z]; exact ⟨q.2.2.2.1, q.2.2.2.2.1, q.2.2.2.2.2.1, q.2.2.2.2.2.2⟩
      · exact q.2.2.1 u (by omega)
    obtain ⟨h2, gg, r⟩ := ih h' (.int l4) (.int (nI 12)) ⟨q.1, q.2.1, hq⟩
    refine ⟨h2, ?_, r⟩
    refine gd_ild5 dX4_take_98 ?_
    refine gd_bipush (v := nI 12) dX4_take_100 (by decide) ?_
    refine gd_icmp_ge_t 134 dX4_take_102 (by decide) (by exact nI_le (by omega) (by omega)) ?_
    refine gd_iinc3 (b := nI 1) dX4_take_134 (by decide) rfl ?_
    rw [nI_add]
    refine gd_goto 32 dX4_take_137 (by decide) ?_
    exact gg
  · intro k hk ih2 h' q
    have hq : ∀ j, j < k + 1 → upd (h'.1 65) (t * 12 + k) (nI (nrN (spN s g t) k)) (t * 12 + j) = nI (nrN (spN s g t) j) := by
      intro j hj
      by_cases z : j = k
      · rw [z, upd_at, if_pos rfl]
      · rw [upd_n (by omega)]; exact q.2.2.2.2.2.2 j (by omega)
    obtain ⟨h2, gg, r⟩ := ih2 (sI h' 65 (upd (h'.1 65) (t * 12 + k) (nI (nrN (spN s g t) k)))) ⟨q.1.si (by decide) (by decide), sv0_o q.2.1 rfl rfl, fun u hu => svt_o (q.2.2.1 u hu) rfl rfl rfl (fun j hj => upd_n (by omega)), q.2.2.2.1, q.2.2.2.2.1, q.2.2.2.2.2.1, hq⟩
    refine ⟨h2, ?_, r⟩
    refine gd_ild5 dX4_take_98 ?_
    refine gd_bipush (v := nI 12) dX4_take_100 (by decide) ?_
    refine gd_icmp_ge_f 134 dX4_take_102 (by decide) (by exact nI_ge (by omega) (by omega)) ?_
    refine gd_ald0 dX4_take_105 (by decide) ?_
    refine gd_getR (r := 65) dX4_take_106 fl_4_24 rfl rfl rfl (by decide) ?_
    refine gd_ild3 dX4_take_109 ?_
    refine gd_bipush (v := nI 12) dX4_take_110 (by decide) ?_
    refine gd_imul dX4_take_112 ?_
    refine gd_ild5 dX4_take_113 ?_
    refine gd_iadd dX4_take_115 ?_
    refine gd_ald0 dX4_take_116 (by decide) ?_
    refine gd_getR (r := 61) dX4_take_117 fl_4_9 rfl rfl rfl (by decide) ?_
    refine gd_ild3 dX4_take_120 ?_
    refine gd_iald (n := 16) dX4_take_121 rfl (by decide) (by repeat' (first | with_reducible rfl | apply ni_add | apply ni_mul)) (by omega) ?_
    rw [q.2.1.2.2 t ht]
    refine gd_ild5 dX4_take_122 ?_
    refine gd_cS2i dX4_take_124 ct_4_79 ⟨Nat.le_of_ble_eq_true rfl, Nat.le_of_ble_eq_true rfl⟩ (Nat.le_of_ble_eq_true rfl) (Nat.le_of_ble_eq_true rfl) (c_distance (spN_lt s g t) hk _) ?_
    refine gd_iast (n := 192) dX4_take_127 rfl (by decide) (by repeat' (first | with_reducible rfl | apply ni_add | apply ni_mul)) (by omega) ?_
    refine gd_iinc5 (b := nI 1) dX4_take_128 (by decide) rfl ?_
    rw [nI_add]
    refine gd_goto 98 dX4_take_131 (by decide) ?_
    exact gg
theorem lp_take {h : Hp} {s : Nat → Nat → Int32} (w : WF s) (c : CR h 1 s) {g : Int32} : ∀ h' l4 l5, IT h s g 0 h' → ∃ h2, Gd mX4_take 32 [.ref 60, .ref 1, .int g, .int (nI 0), l4, l5] [] h' (none, h2) ∧ FS h h2 ∧ SV h2 s g := by
  have lT := w.t.2
  refine loopG (P := fun t => ∀ h' l4 l5, IT h s g t h' → ∃ h2, Gd mX4_take 32 [.ref 60, .ref 1, .int g, .int (nI t), l4, l5] [] h' (none, h2) ∧ FS h h2 ∧ SV h2 s g) (n := nT s) ?_ ?_ 0 (by omega)
  · intro h' l4 l5 q
    refine ⟨h', ?_, q.1, q.2.1, q.2.2⟩
    refine gd_ild3 dX4_take_32 ?_
    refine gd_ald0 dX4_take_33 (by decide) ?_
    refine gd_getI dX4_take_34 fl_4_43 rfl rfl ?_
    refine gd_icmp_ge_t 140 dX4_take_37 (by decide) (by rw [q.2.1.1]; exact nI_le (by omega) (by omega)) ?_
    refine gd_vret dX4_take_140 rfl ?_
    rfl
  · intro t ht ih h' l4 l5 q
    obtain ⟨c1, c2⟩ := cl_ok w ht
    obtain ⟨gr, g1, g2, g3, g4⟩ := mo_ok w ht
    obtain ⟨h2, gg, r⟩ := lp_take1 w (l4 := nI (clN s t)) ht ih (sI (sI (sI h' 62 (upd (h'.1 62) t (nI (clN s t % 12)))) 63 (upd (h'.1 63) t (nI (clN s t / 12)))) 64 (upd (h'.1 64) t (nI (moN s t)))) ⟨((q.1.si (by decide) (by decide)).si (by decide) (by decide)).si (by decide) (by decide), sv0_o q.2.1 rfl rfl, fun u hu => svt_o (q.2.2 u hu) (upd_n (by omega)) (upd_n (by omega)) (upd_n (by omega)) (fun _ _ => rfl), upd_ss _ _ _, upd_ss _ _ _, upd_ss _ _ _, fun j hj => absurd hj (by omega)⟩
    refine ⟨h2, ?_, r⟩
    refine gd_ild3 dX4_take_32 ?_
    refine gd_ald0 dX4_take_33 (by decide) ?_
    refine gd_getI dX4_take_34 fl_4_43 rfl rfl ?_
    refine gd_icmp_ge_f 140 dX4_take_37 (by decide) (by rw [q.2.1.1]; exact nI_ge (by omega) (by omega)) ?_
    refine gd_ald1 dX4_take_40 (by decide) ?_
    refine gd_getR (r := 2) dX4_take_41 fl_4_50 rfl rfl rfl (by decide) ?_
    refine gd_getR (r := 4) dX4_take_44 fl_4_73 rfl rfl rfl (by decide) ?_
    refine gd_ild3 dX4_take_47 ?_
    refine gd_iald (n := 16) dX4_take_48 rfl (by decide) (by repeat' (first | with_reducible rfl | apply ni_add | apply ni_mul)) (by omega) ?_
    rw [show h'.1 4 t = nI (clN s t) from ((q.1.cr c).c1 t ht).trans c1]
    refine gd_ist4 dX4_take_49 rfl ?_
    refine gd_ald0 dX4_take_51 (by decide) ?_
    refine gd_getR (r := 62) dX4_take_52 fl_4_15 rfl rfl rfl (by decide) ?_
    refine gd_ild3 dX4_take_55 ?_
    refine gd_ild4 dX4_take_56 ?_
    refine gd_bipush (v := nI 12) dX4_take_58 (by decide) ?_
    refine gd_irem dX4_take_60 (by decide) ?_
    rw [pk_rem (by omega) (by decide) (by decide)]
    refine gd_iast (n := 16) dX4_take_61 rfl (by decide) (by repeat' (first | with_reducible rfl | apply ni_add | apply ni_mul)) (by omega) ?_
    refine gd_ald0 dX4_take_62 (by decide) ?_
    refine gd_getR (r := 63) dX4_take_63 fl_4_18 rfl rfl rfl (by decide) ?_
    refine gd_ild3 dX4_take_66 ?_
    refine gd_ild4 dX4_take_67 ?_
    refine gd_bipush (v := nI 12) dX4_take_69 (by decide) ?_
    refine gd_idiv dX4_take_71 (by decide) ?_
    rw [pk_div (by omega) (by decide) (by decide)]
    refine gd_iast (n := 16) dX4_take_72 rfl (by decide) (by repeat' (first | with_reducible rfl | apply ni_add | apply ni_mul)) (by omega) ?_
    refine gd_ald0 dX4_take_73 (by decide) ?_
    refine gd_getR (r := 64) dX4_take_74 fl_4_21 rfl rfl rfl (by decide) ?_
    refine gd_ild3 dX4_take_77 ?_
    refine gd_ald1 dX4_take_78 (by decide) ?_
    refine gd_ic5 dX4_take_79 ?_
    refine gd_ald1 dX4_take_80 (by decide) ?_
    refine gd_getR (r := 2) dX4_take_81 fl_4_50 rfl rfl rfl (by decide) ?_
    refine gd_getR (r := 3) dX4_take_84 fl_4_76 rfl rfl rfl (by decide) ?_
    refine gd_ild4 dX4_take_87 ?_
    refine gd_iald (n := 144) dX4_take_89 rfl (by decide) (by repeat' (first | with_reducible rfl | apply ni_add | apply ni_mul)) (by omega) ?_
    rw [show (sI (sI h' 62 (upd (h'.1 62) t (nI (clN s t % 12)))) 63 (upd ((sI h' 62 (upd (h'.1 62) t (nI (clN s t % 12)))).1 63) t (nI (clN s t / 12)))).1 3 (clN s t) = nI gr from ((q.1.cr c).g1 _ c2).trans g2]
    refine gd_iadd dX4_take_90 ?_
    rw [nI_add]
    refine gd_cV1i dX4_take_91 ct_4_59 rc_1 ⟨Nat.le_of_ble_eq_true rfl, Nat.le_of_ble_eq_true rfl⟩ (Nat.le_of_ble_eq_true rfl) (Nat.le_of_ble_eq_true rfl) (c_lawOf w (((q.1.si (by decide) (by decide)).si (by decide) (by decide)).cr c) (by omega)) ?_
    rw [g3]
    refine gd_iast (n := 16) dX4_take_94 rfl (by decide) (by repeat' (first | with_reducible rfl | apply ni_add | apply ni_mul)) (by omega) ?_
    refine gd_ic0 dX4_take_95 ?_
    refine gd_ist5 dX4_take_96 rfl ?_
    exact gg
theorem c_take {h : Hp} {s : Nat → Nat → Int32} (w : WF s) (c : CR h 1 s) (g : Int32) : ∃ h2, Gd mX4_take 0 [.ref 60, .ref 1, .int g, .null, .null, .null] [] h (none, h2) ∧ FS h h2 ∧ SV h2 s g := by
  have lT := w.t.2
  have f1 := fv_ok w
  have c1 : CR (sI h 60 (upd (h.1 60) 1 (s 0 0))) 1 s := ((FS.rf h).si (by decide) (by decide)).cr c
  have c2 : CR (sI (sI h 60 (upd (h.1 60) 1 (s 0 0))) 60 (upd (upd (h.1 60) 1 (s 0 0)) 2 (nI (fvN s)))) 1 s := (((FS.rf h).si (by decide) (by decide)).si (by decide) (by decide)).cr c
  obtain ⟨h2, gg, r⟩ := lp_take w c (g := g) (sI (sI (sI h 60 (upd (h.1 60) 1 (s 0 0))) 60 (upd (upd (h.1 60) 1 (s 0 0)) 2 (nI (fvN s)))) 61 (spR s g ((sI (sI h 60 (upd (h.1 60) 1 (s 0 0))) 60 (upd (upd (h.1 60) 1 (s 0 0)) 2 (nI (fvN s)))).1 61) (nN s))) .null .null ⟨(((FS.rf h).si (by decide) (by decide)).si (by decide) (by decide)).si (by decide) (by decide), ⟨w.t.1, rfl, fun t ht => if_pos (by omega)⟩, fun u hu => absurd hu (by omega)⟩
  refine ⟨h2, ?_, r⟩
  refine gd_ald0 dX4_take_0 (by decide) ?_
  refine gd_ald1 dX4_take_1 (by decide) ?_
  refine gd_getR (r := 2) dX4_take_2 fl_4_50 rfl rfl rfl (by decide) ?_
  refine gd_getI dX4_take_5 fl_4_56 rfl rfl ?_
  rw [c.t1]
  refine gd_putI dX4_take_8 fl_4_43 rfl rfl (fun _ _ _ e => by cases e; rfl) ?_
  refine gd_ald0 dX4_take_11 (by decide) ?_
  refine gd_ic1 dX4_take_12 ?_
  refine gd_ald1 dX4_take_13 (by decide) ?_
  refine gd_ic4 dX4_take_14 ?_
  refine gd_cV1i dX4_take_15 ct_4_59 rc_1 ⟨Nat.le_of_ble_eq_true rfl, Nat.le_of_ble_eq_true rfl⟩ (Nat.le_of_ble_eq_true rfl) (Nat.le_of_ble_eq_true rfl) (c_lawOf w c1 (by decide)) ?_
  rw [f1.1]
  refine gd_mmax dX4_take_18 mm_4_63 (Nat.le_of_ble_eq_true rfl) (Nat.le_of_ble_eq_true rfl) (Nat.le_of_ble_eq_true rfl) ?_
  rw [mx1 f1.2.1 (by omega)]
  refine gd_putI dX4_take_21 fl_4_47 rfl rfl (fun _ _ _ e => by cases e; rfl) ?_
  refine gd_ald0 dX4_take_24 (by decide) ?_
  refine gd_ald1 dX4_take_25 (by decide) ?_
  refine gd_ild2 dX4_take_26 ?_
  refine gd_cV2v dX4_take_27 ct_4_69 rc_60 ⟨Nat.le_of_ble_eq_true rfl, Nat.le_of_ble_eq_true rfl⟩ (Nat.le_of_ble_eq_true rfl) (Nat.le_of_ble_eq_true rfl) (c_takeSpans w c2 g) ?_
  refine gd_ic0 dX4_take_30 ?_
  refine gd_ist3 dX4_take_31 rfl ?_
  exact gg
theorem c_lift {h : Hp} {s : Nat → Nat → Int32} (w : WF s) {g : Int32} (v : SV h s g) {t c d : Nat} (ht : t < nT s) (hc : c < 144) (hd : d < 4) : Gd mX4_lift 0 [.ref 60, .int (nI t), .int (nI c), .int (nI d), .null, .null] [] h (some (.int (nI (moN s t) - nI (dqN s t c d))), h) := by
  have lT := w.t.2
  have c1 := cl_ok w ht
  have f1 := fv_ok w
  have q := v.2 t ht
  have d1 := dq_le (s := s) (t := t) hc c1.2 hd
  refine gd_ild2 dX4_lift_0 ?_
  refine gd_bipush (v := nI 12) dX4_lift_1 (by decide) ?_
  refine gd_irem dX4_lift_3 (by first | decide | exact nI_ne0 (by omega) (by omega)) ?_
  rw [pk_rem (by omega) (by decide) (by decide)]
  refine gd_ald0 dX4_lift_4 (by decide) ?_
  refine gd_getR (r := 62) dX4_lift_5 fl_4_15 rfl rfl rfl (by decide) ?_
  refine gd_ild1 dX4_lift_8 ?_
  refine gd_iald (n := 16) dX4_lift_9 rfl (by decide) (by repeat' (first | with_reducible rfl | apply ni_add | apply ni_mul)) (by omega) ?_
  rw [q.1]
  refine gd_isub dX4_lift_10 ?_
  refine gd_ist4 dX4_lift_11 rfl ?_
  refine gd_ild2 dX4_lift_13 ?_
  refine gd_bipush (v := nI 12) dX4_lift_14 (by decide) ?_
  refine gd_idiv dX4_lift_16 (by first | decide | exact nI_ne0 (by omega) (by omega)) ?_
  rw [pk_div (by omega) (by decide) (by decide)]
  refine gd_ald0 dX4_lift_17 (by decide) ?_
  refine gd_getR (r := 63) dX4_lift_18 fl_4_18 rfl rfl rfl (by decide) ?_
  refine gd_ild1 dX4_lift_21 ?_
  refine gd_iald (n := 16) dX4_lift_22 rfl (by decide) (by repeat' (first | with_reducible rfl | apply ni_add | apply ni_mul)) (by omega) ?_
  rw [q.2.1]
  refine gd_isub dX4_lift_23 ?_
  refine gd_ist5 dX4_lift_24 rfl ?_
  refine gd_ald0 dX4_lift_26 (by decide) ?_
  refine gd_getR (r := 64) dX4_lift_27 fl_4_21 rfl rfl rfl (by decide) ?_
  refine gd_ild1 dX4_lift_30 ?_
  refine gd_iald (n := 16) dX4_lift_31 rfl (by decide) (by repeat' (first | with_reducible rfl | apply ni_add | apply ni_mul)) (by omega) ?_
  rw [q.2.2.1]
  refine gd_ild4 dX4_lift_32 ?_
  refine gd_ild4 dX4_lift_34 ?_
  refine gd_imul dX4_lift_36 ?_
  rw [sq_I]
  refine gd_ild5 dX4_lift_37 ?_
  refine gd_ild5 dX4_lift_39 ?_
  refine gd_imul dX4_lift_41 ?_
  rw [sq_I]
  refine gd_iadd dX4_lift_42 ?_
  refine gd_bipush (v := nI 9) dX4_lift_43 (by decide) ?_
  refine gd_ild3 dX4_lift_45 ?_
  refine gd_imul dX4_lift_46 ?_
  rw [pk_mul]
  refine gd_iadd dX4_lift_47 ?_
  rw [nI_add, nI_add]
  refine gd_ald0 dX4_lift_48 (by decide) ?_
  refine gd_getI dX4_lift_49 fl_4_47 rfl rfl ?_
  rw [v.1.2.1]
  refine gd_idiv dX4_lift_52 (by first | decide | exact nI_ne0 (by omega) (by omega)) ?_
  rw [pk_div (by omega) (by omega) (by omega)]
  refine gd_isub dX4_lift_53 ?_
  refine gd_iret dX4_lift_54 rfl rfl ?_
  rfl
theorem c_stepOf {h : Hp} {s : Nat → Nat → Int32} (w : WF s) {g : Int32} (v : SV h s g) {t n : Nat} (ht : t < nT s) (hn : isSh n) : Gd mX4_stepOf 0 [.ref 60, .int (nI n), .int (nI t)] [] h (some (.int (nI (stN s t (n / 1000) (n / 10 % 100) (n % 10)))), h) := by
  obtain ⟨n1, n2, n3⟩ := hn
  have lT := w.t.2
  have c1 := cl_ok w ht
  obtain ⟨_, _, _, _, m1⟩ := mo_ok w ht
  have d1 := dq_le (s := s) (t := t) n1 c1.2 n3
  refine gd_ild1 dX4_stepOf_0 ?_
  refine gd_bipush (v := nI 10) dX4_stepOf_1 (by decide) ?_
  refine gd_idiv dX4_stepOf_3 (by decide) ?_
  rw [pk_div (by omega) (by decide) (by decide)]
  refine gd_bipush (v := nI 100) dX4_stepOf_4 (by decide) ?_
  refine gd_irem dX4_stepOf_6 (by decide) ?_
  rw [pk_rem (by omega) (by decide) (by decide)]
  refine gd_ald0 dX4_stepOf_7 (by decide) ?_
  refine gd_ild2 dX4_stepOf_8 ?_
  refine gd_ild1 dX4_stepOf_9 ?_
  refine gd_sipush (v := nI 1000) dX4_stepOf_10 (by decide) ?_
  refine gd_idiv dX4_stepOf_13 (by decide) ?_
  rw [pk_div (by omega) (by decide) (by decide)]
  refine gd_ild1 dX4_stepOf_14 ?_
  refine gd_bipush (v := nI 10) dX4_stepOf_15 (by decide) ?_
  refine gd_irem dX4_stepOf_17 (by decide) ?_
  rw [pk_rem (by omega) (by decide) (by decide)]
  refine gd_cV3i dX4_stepOf_18 ct_4_109 rc_60 ⟨Nat.le_of_ble_eq_true rfl, Nat.le_of_ble_eq_true rfl⟩ (Nat.le_of_ble_eq_true rfl) (Nat.le_of_ble_eq_true rfl) (c_lift w v ht n1 n3) ?_
  refine gd_iadd dX4_stepOf_21 ?_
  rw [z_sub]
  refine gd_cS1i dX4_stepOf_22 ct_4_113 ⟨Nat.le_of_ble_eq_true rfl, Nat.le_of_ble_eq_true rfl⟩ (Nat.le_of_ble_eq_true rfl) (Nat.le_of_ble_eq_true rfl) (c_bounded (by omega) (by omega) _) ?_
  refine gd_iret dX4_stepOf_25 rfl rfl ?_
  rfl
theorem c_missIn {h : Hp} {s : Nat → Nat → Int32} (w : WF s) {g : Int32} (v : SV h s g) {t n : Nat} (ht : t < nT s) (hn : isSh n) : Gd mX4_missIn 0 [.ref 60, .int (nI n), .int (nI t)] [] h (some (.int (nI (miN s g t (n / 1000) (n / 10 % 100) (n % 10)))), h) := by
  have lT := w.t.2
  have sl := stN_le s t (n / 1000) (n / 10 % 100) (n % 10)
  refine gd_ald0 dX4_missIn_0 (by decide) ?_
  refine gd_getR (r := 65) dX4_missIn_1 fl_4_24 rfl rfl rfl (by decide) ?_
  refine gd_ild2 dX4_missIn_4 ?_
  refine gd_bipush (v := nI 12) dX4_missIn_5 (by decide) ?_
  refine gd_imul dX4_missIn_7 ?_
  refine gd_ald0 dX4_missIn_8 (by decide) ?_
  refine gd_ild1 dX4_missIn_9 ?_
  refine gd_ild2 dX4_missIn_10 ?_
  refine gd_cV2i dX4_missIn_11 ct_4_116 rc_60 ⟨Nat.le_of_ble_eq_true rfl, Nat.le_of_ble_eq_true rfl⟩ (Nat.le_of_ble_eq_true rfl) (Nat.le_of_ble_eq_true rfl) (c_stepOf w v ht hn) ?_
  refine gd_iadd dX4_missIn_14 ?_
  refine gd_iald (n := 192) dX4_missIn_15 rfl (by decide) (by repeat' (first | with_reducible rfl | apply ni_add | apply ni_mul)) (by omega) ?_
  rw [(v.2 t ht).2.2.2 _ (by omega)]
  refine gd_iret dX4_missIn_16 rfl rfl ?_
  rfl
theorem c_missOf {h : Hp} {s : Nat → Nat → Int32} (w : WF s) {g : Int32} (v : SV h s g) {n : Nat} (hn : isSh n) : Gd mX4_missOf 0 [.ref 60, .int (nI n), .null, .null] [] h (some (.int (nI (msN s g (n / 1000) (n / 10 % 100) (n % 10)))), h) := by
  have lT := w.t.2
  have key := loopG (P := fun t => Gd mX4_missOf 4 [.ref 60, .int (nI n), .int (nI (sumN (fun t => miN s g t (n / 1000) (n / 10 % 100) (n % 10)) t)), .int (nI t)] [] h (some (.int (nI (msN s g (n / 1000) (n / 10 % 100) (n % 10)))), h)) (n := nT s) ?_ ?_ 0 (by omega)
  · refine gd_ic0 dX4_missOf_0 ?_
    refine gd_ist2 dX4_missOf_1 rfl ?_
    refine gd_ic0 dX4_missOf_2 ?_
    refine gd_ist3 dX4_missOf_3 rfl ?_
    exact key
  · refine gd_ild3 dX4_missOf_4 ?_
    refine gd_ald0 dX4_missOf_5 (by decide) ?_
    refine gd_getI dX4_missOf_6 fl_4_43 rfl rfl ?_
    refine gd_icmp_ge_t 27 dX4_missOf_9 (by decide) (by rw [v.1.1]; exact nI_le (by omega) (by omega)) ?_
    refine gd_ild2 dX4_missOf_27 ?_
    refine gd_iret dX4_missOf_28 rfl rfl ?_
    rfl
  · intro t ht ih
    refine gd_ild3 dX4_missOf_4 ?_
    refine gd_ald0 dX4_missOf_5 (by decide) ?_
    refine gd_getI dX4_missOf_6 fl_4_43 rfl rfl ?_
    refine gd_icmp_ge_f 27 dX4_missOf_9 (by decide) (by rw [v.1.1]; exact nI_ge (by omega) (by omega)) ?_
    refine gd_ild2 dX4_missOf_12 ?_
    refine gd_ald0 dX4_missOf_13 (by decide) ?_
    refine gd_ild1 dX4_missOf_14 ?_
    refine gd_ild3 dX4_missOf_15 ?_
    refine gd_cV2i dX4_missOf_16 ct_4_119 rc_60 ⟨Nat.le_of_ble_eq_true rfl, Nat.le_of_ble_eq_true rfl⟩ (Nat.le_of_ble_eq_true rfl) (Nat.le_of_ble_eq_true rfl) (c_missIn w v ht hn) ?_
    refine gd_iadd dX4_missOf_19 ?_
    rw [nI_add]
    refine gd_ist2 dX4_missOf_20 rfl ?_
    refine gd_iinc3 (b := nI 1) dX4_missOf_21 (by decide) rfl ?_
    rw [nI_add]
    refine gd_goto 4 dX4_missOf_24 (by decide) ?_
    exact ih
