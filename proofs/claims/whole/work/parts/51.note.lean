
/-! ===== notes ===== -/
def SameW (h h' : Hp) : Prop := (∀ k, pers k = true → ¬ (1 ≤ k ∧ k ≤ 24) → ¬ (74 ≤ k ∧ k ≤ 81) → h'.1 k = h.1 k) ∧ (h'.1 51 1 = h.1 51 1 ∧ h'.1 72 14 = h.1 72 14 ∧ h'.1 72 32 = h.1 72 32) ∧ ∀ k, persL k = true → h'.2 k = h.2 k
theorem Same.w {h h' : Hp} (q : Same h h') : SameW h h' := ⟨fun k hk _ _ => q.1 k hk, q.2.1, q.2.2⟩
theorem SameW.tr {a b c : Hp} (p : SameW a b) (q : SameW b c) : SameW a c := ⟨fun k h1 h2 h3 => (q.1 k h1 h2 h3).trans (p.1 k h1 h2 h3), ⟨q.2.1.1.trans p.2.1.1, q.2.1.2.1.trans p.2.1.2.1, q.2.1.2.2.trans p.2.1.2.2⟩, fun k hk => (q.2.2 k hk).trans (p.2.2 k hk)⟩
theorem SameW.si {a b : Hp} {k : Nat} {f : Nat → Int32} (p : SameW a b) (hk : (1 ≤ k ∧ k ≤ 24) ∨ (74 ≤ k ∧ k ≤ 81)) : SameW a (sI b k f) := ⟨fun j h1 h2 h3 => by rw [sI_n (by omega)]; exact p.1 j h1 h2 h3, ⟨by rw [sI_n (by omega)]; exact p.2.1.1, by rw [sI_n (by omega)]; exact p.2.1.2.1, by rw [sI_n (by omega)]; exact p.2.1.2.2⟩, p.2.2⟩
theorem inv_sw {h h' : Hp} (i : Inv h) (q : SameW h h') (w : WF (ms h')) (c : CR h' 1 (ms h')) : Inv h' := by
  have p2 : ∀ j, j < 24 → 1 ≤ j → pers (26 + j) = true := by decide
  have z : ∀ k, k < 50 → 27 ≤ k → pers k = true := by decide
  refine inv_both i (fun k hk => ?_) (by rw [q.1 0 (by decide) (by decide) (by decide)]) q.2.1.2.2 ⟨?_, ?_⟩ ⟨?_, ?_, ?_, ?_, ?_⟩ (q.2.2 95 (by decide)) w c
  · rcases hk with hk | hk | hk | hk
    · exact q.1 k (z k (by omega) (by omega)) (by omega) (by omega)
    · rw [hk]; exact q.1 71 (by decide) (by decide) (by decide)
    · rw [hk]; exact q.1 73 (by decide) (by decide) (by decide)
    · rw [hk]; exact q.1 94 (by decide) (by decide) (by decide)
  · rw [q.2.1.1, q.2.1.2.1]; exact i.p.n
  · rw [q.2.1.2.1, q.1 52 (by decide) (by decide) (by decide), q.1 85 (by decide) (by decide) (by decide)]; exact i.p.b
  · rw [q.1 58 (by decide) (by decide) (by decide), q.1 90 (by decide) (by decide) (by decide)]; exact i.s.w
  · rw [q.1 59 (by decide) (by decide) (by decide), q.1 91 (by decide) (by decide) (by decide)]; exact i.s.z
  · rw [q.1 91 (by decide) (by decide) (by decide)]; exact i.s.n
  · rw [q.1 90 (by decide) (by decide) (by decide)]; exact i.s.v
  · rw [q.2.2 57 (by decide), q.2.2 92 (by decide)]; exact i.s.x

theorem c_addNote {h : Hp} {k : Nat} {n m d : Int32} (hk : h.1 21 3 = nI k) (k2 : k < 20) : Gd mX2_addNote 0 [.ref 21, .int n, .int m, .int d, .null] [] h (some (.int (nI k)), sI (sI (sI (sI h 22 (upd (h.1 22) k n)) 23 (upd (h.1 23) k m)) 24 (upd (h.1 24) k d)) 21 (upd (h.1 21) 3 (nI (k + 1)))) := by
  refine gd_ald0 dX2_addNote_0 (by decide) ?_
  refine gd_getI dX2_addNote_1 fl_2_21 rfl rfl ?_
  rw [hk]
  refine gd_ist4 dX2_addNote_4 rfl ?_
  refine gd_ald0 dX2_addNote_6 (by decide) ?_
  refine gd_getR (r := 22) dX2_addNote_7 fl_2_9 rfl rfl rfl (by decide) ?_
  refine gd_ild4 dX2_addNote_10 ?_
  refine gd_ild1 dX2_addNote_12 ?_
  refine gd_iast (n := 20) dX2_addNote_13 rfl (by decide) (by repeat' (first | with_reducible rfl | apply ni_add | apply ni_mul)) (by omega) ?_
  refine gd_ald0 dX2_addNote_14 (by decide) ?_
  refine gd_getR (r := 23) dX2_addNote_15 fl_2_15 rfl rfl rfl (by decide) ?_
  refine gd_ild4 dX2_addNote_18 ?_
  refine gd_ild2 dX2_addNote_20 ?_
  refine gd_iast (n := 20) dX2_addNote_21 rfl (by decide) (by repeat' (first | with_reducible rfl | apply ni_add | apply ni_mul)) (by omega) ?_
  refine gd_ald0 dX2_addNote_22 (by decide) ?_
  refine gd_getR (r := 24) dX2_addNote_23 fl_2_18 rfl rfl rfl (by decide) ?_
  refine gd_ild4 dX2_addNote_26 ?_
  refine gd_ild3 dX2_addNote_28 ?_
  refine gd_iast (n := 20) dX2_addNote_29 rfl (by decide) (by repeat' (first | with_reducible rfl | apply ni_add | apply ni_mul)) (by omega) ?_
  refine gd_ald0 dX2_addNote_30 (by decide) ?_
  refine gd_dupr (by decide) dX2_addNote_31 ?_
  refine gd_getI dX2_addNote_32 fl_2_21 rfl rfl ?_
  rw [show ∀ a b c, (sI (sI (sI h 22 a) 23 b) 24 c).1 21 3 = nI k from fun _ _ _ => hk]
  refine gd_ic1 dX2_addNote_35 ?_
  refine gd_iadd dX2_addNote_36 ?_
  rw [nI_add]
  refine gd_putI dX2_addNote_37 fl_2_21 rfl rfl (fun _ _ _ e => by cases e; rfl) ?_
  refine gd_ild4 dX2_addNote_40 ?_
  refine gd_iret dX2_addNote_42 rfl rfl ?_
  rfl

def no3 (f : Nat → Int32) (k : Nat) (n m d : Int32) : Nat → Int32 := upd (upd (upd f (3 * k) n) (3 * k + 1) m) (3 * k + 2) d
theorem no3_o {f : Nat → Int32} {k j : Nat} {n m d : Int32} (h : j < 3 * k) : no3 f k n m d j = f j := by unfold no3; rw [upd_n (by omega), upd_n (by omega), upd_n (by omega)]
theorem no3_0 {f : Nat → Int32} {k : Nat} {n m d : Int32} : no3 f k n m d (3 * k) = n := by unfold no3; rw [upd_n (by omega), upd_n (by omega), upd_ss]
theorem no3_1 {f : Nat → Int32} {k : Nat} {n m d : Int32} : no3 f k n m d (3 * k + 1) = m := by unfold no3; rw [upd_n (by omega), upd_ss]
theorem no3_2 {f : Nat → Int32} {k : Nat} {n m d : Int32} : no3 f k n m d (3 * k + 2) = d := by unfold no3; rw [upd_ss]
theorem inv_note {h h' : Hp} (i : Inv h) {k x : Nat} {m d : Int32} (hk : nO (ms h) = k) (k2 : k < 20) (hx : isSh x) (q : SameW h h')
    (e : ∀ j, ((1 ≤ j ∧ j ≤ 20) ∨ (75 ≤ j ∧ j ≤ 80)) → h'.1 j = h.1 j)
    (r74 : h'.1 74 = upd (h.1 74) 3 (nI (k + 1))) (r81 : h'.1 81 = no3 (h.1 81) k (nI x) m d)
    (r21 : h'.1 21 = upd (h.1 21) 3 (nI (k + 1))) (r22 : h'.1 22 = upd (h.1 22) k (nI x)) (r23 : h'.1 23 = upd (h.1 23) k m) (r24 : h'.1 24 = upd (h.1 24) k d) : Inv h' := by
  have em : ms h' = sR (sR (ms h) 0 (trR 0 (upd (h.1 74) 3 (nI (k + 1))))) 7 (trR 7 (no3 (h.1 81) k (nI x) m d)) := by
    rw [← ms_set 0 (by decide), ← ms_set 7 (by decide)]
    refine ms_eq (fun k h1 h2 => ?_)
    rcases (show k = 74 ∨ k = 81 ∨ (75 ≤ k ∧ k ≤ 80) by omega) with q | q | q
    · rw [q]; exact r74
    · rw [q]; exact r81
    · rw [e k (by omega), sI_n (by omega), sI_n (by omega)]
  obtain ⟨S, hS⟩ : ∃ S, S = sR (sR (ms h) 0 (trR 0 (upd (h.1 74) 3 (nI (k + 1))))) 7 (trR 7 (no3 (h.1 81) k (nI x) m d)) := ⟨_, rfl⟩
  have eo : ∀ k, k ≠ 0 → k ≠ 7 → S k = ms h k := fun k a b => by rw [hS]; show (if k = 7 then _ else if k = 0 then _ else _) = _; rw [if_neg b, if_neg a]
  have e3 : S 0 3 = nI (k + 1) := by rw [hS]; rfl
  have e0 : nO S = k + 1 := by unfold nO; rw [e3]; exact tn_nI (by omega)
  have E0 : ∀ j, j < 5 → j ≠ 3 → S 0 j = ms h 0 j := fun j hj h2 => by rw [hS]; show trR 0 _ j = _; rw [trR_at (show j < 5 from hj), upd_at, if_neg h2, ms_r0 hj]
  have E7 : ∀ j, j < 3 * k → S 7 j = ms h 7 j := fun j hj => by rw [hS]; show trR 7 _ j = _; rw [trR_at (show j < 60 by omega), no3_o hj, ms_r7 (by omega)]
  have E7n : ∀ j, j < 3 → S 7 (3 * k + j) = no3 (h.1 81) k (nI x) m d (3 * k + j) := fun j hj => by rw [hS]; exact trR_at (show 3 * k + j < 60 by omega)
  rw [← hS] at em
  have eT : nT S = nT (ms h) := by unfold nT; rw [E0 0 (by decide) (by decide)]
  have eN : nN S = nN (ms h) := by unfold nN; rw [E0 1 (by decide) (by decide)]
  have eX : nX S = nX (ms h) := by unfold nX; rw [E0 2 (by decide) (by decide)]
  have eD : nD S = nD (ms h) := by unfold nD; rw [E0 4 (by decide) (by decide)]
  have s1 := eo 1 (by decide) (by decide)
  have s2 := eo 2 (by decide) (by decide)
  have s3 := eo 3 (by decide) (by decide)
  have s4 := eo 4 (by decide) (by decide)
  have s5 := eo 5 (by decide) (by decide)
  have s6 := eo 6 (by decide) (by decide)
  have lk : lostS S = lostS (ms h) := by unfold lostS; rw [s4, eN]
  have cr : ∀ t, cR S t = cR (ms h) t := fun t => by unfold cR; rw [s5]
  refine inv_sw i q ?_ ?_
  · rw [em]
    refine ⟨?_, ?_, ?_, ⟨by rw [e0]; exact e3, by omega⟩, ?_, ?_, ?_, ?_, ?_, ?_, ?_, ?_, ?_⟩
    · rw [E0 0 (by decide) (by decide), eT]; exact i.w.t
    · rw [E0 1 (by decide) (by decide), eN]; exact i.w.n
    · rw [E0 2 (by decide) (by decide), eX]; exact i.w.x
    · rw [E0 4 (by decide) (by decide), eD]; exact i.w.d
    · rw [s1]; exact i.w.g
    · rw [s2, eT]; exact i.w.c
    · rw [s3, eT]; exact i.w.h
    · rw [eN]; intro l hl; unfold LetOK; rw [s4, eT]; exact i.w.l l hl
    · rw [s5, eX]; exact i.w.f
    · rw [s5, eX]; intro t ht; rw [cr]; exact i.w.c6 t ht
    · rw [s6, eX]; intro t ht r hr; rw [cr] at hr; exact i.w.r t ht r hr
    · rw [e0]; intro j hj
      by_cases z : j = k
      · rw [z]; exact ⟨x, hx, (E7n 0 (by decide)).trans no3_0⟩
      · rw [E7 _ (by omega)]; exact i.w.k j (by omega)
  · rw [em]
    refine ⟨?_, ?_, ?_, ?_, ?_, ?_, ?_, ?_, ?_, ?_, ?_, ?_, ?_, ?_, ?_, ?_, ?_, ?_, ?_, ?_, ?_, ?_, ?_, ?_, ?_, ?_⟩
    · rw [e (1 + 1) (by omega), E0 0 (by decide) (by decide)]; exact i.c.t
    · rw [e (1 + 1) (by omega), E0 4 (by decide) (by decide)]; exact i.c.d
    · rw [e (1 + 5) (by omega), E0 1 (by decide) (by decide)]; exact i.c.n
    · rw [e (1 + 14) (by omega), E0 2 (by decide) (by decide)]; exact i.c.x
    · rw [show h'.1 (1 + 20) = _ from r21, e3]; rfl
    · rw [e (1 + 2) (by omega), s1]; exact i.c.g
    · rw [e (1 + 3) (by omega), s2, eT]; exact i.c.c
    · rw [e (1 + 4) (by omega), s3, eT]; exact i.c.h
    · rw [e (1 + 4) (by omega), eT]; exact i.c.h0
    · rw [e (1 + 6) (by omega), s4, eN]; exact i.c.lk
    · rw [e (1 + 7) (by omega), s4, eN]; exact i.c.lt
    · rw [e (1 + 8) (by omega), s4, eN]; exact i.c.lw
    · rw [e (1 + 9) (by omega), s4, eN]; exact i.c.ld
    · rw [e (1 + 10) (by omega), s4, eN]; exact i.c.lr
    · rw [e (1 + 11) (by omega), s4, eN]; exact i.c.lq
    · rw [e (1 + 12) (by omega), s4, eN]; exact i.c.lf
    · rw [e (1 + 13) (by omega), s4, eN]; exact i.c.le
    · rw [e (1 + 5) (by omega), lk]; exact i.c.lo
    · rw [e (1 + 15) (by omega), s5, eX]; exact i.c.f
    · rw [e (1 + 16) (by omega), s5, eX]; exact i.c.c6
    · rw [e (1 + 17) (by omega), s6, eX]; intro t ht r hr; rw [cr] at hr; exact i.c.rk t ht r hr
    · rw [e (1 + 18) (by omega), s6, eX]; intro t ht r hr; rw [cr] at hr; exact i.c.rl t ht r hr
    · rw [e (1 + 19) (by omega), s6, eX]; intro t ht r hr; rw [cr] at hr; exact i.c.rh t ht r hr
    · rw [show h'.1 (1 + 21) = _ from r22, e0]
      intro j hj
      rw [upd_at]
      by_cases z : j = k
      · rw [if_pos z, z]; exact ((E7n 0 (by decide)).trans no3_0).symm
      · rw [if_neg z, E7 _ (by omega)]; exact i.c.ks j (by omega)
    · rw [show h'.1 (1 + 22) = _ from r23, e0]
      intro j hj
      rw [upd_at]
      by_cases z : j = k
      · rw [if_pos z, z]; exact ((E7n 1 (by decide)).trans no3_1).symm
      · rw [if_neg z, E7 _ (by omega)]; exact i.c.km j (by omega)
    · rw [show h'.1 (1 + 23) = _ from r24, e0]
      intro j hj
      rw [upd_at]
      by_cases z : j = k
      · rw [if_pos z, z]; exact ((E7n 2 (by decide)).trans no3_2).symm
      · rw [if_neg z, E7 _ (by omega)]; exact i.c.kd j (by omega)
set_option maxHeartbeats 2000000 in
theorem p_note {h : Hp} (i : Inv h) (a : Int32) : Pas mX8_note mX9_note [.ref 0, .int a] [.ref 72, .int a, .null] h := by
  rcases shI a with ⟨n, hn, rfl⟩ | hs
  · have lO := i.lO
    by_cases hO : (nO (ms h)) < 20
    · obtain ⟨h1, gt, f1, v1⟩ := c_take i.w i.c (-1)
      have c1 := f1.cr i.c
      have lO := i.lO
      have e1 : ms (sI (sI (sI (sI h1 22 (upd (h1.1 22) (nO (ms h)) (nI n))) 23 (upd (h1.1 23) (nO (ms h)) (nI (msN (ms h) (-1) (n / 1000) (n / 10 % 100) (n % 10))))) 24 (upd (h1.1 24) (nO (ms h)) (nI (nD (ms h))))) 21 (upd (h1.1 21) 3 (nI ((nO (ms h)) + 1)))) = ms h := by rw [ms_si (Or.inl (by decide)), ms_si (Or.inl (by decide)), ms_si (Or.inl (by decide)), ms_si (Or.inl (by decide))]; exact f1.same.msE
      obtain ⟨h2, gp, f2, v2⟩ := m_prepare (h := sI (sI (sI (sI h1 22 (upd (h1.1 22) (nO (ms h)) (nI n))) 23 (upd (h1.1 23) (nO (ms h)) (nI (msN (ms h) (-1) (n / 1000) (n / 10 % 100) (n % 10))))) 24 (upd (h1.1 24) (nO (ms h)) (nI (nD (ms h))))) 21 (upd (h1.1 21) 3 (nI ((nO (ms h)) + 1)))) (by rw [e1]; exact i.w) (-1)
      rw [e1] at v2
      have o3 : h2.1 74 3 = nI (nO (ms h)) := by rw [← ms_r0 (by decide), v2.1]; exact i.w.o.1
      have o4 : h2.1 74 4 = nI (nD (ms h)) := by rw [← ms_r0 (by decide), v2.1]; exact i.w.d.1
      have c3 : (sI (sI (sI (sI h1 22 (upd (h1.1 22) (nO (ms h)) (nI n))) 23 (upd (h1.1 23) (nO (ms h)) (nI (msN (ms h) (-1) (n / 1000) (n / 10 % 100) (n % 10))))) 24 (upd (h1.1 24) (nO (ms h)) (nI (nD (ms h))))) 21 (upd (h1.1 21) 3 (nI ((nO (ms h)) + 1)))).1 74 3 = h.1 74 3 := by rw [sI_n (by decide), sI_n (by decide), sI_n (by decide), sI_n (by decide)]; rw [f1.1 74 (by decide)]
      have gmo : Gd mX9_missOf 0 [.ref 72, .int (nI n), .null, .null] [] (sI h2 81 (upd (h2.1 81) (3 * (nO (ms h))) (nI n))) (some (.int (nI (msN (ms h) (-1) (n / 1000) (n / 10 % 100) (n % 10)))), sI h2 81 (upd (h2.1 81) (3 * (nO (ms h))) (nI n))) := by
        exact m_missOfQ i.w (show QV (sI h2 81 _) (ms h) (-1) from v2.q) hn
      refine ⟨.int (nI (nO (ms h))), sI (sI (sI (sI h1 22 (upd (h1.1 22) (nO (ms h)) (nI n))) 23 (upd (h1.1 23) (nO (ms h)) (nI (msN (ms h) (-1) (n / 1000) (n / 10 % 100) (n % 10))))) 24 (upd (h1.1 24) (nO (ms h)) (nI (nD (ms h))))) 21 (upd (h1.1 21) 3 (nI ((nO (ms h)) + 1))), sI (sI h2 81 (no3 (h2.1 81) (nO (ms h)) (nI n) (nI (msN (ms h) (-1) (n / 1000) (n / 10 % 100) (n % 10))) (nI (nD (ms h))))) 74 (upd (h2.1 74) 3 (nI ((nO (ms h)) + 1))), ?_, ?_, ?_, ?_, ?_⟩
      · refine gd_ild1 dX8_note_0 ?_
        refine gd_i2l dX8_note_1 ?_
        rw [i2l_n (by have := sh_lt hn; omega)]
        refine gd_cS1i dX8_note_2 ct_8_221 ⟨Nat.le_of_ble_eq_true rfl, Nat.le_of_ble_eq_true rfl⟩ (Nat.le_of_ble_eq_true rfl) (Nat.le_of_ble_eq_true rfl) (c_isShake_t hn _) ?_
        refine gd_if_ne_t 15 dX8_note_5 (by decide) (by decide) ?_
        refine gd_ald0 dX8_note_15 (by decide) ?_
        refine gd_getR (r := 1) dX8_note_16 fl_8_12 rfl rfl rfl (by decide) ?_
        refine gd_getR (r := 21) dX8_note_19 fl_8_280 rfl rfl rfl (by decide) ?_
        refine gd_getI dX8_note_22 fl_8_284 rfl rfl ?_
        rw [i.cO]
        refine gd_bipush (v := nI 20) dX8_note_25 (by decide) ?_
        refine gd_icmp_lt_t 37 dX8_note_27 (by decide) (by exact nI_lt (by omega) (by omega)) ?_
        refine gd_ald0 dX8_note_37 (by decide) ?_
        refine gd_getR (r := 60) dX8_note_38 fl_8_40 rfl rfl rfl (by decide) ?_
        refine gd_ald0 dX8_note_41 (by decide) ?_
        refine gd_getR (r := 1) dX8_note_42 fl_8_12 rfl rfl rfl (by decide) ?_
        refine gd_icm1 dX8_note_45 ?_
        refine gd_cV2v dX8_note_46 ct_8_211 rc_60 ⟨Nat.le_of_ble_eq_true rfl, Nat.le_of_ble_eq_true rfl⟩ (Nat.le_of_ble_eq_true rfl) (Nat.le_of_ble_eq_true rfl) (gt) ?_
        refine gd_ald0 dX8_note_49 (by decide) ?_
        refine gd_getR (r := 1) dX8_note_50 fl_8_12 rfl rfl rfl (by decide) ?_
        refine gd_getR (r := 21) dX8_note_53 fl_8_280 rfl rfl rfl (by decide) ?_
        refine gd_ild1 dX8_note_56 ?_
        refine gd_ald0 dX8_note_57 (by decide) ?_
        refine gd_getR (r := 60) dX8_note_58 fl_8_40 rfl rfl rfl (by decide) ?_
        refine gd_ild1 dX8_note_61 ?_
        refine gd_cV1i dX8_note_62 ct_8_228 rc_60 ⟨Nat.le_of_ble_eq_true rfl, Nat.le_of_ble_eq_true rfl⟩ (Nat.le_of_ble_eq_true rfl) (Nat.le_of_ble_eq_true rfl) (c_missOf i.w v1 hn) ?_
        refine gd_ald0 dX8_note_65 (by decide) ?_
        refine gd_getR (r := 1) dX8_note_66 fl_8_12 rfl rfl rfl (by decide) ?_
        refine gd_getR (r := 2) dX8_note_69 fl_8_57 rfl rfl rfl (by decide) ?_
        refine gd_getI dX8_note_72 fl_8_120 rfl rfl ?_
        rw [show h1.1 2 4 = nI (nD (ms h)) from c1.d1.trans i.w.d.1]
        refine gd_cV3i dX8_note_75 ct_8_287 rc_21 ⟨Nat.le_of_ble_eq_true rfl, Nat.le_of_ble_eq_true rfl⟩ (Nat.le_of_ble_eq_true rfl) (Nat.le_of_ble_eq_true rfl) (c_addNote (c1.o1.trans i.w.o.1) hO) ?_
        refine gd_iret dX8_note_78 rfl rfl ?_
        rfl
      · refine gd_ild1 dX9_note_0 ?_
        refine gd_i2l dX9_note_1 ?_
        rw [i2l_n (by have := sh_lt hn; omega)]
        refine gd_cS1i dX9_note_2 ct_9_225 ⟨Nat.le_of_ble_eq_true rfl, Nat.le_of_ble_eq_true rfl⟩ (Nat.le_of_ble_eq_true rfl) (Nat.le_of_ble_eq_true rfl) (m_isShake_t hn _) ?_
        refine gd_if_ne_t 14 dX9_note_5 (by decide) (by decide) ?_
        refine gd_ald0 dX9_note_14 (by decide) ?_
        refine gd_getR (r := 74) dX9_note_15 fl_9_13 rfl rfl rfl (by decide) ?_
        refine gd_ic3 dX9_note_18 ?_
        refine gd_iald (n := 5) dX9_note_19 rfl (by decide) (by repeat' (first | with_reducible rfl | apply ni_add | apply ni_mul)) (by omega) ?_
        rw [show (sI (sI (sI (sI h1 22 (upd (h1.1 22) (nO (ms h)) (nI n))) 23 (upd (h1.1 23) (nO (ms h)) (nI (msN (ms h) (-1) (n / 1000) (n / 10 % 100) (n % 10))))) 24 (upd (h1.1 24) (nO (ms h)) (nI (nD (ms h))))) 21 (upd (h1.1 21) 3 (nI ((nO (ms h)) + 1)))).1 74 3 = nI (nO (ms h)) from c3.trans i.mO]
        refine gd_bipush (v := nI 20) dX9_note_20 (by decide) ?_
        refine gd_icmp_ne_t 31 dX9_note_22 (by decide) (by exact fun z => absurd ((nI_eq (by omega) (by omega)).mp z) (by omega)) ?_
        refine gd_ald0 dX9_note_31 (by decide) ?_
        refine gd_icm1 dX9_note_32 ?_
        refine gd_cV1v dX9_note_33 ct_9_216 rc_72 ⟨Nat.le_of_ble_eq_true rfl, Nat.le_of_ble_eq_true rfl⟩ (Nat.le_of_ble_eq_true rfl) (Nat.le_of_ble_eq_true rfl) (gp) ?_
        refine gd_ic3 dX9_note_36 ?_
        refine gd_ald0 dX9_note_37 (by decide) ?_
        refine gd_getR (r := 74) dX9_note_38 fl_9_13 rfl rfl rfl (by decide) ?_
        refine gd_ic3 dX9_note_41 ?_
        refine gd_iald (n := 5) dX9_note_42 rfl (by decide) (by repeat' (first | with_reducible rfl | apply ni_add | apply ni_mul)) (by omega) ?_
        rw [o3]
        refine gd_imul dX9_note_43 ?_
        rw [pk_mul]
        refine gd_ist2 dX9_note_44 rfl ?_
        refine gd_ald0 dX9_note_45 (by decide) ?_
        refine gd_getR (r := 81) dX9_note_46 fl_9_34 rfl rfl rfl (by decide) ?_
        refine gd_ild2 dX9_note_49 ?_
        refine gd_ild1 dX9_note_50 ?_
        refine gd_iast (n := 60) dX9_note_51 rfl (by decide) (by repeat' (first | with_reducible rfl | apply ni_add | apply ni_mul)) (by omega) ?_
        refine gd_ald0 dX9_note_52 (by decide) ?_
        refine gd_getR (r := 81) dX9_note_53 fl_9_34 rfl rfl rfl (by decide) ?_
        refine gd_ild2 dX9_note_56 ?_
        refine gd_ic1 dX9_note_57 ?_
        refine gd_iadd dX9_note_58 ?_
        refine gd_ald0 dX9_note_59 (by decide) ?_
        refine gd_ild1 dX9_note_60 ?_
        refine gd_cV1i dX9_note_61 ct_9_228 rc_72 ⟨Nat.le_of_ble_eq_true rfl, Nat.le_of_ble_eq_true rfl⟩ (Nat.le_of_ble_eq_true rfl) (Nat.le_of_ble_eq_true rfl) (gmo) ?_
        refine gd_iast (n := 60) dX9_note_64 rfl (by decide) (by repeat' (first | with_reducible rfl | apply ni_add | apply ni_mul)) (by omega) ?_
        refine gd_ald0 dX9_note_65 (by decide) ?_
        refine gd_getR (r := 81) dX9_note_66 fl_9_34 rfl rfl rfl (by decide) ?_
        refine gd_ild2 dX9_note_69 ?_
        refine gd_ic2 dX9_note_70 ?_
        refine gd_iadd dX9_note_71 ?_
        refine gd_ald0 dX9_note_72 (by decide) ?_
        refine gd_getR (r := 74) dX9_note_73 fl_9_13 rfl rfl rfl (by decide) ?_
        refine gd_ic4 dX9_note_76 ?_
        refine gd_iald (n := 5) dX9_note_77 rfl (by decide) (by repeat' (first | with_reducible rfl | apply ni_add | apply ni_mul)) (by omega) ?_
        rw [show ∀ a b, (sI (sI h2 81 a) 81 b).1 74 4 = nI (nD (ms h)) from fun _ _ => o4]
        refine gd_iast (n := 60) dX9_note_78 rfl (by decide) (by repeat' (first | with_reducible rfl | apply ni_add | apply ni_mul)) (by omega) ?_
        refine gd_ald0 dX9_note_79 (by decide) ?_
        refine gd_getR (r := 74) dX9_note_80 fl_9_13 rfl rfl rfl (by decide) ?_
        refine gd_ic3 dX9_note_83 ?_
        refine gd_dup2 (by decide) dX9_note_84 ?_
        refine gd_iald (n := 5) dX9_note_85 rfl (by decide) (by repeat' (first | with_reducible rfl | apply ni_add | apply ni_mul)) (by omega) ?_
        rw [show ∀ a b c, (sI (sI (sI h2 81 a) 81 b) 81 c).1 74 3 = nI (nO (ms h)) from fun _ _ _ => o3]
        refine gd_ic1 dX9_note_86 ?_
        refine gd_iadd dX9_note_87 ?_
        rw [nI_add]
        refine gd_iast (n := 5) dX9_note_88 rfl (by decide) (by repeat' (first | with_reducible rfl | apply ni_add | apply ni_mul)) (by omega) ?_
        refine gd_ald0 dX9_note_89 (by decide) ?_
        refine gd_getR (r := 74) dX9_note_90 fl_9_13 rfl rfl rfl (by decide) ?_
        refine gd_ic3 dX9_note_93 ?_
        refine gd_iald (n := 5) dX9_note_94 rfl (by decide) (by repeat' (first | with_reducible rfl | apply ni_add | apply ni_mul)) (by omega) ?_
        refine gd_ic1 dX9_note_95 ?_
        refine gd_isub dX9_note_96 ?_
        refine gd_iret dX9_note_97 rfl rfl ?_
        simp only [sI_sI, sI_at, sI_2, sL_sL, sL_at, sL_1, Nat.reduceEqDiff, reduceIte, upd_ss]
        rw [pk_sub (by omega), Nat.add_sub_cancel]
        rfl
      · have hs : SameW h (sI (sI h2 81 (no3 (h2.1 81) (nO (ms h)) (nI n) (nI (msN (ms h) (-1) (n / 1000) (n / 10 % 100) (n % 10))) (nI (nD (ms h))))) 74 (upd (h2.1 74) 3 (nI ((nO (ms h)) + 1)))) := ((((((f1.same.w.si (by omega)).si (by omega)).si (by omega)).si (by omega)).tr f2.same.w).si (by omega)).si (by omega)
        have fr : ∀ j, j ≠ 72 → j ≠ 82 → j ≠ 86 → j ≠ 87 → j ≠ 89 → ¬ (60 ≤ j ∧ j ≤ 70) → ¬ (21 ≤ j ∧ j ≤ 24) → h2.1 j = h.1 j := by
          intro j a b c d e f g
          rw [f2.1 j a b c d e, sI_n (by omega), sI_n (by omega), sI_n (by omega), sI_n (by omega)]
          exact f1.1 j f
        have nr : ∀ j, 21 ≤ j → j ≤ 24 → h2.1 j = (sI (sI (sI (sI h1 22 (upd (h1.1 22) (nO (ms h)) (nI n))) 23 (upd (h1.1 23) (nO (ms h)) (nI (msN (ms h) (-1) (n / 1000) (n / 10 % 100) (n % 10))))) 24 (upd (h1.1 24) (nO (ms h)) (nI (nD (ms h))))) 21 (upd (h1.1 21) 3 (nI ((nO (ms h)) + 1)))).1 j := fun j a b => f2.1 j (by omega) (by omega) (by omega) (by omega) (by omega)
        have hr : ∀ j, 21 ≤ j → j ≤ 24 → h1.1 j = h.1 j := fun j a b => f1.1 j (by omega)
        refine inv_note i (k := (nO (ms h))) (x := n) (m := nI (msN (ms h) (-1) (n / 1000) (n / 10 % 100) (n % 10))) (d := nI (nD (ms h))) rfl hO hn hs (fun j hj => ?_) ?_ ?_ ?_ ?_ ?_ ?_
        · rw [sI_n (by omega), sI_n (by omega)]; exact fr j (by omega) (by omega) (by omega) (by omega) (by omega) (by omega) (by omega)
        · rw [sI_s, fr 74 (by decide) (by decide) (by decide) (by decide) (by decide) (by decide) (by decide)]
        · rw [sI_n (by decide), sI_s, fr 81 (by decide) (by decide) (by decide) (by decide) (by decide) (by decide) (by decide)]
        · rw [sI_n (by decide), sI_n (by decide), nr 21 (by decide) (by decide)]; rw [sI_s, hr 21 (by decide) (by decide)]
        · rw [sI_n (by decide), sI_n (by decide), nr 22 (by decide) (by decide)]; rw [sI_n (by decide), sI_n (by decide), sI_n (by decide)]; rw [sI_s, hr 22 (by decide) (by decide)]
        · rw [sI_n (by decide), sI_n (by decide), nr 23 (by decide) (by decide)]; rw [sI_n (by decide), sI_n (by decide)]; rw [sI_s, hr 23 (by decide) (by decide)]
        · rw [sI_n (by decide), sI_n (by decide), nr 24 (by decide) (by decide)]; rw [sI_n (by decide)]; rw [sI_s, hr 24 (by decide) (by decide)]
      · rw [sI_n (by decide), sI_n (by decide), f2.1 95 (by decide) (by decide) (by decide) (by decide) (by decide), sI_n (by decide), sI_n (by decide), sI_n (by decide), sI_n (by decide)]; exact f1.1 95 (by decide)
      · show h2.2 95 = _; rw [f2.2.2 95 (by decide) (by decide)]; exact f1.2 95 (by decide)
    · refine Pas.find (h1 := h) (h2 := hf (h) 1) (v := -1000000002) (w := (-1000000000 : Int32) - nI 2) 1 i (by decide) (by decide) (by decide) (Same.rf _) (Same.rf _) ?_ ?_
      · refine gd_ild1 dX8_note_0 ?_
        refine gd_i2l dX8_note_1 ?_
        rw [i2l_n (by have := sh_lt hn; omega)]
        refine gd_cS1i dX8_note_2 ct_8_221 ⟨Nat.le_of_ble_eq_true rfl, Nat.le_of_ble_eq_true rfl⟩ (Nat.le_of_ble_eq_true rfl) (Nat.le_of_ble_eq_true rfl) (c_isShake_t hn _) ?_
        refine gd_if_ne_t 15 dX8_note_5 (by decide) (by decide) ?_
        refine gd_ald0 dX8_note_15 (by decide) ?_
        refine gd_getR (r := 1) dX8_note_16 fl_8_12 rfl rfl rfl (by decide) ?_
        refine gd_getR (r := 21) dX8_note_19 fl_8_280 rfl rfl rfl (by decide) ?_
        refine gd_getI dX8_note_22 fl_8_284 rfl rfl ?_
        rw [i.cO]
        refine gd_bipush (v := nI 20) dX8_note_25 (by decide) ?_
        refine gd_icmp_lt_f 37 dX8_note_27 (by decide) (by exact nI_nlt (by omega) (by omega)) ?_
        refine gd_ald0 dX8_note_30 (by decide) ?_
        refine gd_ldc dX8_note_31 ld_8_70 ?_
        refine gd_cV1i dX8_note_33 ct_8_53 rc_0 ⟨Nat.le_of_ble_eq_true rfl, Nat.le_of_ble_eq_true rfl⟩ (Nat.le_of_ble_eq_true rfl) (Nat.le_of_ble_eq_true rfl) (c_f1 _) ?_
        refine gd_iret dX8_note_36 rfl rfl ?_
        rfl
      · refine gd_ild1 dX9_note_0 ?_
        refine gd_i2l dX9_note_1 ?_
        rw [i2l_n (by have := sh_lt hn; omega)]
        refine gd_cS1i dX9_note_2 ct_9_225 ⟨Nat.le_of_ble_eq_true rfl, Nat.le_of_ble_eq_true rfl⟩ (Nat.le_of_ble_eq_true rfl) (Nat.le_of_ble_eq_true rfl) (m_isShake_t hn _) ?_
        refine gd_if_ne_t 14 dX9_note_5 (by decide) (by decide) ?_
        refine gd_ald0 dX9_note_14 (by decide) ?_
        refine gd_getR (r := 74) dX9_note_15 fl_9_13 rfl rfl rfl (by decide) ?_
        refine gd_ic3 dX9_note_18 ?_
        refine gd_iald (n := 5) dX9_note_19 rfl (by decide) (by repeat' (first | with_reducible rfl | apply ni_add | apply ni_mul)) (by omega) ?_
        refine gd_bipush (v := nI 20) dX9_note_20 (by decide) ?_
        refine gd_icmp_ne_f 31 dX9_note_22 (by decide) (by rw [show (hf h 1).1 74 3 = nI (nO (ms h)) from i.mO, show (nO (ms h)) = 20 by omega]) ?_
        refine gd_ald0 dX9_note_25 (by decide) ?_
        refine gd_ic2 dX9_note_26 ?_
        refine gd_cV1i dX9_note_27 ct_9_97 rc_72 ⟨Nat.le_of_ble_eq_true rfl, Nat.le_of_ble_eq_true rfl⟩ (Nat.le_of_ble_eq_true rfl) (Nat.le_of_ble_eq_true rfl) (m_f1 _) ?_
        refine gd_iret dX9_note_30 rfl rfl ?_
        rfl
  · refine Pas.find (h1 := h) (h2 := hf (h) 0) (v := -1000000001) (w := (-1000000000 : Int32) - nI 1) 0 i (by decide) (by decide) (by decide) (Same.rf _) (Same.rf _) ?_ ?_
    · refine gd_ild1 dX8_note_0 ?_
      refine gd_i2l dX8_note_1 ?_
      refine gd_cS1i dX8_note_2 ct_8_221 ⟨Nat.le_of_ble_eq_true rfl, Nat.le_of_ble_eq_true rfl⟩ (Nat.le_of_ble_eq_true rfl) (Nat.le_of_ble_eq_true rfl) (c_isShake_f hs _) ?_
      refine gd_if_ne_f 15 dX8_note_5 (by decide) (by decide) ?_
      refine gd_ald0 dX8_note_8 (by decide) ?_
      refine gd_ldc dX8_note_9 ld_8_52 ?_
      refine gd_cV1i dX8_note_11 ct_8_53 rc_0 ⟨Nat.le_of_ble_eq_true rfl, Nat.le_of_ble_eq_true rfl⟩ (Nat.le_of_ble_eq_true rfl) (Nat.le_of_ble_eq_true rfl) (c_f0 _) ?_
      refine gd_iret dX8_note_14 rfl rfl ?_
      rfl
    · refine gd_ild1 dX9_note_0 ?_
      refine gd_i2l dX9_note_1 ?_
      refine gd_cS1i dX9_note_2 ct_9_225 ⟨Nat.le_of_ble_eq_true rfl, Nat.le_of_ble_eq_true rfl⟩ (Nat.le_of_ble_eq_true rfl) (Nat.le_of_ble_eq_true rfl) (m_isShake_f hs _) ?_
      refine gd_if_ne_f 14 dX9_note_5 (by decide) (by decide) ?_
      refine gd_ald0 dX9_note_8 (by decide) ?_
      refine gd_ic1 dX9_note_9 ?_
      refine gd_cV1i dX9_note_10 ct_9_97 rc_72 ⟨Nat.le_of_ble_eq_true rfl, Nat.le_of_ble_eq_true rfl⟩ (Nat.le_of_ble_eq_true rfl) (Nat.le_of_ble_eq_true rfl) (m_f0 _) ?_
      refine gd_iret dX9_note_13 rfl rfl ?_
      rfl

theorem nt_ok {s : Nat → Nat → Int32} (w : WF s) {k : Nat} (hk : k < nO s) : isSh (tn (s 7 (3 * k))) ∧ s 7 (3 * k) = nI (tn (s 7 (3 * k))) := by
  obtain ⟨n, hn, e⟩ := w.k k hk
  have := sh_lt hn
  rw [e, tn_nI (by omega)]
  exact ⟨hn, rfl⟩
theorem m_in_n {t n : Nat} (ht : t < n) (hn : n < 2 ^ 31) (h : Hp) : Gd mX9_in 0 [.int (nI t), .int (nI 0), .int (nI n - nI 1)] [] h (some (.int (nI 1)), h) := by
  rw [pk_sub (by omega)]
  exact m_in_t (by omega) (by omega) h
set_option maxHeartbeats 1000000 in
theorem p_noted {h : Hp} (i : Inv h) (a b : Int32) : Pas mX8_noted mX9_noted [.ref 0, .int a, .int b] [.ref 72, .int a, .int b] h := by
  have lO := i.lO
  rcases rng a ((nO (ms h))) (by omega) with ⟨k, hk, rfl⟩ | ha
  · rcases rng b (4) (by decide) with ⟨j, hj, rfl⟩ | hb
    · have lO := i.lO
      obtain ⟨n, hn, en⟩ := i.w.k k hk
      rcases (show j = 0 ∨ j = 1 ∨ j = 2 ∨ j = 3 by omega) with z | z | z | z
      · subst z
        obtain ⟨h2, gp, f2, v2⟩ := m_prepare (h := h) i.w (-1)
        refine Pas.read (h1 := h) (h2 := h2) (r := .int (ms h 7 (3 * k))) i rfl (FS.rf h).same (f2).same ?_ ?_
        · refine gd_ild1 dX8_noted_0 ?_
          refine gd_ald0 dX8_noted_1 (by decide) ?_
          refine gd_getR (r := 1) dX8_noted_2 fl_8_12 rfl rfl rfl (by decide) ?_
          refine gd_getR (r := 21) dX8_noted_5 fl_8_280 rfl rfl rfl (by decide) ?_
          refine gd_getI dX8_noted_8 fl_8_284 rfl rfl ?_
          rw [i.cO]
          refine gd_cS2i dX8_noted_11 ct_8_48 ⟨Nat.le_of_ble_eq_true rfl, Nat.le_of_ble_eq_true rfl⟩ (Nat.le_of_ble_eq_true rfl) (Nat.le_of_ble_eq_true rfl) (c_isBelow_t hk (by omega) _) ?_
          refine gd_if_ne_t 24 dX8_noted_14 (by decide) (by decide) ?_
          refine gd_ild2 dX8_noted_24 ?_
          refine gd_tabIn (off := 31) 56 dX8_noted_25 (by decide) (by decide) (by decide) (by decide) ?_
          refine gd_ald0 dX8_noted_56 (by decide) ?_
          refine gd_getR (r := 1) dX8_noted_57 fl_8_12 rfl rfl rfl (by decide) ?_
          refine gd_getR (r := 21) dX8_noted_60 fl_8_280 rfl rfl rfl (by decide) ?_
          refine gd_getR (r := 22) dX8_noted_63 fl_8_290 rfl rfl rfl (by decide) ?_
          refine gd_ild1 dX8_noted_66 ?_
          refine gd_iald (n := 20) dX8_noted_67 rfl (by decide) (by repeat' (first | with_reducible rfl | apply ni_add | apply ni_mul)) (by omega) ?_
          rw [i.c.ks1 k hk]
          refine gd_iret dX8_noted_68 rfl rfl ?_
          rfl
        · refine gd_ild1 dX9_noted_0 ?_
          refine gd_ic0 dX9_noted_1 ?_
          refine gd_ald0 dX9_noted_2 (by decide) ?_
          refine gd_getR (r := 74) dX9_noted_3 fl_9_13 rfl rfl rfl (by decide) ?_
          refine gd_ic3 dX9_noted_6 ?_
          refine gd_iald (n := 5) dX9_noted_7 rfl (by decide) (by repeat' (first | with_reducible rfl | apply ni_add | apply ni_mul)) (by omega) ?_
          rw [show (h).1 74 3 = nI (nO (ms h)) from i.mO]
          refine gd_ic1 dX9_noted_8 ?_
          refine gd_isub dX9_noted_9 ?_
          refine gd_cS3i dX9_noted_10 ct_9_79 ⟨Nat.le_of_ble_eq_true rfl, Nat.le_of_ble_eq_true rfl⟩ (Nat.le_of_ble_eq_true rfl) (Nat.le_of_ble_eq_true rfl) (m_in_n hk (by omega) _) ?_
          refine gd_if_eq_f 25 dX9_noted_13 (by decide) (by decide) ?_
          refine gd_ild2 dX9_noted_16 ?_
          refine gd_ic0 dX9_noted_17 ?_
          refine gd_ic3 dX9_noted_18 ?_
          refine gd_cS3i dX9_noted_19 ct_9_79 ⟨Nat.le_of_ble_eq_true rfl, Nat.le_of_ble_eq_true rfl⟩ (Nat.le_of_ble_eq_true rfl) (Nat.le_of_ble_eq_true rfl) (m_in_t (t := 0) (m := 3) (by decide) (by decide) _) ?_
          refine gd_if_ne_t 31 dX9_noted_22 (by decide) (by decide) ?_
          refine gd_ald0 dX9_noted_31 (by decide) ?_
          refine gd_icm1 dX9_noted_32 ?_
          refine gd_cV1v dX9_noted_33 ct_9_216 rc_72 ⟨Nat.le_of_ble_eq_true rfl, Nat.le_of_ble_eq_true rfl⟩ (Nat.le_of_ble_eq_true rfl) (Nat.le_of_ble_eq_true rfl) (gp) ?_
          refine gd_ild2 dX9_noted_36 ?_
          refine gd_ic3 dX9_noted_37 ?_
          refine gd_icmp_ge_f 54 dX9_noted_38 (by decide) (by decide) ?_
          refine gd_ald0 dX9_noted_41 (by decide) ?_
          refine gd_getR (r := 81) dX9_noted_42 fl_9_34 rfl rfl rfl (by decide) ?_
          refine gd_ic3 dX9_noted_45 ?_
          refine gd_ild1 dX9_noted_46 ?_
          refine gd_imul dX9_noted_47 ?_
          refine gd_ild2 dX9_noted_48 ?_
          refine gd_iadd dX9_noted_49 ?_
          refine gd_iald (n := 60) dX9_noted_50 rfl (by decide) (by repeat' (first | with_reducible rfl | apply ni_add | apply ni_mul)) (by omega) ?_
          rw [← ms_r7 (by omega), v2.1]
          refine gd_goto 66 dX9_noted_51 (by decide) ?_
          refine gd_iret dX9_noted_66 rfl rfl ?_
          rfl
      · subst z
        obtain ⟨h2, gp, f2, v2⟩ := m_prepare (h := h) i.w (-1)
        refine Pas.read (h1 := h) (h2 := h2) (r := .int (ms h 7 (3 * k + 1))) i rfl (FS.rf h).same (f2).same ?_ ?_
        · refine gd_ild1 dX8_noted_0 ?_
          refine gd_ald0 dX8_noted_1 (by decide) ?_
          refine gd_getR (r := 1) dX8_noted_2 fl_8_12 rfl rfl rfl (by decide) ?_
          refine gd_getR (r := 21) dX8_noted_5 fl_8_280 rfl rfl rfl (by decide) ?_
          refine gd_getI dX8_noted_8 fl_8_284 rfl rfl ?_
          rw [i.cO]
          refine gd_cS2i dX8_noted_11 ct_8_48 ⟨Nat.le_of_ble_eq_true rfl, Nat.le_of_ble_eq_true rfl⟩ (Nat.le_of_ble_eq_true rfl) (Nat.le_of_ble_eq_true rfl) (c_isBelow_t hk (by omega) _) ?_
          refine gd_if_ne_t 24 dX8_noted_14 (by decide) (by decide) ?_
          refine gd_ild2 dX8_noted_24 ?_
          refine gd_tabIn (off := 44) 69 dX8_noted_25 (by decide) (by decide) (by decide) (by decide) ?_
          refine gd_ald0 dX8_noted_69 (by decide) ?_
          refine gd_getR (r := 1) dX8_noted_70 fl_8_12 rfl rfl rfl (by decide) ?_
          refine gd_getR (r := 21) dX8_noted_73 fl_8_280 rfl rfl rfl (by decide) ?_
          refine gd_getR (r := 23) dX8_noted_76 fl_8_293 rfl rfl rfl (by decide) ?_
          refine gd_ild1 dX8_noted_79 ?_
          refine gd_iald (n := 20) dX8_noted_80 rfl (by decide) (by repeat' (first | with_reducible rfl | apply ni_add | apply ni_mul)) (by omega) ?_
          rw [i.c.km1 k hk]
          refine gd_iret dX8_noted_81 rfl rfl ?_
          rfl
        · refine gd_ild1 dX9_noted_0 ?_
          refine gd_ic0 dX9_noted_1 ?_
          refine gd_ald0 dX9_noted_2 (by decide) ?_
          refine gd_getR (r := 74) dX9_noted_3 fl_9_13 rfl rfl rfl (by decide) ?_
          refine gd_ic3 dX9_noted_6 ?_
          refine gd_iald (n := 5) dX9_noted_7 rfl (by decide) (by repeat' (first | with_reducible rfl | apply ni_add | apply ni_mul)) (by omega) ?_
          rw [show (h).1 74 3 = nI (nO (ms h)) from i.mO]
          refine gd_ic1 dX9_noted_8 ?_
          refine gd_isub dX9_noted_9 ?_
          refine gd_cS3i dX9_noted_10 ct_9_79 ⟨Nat.le_of_ble_eq_true rfl, Nat.le_of_ble_eq_true rfl⟩ (Nat.le_of_ble_eq_true rfl) (Nat.le_of_ble_eq_true rfl) (m_in_n hk (by omega) _) ?_
          refine gd_if_eq_f 25 dX9_noted_13 (by decide) (by decide) ?_
          refine gd_ild2 dX9_noted_16 ?_
          refine gd_ic0 dX9_noted_17 ?_
          refine gd_ic3 dX9_noted_18 ?_
          refine gd_cS3i dX9_noted_19 ct_9_79 ⟨Nat.le_of_ble_eq_true rfl, Nat.le_of_ble_eq_true rfl⟩ (Nat.le_of_ble_eq_true rfl) (Nat.le_of_ble_eq_true rfl) (m_in_t (t := 1) (m := 3) (by decide) (by decide) _) ?_
          refine gd_if_ne_t 31 dX9_noted_22 (by decide) (by decide) ?_
          refine gd_ald0 dX9_noted_31 (by decide) ?_
          refine gd_icm1 dX9_noted_32 ?_
          refine gd_cV1v dX9_noted_33 ct_9_216 rc_72 ⟨Nat.le_of_ble_eq_true rfl, Nat.le_of_ble_eq_true rfl⟩ (Nat.le_of_ble_eq_true rfl) (Nat.le_of_ble_eq_true rfl) (gp) ?_
          refine gd_ild2 dX9_noted_36 ?_
          refine gd_ic3 dX9_noted_37 ?_
          refine gd_icmp_ge_f 54 dX9_noted_38 (by decide) (by decide) ?_
          refine gd_ald0 dX9_noted_41 (by decide) ?_
          refine gd_getR (r := 81) dX9_noted_42 fl_9_34 rfl rfl rfl (by decide) ?_
          refine gd_ic3 dX9_noted_45 ?_
          refine gd_ild1 dX9_noted_46 ?_
          refine gd_imul dX9_noted_47 ?_
          refine gd_ild2 dX9_noted_48 ?_
          refine gd_iadd dX9_noted_49 ?_
          refine gd_iald (n := 60) dX9_noted_50 rfl (by decide) (by repeat' (first | with_reducible rfl | apply ni_add | apply ni_mul)) (by omega) ?_
          rw [← ms_r7 (by omega), v2.1]
          refine gd_goto 66 dX9_noted_51 (by decide) ?_
          refine gd_iret dX9_noted_66 rfl rfl ?_
          rfl
      · subst z
        obtain ⟨h2, gp, f2, v2⟩ := m_prepare (h := h) i.w (-1)
        refine Pas.read (h1 := h) (h2 := h2) (r := .int (ms h 7 (3 * k + 2))) i rfl (FS.rf h).same (f2).same ?_ ?_
        · refine gd_ild1 dX8_noted_0 ?_
          refine gd_ald0 dX8_noted_1 (by decide) ?_
          refine gd_getR (r := 1) dX8_noted_2 fl_8_12 rfl rfl rfl (by decide) ?_
          refine gd_getR (r := 21) dX8_noted_5 fl_8_280 rfl rfl rfl (by decide) ?_
          refine gd_getI dX8_noted_8 fl_8_284 rfl rfl ?_
          rw [i.cO]
          refine gd_cS2i dX8_noted_11 ct_8_48 ⟨Nat.le_of_ble_eq_true rfl, Nat.le_of_ble_eq_true rfl⟩ (Nat.le_of_ble_eq_true rfl) (Nat.le_of_ble_eq_true rfl) (c_isBelow_t hk (by omega) _) ?_
          refine gd_if_ne_t 24 dX8_noted_14 (by decide) (by decide) ?_
          refine gd_ild2 dX8_noted_24 ?_
          refine gd_tabIn (off := 57) 82 dX8_noted_25 (by decide) (by decide) (by decide) (by decide) ?_
          refine gd_ald0 dX8_noted_82 (by decide) ?_
          refine gd_getR (r := 1) dX8_noted_83 fl_8_12 rfl rfl rfl (by decide) ?_
          refine gd_getR (r := 21) dX8_noted_86 fl_8_280 rfl rfl rfl (by decide) ?_
          refine gd_getR (r := 24) dX8_noted_89 fl_8_296 rfl rfl rfl (by decide) ?_
          refine gd_ild1 dX8_noted_92 ?_
          refine gd_iald (n := 20) dX8_noted_93 rfl (by decide) (by repeat' (first | with_reducible rfl | apply ni_add | apply ni_mul)) (by omega) ?_
          rw [i.c.kd1 k hk]
          refine gd_iret dX8_noted_94 rfl rfl ?_
          rfl
        · refine gd_ild1 dX9_noted_0 ?_
          refine gd_ic0 dX9_noted_1 ?_
          refine gd_ald0 dX9_noted_2 (by decide) ?_
          refine gd_getR (r := 74) dX9_noted_3 fl_9_13 rfl rfl rfl (by decide) ?_
          refine gd_ic3 dX9_noted_6 ?_
          refine gd_iald (n := 5) dX9_noted_7 rfl (by decide) (by repeat' (first | with_reducible rfl | apply ni_add | apply ni_mul)) (by omega) ?_
          rw [show (h).1 74 3 = nI (nO (ms h)) from i.mO]
          refine gd_ic1 dX9_noted_8 ?_
          refine gd_isub dX9_noted_9 ?_
          refine gd_cS3i dX9_noted_10 ct_9_79 ⟨Nat.le_of_ble_eq_true rfl, Nat.le_of_ble_eq_true rfl⟩ (Nat.le_of_ble_eq_true rfl) (Nat.le_of_ble_eq_true rfl) (m_in_n hk (by omega) _) ?_
          refine gd_if_eq_f 25 dX9_noted_13 (by decide) (by decide) ?_
          refine gd_ild2 dX9_noted_16 ?_
          refine gd_ic0 dX9_noted_17 ?_
          refine gd_ic3 dX9_noted_18 ?_
          refine gd_cS3i dX9_noted_19 ct_9_79 ⟨Nat.le_of_ble_eq_true rfl, Nat.le_of_ble_eq_true rfl⟩ (Nat.le_of_ble_eq_true rfl) (Nat.le_of_ble_eq_true rfl) (m_in_t (t := 2) (m := 3) (by decide) (by decide) _) ?_
          refine gd_if_ne_t 31 dX9_noted_22 (by decide) (by decide) ?_
          refine gd_ald0 dX9_noted_31 (by decide) ?_
          refine gd_icm1 dX9_noted_32 ?_
          refine gd_cV1v dX9_noted_33 ct_9_216 rc_72 ⟨Nat.le_of_ble_eq_true rfl, Nat.le_of_ble_eq_true rfl⟩ (Nat.le_of_ble_eq_true rfl) (Nat.le_of_ble_eq_true rfl) (gp) ?_
          refine gd_ild2 dX9_noted_36 ?_
          refine gd_ic3 dX9_noted_37 ?_
          refine gd_icmp_ge_f 54 dX9_noted_38 (by decide) (by decide) ?_
          refine gd_ald0 dX9_noted_41 (by decide) ?_
          refine gd_getR (r := 81) dX9_noted_42 fl_9_34 rfl rfl rfl (by decide) ?_
          refine gd_ic3 dX9_noted_45 ?_
          refine gd_ild1 dX9_noted_46 ?_
          refine gd_imul dX9_noted_47 ?_
          refine gd_ild2 dX9_noted_48 ?_
          refine gd_iadd dX9_noted_49 ?_
          refine gd_iald (n := 60) dX9_noted_50 rfl (by decide) (by repeat' (first | with_reducible rfl | apply ni_add | apply ni_mul)) (by omega) ?_
          rw [← ms_r7 (by omega), v2.1]
          refine gd_goto 66 dX9_noted_51 (by decide) ?_
          refine gd_iret dX9_noted_66 rfl rfl ?_
          rfl
      · subst z
        obtain ⟨h1, gt, f1, v1⟩ := c_take i.w i.c (-1)
        have c1 := f1.cr i.c
        have e1 : ms (h1) = ms h := (f1).same.msE
        obtain ⟨h2, gp, f2, v2⟩ := m_prepare (h := h1) (by rw [e1]; exact i.w) (-1)
        rw [e1] at v2
        refine Pas.read (h1 := h1) (h2 := h2) (r := .int (nI (msN (ms h) (-1) (n / 1000) (n / 10 % 100) (n % 10)))) i rfl (f1).same (f2).same ?_ ?_
        · refine gd_ild1 dX8_noted_0 ?_
          refine gd_ald0 dX8_noted_1 (by decide) ?_
          refine gd_getR (r := 1) dX8_noted_2 fl_8_12 rfl rfl rfl (by decide) ?_
          refine gd_getR (r := 21) dX8_noted_5 fl_8_280 rfl rfl rfl (by decide) ?_
          refine gd_getI dX8_noted_8 fl_8_284 rfl rfl ?_
          rw [i.cO]
          refine gd_cS2i dX8_noted_11 ct_8_48 ⟨Nat.le_of_ble_eq_true rfl, Nat.le_of_ble_eq_true rfl⟩ (Nat.le_of_ble_eq_true rfl) (Nat.le_of_ble_eq_true rfl) (c_isBelow_t hk (by omega) _) ?_
          refine gd_if_ne_t 24 dX8_noted_14 (by decide) (by decide) ?_
          refine gd_ild2 dX8_noted_24 ?_
          refine gd_tabIn (off := 70) 95 dX8_noted_25 (by decide) (by decide) (by decide) (by decide) ?_
          refine gd_ald0 dX8_noted_95 (by decide) ?_
          refine gd_getR (r := 60) dX8_noted_96 fl_8_40 rfl rfl rfl (by decide) ?_
          refine gd_ald0 dX8_noted_99 (by decide) ?_
          refine gd_getR (r := 1) dX8_noted_100 fl_8_12 rfl rfl rfl (by decide) ?_
          refine gd_icm1 dX8_noted_103 ?_
          refine gd_cV2v dX8_noted_104 ct_8_211 rc_60 ⟨Nat.le_of_ble_eq_true rfl, Nat.le_of_ble_eq_true rfl⟩ (Nat.le_of_ble_eq_true rfl) (Nat.le_of_ble_eq_true rfl) (gt) ?_
          refine gd_ald0 dX8_noted_107 (by decide) ?_
          refine gd_getR (r := 60) dX8_noted_108 fl_8_40 rfl rfl rfl (by decide) ?_
          refine gd_ald0 dX8_noted_111 (by decide) ?_
          refine gd_getR (r := 1) dX8_noted_112 fl_8_12 rfl rfl rfl (by decide) ?_
          refine gd_getR (r := 21) dX8_noted_115 fl_8_280 rfl rfl rfl (by decide) ?_
          refine gd_getR (r := 22) dX8_noted_118 fl_8_290 rfl rfl rfl (by decide) ?_
          refine gd_ild1 dX8_noted_121 ?_
          refine gd_iald (n := 20) dX8_noted_122 rfl (by decide) (by repeat' (first | with_reducible rfl | apply ni_add | apply ni_mul)) (by omega) ?_
          rw [c1.ks1 k hk, en]
          refine gd_cV1i dX8_noted_123 ct_8_228 rc_60 ⟨Nat.le_of_ble_eq_true rfl, Nat.le_of_ble_eq_true rfl⟩ (Nat.le_of_ble_eq_true rfl) (Nat.le_of_ble_eq_true rfl) (c_missOf i.w v1 hn) ?_
          refine gd_iret dX8_noted_126 rfl rfl ?_
          rfl
        · refine gd_ild1 dX9_noted_0 ?_
          refine gd_ic0 dX9_noted_1 ?_
          refine gd_ald0 dX9_noted_2 (by decide) ?_
          refine gd_getR (r := 74) dX9_noted_3 fl_9_13 rfl rfl rfl (by decide) ?_
          refine gd_ic3 dX9_noted_6 ?_
          refine gd_iald (n := 5) dX9_noted_7 rfl (by decide) (by repeat' (first | with_reducible rfl | apply ni_add | apply ni_mul)) (by omega) ?_
          rw [show (h1).1 74 3 = nI (nO (ms h)) from (f1.1 74 (by decide) ▸ i.mO)]
          refine gd_ic1 dX9_noted_8 ?_
          refine gd_isub dX9_noted_9 ?_
          refine gd_cS3i dX9_noted_10 ct_9_79 ⟨Nat.le_of_ble_eq_true rfl, Nat.le_of_ble_eq_true rfl⟩ (Nat.le_of_ble_eq_true rfl) (Nat.le_of_ble_eq_true rfl) (m_in_n hk (by omega) _) ?_
          refine gd_if_eq_f 25 dX9_noted_13 (by decide) (by decide) ?_
          refine gd_ild2 dX9_noted_16 ?_
          refine gd_ic0 dX9_noted_17 ?_
          refine gd_ic3 dX9_noted_18 ?_
          refine gd_cS3i dX9_noted_19 ct_9_79 ⟨Nat.le_of_ble_eq_true rfl, Nat.le_of_ble_eq_true rfl⟩ (Nat.le_of_ble_eq_true rfl) (Nat.le_of_ble_eq_true rfl) (m_in_t (t := 3) (m := 3) (by decide) (by decide) _) ?_
          refine gd_if_ne_t 31 dX9_noted_22 (by decide) (by decide) ?_
          refine gd_ald0 dX9_noted_31 (by decide) ?_
          refine gd_icm1 dX9_noted_32 ?_
          refine gd_cV1v dX9_noted_33 ct_9_216 rc_72 ⟨Nat.le_of_ble_eq_true rfl, Nat.le_of_ble_eq_true rfl⟩ (Nat.le_of_ble_eq_true rfl) (Nat.le_of_ble_eq_true rfl) (gp) ?_
          refine gd_ild2 dX9_noted_36 ?_
          refine gd_ic3 dX9_noted_37 ?_
          refine gd_icmp_ge_t 54 dX9_noted_38 (by decide) (by decide) ?_
          refine gd_ald0 dX9_noted_54 (by decide) ?_
          refine gd_ald0 dX9_noted_55 (by decide) ?_
          refine gd_getR (r := 81) dX9_noted_56 fl_9_34 rfl rfl rfl (by decide) ?_
          refine gd_ic3 dX9_noted_59 ?_
          refine gd_ild1 dX9_noted_60 ?_
          refine gd_imul dX9_noted_61 ?_
          refine gd_iald (n := 60) dX9_noted_62 rfl (by decide) (by repeat' (first | with_reducible rfl | apply ni_add | apply ni_mul)) (by omega) ?_
          rw [← ms_r7 (by omega), v2.1, en]
          refine gd_cV1i dX9_noted_63 ct_9_228 rc_72 ⟨Nat.le_of_ble_eq_true rfl, Nat.le_of_ble_eq_true rfl⟩ (Nat.le_of_ble_eq_true rfl) (Nat.le_of_ble_eq_true rfl) (m_missOf i.w v2 hn) ?_
          refine gd_iret dX9_noted_66 rfl rfl ?_
          rfl
    · have lO := i.lO
      refine Pas.find (h1 := h) (h2 := hf (h) 0) (v := -1000000001) (w := (-1000000000 : Int32) - nI 1) 0 i (by decide) (by decide) (by decide) (Same.rf _) (Same.rf _) ?_ ?_
      · refine gd_ild1 dX8_noted_0 ?_
        refine gd_ald0 dX8_noted_1 (by decide) ?_
        refine gd_getR (r := 1) dX8_noted_2 fl_8_12 rfl rfl rfl (by decide) ?_
        refine gd_getR (r := 21) dX8_noted_5 fl_8_280 rfl rfl rfl (by decide) ?_
        refine gd_getI dX8_noted_8 fl_8_284 rfl rfl ?_
        rw [i.cO]
        refine gd_cS2i dX8_noted_11 ct_8_48 ⟨Nat.le_of_ble_eq_true rfl, Nat.le_of_ble_eq_true rfl⟩ (Nat.le_of_ble_eq_true rfl) (Nat.le_of_ble_eq_true rfl) (c_isBelow_t hk (by omega) _) ?_
        refine gd_if_ne_t 24 dX8_noted_14 (by decide) (by decide) ?_
        refine gd_ild2 dX8_noted_24 ?_
        refine gd_tabOut 127 dX8_noted_25 (rng_out (by decide) (by decide) hb) (by decide) ?_
        refine gd_ald0 dX8_noted_127 (by decide) ?_
        refine gd_ldc dX8_noted_128 ld_8_52 ?_
        refine gd_cV1i dX8_noted_130 ct_8_53 rc_0 ⟨Nat.le_of_ble_eq_true rfl, Nat.le_of_ble_eq_true rfl⟩ (Nat.le_of_ble_eq_true rfl) (Nat.le_of_ble_eq_true rfl) (c_f0 _) ?_
        refine gd_iret dX8_noted_133 rfl rfl ?_
        rfl
      · refine gd_ild1 dX9_noted_0 ?_
        refine gd_ic0 dX9_noted_1 ?_
        refine gd_ald0 dX9_noted_2 (by decide) ?_
        refine gd_getR (r := 74) dX9_noted_3 fl_9_13 rfl rfl rfl (by decide) ?_
        refine gd_ic3 dX9_noted_6 ?_
        refine gd_iald (n := 5) dX9_noted_7 rfl (by decide) (by repeat' (first | with_reducible rfl | apply ni_add | apply ni_mul)) (by omega) ?_
        rw [show (hf h 0).1 74 3 = nI (nO (ms h)) from i.mO]
        refine gd_ic1 dX9_noted_8 ?_
        refine gd_isub dX9_noted_9 ?_
        refine gd_cS3i dX9_noted_10 ct_9_79 ⟨Nat.le_of_ble_eq_true rfl, Nat.le_of_ble_eq_true rfl⟩ (Nat.le_of_ble_eq_true rfl) (Nat.le_of_ble_eq_true rfl) (m_in_n hk (by omega) _) ?_
        refine gd_if_eq_f 25 dX9_noted_13 (by decide) (by decide) ?_
        refine gd_ild2 dX9_noted_16 ?_
        refine gd_ic0 dX9_noted_17 ?_
        refine gd_ic3 dX9_noted_18 ?_
        refine gd_cS3i dX9_noted_19 ct_9_79 ⟨Nat.le_of_ble_eq_true rfl, Nat.le_of_ble_eq_true rfl⟩ (Nat.le_of_ble_eq_true rfl) (Nat.le_of_ble_eq_true rfl) (m_in_f (n := 4) (by decide) (by decide) hb _) ?_
        refine gd_if_ne_f 31 dX9_noted_22 (by decide) (by decide) ?_
        refine gd_ald0 dX9_noted_25 (by decide) ?_
        refine gd_ic1 dX9_noted_26 ?_
        refine gd_cV1i dX9_noted_27 ct_9_97 rc_72 ⟨Nat.le_of_ble_eq_true rfl, Nat.le_of_ble_eq_true rfl⟩ (Nat.le_of_ble_eq_true rfl) (Nat.le_of_ble_eq_true rfl) (m_f0 _) ?_
        refine gd_iret dX9_noted_30 rfl rfl ?_
        rfl
  · refine Pas.find (h1 := h) (h2 := hf (h) 0) (v := -1000000001) (w := (-1000000000 : Int32) - nI 1) 0 i (by decide) (by decide) (by decide) (Same.rf _) (Same.rf _) ?_ ?_
    · refine gd_ild1 dX8_noted_0 ?_
      refine gd_ald0 dX8_noted_1 (by decide) ?_
      refine gd_getR (r := 1) dX8_noted_2 fl_8_12 rfl rfl rfl (by decide) ?_
      refine gd_getR (r := 21) dX8_noted_5 fl_8_280 rfl rfl rfl (by decide) ?_
      refine gd_getI dX8_noted_8 fl_8_284 rfl rfl ?_
      rw [i.cO]
      refine gd_cS2i dX8_noted_11 ct_8_48 ⟨Nat.le_of_ble_eq_true rfl, Nat.le_of_ble_eq_true rfl⟩ (Nat.le_of_ble_eq_true rfl) (Nat.le_of_ble_eq_true rfl) (c_isBelow_f ha _) ?_
      refine gd_if_ne_f 24 dX8_noted_14 (by decide) (by decide) ?_
      refine gd_ald0 dX8_noted_17 (by decide) ?_
      refine gd_ldc dX8_noted_18 ld_8_52 ?_
      refine gd_cV1i dX8_noted_20 ct_8_53 rc_0 ⟨Nat.le_of_ble_eq_true rfl, Nat.le_of_ble_eq_true rfl⟩ (Nat.le_of_ble_eq_true rfl) (Nat.le_of_ble_eq_true rfl) (c_f0 _) ?_
      refine gd_iret dX8_noted_23 rfl rfl ?_
      rfl
    · refine gd_ild1 dX9_noted_0 ?_
      refine gd_ic0 dX9_noted_1 ?_
      refine gd_ald0 dX9_noted_2 (by decide) ?_
      refine gd_getR (r := 74) dX9_noted_3 fl_9_13 rfl rfl rfl (by decide) ?_
      refine gd_ic3 dX9_noted_6 ?_
      refine gd_iald (n := 5) dX9_noted_7 rfl (by decide) (by repeat' (first | with_reducible rfl | apply ni_add | apply ni_mul)) (by omega) ?_
      rw [show (hf h 0).1 74 3 = nI (nO (ms h)) from i.mO]
      refine gd_ic1 dX9_noted_8 ?_
      refine gd_isub dX9_noted_9 ?_
      refine gd_cS3i dX9_noted_10 ct_9_79 ⟨Nat.le_of_ble_eq_true rfl, Nat.le_of_ble_eq_true rfl⟩ (Nat.le_of_ble_eq_true rfl) (Nat.le_of_ble_eq_true rfl) (m_inz_f ha (by omega) _) ?_
      refine gd_if_eq_t 25 dX9_noted_13 (by decide) (by decide) ?_
      refine gd_ald0 dX9_noted_25 (by decide) ?_
      refine gd_ic1 dX9_noted_26 ?_
      refine gd_cV1i dX9_noted_27 ct_9_97 rc_72 ⟨Nat.le_of_ble_eq_true rfl, Nat.le_of_ble_eq_true rfl⟩ (Nat.le_of_ble_eq_true rfl) (Nat.le_of_ble_eq_true rfl) (m_f0 _) ?_
      refine gd_iret dX9_noted_30 rfl rfl ?_
      rfl
set_option maxHeartbeats 2000000 in
theorem p_news {h : Hp} (i : Inv h) : Pas mX8_news mX9_news [.ref 0, .null, .null] [.ref 72, .null, .null] h := by
  have lO := i.lO
  obtain ⟨h1, gt, f1, v1⟩ := c_take i.w i.c (-1)
  have c1 := f1.cr i.c
  have e1 : ms (h1) = ms h := (f1).same.msE
  obtain ⟨h2, gp, f2, v2⟩ := m_prepare (h := h1) (by rw [e1]; exact i.w) (-1)
  rw [e1] at v2
  have o3 : h2.1 74 3 = nI (nO (ms h)) := by rw [← ms_r0 (by decide), v2.1]; exact i.w.o.1
  have k8 : Gd mX8_news 16 [.ref 0, .int (nI (bset (fun k => decide (¬ nI (msN (ms h) (-1) ((tn (ms h 7 (3 * k))) / 1000) ((tn (ms h 7 (3 * k))) / 10 % 100) ((tn (ms h 7 (3 * k))) % 10)) = ms h 7 (3 * k + 1))) 0)), .int (nI 0)] [] h1 (some (.int (nI (bset (fun k => decide (¬ nI (msN (ms h) (-1) ((tn (ms h 7 (3 * k))) / 1000) ((tn (ms h 7 (3 * k))) / 10 % 100) ((tn (ms h 7 (3 * k))) % 10)) = ms h 7 (3 * k + 1))) (nO (ms h))))), h1) := by
    refine loopG (P := fun k => Gd mX8_news 16 [.ref 0, .int (nI (bset (fun k => decide (¬ nI (msN (ms h) (-1) ((tn (ms h 7 (3 * k))) / 1000) ((tn (ms h 7 (3 * k))) / 10 % 100) ((tn (ms h 7 (3 * k))) % 10)) = ms h 7 (3 * k + 1))) k)), .int (nI k)] [] h1 (some (.int (nI (bset (fun k => decide (¬ nI (msN (ms h) (-1) ((tn (ms h 7 (3 * k))) / 1000) ((tn (ms h 7 (3 * k))) / 10 % 100) ((tn (ms h 7 (3 * k))) % 10)) = ms h 7 (3 * k + 1))) (nO (ms h))))), h1)) (n := (nO (ms h))) ?_ ?_ 0 (by omega)
    · refine gd_ild2 dX8_news_16 ?_
      refine gd_ald0 dX8_news_17 (by decide) ?_
      refine gd_getR (r := 1) dX8_news_18 fl_8_12 rfl rfl rfl (by decide) ?_
      refine gd_getR (r := 21) dX8_news_21 fl_8_280 rfl rfl rfl (by decide) ?_
      refine gd_getI dX8_news_24 fl_8_284 rfl rfl ?_
      refine gd_icmp_ge_t 76 dX8_news_27 (by decide) (by rw [show h1.1 21 3 = nI (nO (ms h)) from c1.o1.trans i.w.o.1]; exact nI_le (by omega) (by omega)) ?_
      refine gd_ild1 dX8_news_76 ?_
      refine gd_iret dX8_news_77 rfl rfl ?_
      rfl
    · intro k hk ih
      have nk := nt_ok i.w hk
      by_cases e : nI (msN (ms h) (-1) ((tn (ms h 7 (3 * k))) / 1000) ((tn (ms h 7 (3 * k))) / 10 % 100) ((tn (ms h 7 (3 * k))) % 10)) = ms h 7 (3 * k + 1)
      · refine gd_ild2 dX8_news_16 ?_
        refine gd_ald0 dX8_news_17 (by decide) ?_
        refine gd_getR (r := 1) dX8_news_18 fl_8_12 rfl rfl rfl (by decide) ?_
        refine gd_getR (r := 21) dX8_news_21 fl_8_280 rfl rfl rfl (by decide) ?_
        refine gd_getI dX8_news_24 fl_8_284 rfl rfl ?_
        refine gd_icmp_ge_f 76 dX8_news_27 (by decide) (by rw [show h1.1 21 3 = nI (nO (ms h)) from c1.o1.trans i.w.o.1]; exact nI_ge (by omega) (by omega)) ?_
        refine gd_ald0 dX8_news_30 (by decide) ?_
        refine gd_getR (r := 60) dX8_news_31 fl_8_40 rfl rfl rfl (by decide) ?_
        refine gd_ald0 dX8_news_34 (by decide) ?_
        refine gd_getR (r := 1) dX8_news_35 fl_8_12 rfl rfl rfl (by decide) ?_
        refine gd_getR (r := 21) dX8_news_38 fl_8_280 rfl rfl rfl (by decide) ?_
        refine gd_getR (r := 22) dX8_news_41 fl_8_290 rfl rfl rfl (by decide) ?_
        refine gd_ild2 dX8_news_44 ?_
        refine gd_iald (n := 20) dX8_news_45 rfl (by decide) (by repeat' (first | with_reducible rfl | apply ni_add | apply ni_mul)) (by omega) ?_
        rw [c1.ks1 k hk, nk.2]
        refine gd_cV1i dX8_news_46 ct_8_228 rc_60 ⟨Nat.le_of_ble_eq_true rfl, Nat.le_of_ble_eq_true rfl⟩ (Nat.le_of_ble_eq_true rfl) (Nat.le_of_ble_eq_true rfl) (c_missOf i.w v1 nk.1) ?_
        refine gd_ald0 dX8_news_49 (by decide) ?_
        refine gd_getR (r := 1) dX8_news_50 fl_8_12 rfl rfl rfl (by decide) ?_
        refine gd_getR (r := 21) dX8_news_53 fl_8_280 rfl rfl rfl (by decide) ?_
        refine gd_getR (r := 23) dX8_news_56 fl_8_293 rfl rfl rfl (by decide) ?_
        refine gd_ild2 dX8_news_59 ?_
        refine gd_iald (n := 20) dX8_news_60 rfl (by decide) (by repeat' (first | with_reducible rfl | apply ni_add | apply ni_mul)) (by omega) ?_
        rw [c1.km1 k hk]
        refine gd_icmp_eq_t 70 dX8_news_61 (by decide) (e) ?_
        refine gd_iinc2 (b := nI 1) dX8_news_70 (by decide) rfl ?_
        rw [nI_add]
        refine gd_goto 16 dX8_news_73 (by decide) ?_
        rw [bset_no (p := (fun k => decide (¬ nI (msN (ms h) (-1) ((tn (ms h 7 (3 * k))) / 1000) ((tn (ms h 7 (3 * k))) / 10 % 100) ((tn (ms h 7 (3 * k))) % 10)) = ms h 7 (3 * k + 1)))) (decide_eq_false (fun z => z e))] at ih
        exact ih
      · refine gd_ild2 dX8_news_16 ?_
        refine gd_ald0 dX8_news_17 (by decide) ?_
        refine gd_getR (r := 1) dX8_news_18 fl_8_12 rfl rfl rfl (by decide) ?_
        refine gd_getR (r := 21) dX8_news_21 fl_8_280 rfl rfl rfl (by decide) ?_
        refine gd_getI dX8_news_24 fl_8_284 rfl rfl ?_
        refine gd_icmp_ge_f 76 dX8_news_27 (by decide) (by rw [show h1.1 21 3 = nI (nO (ms h)) from c1.o1.trans i.w.o.1]; exact nI_ge (by omega) (by omega)) ?_
        refine gd_ald0 dX8_news_30 (by decide) ?_
        refine gd_getR (r := 60) dX8_news_31 fl_8_40 rfl rfl rfl (by decide) ?_
        refine gd_ald0 dX8_news_34 (by decide) ?_
        refine gd_getR (r := 1) dX8_news_35 fl_8_12 rfl rfl rfl (by decide) ?_
        refine gd_getR (r := 21) dX8_news_38 fl_8_280 rfl rfl rfl (by decide) ?_
        refine gd_getR (r := 22) dX8_news_41 fl_8_290 rfl rfl rfl (by decide) ?_
        refine gd_ild2 dX8_news_44 ?_
        refine gd_iald (n := 20) dX8_news_45 rfl (by decide) (by repeat' (first | with_reducible rfl | apply ni_add | apply ni_mul)) (by omega) ?_
        rw [c1.ks1 k hk, nk.2]
        refine gd_cV1i dX8_news_46 ct_8_228 rc_60 ⟨Nat.le_of_ble_eq_true rfl, Nat.le_of_ble_eq_true rfl⟩ (Nat.le_of_ble_eq_true rfl) (Nat.le_of_ble_eq_true rfl) (c_missOf i.w v1 nk.1) ?_
        refine gd_ald0 dX8_news_49 (by decide) ?_
        refine gd_getR (r := 1) dX8_news_50 fl_8_12 rfl rfl rfl (by decide) ?_
        refine gd_getR (r := 21) dX8_news_53 fl_8_280 rfl rfl rfl (by decide) ?_
        refine gd_getR (r := 23) dX8_news_56 fl_8_293 rfl rfl rfl (by decide) ?_
        refine gd_ild2 dX8_news_59 ?_
        refine gd_iald (n := 20) dX8_news_60 rfl (by decide) (by repeat' (first | with_reducible rfl | apply ni_add | apply ni_mul)) (by omega) ?_
        rw [c1.km1 k hk]
        refine gd_icmp_eq_f 70 dX8_news_61 (by decide) (e) ?_
        refine gd_ild1 dX8_news_64 ?_
        refine gd_ic1 dX8_news_65 ?_
        refine gd_ild2 dX8_news_66 ?_
        refine gd_ishl dX8_news_67 ?_
        refine gd_ior dX8_news_68 ?_
        rw [bset_or (p := (fun k => decide (¬ nI (msN (ms h) (-1) ((tn (ms h 7 (3 * k))) / 1000) ((tn (ms h 7 (3 * k))) / 10 % 100) ((tn (ms h 7 (3 * k))) % 10)) = ms h 7 (3 * k + 1)))) (decide_eq_true e) (by omega)]
        refine gd_ist1 dX8_news_69 rfl ?_
        refine gd_iinc2 (b := nI 1) dX8_news_70 (by decide) rfl ?_
        rw [nI_add]
        refine gd_goto 16 dX8_news_73 (by decide) ?_
        exact ih
  have k9 : Gd mX9_news 9 [.ref 72, .int (nI (bset (fun k => decide (¬ nI (msN (ms h) (-1) ((tn (ms h 7 (3 * k))) / 1000) ((tn (ms h 7 (3 * k))) / 10 % 100) ((tn (ms h 7 (3 * k))) % 10)) = ms h 7 (3 * k + 1))) 0)), .int (nI 0)] [] h2 (some (.int (nI (bset (fun k => decide (¬ nI (msN (ms h) (-1) ((tn (ms h 7 (3 * k))) / 1000) ((tn (ms h 7 (3 * k))) / 10 % 100) ((tn (ms h 7 (3 * k))) % 10)) = ms h 7 (3 * k + 1))) (nO (ms h))))), h2) := by
    refine loopG (P := fun k => Gd mX9_news 9 [.ref 72, .int (nI (bset (fun k => decide (¬ nI (msN (ms h) (-1) ((tn (ms h 7 (3 * k))) / 1000) ((tn (ms h 7 (3 * k))) / 10 % 100) ((tn (ms h 7 (3 * k))) % 10)) = ms h 7 (3 * k + 1))) k)), .int (nI k)] [] h2 (some (.int (nI (bset (fun k => decide (¬ nI (msN (ms h) (-1) ((tn (ms h 7 (3 * k))) / 1000) ((tn (ms h 7 (3 * k))) / 10 % 100) ((tn (ms h 7 (3 * k))) % 10)) = ms h 7 (3 * k + 1))) (nO (ms h))))), h2)) (n := (nO (ms h))) ?_ ?_ 0 (by omega)
    · refine gd_ild2 dX9_news_9 ?_
      refine gd_ald0 dX9_news_10 (by decide) ?_
      refine gd_getR (r := 74) dX9_news_11 fl_9_13 rfl rfl rfl (by decide) ?_
      refine gd_ic3 dX9_news_14 ?_
      refine gd_iald (n := 5) dX9_news_15 rfl (by decide) (by repeat' (first | with_reducible rfl | apply ni_add | apply ni_mul)) (by omega) ?_
      refine gd_icmp_ge_t 60 dX9_news_16 (by decide) (by rw [o3]; exact nI_le (by omega) (by omega)) ?_
      refine gd_ild1 dX9_news_60 ?_
      refine gd_iret dX9_news_61 rfl rfl ?_
      rfl
    · intro k hk ih
      have nk := nt_ok i.w hk
      by_cases e : nI (msN (ms h) (-1) ((tn (ms h 7 (3 * k))) / 1000) ((tn (ms h 7 (3 * k))) / 10 % 100) ((tn (ms h 7 (3 * k))) % 10)) = ms h 7 (3 * k + 1)
      · refine gd_ild2 dX9_news_9 ?_
        refine gd_ald0 dX9_news_10 (by decide) ?_
        refine gd_getR (r := 74) dX9_news_11 fl_9_13 rfl rfl rfl (by decide) ?_
        refine gd_ic3 dX9_news_14 ?_
        refine gd_iald (n := 5) dX9_news_15 rfl (by decide) (by repeat' (first | with_reducible rfl | apply ni_add | apply ni_mul)) (by omega) ?_
        refine gd_icmp_ge_f 60 dX9_news_16 (by decide) (by rw [o3]; exact nI_ge (by omega) (by omega)) ?_
        refine gd_ild1 dX9_news_19 ?_
        refine gd_ald0 dX9_news_20 (by decide) ?_
        refine gd_ald0 dX9_news_21 (by decide) ?_
        refine gd_getR (r := 81) dX9_news_22 fl_9_34 rfl rfl rfl (by decide) ?_
        refine gd_ic3 dX9_news_25 ?_
        refine gd_ild2 dX9_news_26 ?_
        refine gd_imul dX9_news_27 ?_
        refine gd_iald (n := 60) dX9_news_28 rfl (by decide) (by repeat' (first | with_reducible rfl | apply ni_add | apply ni_mul)) (by omega) ?_
        rw [← ms_r7 (by omega), v2.1, nk.2]
        refine gd_cV1i dX9_news_29 ct_9_228 rc_72 ⟨Nat.le_of_ble_eq_true rfl, Nat.le_of_ble_eq_true rfl⟩ (Nat.le_of_ble_eq_true rfl) (Nat.le_of_ble_eq_true rfl) (m_missOf i.w v2 nk.1) ?_
        refine gd_ald0 dX9_news_32 (by decide) ?_
        refine gd_getR (r := 81) dX9_news_33 fl_9_34 rfl rfl rfl (by decide) ?_
        refine gd_ic3 dX9_news_36 ?_
        refine gd_ild2 dX9_news_37 ?_
        refine gd_imul dX9_news_38 ?_
        refine gd_ic1 dX9_news_39 ?_
        refine gd_iadd dX9_news_40 ?_
        refine gd_iald (n := 60) dX9_news_41 rfl (by decide) (by repeat' (first | with_reducible rfl | apply ni_add | apply ni_mul)) (by omega) ?_
        rw [show h2.1 81 (3 * k + 1) = ms h 7 (3 * k + 1) by rw [← ms_r7 (by omega), v2.1]]
        refine gd_icmp_eq_t 51 dX9_news_42 (by decide) (e) ?_
        refine gd_ic0 dX9_news_51 ?_
        refine gd_ior dX9_news_52 ?_
        rw [or_nI, Nat.or_zero]
        refine gd_ist1 dX9_news_53 rfl ?_
        refine gd_iinc2 (b := nI 1) dX9_news_54 (by decide) rfl ?_
        rw [nI_add]
        refine gd_goto 9 dX9_news_57 (by decide) ?_
        rw [bset_no (p := (fun k => decide (¬ nI (msN (ms h) (-1) ((tn (ms h 7 (3 * k))) / 1000) ((tn (ms h 7 (3 * k))) / 10 % 100) ((tn (ms h 7 (3 * k))) % 10)) = ms h 7 (3 * k + 1)))) (decide_eq_false (fun z => z e))] at ih
        exact ih
      · refine gd_ild2 dX9_news_9 ?_
        refine gd_ald0 dX9_news_10 (by decide) ?_
        refine gd_getR (r := 74) dX9_news_11 fl_9_13 rfl rfl rfl (by decide) ?_
        refine gd_ic3 dX9_news_14 ?_
        refine gd_iald (n := 5) dX9_news_15 rfl (by decide) (by repeat' (first | with_reducible rfl | apply ni_add | apply ni_mul)) (by omega) ?_
        refine gd_icmp_ge_f 60 dX9_news_16 (by decide) (by rw [o3]; exact nI_ge (by omega) (by omega)) ?_
        refine gd_ild1 dX9_news_19 ?_
        refine gd_ald0 dX9_news_20 (by decide) ?_
        refine gd_ald0 dX9_news_21 (by decide) ?_
        refine gd_getR (r := 81) dX9_news_22 fl_9_34 rfl rfl rfl (by decide) ?_
        refine gd_ic3 dX9_news_25 ?_
        refine gd_ild2 dX9_news_26 ?_
        refine gd_imul dX9_news_27 ?_
        refine gd_iald (n := 60) dX9_news_28 rfl (by decide) (by repeat' (first | with_reducible rfl | apply ni_add | apply ni_mul)) (by omega) ?_
        rw [← ms_r7 (by omega), v2.1, nk.2]
        refine gd_cV1i dX9_news_29 ct_9_228 rc_72 ⟨Nat.le_of_ble_eq_true rfl, Nat.le_of_ble_eq_true rfl⟩ (Nat.le_of_ble_eq_true rfl) (Nat.le_of_ble_eq_true rfl) (m_missOf i.w v2 nk.1) ?_
        refine gd_ald0 dX9_news_32 (by decide) ?_
        refine gd_getR (r := 81) dX9_news_33 fl_9_34 rfl rfl rfl (by decide) ?_
        refine gd_ic3 dX9_news_36 ?_
        refine gd_ild2 dX9_news_37 ?_
        refine gd_imul dX9_news_38 ?_
        refine gd_ic1 dX9_news_39 ?_
        refine gd_iadd dX9_news_40 ?_
        refine gd_iald (n := 60) dX9_news_41 rfl (by decide) (by repeat' (first | with_reducible rfl | apply ni_add | apply ni_mul)) (by omega) ?_
        rw [show h2.1 81 (3 * k + 1) = ms h 7 (3 * k + 1) by rw [← ms_r7 (by omega), v2.1]]
        refine gd_icmp_eq_f 51 dX9_news_42 (by decide) (e) ?_
        refine gd_ic1 dX9_news_45 ?_
        refine gd_ild2 dX9_news_46 ?_
        refine gd_ishl dX9_news_47 ?_
        refine gd_goto 52 dX9_news_48 (by decide) ?_
        refine gd_ior dX9_news_52 ?_
        rw [bset_or (p := (fun k => decide (¬ nI (msN (ms h) (-1) ((tn (ms h 7 (3 * k))) / 1000) ((tn (ms h 7 (3 * k))) / 10 % 100) ((tn (ms h 7 (3 * k))) % 10)) = ms h 7 (3 * k + 1)))) (decide_eq_true e) (by omega)]
        refine gd_ist1 dX9_news_53 rfl ?_
        refine gd_iinc2 (b := nI 1) dX9_news_54 (by decide) rfl ?_
        rw [nI_add]
        refine gd_goto 9 dX9_news_57 (by decide) ?_
        exact ih
  refine Pas.read (h1 := h1) (h2 := h2) (r := .int (nI (bset (fun k => decide (¬ nI (msN (ms h) (-1) ((tn (ms h 7 (3 * k))) / 1000) ((tn (ms h 7 (3 * k))) / 10 % 100) ((tn (ms h 7 (3 * k))) % 10)) = ms h 7 (3 * k + 1))) (nO (ms h))))) i rfl (f1).same (f2).same ?_ ?_
  · refine gd_ald0 dX8_news_0 (by decide) ?_
    refine gd_getR (r := 60) dX8_news_1 fl_8_40 rfl rfl rfl (by decide) ?_
    refine gd_ald0 dX8_news_4 (by decide) ?_
    refine gd_getR (r := 1) dX8_news_5 fl_8_12 rfl rfl rfl (by decide) ?_
    refine gd_icm1 dX8_news_8 ?_
    refine gd_cV2v dX8_news_9 ct_8_211 rc_60 ⟨Nat.le_of_ble_eq_true rfl, Nat.le_of_ble_eq_true rfl⟩ (Nat.le_of_ble_eq_true rfl) (Nat.le_of_ble_eq_true rfl) (gt) ?_
    refine gd_ic0 dX8_news_12 ?_
    refine gd_ist1 dX8_news_13 rfl ?_
    refine gd_ic0 dX8_news_14 ?_
    refine gd_ist2 dX8_news_15 rfl ?_
    exact k8
  · refine gd_ald0 dX9_news_0 (by decide) ?_
    refine gd_icm1 dX9_news_1 ?_
    refine gd_cV1v dX9_news_2 ct_9_216 rc_72 ⟨Nat.le_of_ble_eq_true rfl, Nat.le_of_ble_eq_true rfl⟩ (Nat.le_of_ble_eq_true rfl) (Nat.le_of_ble_eq_true rfl) (gp) ?_
    refine gd_ic0 dX9_news_5 ?_
    refine gd_ist1 dX9_news_6 rfl ?_
    refine gd_ic0 dX9_news_7 ?_
    refine gd_ist2 dX9_news_8 rfl ?_
    exact k9
