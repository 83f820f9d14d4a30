
/-! ===== text ===== -/
theorem ms_eq {h h' : Hp} (e : ∀ k, 74 ≤ k → k ≤ 81 → h'.1 k = h.1 k) : ms h' = ms h := by
  funext k j
  unfold ms
  by_cases hk : k < 8
  · rw [e (74 + k) (by omega) (by omega)]
  · have : szR k = 0 := by unfold szR; rw [List.getD_eq_getElem?_getD, List.getElem?_eq_none (by simp; omega)]; rfl
    simp [this]
theorem inv_both {h h' : Hp} (i : Inv h) (e : ∀ k, ((27 ≤ k ∧ k ≤ 49) ∨ k = 71 ∨ k = 73 ∨ k = 94) → h'.1 k = h.1 k) (k1 : h'.1 0 2 = h.1 0 2) (k2 : h'.1 72 32 = h.1 72 32) (tp : TP h') (sh : SH h') (sc : h'.2 95 = h.2 95) (w : WF (ms h')) (c : CR h' 1 (ms h')) : Inv h' := by
  have eks : ks h' = ks h := by funext j a; unfold ks; rw [e 94 (by omega)]
  refine ⟨w, c, ?_, ?_, tp, sh, ?_⟩
  · refine ⟨by rw [k1]; exact i.k.z, by rw [k1, k2]; exact i.k.e, ?_⟩
    rw [k1, eks]; exact fun z => ⟨(i.k.k z).1, (i.k.k z).2.same (fun a h1 h2 => e _ (by omega))⟩
  · rw [e 73 (by omega), e 71 (by omega)]; exact i.f
  · unfold scL; rw [sc]; exact i.l
/-- rules beyond the texts may change -/
theorem inv_rules {h : Hp} (i : Inv h) {f : Nat → Int32} (hf : ∀ j, j < 24 * nX (ms h) → f j = h.1 80 j) : Inv (sI h 80 f) := by
  have lx := i.lX
  have em : ms (sI h 80 f) = sR (ms h) 6 (trR 6 f) := ms_set 6 (by decide)
  have E : ∀ j, j < 24 * nX (ms h) → trR 6 f j = ms h 6 j := fun j hj => by rw [trR_at (show j < 192 by omega), hf j hj, ms_r6 (by omega)]
  refine inv_world i (fun k hk => sI_n (by omega)) rfl ?_ ?_

  · rw [em]
    refine ⟨i.w.t, i.w.n, i.w.x, i.w.o, i.w.d, i.w.g, i.w.c, i.w.h, i.w.l, i.w.f, i.w.c6, ?_, i.w.k⟩
    · intro t ht r hr
      have t1 : t < nX (ms h) := ht
      have h6 := (i.w.c6 t t1).2.2
      have r1 : r < cR (ms h) t := hr
      show RulOK (trR 6 f _) (trR 6 f _) (trR 6 f _) (trR 6 f _)
      rw [E _ (by omega), E _ (by omega), E _ (by omega), E _ (by omega)]
      exact i.w.r t t1 r r1
  · rw [em]
    refine ⟨i.c.t, i.c.d, i.c.n, i.c.x, i.c.o, i.c.g, i.c.c, i.c.h, i.c.h0, i.c.lk, i.c.lt, i.c.lw, i.c.ld, i.c.lr, i.c.lq, i.c.lf, i.c.le, i.c.lo, i.c.f, i.c.c6, ?_, ?_, ?_, i.c.ks, i.c.km, i.c.kd⟩
    · intro t ht r hr
      have t1 : t < nX (ms h) := ht
      have h6 := (i.w.c6 t t1).2.2
      have r1 : r < cR (ms h) t := hr
      show h.1 18 (6 * t + r) = keyI (trR 6 f _) (trR 6 f _)
      rw [E _ (by omega), E _ (by omega)]
      exact i.c.rk t t1 r r1
    · intro t ht r hr
      have t1 : t < nX (ms h) := ht
      have h6 := (i.w.c6 t t1).2.2
      have r1 : r < cR (ms h) t := hr
      show h.1 19 (6 * t + r) = trR 6 f _
      rw [E _ (by omega)]
      exact i.c.rl t t1 r r1
    · intro t ht r hr
      have t1 : t < nX (ms h) := ht
      have h6 := (i.w.c6 t t1).2.2
      have r1 : r < cR (ms h) t := hr
      show h.1 20 (6 * t + r) = trR 6 f _
      rw [E _ (by omega)]
      exact i.c.rh t t1 r r1
def aT (h : Hp) (x : Nat) (fr : Int32) : Hp := sI (sI (sI (sI (sI (sI h 16 (upd (h.1 16) x fr)) 17 (upd (h.1 17) x (h.1 51 5))) 18 (va_cpy (h.1 53) (h.1 18) 0 (x * 6) 6)) 19 (va_cpy (h.1 54) (h.1 19) 0 (x * 6) 6)) 20 (va_cpy (h.1 55) (h.1 20) 0 (x * 6) 6)) 15 (upd (h.1 15) 5 (nI (x + 1)))
theorem c_addText {h : Hp} {x : Nat} {fr : Int32} (hx : h.1 15 5 = nI x) (h8 : x < 8) : Gd mX6_addText 0 [.ref 15, .int fr, .ref 51, .null] [] h (some (.int (nI x)), aT h x fr) := by
  refine gd_ald0 dX6_addText_0 (by decide) ?_
  refine gd_getI dX6_addText_1 fl_6_27 rfl rfl ?_
  rw [hx]
  refine gd_ist3 dX6_addText_4 rfl ?_
  refine gd_ald0 dX6_addText_5 (by decide) ?_
  refine gd_getR (r := 16) dX6_addText_6 fl_6_9 rfl rfl rfl (by decide) ?_
  refine gd_ild3 dX6_addText_9 ?_
  refine gd_ild1 dX6_addText_10 ?_
  refine gd_iast (n := 8) dX6_addText_11 rfl (by decide) (by repeat' (first | with_reducible rfl | apply ni_add | apply ni_mul)) (by omega) ?_
  refine gd_ald0 dX6_addText_12 (by decide) ?_
  refine gd_getR (r := 17) dX6_addText_13 fl_6_15 rfl rfl rfl (by decide) ?_
  refine gd_ild3 dX6_addText_16 ?_
  refine gd_ald2 dX6_addText_17 (by decide) ?_
  refine gd_getI dX6_addText_18 fl_6_37 rfl rfl ?_
  refine gd_iast (n := 8) dX6_addText_21 rfl (by decide) (by repeat' (first | with_reducible rfl | apply ni_add | apply ni_mul)) (by omega) ?_
  refine gd_ald2 dX6_addText_22 (by decide) ?_
  refine gd_getR (r := 53) dX6_addText_23 fl_6_42 rfl rfl rfl (by decide) ?_
  refine gd_ic0 dX6_addText_26 ?_
  refine gd_ald0 dX6_addText_27 (by decide) ?_
  refine gd_getR (r := 18) dX6_addText_28 fl_6_18 rfl rfl rfl (by decide) ?_
  refine gd_ild3 dX6_addText_31 ?_
  refine gd_bipush (v := nI 6) dX6_addText_32 (by decide) ?_
  refine gd_imul dX6_addText_34 ?_
  rw [pk_mul]
  refine gd_bipush (v := nI 6) dX6_addText_35 (by decide) ?_
  refine gd_acI (n0 := 6) (n1 := 48) dX6_addText_37 ac_6_31 (Nat.le_of_ble_eq_true rfl) (Nat.le_of_ble_eq_true rfl) (Nat.le_of_ble_eq_true rfl) rfl rfl (by first | exact nI_pos (by omega) | decide | (rw [show (nI 6).toNatClampNeg = 6 from rfl, show (nI (x * 6)).toNatClampNeg = x * 6 from nI_clamp (by omega)]; omega)) (by first | exact nI_pos (by omega) | decide | (rw [show (nI 6).toNatClampNeg = 6 from rfl, show (nI (x * 6)).toNatClampNeg = x * 6 from nI_clamp (by omega)]; omega)) (by first | exact nI_pos (by omega) | decide | (rw [show (nI 6).toNatClampNeg = 6 from rfl, show (nI (x * 6)).toNatClampNeg = x * 6 from nI_clamp (by omega)]; omega)) (by first | exact nI_pos (by omega) | decide | (rw [show (nI 6).toNatClampNeg = 6 from rfl, show (nI (x * 6)).toNatClampNeg = x * 6 from nI_clamp (by omega)]; omega)) (by first | exact nI_pos (by omega) | decide | (rw [show (nI 6).toNatClampNeg = 6 from rfl, show (nI (x * 6)).toNatClampNeg = x * 6 from nI_clamp (by omega)]; omega)) ?_
  rw [show (nI 0).toNatClampNeg = 0 from rfl, show (nI 6).toNatClampNeg = 6 from rfl, show (nI (x * 6)).toNatClampNeg = x * 6 from nI_clamp (by omega)]
  refine gd_ald2 dX6_addText_40 (by decide) ?_
  refine gd_getR (r := 54) dX6_addText_41 fl_6_43 rfl rfl rfl (by decide) ?_
  refine gd_ic0 dX6_addText_44 ?_
  refine gd_ald0 dX6_addText_45 (by decide) ?_
  refine gd_getR (r := 19) dX6_addText_46 fl_6_21 rfl rfl rfl (by decide) ?_
  refine gd_ild3 dX6_addText_49 ?_
  refine gd_bipush (v := nI 6) dX6_addText_50 (by decide) ?_
  refine gd_imul dX6_addText_52 ?_
  rw [pk_mul]
  refine gd_bipush (v := nI 6) dX6_addText_53 (by decide) ?_
  refine gd_acI (n0 := 6) (n1 := 48) dX6_addText_55 ac_6_31 (Nat.le_of_ble_eq_true rfl) (Nat.le_of_ble_eq_true rfl) (Nat.le_of_ble_eq_true rfl) rfl rfl (by first | exact nI_pos (by omega) | decide | (rw [show (nI 6).toNatClampNeg = 6 from rfl, show (nI (x * 6)).toNatClampNeg = x * 6 from nI_clamp (by omega)]; omega)) (by first | exact nI_pos (by omega) | decide | (rw [show (nI 6).toNatClampNeg = 6 from rfl, show (nI (x * 6)).toNatClampNeg = x * 6 from nI_clamp (by omega)]; omega)) (by first | exact nI_pos (by omega) | decide | (rw [show (nI 6).toNatClampNeg = 6 from rfl, show (nI (x * 6)).toNatClampNeg = x * 6 from nI_clamp (by omega)]; omega)) (by first | exact nI_pos (by omega) | decide | (rw [show (nI 6).toNatClampNeg = 6 from rfl, show (nI (x * 6)).toNatClampNeg = x * 6 from nI_clamp (by omega)]; omega)) (by first | exact nI_pos (by omega) | decide | (rw [show (nI 6).toNatClampNeg = 6 from rfl, show (nI (x * 6)).toNatClampNeg = x * 6 from nI_clamp (by omega)]; omega)) ?_
  rw [show (nI 0).toNatClampNeg = 0 from rfl, show (nI 6).toNatClampNeg = 6 from rfl, show (nI (x * 6)).toNatClampNeg = x * 6 from nI_clamp (by omega)]
  refine gd_ald2 dX6_addText_58 (by decide) ?_
  refine gd_getR (r := 55) dX6_addText_59 fl_6_44 rfl rfl rfl (by decide) ?_
  refine gd_ic0 dX6_addText_62 ?_
  refine gd_ald0 dX6_addText_63 (by decide) ?_
  refine gd_getR (r := 20) dX6_addText_64 fl_6_24 rfl rfl rfl (by decide) ?_
  refine gd_ild3 dX6_addText_67 ?_
  refine gd_bipush (v := nI 6) dX6_addText_68 (by decide) ?_
  refine gd_imul dX6_addText_70 ?_
  rw [pk_mul]
  refine gd_bipush (v := nI 6) dX6_addText_71 (by decide) ?_
  refine gd_acI (n0 := 6) (n1 := 48) dX6_addText_73 ac_6_31 (Nat.le_of_ble_eq_true rfl) (Nat.le_of_ble_eq_true rfl) (Nat.le_of_ble_eq_true rfl) rfl rfl (by first | exact nI_pos (by omega) | decide | (rw [show (nI 6).toNatClampNeg = 6 from rfl, show (nI (x * 6)).toNatClampNeg = x * 6 from nI_clamp (by omega)]; omega)) (by first | exact nI_pos (by omega) | decide | (rw [show (nI 6).toNatClampNeg = 6 from rfl, show (nI (x * 6)).toNatClampNeg = x * 6 from nI_clamp (by omega)]; omega)) (by first | exact nI_pos (by omega) | decide | (rw [show (nI 6).toNatClampNeg = 6 from rfl, show (nI (x * 6)).toNatClampNeg = x * 6 from nI_clamp (by omega)]; omega)) (by first | exact nI_pos (by omega) | decide | (rw [show (nI 6).toNatClampNeg = 6 from rfl, show (nI (x * 6)).toNatClampNeg = x * 6 from nI_clamp (by omega)]; omega)) (by first | exact nI_pos (by omega) | decide | (rw [show (nI 6).toNatClampNeg = 6 from rfl, show (nI (x * 6)).toNatClampNeg = x * 6 from nI_clamp (by omega)]; omega)) ?_
  rw [show (nI 0).toNatClampNeg = 0 from rfl, show (nI 6).toNatClampNeg = 6 from rfl, show (nI (x * 6)).toNatClampNeg = x * 6 from nI_clamp (by omega)]
  refine gd_ald0 dX6_addText_76 (by decide) ?_
  refine gd_dupr (by decide) dX6_addText_77 ?_
  refine gd_getI dX6_addText_78 fl_6_27 rfl rfl ?_
  rw [show ∀ a b c d e, (sI (sI (sI (sI (sI h 16 a) 17 b) 18 c) 19 d) 20 e).1 15 5 = nI x from fun _ _ _ _ _ => hx]
  refine gd_ic1 dX6_addText_81 ?_
  refine gd_iadd dX6_addText_82 ?_
  rw [nI_add]
  refine gd_putI dX6_addText_83 fl_6_27 rfl rfl (fun _ _ _ e => by cases e; rfl) ?_
  refine gd_ild3 dX6_addText_86 ?_
  refine gd_iret dX6_addText_87 rfl rfl ?_
  rfl

theorem inv_text {h h' : Hp} (i : Inv h) {x n v : Nat} {fr : Int32} {R : Nat → Int32} (hx : nX (ms h) = x) (x8 : x < 8) (hv : v < 10000) (hfr : fr = nI v) (n1 : 1 ≤ n) (n6 : n ≤ 6)
    (e : ∀ k, ((1 ≤ k ∧ k ≤ 14) ∨ (21 ≤ k ∧ k ≤ 24) ∨ (27 ≤ k ∧ k ≤ 49) ∨ k = 71 ∨ k = 73 ∨ (75 ≤ k ∧ k ≤ 78) ∨ k = 81 ∨ k = 94) → h'.1 k = h.1 k) (k1 : h'.1 0 2 = h.1 0 2) (k2 : h'.1 72 32 = h.1 72 32) (tp : TP h') (sh : SH h') (sc : h'.2 95 = h.2 95)
    (r74 : h'.1 74 = upd (h.1 74) 2 (nI (x + 1))) (r79 : h'.1 79 = upd (upd (h.1 79) (2 * x) fr) (2 * x + 1) (nI n)) (r80 : h'.1 80 = R) (R0 : ∀ j, j < 24 * x → R j = h.1 80 j)
    (R1 : ∀ r, r < n → RulOK (R (4 * (6 * x + r))) (R (4 * (6 * x + r) + 1)) (R (4 * (6 * x + r) + 2)) (R (4 * (6 * x + r) + 3)))
    (r15 : h'.1 15 = upd (h.1 15) 5 (nI (x + 1))) (r16 : h'.1 16 = upd (h.1 16) x fr) (r17 : h'.1 17 = upd (h.1 17) x (nI n))
    (a18 : ∀ j, j < 6 * x → h'.1 18 j = h.1 18 j) (a19 : ∀ j, j < 6 * x → h'.1 19 j = h.1 19 j) (a20 : ∀ j, j < 6 * x → h'.1 20 j = h.1 20 j)
    (b18 : ∀ r, r < n → h'.1 18 (6 * x + r) = keyI (R (4 * (6 * x + r))) (R (4 * (6 * x + r) + 1))) (b19 : ∀ r, r < n → h'.1 19 (6 * x + r) = R (4 * (6 * x + r) + 2)) (b20 : ∀ r, r < n → h'.1 20 (6 * x + r) = R (4 * (6 * x + r) + 3)) : Inv h' := by
  have em : ms h' = sR (sR (sR (ms h) 0 (trR 0 (upd (h.1 74) 2 (nI (x + 1))))) 5 (trR 5 (upd (upd (h.1 79) (2 * x) fr) (2 * x + 1) (nI n)))) 6 (trR 6 R) := by
    rw [← ms_set 0 (by decide), ← ms_set 5 (by decide), ← ms_set 6 (by decide)]
    refine ms_eq (fun k h1 h2 => ?_)
    rcases (show k = 74 ∨ k = 79 ∨ k = 80 ∨ (75 ≤ k ∧ k ≤ 78) ∨ k = 81 by omega) with q | q | q | q | q
    · rw [q]; exact r74
    · rw [q]; exact r79
    · rw [q]; exact r80
    · rw [e k (by omega), sI_n (by omega), sI_n (by omega), sI_n (by omega)]
    · rw [e k (by omega), sI_n (by omega), sI_n (by omega), sI_n (by omega)]
  obtain ⟨S, hS⟩ : ∃ S, S = sR (sR (sR (ms h) 0 (trR 0 (upd (h.1 74) 2 (nI (x + 1))))) 5 (trR 5 (upd (upd (h.1 79) (2 * x) fr) (2 * x + 1) (nI n)))) 6 (trR 6 R) := ⟨_, rfl⟩
  have eo : ∀ k, k ≠ 0 → k ≠ 5 → k ≠ 6 → S k = ms h k := fun k a b c => by rw [hS]; show (if k = 6 then _ else if k = 5 then _ else if k = 0 then _ else _) = _; rw [if_neg c, if_neg b, if_neg a]
  have e2 : S 0 2 = nI (x + 1) := by rw [hS]; rfl
  have e0 : nX S = x + 1 := by unfold nX; rw [e2]; exact tn_nI (by omega)
  have E0 : ∀ j, j < 5 → j ≠ 2 → S 0 j = ms h 0 j := fun j hj h2 => by rw [hS]; show trR 0 _ j = _; rw [trR_at (show j < 5 from hj), upd_at, if_neg h2, ms_r0 hj]
  have E5 : ∀ j, j < 2 * x → S 5 j = ms h 5 j := fun j hj => by rw [hS]; show trR 5 _ j = _; rw [trR_at (show j < 16 by omega), upd_at, if_neg (by omega), upd_at, if_neg (by omega), ms_r5 (by omega)]
  have E5a : S 5 (2 * x) = fr := by rw [hS]; show trR 5 _ (2 * x) = _; rw [trR_at (show 2 * x < 16 by omega), upd_at, if_neg (by omega), upd_at, if_pos rfl]
  have E5b : S 5 (2 * x + 1) = nI n := by rw [hS]; show trR 5 _ (2 * x + 1) = _; rw [trR_at (show 2 * x + 1 < 16 by omega), upd_at, if_pos rfl]
  have E6 : ∀ j, j < 24 * x → S 6 j = ms h 6 j := fun j hj => by rw [hS]; show trR 6 R j = _; rw [trR_at (show j < 192 by omega), R0 j hj, ms_r6 (by omega)]
  have E6n : ∀ r, r < n → ∀ q, q < 4 → S 6 (4 * (6 * x + r) + q) = R (4 * (6 * x + r) + q) := fun r hr q hq => by rw [hS]; show trR 6 R _ = _; rw [trR_at (show 4 * (6 * x + r) + q < 192 by omega)]
  have cx : cR S x = n := by unfold cR; rw [E5b]; exact tn_nI (by omega)
  have co : ∀ t, t < x → cR S t = cR (ms h) t := fun t ht => by unfold cR; rw [E5 _ (by omega)]
  have c6 : ∀ t, t < x → cR (ms h) t ≤ 6 := fun t ht => (i.w.c6 t (by omega)).2.2
  rw [← hS] at em
  have eT : nT S = nT (ms h) := by unfold nT; rw [E0 0 (by decide) (by decide)]
  have eN : nN S = nN (ms h) := by unfold nN; rw [E0 1 (by decide) (by decide)]
  have eO : nO S = nO (ms h) := by unfold nO; rw [E0 3 (by decide) (by decide)]
  have eD : nD S = nD (ms h) := by unfold nD; rw [E0 4 (by decide) (by decide)]
  have s1 := eo 1 (by decide) (by decide) (by decide)
  have s2 := eo 2 (by decide) (by decide) (by decide)
  have s3 := eo 3 (by decide) (by decide) (by decide)
  have s4 := eo 4 (by decide) (by decide) (by decide)
  have s7 := eo 7 (by decide) (by decide) (by decide)
  have lk : lostS S = lostS (ms h) := by unfold lostS; rw [s4, eN]
  refine inv_both i (fun k hk => e k (by omega)) k1 k2 tp sh sc ?_ ?_
  · rw [em]
    refine ⟨?_, ?_, ⟨by rw [e0]; exact e2, by omega⟩, ?_, ?_, ?_, ?_, ?_, ?_, ?_, ?_, ?_, ?_⟩
    · rw [E0 0 (by decide) (by decide), eT]; exact i.w.t
    · rw [E0 1 (by decide) (by decide), eN]; exact i.w.n
    · rw [E0 3 (by decide) (by decide), eO]; exact i.w.o
    · rw [E0 4 (by decide) (by decide), eD]; exact i.w.d
    · rw [s1]; exact i.w.g
    · rw [s2, eT]; exact i.w.c
    · rw [s3, eT]; exact i.w.h
    · rw [eN]; intro l hl; unfold LetOK; rw [s4, eT]; exact i.w.l l hl
    · rw [e0]; intro t ht
      by_cases z : t = x
      · exact ⟨v, hv, by rw [z, E5a]; exact hfr⟩
      · rw [E5 _ (by omega)]; exact i.w.f t (by omega)
    · rw [e0]; intro t ht
      by_cases z : t = x
      · rw [z, cx]; exact ⟨E5b, n1, n6⟩
      · rw [co t (by omega), E5 _ (by omega)]; exact i.w.c6 t (by omega)
    · rw [e0]; intro t ht r hr
      by_cases z : t = x
      · subst z
        rw [cx] at hr
        rw [show 4 * (6 * t + r) = 4 * (6 * t + r) + 0 from rfl, E6n r hr 0 (by decide), E6n r hr 1 (by decide), E6n r hr 2 (by decide), E6n r hr 3 (by decide)]
        exact R1 r hr
      · have := c6 t (by omega)
        rw [co t (by omega)] at hr
        rw [E6 _ (by omega), E6 _ (by omega), E6 _ (by omega), E6 _ (by omega)]
        exact i.w.r t (by omega) r hr
    · rw [s7, eO]; exact i.w.k
  · rw [em]
    refine ⟨?_, ?_, ?_, ?_, ?_, ?_, ?_, ?_, ?_, ?_, ?_, ?_, ?_, ?_, ?_, ?_, ?_, ?_, ?_, ?_, ?_, ?_, ?_, ?_, ?_, ?_⟩
    · rw [e (1 + 1) (by omega), E0 0 (by decide) (by decide)]; exact i.c.t
    · rw [e (1 + 1) (by omega), E0 4 (by decide) (by decide)]; exact i.c.d
    · rw [e (1 + 5) (by omega), E0 1 (by decide) (by decide)]; exact i.c.n
    · rw [show h'.1 (1 + 14) = _ from r15, e2]; rfl
    · rw [e (1 + 20) (by omega), E0 3 (by decide) (by decide)]; exact i.c.o
    · rw [e (1 + 2) (by omega), s1]; exact i.c.g
    · rw [e (1 + 3) (by omega), s2, eT]; exact i.c.c
    · rw [e (1 + 4) (by omega), s3, eT]; exact i.c.h
    · rw [e (1 + 4) (by omega), eT]; exact i.c.h0
    · rw [e (1 + 6) (by omega), s4, eN]; exact i.c.lk
    · rw [e (1 + 7) (by omega), s4, eN]; exact i.c.lt
    · rw [e (1 + 8) (by omega), s4, eN]; exact i.c.lw
    · rw [e (1 + 9) (by omega), s4, eN]; exact i.c.ld
    · rw [e (1 + 10) (by omega), s4, eN]; exact i.c.lr
    · rw [e (1 + 11) (by omega), s4, eN]; exact i.c.lq
    · rw [e (1 + 12) (by omega), s4, eN]; exact i.c.lf
    · rw [e (1 + 13) (by omega), s4, eN]; exact i.c.le
    · rw [e (1 + 5) (by omega), lk]; exact i.c.lo
    · rw [show h'.1 (1 + 15) = _ from r16, e0]
      intro t ht
      rw [upd_at]
      by_cases z : t = x
      · rw [if_pos z, z, E5a]
      · rw [if_neg z, E5 _ (by omega)]; exact i.c.f t (by omega)
    · rw [show h'.1 (1 + 16) = _ from r17, e0]
      intro t ht
      rw [upd_at]
      by_cases z : t = x
      · rw [if_pos z, z, E5b]
      · rw [if_neg z, E5 _ (by omega)]; exact i.c.c6 t (by omega)
    · rw [e0]
      intro t ht r hr
      show h'.1 18 (6 * t + r) = _
      by_cases z : t = x
      · subst z
        rw [cx] at hr
        rw [show 4 * (6 * t + r) = 4 * (6 * t + r) + 0 from rfl, E6n r hr 0 (by decide), E6n r hr 1 (by decide)]
        exact b18 r hr
      · have := c6 t (by omega)
        rw [co t (by omega)] at hr
        rw [E6 _ (by omega), E6 _ (by omega)]
        rw [a18 _ (by omega)]
        exact i.c.rk t (by omega) r hr
    · rw [e0]
      intro t ht r hr
      show h'.1 19 (6 * t + r) = _
      by_cases z : t = x
      · subst z
        rw [cx] at hr
        rw [E6n r hr 2 (by decide)]
        exact b19 r hr
      · have := c6 t (by omega)
        rw [co t (by omega)] at hr
        rw [E6 _ (by omega)]
        rw [a19 _ (by omega)]
        exact i.c.rl t (by omega) r hr
    · rw [e0]
      intro t ht r hr
      show h'.1 20 (6 * t + r) = _
      by_cases z : t = x
      · subst z
        rw [cx] at hr
        rw [E6n r hr 3 (by decide)]
        exact b20 r hr
      · have := c6 t (by omega)
        rw [co t (by omega)] at hr
        rw [E6 _ (by omega)]
        rw [a20 _ (by omega)]
        exact i.c.rh t (by omega) r hr
    · rw [e (1 + 21) (by omega), s7, eO]; exact i.c.ks
    · rw [e (1 + 22) (by omega), s7, eO]; exact i.c.km
    · rw [e (1 + 23) (by omega), s7, eO]; exact i.c.kd

theorem tp_T {h : Hp} (i : Inv h) : TPB h (fun j => tn (h.1 85 j)) (tn (h.1 72 14)) := by
  refine ⟨i.p.n.1, i.p.n.2.2, fun j hj => ?_⟩
  obtain ⟨e, v, hv, ev⟩ := i.p.b j hj
  show h.1 52 j = nI (tn (h.1 85 j)) ∧ tn (h.1 85 j) < 256
  rw [e, ev, tn_nI (by omega)]
  exact ⟨rfl, hv⟩
theorem tp_M {h : Hp} (i : Inv h) : MPB h (fun j => tn (h.1 85 j)) (tn (h.1 72 14)) := by
  refine ⟨i.p.n.2.1, i.p.n.2.2, fun j hj => ?_⟩
  obtain ⟨e, v, hv, ev⟩ := i.p.b j hj
  show h.1 85 j = nI (tn (h.1 85 j)) ∧ tn (h.1 85 j) < 256
  rw [ev, tn_nI (by omega)]
  exact ⟨rfl, hv⟩
theorem hR_same {h : Hp} {b : Nat → Nat} {N e : Nat} {K L G : Nat → Int32} {v : Int32} : Same h (hR (h5 h v) b N e K L G) := by
  refine Same.si (Same.si (Same.si ?_ (by decide) (by decide) (by decide)) (by decide) (by decide) (by decide)) (by decide) (by decide) (by decide)
  unfold hTk hT h5
  exact Same.s51 (Same.s51 (Same.rf h) rfl) rfl
theorem hW_same {h : Hp} {b : Nat → Nat} {N e : Nat} {f : Int32} {R : Nat → Int32} : Same (sI h 80 R) (hW h b N e f R) := by
  unfold hW hMk hM
  refine Same.sl ?_ (by decide)
  refine Same.s72 ?_ rfl rfl
  refine ⟨fun k hk => ?_, ⟨rfl, rfl, rfl⟩, fun _ _ => rfl⟩
  by_cases a : k = 80
  · rw [a]; rfl
  · have c : k ≠ 72 := fun z => by rw [z] at hk; cases hk
    rw [sI_n a, sI_n c, sI_n a]

theorem rest_row {h : Hp} {b : Nat → Nat} {N e1 e2 x : Nat} {K L G R : Nat → Int32} {v w fr fa n : Int32} (q : Nat) (hq : (1 ≤ q ∧ q ≤ 14) ∨ (21 ≤ q ∧ q ≤ 24) ∨ (27 ≤ q ∧ q ≤ 49) ∨ q = 71 ∨ q = 73 ∨ (75 ≤ q ∧ q ≤ 78) ∨ q = 81 ∨ q = 94) : (tEnd (hW (aT (sI (hR (h5 h v) b N e1 K L G) 51 (upd ((hR (h5 h v) b N e1 K L G).1 51) 1 w)) x fr) b N e2 fa R) x fr n).1 q = h.1 q := by
  unfold tEnd hW hMk hM aT
  rw [sI_n (by omega), sI_n (by omega), sI_n (by omega), sI_n (by omega), sL_1, sI_n (by omega), sI_n (by omega), sI_n (by omega), sI_n (by omega), sI_n (by omega), sI_n (by omega), sI_n (by omega), sI_n (by omega), sI_n (by omega), sI_n (by omega)]
  unfold hR hTk hT h5
  rw [sI_n (by omega), sI_n (by omega), sI_n (by omega), sI_n (by omega), sI_n (by omega)]
set_option maxHeartbeats 4000000 in
theorem p_text {h : Hp} (i : Inv h) (a : Int32) : Pas mX8_text mX9_text [.ref 0, .int a, .null] [.ref 72, .int a, .null, .null] h := by
  rcases rng a (10000) (by decide) with ⟨k, hk, rfl⟩ | ha
  · have lx := i.lX
    have tT := tp_T i
    have tM := tp_M i
    by_cases hX : nX (ms h) < 8
    · rcases text_all (b := (fun j => tn (h.1 85 j))) tT.2.1 6 0 rfl 0 (Nat.zero_le _) with ⟨f, f0, fc, fm⟩ | ⟨n, Q, n1, n2, qr, oc, om⟩
      · obtain ⟨n, e1, K1, L1, G1, gc⟩ := fc h (h.1 53) (h.1 54) (h.1 55) tT
        have sm : Same h (hR (h5 h (nI n)) (fun j => tn (h.1 85 j)) (tn (h.1 72 14)) e1 K1 L1 G1) := hR_same
        obtain ⟨e2, R2, gm, fr2⟩ := fm (hR (h5 h (nI n)) (fun j => tn (h.1 85 j)) (tn (h.1 72 14)) e1 K1 L1 G1) (h.1 80) (nX (ms h)) (nI k) ⟨tM.1, tM.2.1, tM.2.2⟩ i.mX (by omega)
        have i1 := Inv.same sm i
        refine ⟨.int (-1 - nI f), hR (h5 h (nI n)) (fun j => tn (h.1 85 j)) (tn (h.1 72 14)) e1 K1 L1 G1, hW (hR (h5 h (nI n)) (fun j => tn (h.1 85 j)) (tn (h.1 72 14)) e1 K1 L1 G1) (fun j => tn (h.1 85 j)) (tn (h.1 72 14)) e2 (nI f) R2, ?_, ?_, ?_, rfl, rfl⟩
        · refine gd_ild1 dX8_text_0 ?_
          refine gd_sipush (v := nI 10000) dX8_text_1 (by decide) ?_
          refine gd_cS2i dX8_text_4 ct_8_48 ⟨Nat.le_of_ble_eq_true rfl, Nat.le_of_ble_eq_true rfl⟩ (Nat.le_of_ble_eq_true rfl) (Nat.le_of_ble_eq_true rfl) (c_isBelow_t hk (by decide) _) ?_
          refine gd_if_ne_t 17 dX8_text_7 (by decide) (by decide) ?_
          refine gd_ald0 dX8_text_17 (by decide) ?_
          refine gd_getR (r := 1) dX8_text_18 fl_8_12 rfl rfl rfl (by decide) ?_
          refine gd_getR (r := 15) dX8_text_21 fl_8_188 rfl rfl rfl (by decide) ?_
          refine gd_getI dX8_text_24 fl_8_192 rfl rfl ?_
          rw [i.cX]
          refine gd_bipush (v := nI 8) dX8_text_27 (by decide) ?_
          refine gd_icmp_lt_t 39 dX8_text_29 (by decide) (by exact nI_lt (by omega) (by omega)) ?_
          refine gd_ald0 dX8_text_39 (by decide) ?_
          refine gd_getR (r := 51) dX8_text_40 fl_8_26 rfl rfl rfl (by decide) ?_
          refine gd_cV0i dX8_text_43 ct_8_195 rc_51 ⟨Nat.le_of_ble_eq_true rfl, Nat.le_of_ble_eq_true rfl⟩ (Nat.le_of_ble_eq_true rfl) (Nat.le_of_ble_eq_true rfl) (c_rt0 tT gc) ?_
          refine gd_ist2 dX8_text_46 rfl ?_
          refine gd_ild2 dX8_text_47 ?_
          refine gd_if_lt_f 55 dX8_text_48 (by decide) (nI_pos (by omega)) ?_
          refine gd_icm1 dX8_text_51 ?_
          refine gd_ild2 dX8_text_52 ?_
          refine gd_isub dX8_text_53 ?_
          refine gd_iret dX8_text_54 rfl rfl ?_
          rfl
        · refine gd_ild1 dX9_text_0 ?_
          refine gd_ic0 dX9_text_1 ?_
          refine gd_sipush (v := nI 9999) dX9_text_2 (by decide) ?_
          refine gd_cS3i dX9_text_5 ct_9_79 ⟨Nat.le_of_ble_eq_true rfl, Nat.le_of_ble_eq_true rfl⟩ (Nat.le_of_ble_eq_true rfl) (Nat.le_of_ble_eq_true rfl) (m_in_t (m := 9999) (by omega) (by decide) _) ?_
          refine gd_if_ne_t 17 dX9_text_8 (by decide) (by decide) ?_
          refine gd_ald0 dX9_text_17 (by decide) ?_
          refine gd_getR (r := 74) dX9_text_18 fl_9_13 rfl rfl rfl (by decide) ?_
          refine gd_ic2 dX9_text_21 ?_
          refine gd_iald (n := 5) dX9_text_22 rfl (by decide) (by repeat' (first | with_reducible rfl | apply ni_add | apply ni_mul)) (by omega) ?_
          rw [show (hR (h5 h (nI n)) (fun j => tn (h.1 85 j)) (tn (h.1 72 14)) e1 K1 L1 G1).1 74 2 = nI (nX (ms h)) from i.mX]
          refine gd_bipush (v := nI 8) dX9_text_23 (by decide) ?_
          refine gd_icmp_ne_t 34 dX9_text_25 (by decide) (by exact fun z => absurd ((nI_eq (by omega) (by omega)).mp z) (by omega)) ?_
          exact m_tx0 (h := hR (h5 h (nI n)) (fun j => tn (h.1 85 j)) (tn (h.1 72 14)) e1 K1 L1 G1) ⟨tM.1, tM.2.1, tM.2.2⟩ gm
        · exact Inv.same hW_same (inv_rules i1 (fun j hj => by rw [sm.msE] at hj; exact fr2 j (by omega)))
      · obtain ⟨e1, K1, L1, G1, gc, a2, c2⟩ := oc h (h.1 53) (h.1 54) (h.1 55) tT
        obtain ⟨e2, R2, gm, b2, d2⟩ := om (aT (sI (hR (h5 h (nI n)) (fun j => tn (h.1 85 j)) (tn (h.1 72 14)) e1 K1 L1 G1) 51 (upd ((hR (h5 h (nI n)) (fun j => tn (h.1 85 j)) (tn (h.1 72 14)) e1 K1 L1 G1).1 51) 1 (nI 0))) (nX (ms h)) (nI k)) (h.1 80) (nX (ms h)) (nI k) ⟨tM.1, tM.2.1, tM.2.2⟩ i.mX (by omega)
        refine ⟨.int (nI (nX (ms h))), aT (sI (hR (h5 h (nI n)) (fun j => tn (h.1 85 j)) (tn (h.1 72 14)) e1 K1 L1 G1) 51 (upd ((hR (h5 h (nI n)) (fun j => tn (h.1 85 j)) (tn (h.1 72 14)) e1 K1 L1 G1).1 51) 1 (nI 0))) (nX (ms h)) (nI k), tEnd (hW (aT (sI (hR (h5 h (nI n)) (fun j => tn (h.1 85 j)) (tn (h.1 72 14)) e1 K1 L1 G1) 51 (upd ((hR (h5 h (nI n)) (fun j => tn (h.1 85 j)) (tn (h.1 72 14)) e1 K1 L1 G1).1 51) 1 (nI 0))) (nX (ms h)) (nI k)) (fun j => tn (h.1 85 j)) (tn (h.1 72 14)) e2 (-1) R2) (nX (ms h)) (nI k) (nI n), ?_, ?_, ?_, rfl, rfl⟩
        · refine gd_ild1 dX8_text_0 ?_
          refine gd_sipush (v := nI 10000) dX8_text_1 (by decide) ?_
          refine gd_cS2i dX8_text_4 ct_8_48 ⟨Nat.le_of_ble_eq_true rfl, Nat.le_of_ble_eq_true rfl⟩ (Nat.le_of_ble_eq_true rfl) (Nat.le_of_ble_eq_true rfl) (c_isBelow_t hk (by decide) _) ?_
          refine gd_if_ne_t 17 dX8_text_7 (by decide) (by decide) ?_
          refine gd_ald0 dX8_text_17 (by decide) ?_
          refine gd_getR (r := 1) dX8_text_18 fl_8_12 rfl rfl rfl (by decide) ?_
          refine gd_getR (r := 15) dX8_text_21 fl_8_188 rfl rfl rfl (by decide) ?_
          refine gd_getI dX8_text_24 fl_8_192 rfl rfl ?_
          rw [i.cX]
          refine gd_bipush (v := nI 8) dX8_text_27 (by decide) ?_
          refine gd_icmp_lt_t 39 dX8_text_29 (by decide) (by exact nI_lt (by omega) (by omega)) ?_
          refine gd_ald0 dX8_text_39 (by decide) ?_
          refine gd_getR (r := 51) dX8_text_40 fl_8_26 rfl rfl rfl (by decide) ?_
          refine gd_cV0i dX8_text_43 ct_8_195 rc_51 ⟨Nat.le_of_ble_eq_true rfl, Nat.le_of_ble_eq_true rfl⟩ (Nat.le_of_ble_eq_true rfl) (Nat.le_of_ble_eq_true rfl) (c_rt0 tT gc) ?_
          refine gd_ist2 dX8_text_46 rfl ?_
          refine gd_ild2 dX8_text_47 ?_
          refine gd_if_lt_t 55 dX8_text_48 (by decide) (by decide) ?_
          refine gd_ald0 dX8_text_55 (by decide) ?_
          refine gd_getR (r := 51) dX8_text_56 fl_8_26 rfl rfl rfl (by decide) ?_
          refine gd_ic0 dX8_text_59 ?_
          refine gd_putI dX8_text_60 fl_8_181 rfl rfl (fun _ _ _ e => by cases e; rfl) ?_
          refine gd_ald0 dX8_text_63 (by decide) ?_
          refine gd_getR (r := 1) dX8_text_64 fl_8_12 rfl rfl rfl (by decide) ?_
          refine gd_getR (r := 15) dX8_text_67 fl_8_188 rfl rfl rfl (by decide) ?_
          refine gd_ild1 dX8_text_70 ?_
          refine gd_ald0 dX8_text_71 (by decide) ?_
          refine gd_getR (r := 51) dX8_text_72 fl_8_26 rfl rfl rfl (by decide) ?_
          refine gd_cV2i dX8_text_75 ct_8_198 rc_15 ⟨Nat.le_of_ble_eq_true rfl, Nat.le_of_ble_eq_true rfl⟩ (Nat.le_of_ble_eq_true rfl) (Nat.le_of_ble_eq_true rfl) (c_addText (x := nX (ms h)) i.cX (by omega)) ?_
          refine gd_iret dX8_text_78 rfl rfl ?_
          rfl
        · refine gd_ild1 dX9_text_0 ?_
          refine gd_ic0 dX9_text_1 ?_
          refine gd_sipush (v := nI 9999) dX9_text_2 (by decide) ?_
          refine gd_cS3i dX9_text_5 ct_9_79 ⟨Nat.le_of_ble_eq_true rfl, Nat.le_of_ble_eq_true rfl⟩ (Nat.le_of_ble_eq_true rfl) (Nat.le_of_ble_eq_true rfl) (m_in_t (m := 9999) (by omega) (by decide) _) ?_
          refine gd_if_ne_t 17 dX9_text_8 (by decide) (by decide) ?_
          refine gd_ald0 dX9_text_17 (by decide) ?_
          refine gd_getR (r := 74) dX9_text_18 fl_9_13 rfl rfl rfl (by decide) ?_
          refine gd_ic2 dX9_text_21 ?_
          refine gd_iald (n := 5) dX9_text_22 rfl (by decide) (by repeat' (first | with_reducible rfl | apply ni_add | apply ni_mul)) (by omega) ?_
          rw [show (aT (sI (hR (h5 h (nI n)) (fun j => tn (h.1 85 j)) (tn (h.1 72 14)) e1 K1 L1 G1) 51 (upd ((hR (h5 h (nI n)) (fun j => tn (h.1 85 j)) (tn (h.1 72 14)) e1 K1 L1 G1).1 51) 1 (nI 0))) (nX (ms h)) (nI k)).1 74 2 = nI (nX (ms h)) from i.mX]
          refine gd_bipush (v := nI 8) dX9_text_23 (by decide) ?_
          refine gd_icmp_ne_t 34 dX9_text_25 (by decide) (by exact fun z => absurd ((nI_eq (by omega) (by omega)).mp z) (by omega)) ?_
          exact m_tx0 (h := aT (sI (hR (h5 h (nI n)) (fun j => tn (h.1 85 j)) (tn (h.1 72 14)) e1 K1 L1 G1) 51 (upd ((hR (h5 h (nI n)) (fun j => tn (h.1 85 j)) (tn (h.1 72 14)) e1 K1 L1 G1).1 51) 1 (nI 0))) (nX (ms h)) (nI k)) ⟨tM.1, tM.2.1, tM.2.2⟩ gm
        · refine inv_text i (x := nX (ms h)) (n := n) (v := k) (fr := nI k) (R := R2) rfl (by omega) hk rfl (by omega) n2 ?_ rfl rfl ?_ ?_ rfl ?_ rfl rfl ?_ ?_ rfl rfl rfl ?_ ?_ ?_ ?_ ?_ ?_
          · intro q hq
            exact rest_row q (by omega)
          · exact ⟨⟨rfl, rfl, Nat.zero_le _⟩, fun j hj => absurd hj (Nat.not_lt_zero j)⟩
          · exact i.s
          · show upd (h.1 74) 2 (h.1 74 2 + nI 1) = _; rw [i.mX, nI_add]
          · exact fun j hj => b2 j (by omega)
          · intro r hr
            have z := d2 r (Nat.zero_le _) hr
            rw [z.1, z.2.1, z.2.2.1, z.2.2.2]
            exact qr r (Nat.zero_le _) hr
          · exact fun j hj => by show va_cpy K1 (h.1 18) 0 (nX (ms h) * 6) 6 j = h.1 18 j; unfold va_cpy; rw [if_neg (by omega)]
          · exact fun j hj => by show va_cpy L1 (h.1 19) 0 (nX (ms h) * 6) 6 j = h.1 19 j; unfold va_cpy; rw [if_neg (by omega)]
          · exact fun j hj => by show va_cpy G1 (h.1 20) 0 (nX (ms h) * 6) 6 j = h.1 20 j; unfold va_cpy; rw [if_neg (by omega)]
          · exact fun r hr => by
              show va_cpy K1 (h.1 18) 0 (nX (ms h) * 6) 6 (6 * nX (ms h) + r) = _
              have y := c2 r (Nat.zero_le _) hr
              have z := d2 r (Nat.zero_le _) hr
              unfold va_cpy
              rw [if_pos (by omega), show 0 + (6 * nX (ms h) + r - nX (ms h) * 6) = r by omega]
              rw [z.1, z.2.1]; exact y.1
          · exact fun r hr => by
              show va_cpy L1 (h.1 19) 0 (nX (ms h) * 6) 6 (6 * nX (ms h) + r) = _
              have y := c2 r (Nat.zero_le _) hr
              have z := d2 r (Nat.zero_le _) hr
              unfold va_cpy
              rw [if_pos (by omega), show 0 + (6 * nX (ms h) + r - nX (ms h) * 6) = r by omega]
              rw [z.2.2.1]; exact y.2.1
          · exact fun r hr => by
              show va_cpy G1 (h.1 20) 0 (nX (ms h) * 6) 6 (6 * nX (ms h) + r) = _
              have y := c2 r (Nat.zero_le _) hr
              have z := d2 r (Nat.zero_le _) hr
              unfold va_cpy
              rw [if_pos (by omega), show 0 + (6 * nX (ms h) + r - nX (ms h) * 6) = r by omega]
              rw [z.2.2.2]; exact y.2.2
    · refine Pas.find (h1 := h) (h2 := hf (h) 1) (v := -1000000002) (w := (-1000000000 : Int32) - nI 2) 1 i (by decide) (by decide) (by decide) (Same.rf _) (Same.rf _) ?_ ?_
      · refine gd_ild1 dX8_text_0 ?_
        refine gd_sipush (v := nI 10000) dX8_text_1 (by decide) ?_
        refine gd_cS2i dX8_text_4 ct_8_48 ⟨Nat.le_of_ble_eq_true rfl, Nat.le_of_ble_eq_true rfl⟩ (Nat.le_of_ble_eq_true rfl) (Nat.le_of_ble_eq_true rfl) (c_isBelow_t hk (by decide) _) ?_
        refine gd_if_ne_t 17 dX8_text_7 (by decide) (by decide) ?_
        refine gd_ald0 dX8_text_17 (by decide) ?_
        refine gd_getR (r := 1) dX8_text_18 fl_8_12 rfl rfl rfl (by decide) ?_
        refine gd_getR (r := 15) dX8_text_21 fl_8_188 rfl rfl rfl (by decide) ?_
        refine gd_getI dX8_text_24 fl_8_192 rfl rfl ?_
        rw [i.cX]
        refine gd_bipush (v := nI 8) dX8_text_27 (by decide) ?_
        refine gd_icmp_lt_f 39 dX8_text_29 (by decide) (by exact nI_nlt (by omega) (by omega)) ?_
        refine gd_ald0 dX8_text_32 (by decide) ?_
        refine gd_ldc dX8_text_33 ld_8_70 ?_
        refine gd_cV1i dX8_text_35 ct_8_53 rc_0 ⟨Nat.le_of_ble_eq_true rfl, Nat.le_of_ble_eq_true rfl⟩ (Nat.le_of_ble_eq_true rfl) (Nat.le_of_ble_eq_true rfl) (c_f1 _) ?_
        refine gd_iret dX8_text_38 rfl rfl ?_
        rfl
      · refine gd_ild1 dX9_text_0 ?_
        refine gd_ic0 dX9_text_1 ?_
        refine gd_sipush (v := nI 9999) dX9_text_2 (by decide) ?_
        refine gd_cS3i dX9_text_5 ct_9_79 ⟨Nat.le_of_ble_eq_true rfl, Nat.le_of_ble_eq_true rfl⟩ (Nat.le_of_ble_eq_true rfl) (Nat.le_of_ble_eq_true rfl) (m_in_t (m := 9999) (by omega) (by decide) _) ?_
        refine gd_if_ne_t 17 dX9_text_8 (by decide) (by decide) ?_
        refine gd_ald0 dX9_text_17 (by decide) ?_
        refine gd_getR (r := 74) dX9_text_18 fl_9_13 rfl rfl rfl (by decide) ?_
        refine gd_ic2 dX9_text_21 ?_
        refine gd_iald (n := 5) dX9_text_22 rfl (by decide) (by repeat' (first | with_reducible rfl | apply ni_add | apply ni_mul)) (by omega) ?_
        rw [show (hf h 1).1 74 2 = nI (nX (ms h)) from i.mX]
        refine gd_bipush (v := nI 8) dX9_text_23 (by decide) ?_
        refine gd_icmp_ne_f 34 dX9_text_25 (by decide) (by rw [show nX (ms h) = 8 by omega]) ?_
        refine gd_ald0 dX9_text_28 (by decide) ?_
        refine gd_ic2 dX9_text_29 ?_
        refine gd_cV1i dX9_text_30 ct_9_97 rc_72 ⟨Nat.le_of_ble_eq_true rfl, Nat.le_of_ble_eq_true rfl⟩ (Nat.le_of_ble_eq_true rfl) (Nat.le_of_ble_eq_true rfl) (m_f1 _) ?_
        refine gd_iret dX9_text_33 rfl rfl ?_
        rfl
  · refine Pas.find (h1 := h) (h2 := hf (h) 0) (v := -1000000001) (w := (-1000000000 : Int32) - nI 1) 0 i (by decide) (by decide) (by decide) (Same.rf _) (Same.rf _) ?_ ?_
    · refine gd_ild1 dX8_text_0 ?_
      refine gd_sipush (v := nI 10000) dX8_text_1 (by decide) ?_
      refine gd_cS2i dX8_text_4 ct_8_48 ⟨Nat.le_of_ble_eq_true rfl, Nat.le_of_ble_eq_true rfl⟩ (Nat.le_of_ble_eq_true rfl) (Nat.le_of_ble_eq_true rfl) (c_isBelow_f ha _) ?_
      refine gd_if_ne_f 17 dX8_text_7 (by decide) (by decide) ?_
      refine gd_ald0 dX8_text_10 (by decide) ?_
      refine gd_ldc dX8_text_11 ld_8_52 ?_
      refine gd_cV1i dX8_text_13 ct_8_53 rc_0 ⟨Nat.le_of_ble_eq_true rfl, Nat.le_of_ble_eq_true rfl⟩ (Nat.le_of_ble_eq_true rfl) (Nat.le_of_ble_eq_true rfl) (c_f0 _) ?_
      refine gd_iret dX8_text_16 rfl rfl ?_
      rfl
    · refine gd_ild1 dX9_text_0 ?_
      refine gd_ic0 dX9_text_1 ?_
      refine gd_sipush (v := nI 9999) dX9_text_2 (by decide) ?_
      refine gd_cS3i dX9_text_5 ct_9_79 ⟨Nat.le_of_ble_eq_true rfl, Nat.le_of_ble_eq_true rfl⟩ (Nat.le_of_ble_eq_true rfl) (Nat.le_of_ble_eq_true rfl) (m_in_f (n := 10000) (by decide) (by decide) ha _) ?_
      refine gd_if_ne_f 17 dX9_text_8 (by decide) (by decide) ?_
      refine gd_ald0 dX9_text_11 (by decide) ?_
      refine gd_ic1 dX9_text_12 ?_
      refine gd_cV1i dX9_text_13 ct_9_97 rc_72 ⟨Nat.le_of_ble_eq_true rfl, Nat.le_of_ble_eq_true rfl⟩ (Nat.le_of_ble_eq_true rfl) (Nat.le_of_ble_eq_true rfl) (m_f0 _) ?_
      refine gd_iret dX9_text_16 rfl rfl ?_
      rfl
