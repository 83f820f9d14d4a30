theorem CR.t1 {h : Hp} {s : Nat → Nat → Int32} (q : CR h 1 s) : h.1 2 3 = s 0 0 := q.t
theorem CR.d1 {h : Hp} {s : Nat → Nat → Int32} (q : CR h 1 s) : h.1 2 4 = s 0 4 := q.d
theorem CR.n1 {h : Hp} {s : Nat → Nat → Int32} (q : CR h 1 s) : h.1 6 9 = s 0 1 := q.n
theorem CR.x1 {h : Hp} {s : Nat → Nat → Int32} (q : CR h 1 s) : h.1 15 5 = s 0 2 := q.x
theorem CR.o1 {h : Hp} {s : Nat → Nat → Int32} (q : CR h 1 s) : h.1 21 3 = s 0 3 := q.o
theorem CR.g1 {h : Hp} {s : Nat → Nat → Int32} (q : CR h 1 s) : ∀ c, c < 144 → h.1 3 c = s 1 c := q.g
theorem CR.c1 {h : Hp} {s : Nat → Nat → Int32} (q : CR h 1 s) : ∀ t, t < nT s → h.1 4 t = s 2 t := q.c
theorem CR.h1 {h : Hp} {s : Nat → Nat → Int32} (q : CR h 1 s) : ∀ i, i < 6 * nT s → h.1 5 i = s 3 i := q.h
theorem CR.h01 {h : Hp} {s : Nat → Nat → Int32} (q : CR h 1 s) : ∀ i, i < 96 → 6 * nT s ≤ i → h.1 5 i = nI 0 := q.h0
theorem CR.lk1 {h : Hp} {s : Nat → Nat → Int32} (q : CR h 1 s) : ∀ l, l < nN s → h.1 7 l = s 4 (9 * l) := q.lk
theorem CR.lt1 {h : Hp} {s : Nat → Nat → Int32} (q : CR h 1 s) : ∀ l, l < nN s → h.1 8 l = s 4 (9 * l + 1) := q.lt
theorem CR.lw1 {h : Hp} {s : Nat → Nat → Int32} (q : CR h 1 s) : ∀ l, l < nN s → h.1 9 l = s 4 (9 * l + 2) := q.lw
theorem CR.ld1 {h : Hp} {s : Nat → Nat → Int32} (q : CR h 1 s) : ∀ l, l < nN s → h.1 10 l = s 4 (9 * l + 3) := q.ld
theorem CR.lr1 {h : Hp} {s : Nat → Nat → Int32} (q : CR h 1 s) : ∀ l, l < nN s → h.1 11 l = s 4 (9 * l + 4) := q.lr
theorem CR.lq1 {h : Hp} {s : Nat → Nat → Int32} (q : CR h 1 s) : ∀ l, l < nN s → h.1 12 l = s 4 (9 * l + 5) := q.lq
theorem CR.lf1 {h : Hp} {s : Nat → Nat → Int32} (q : CR h 1 s) : ∀ l, l < nN s → h.1 13 l = s 4 (9 * l + 7) := q.lf
theorem CR.le1 {h : Hp} {s : Nat → Nat → Int32} (q : CR h 1 s) : ∀ l, l < nN s → h.1 14 l = s 4 (9 * l + 8) := q.le
theorem CR.lo1 {h : Hp} {s : Nat → Nat → Int32} (q : CR h 1 s) : h.1 6 8 = nI (lostS s) := q.lo
theorem CR.f1 {h : Hp} {s : Nat → Nat → Int32} (q : CR h 1 s) : ∀ t, t < nX s → h.1 16 t = s 5 (2 * t) := q.f
theorem CR.c61 {h : Hp} {s : Nat → Nat → Int32} (q : CR h 1 s) : ∀ t, t < nX s → h.1 17 t = s 5 (2 * t + 1) := q.c6
theorem CR.rk1 {h : Hp} {s : Nat → Nat → Int32} (q : CR h 1 s) : ∀ t, t < nX s → ∀ r, r < cR s t → h.1 18 (6 * t + r) = keyI (s 6 (4 * (6 * t + r))) (s 6 (4 * (6 * t + r) + 1)) := q.rk
theorem CR.rl1 {h : Hp} {s : Nat → Nat → Int32} (q : CR h 1 s) : ∀ t, t < nX s → ∀ r, r < cR s t → h.1 19 (6 * t + r) = s 6 (4 * (6 * t + r) + 2) := q.rl
theorem CR.rh1 {h : Hp} {s : Nat → Nat → Int32} (q : CR h 1 s) : ∀ t, t < nX s → ∀ r, r < cR s t → h.1 20 (6 * t + r) = s 6 (4 * (6 * t + r) + 3) := q.rh
theorem CR.ks1 {h : Hp} {s : Nat → Nat → Int32} (q : CR h 1 s) : ∀ k, k < nO s → h.1 22 k = s 7 (3 * k) := q.ks
theorem CR.km1 {h : Hp} {s : Nat → Nat → Int32} (q : CR h 1 s) : ∀ k, k < nO s → h.1 23 k = s 7 (3 * k + 1) := q.km
theorem CR.kd1 {h : Hp} {s : Nat → Nat → Int32} (q : CR h 1 s) : ∀ k, k < nO s → h.1 24 k = s 7 (3 * k + 2) := q.kd
theorem ms_r0 {h : Hp} {i : Nat} (hi : i < 5) : ms h 0 i = h.1 74 i := ms_at (k := 0) hi
theorem ms_r1 {h : Hp} {i : Nat} (hi : i < 144) : ms h 1 i = h.1 75 i := ms_at (k := 1) hi
theorem ms_r2 {h : Hp} {i : Nat} (hi : i < 16) : ms h 2 i = h.1 76 i := ms_at (k := 2) hi
theorem ms_r3 {h : Hp} {i : Nat} (hi : i < 96) : ms h 3 i = h.1 77 i := ms_at (k := 3) hi
theorem ms_r4 {h : Hp} {i : Nat} (hi : i < 270) : ms h 4 i = h.1 78 i := ms_at (k := 4) hi
theorem ms_r5 {h : Hp} {i : Nat} (hi : i < 16) : ms h 5 i = h.1 79 i := ms_at (k := 5) hi
theorem ms_r6 {h : Hp} {i : Nat} (hi : i < 192) : ms h 6 i = h.1 80 i := ms_at (k := 6) hi
theorem ms_r7 {h : Hp} {i : Nat} (hi : i < 60) : ms h 7 i = h.1 81 i := ms_at (k := 7) hi
theorem Inv.cT {h : Hp} (i : Inv h) : h.1 2 3 = nI (nT (ms h)) := by rw [← (i.w.t).1]; exact i.c.t
theorem Inv.mT {h : Hp} (i : Inv h) : h.1 74 0 = nI (nT (ms h)) := by rw [← (i.w.t).1, ms_r0 (by decide)]
theorem Inv.lT {h : Hp} (i : Inv h) : nT (ms h) ≤ 16 := (i.w.t).2
theorem Inv.cN {h : Hp} (i : Inv h) : h.1 6 9 = nI (nN (ms h)) := by rw [← (i.w.n).1]; exact i.c.n
theorem Inv.mN {h : Hp} (i : Inv h) : h.1 74 1 = nI (nN (ms h)) := by rw [← (i.w.n).1, ms_r0 (by decide)]
theorem Inv.lN {h : Hp} (i : Inv h) : nN (ms h) ≤ 30 := (i.w.n).2
theorem Inv.cX {h : Hp} (i : Inv h) : h.1 15 5 = nI (nX (ms h)) := by rw [← (i.w.x).1]; exact i.c.x
theorem Inv.mX {h : Hp} (i : Inv h) : h.1 74 2 = nI (nX (ms h)) := by rw [← (i.w.x).1, ms_r0 (by decide)]
theorem Inv.lX {h : Hp} (i : Inv h) : nX (ms h) ≤ 8 := (i.w.x).2
theorem Inv.cO {h : Hp} (i : Inv h) : h.1 21 3 = nI (nO (ms h)) := by rw [← (i.w.o).1]; exact i.c.o
theorem Inv.mO {h : Hp} (i : Inv h) : h.1 74 3 = nI (nO (ms h)) := by rw [← (i.w.o).1, ms_r0 (by decide)]
theorem Inv.lO {h : Hp} (i : Inv h) : nO (ms h) ≤ 20 := (i.w.o).2
theorem Inv.cD {h : Hp} (i : Inv h) : h.1 2 4 = nI (nD (ms h)) := by rw [← (i.w.d).1]; exact i.c.d
theorem Inv.mD {h : Hp} (i : Inv h) : h.1 74 4 = nI (nD (ms h)) := by rw [← (i.w.d).1, ms_r0 (by decide)]
theorem Inv.lD {h : Hp} (i : Inv h) : nD (ms h) ≤ 9999 := (i.w.d).2

def sR (s : Nat → Nat → Int32) (k : Nat) (f : Nat → Int32) : Nat → Nat → Int32 := fun j => if j = k then f else s j
theorem ms_upd {h : Hp} {k c : Nat} {v : Int32} (hc : c < szR k) (hk : k < 8) : ms (sI h (74 + k) (upd (h.1 (74 + k)) c v)) = sR (ms h) k (upd (ms h k) c v) := by
  funext j i
  unfold ms sR
  by_cases hj : j = k
  · subst hj
    rw [if_pos rfl, sI_s, upd_at, upd_at]
    by_cases hi : i = c
    · subst hi; rw [if_pos rfl, if_pos hc, if_pos rfl]
    · rw [if_neg hi, if_neg hi]
  · rw [if_neg hj, sI_n (by omega)]
theorem ms_si {h : Hp} {k : Nat} {f : Nat → Int32} (hk : k < 74 ∨ 82 ≤ k) : ms (sI h k f) = ms h := by
  funext j i
  unfold ms
  by_cases hj : j < 8
  · rw [sI_n (by omega)]
  · have : szR j = 0 := by unfold szR; rw [List.getD_eq_getElem?_getD, List.getElem?_eq_none (by simp; omega)]; rfl
    simp [this]
theorem ks_si {h : Hp} {k : Nat} {f : Nat → Int32} (hk : k ≠ 94) : ks (sI h k f) = ks h := by
  funext j i
  unfold ks
  rw [sI_n (Ne.symm hk)]
def trR (k : Nat) (f : Nat → Int32) : Nat → Int32 := fun i => if i < szR k then f i else 0
theorem trR_at {k i : Nat} {f : Nat → Int32} (hi : i < szR k) : trR k f i = f i := if_pos hi
theorem ms_set {h : Hp} (k : Nat) {f : Nat → Int32} (hk : k < 8) : ms (sI h (74 + k) f) = sR (ms h) k (trR k f) := by
  funext j i
  unfold ms sR trR
  by_cases hj : j = k
  · subst hj
    rw [if_pos rfl, sI_s]
  · rw [if_neg hj, sI_n (by omega)]
/-- only the world of now has changed -/
theorem inv_world {h h' : Hp} (i : Inv h) (e : ∀ k, (k = 0 ∨ (27 ≤ k ∧ k ≤ 73) ∨ (82 ≤ k ∧ k ≤ 94)) → h'.1 k = h.1 k) (e2 : h'.2 = h.2) (w : WF (ms h')) (c : CR h' 1 (ms h')) : Inv h' := by
  have ek : ks h' = ks h := by funext j a; unfold ks; rw [e 94 (by omega)]
  refine ⟨w, c, ⟨?_, ?_, ?_⟩, ?_, ⟨?_, ?_⟩, ⟨?_, ?_, ?_, ?_, ?_⟩, ?_⟩
  · rw [e 0 (by omega)]; exact i.k.z
  · rw [e 0 (by omega), e 72 (by omega)]; exact i.k.e
  · rw [e 0 (by omega), ek]; exact fun z => ⟨(i.k.k z).1, (i.k.k z).2.same (fun a h1 h2 => e _ (by omega))⟩
  · rw [e 73 (by omega), e 71 (by omega)]; exact i.f
  · rw [e 51 (by omega), e 72 (by omega)]; exact i.p.n
  · rw [e 72 (by omega), e 52 (by omega), e 85 (by omega)]; exact i.p.b
  · rw [e 58 (by omega), e 90 (by omega)]; exact i.s.w
  · rw [e 59 (by omega), e 91 (by omega)]; exact i.s.z
  · rw [e 91 (by omega)]; exact i.s.n
  · rw [e 90 (by omega)]; exact i.s.v
  · rw [e2]; exact i.s.x
  · unfold scL; rw [e2]; exact i.l

set_option maxHeartbeats 1000000 in
theorem p_ground {h : Hp} (i : Inv h) (a b : Int32) : Pas mX8_ground mX9_ground [.ref 0, .int a, .int b, .null] [.ref 72, .int a, .int b, .null] h := by
  rcases rng a 144 (by decide) with ⟨c, hc, rfl⟩ | ha
  · rcases rng b 3 (by decide) with ⟨v, hv, rfl⟩ | hb
    · refine ⟨.int (ms h 1 c), sI h 3 (upd (h.1 3) c (nI v)), sI (sI h 3 (upd (h.1 3) c (nI v))) 75 (upd (h.1 75) c (nI v)), ?_, ?_, ?_, rfl, rfl⟩
      · refine gd_ild1 dX8_ground_0 ?_
        refine gd_sipush (v := nI 144) dX8_ground_1 (by decide) ?_
        refine gd_cS2i dX8_ground_4 ct_8_48 ⟨Nat.le_of_ble_eq_true rfl, Nat.le_of_ble_eq_true rfl⟩ (Nat.le_of_ble_eq_true rfl) (Nat.le_of_ble_eq_true rfl) (c_isBelow_t hc (by decide) _) ?_
        refine gd_if_eq_f 18 dX8_ground_7 (by decide) (by decide) ?_
        refine gd_ild2 dX8_ground_10 ?_
        refine gd_ic3 dX8_ground_11 ?_
        refine gd_cS2i dX8_ground_12 ct_8_48 ⟨Nat.le_of_ble_eq_true rfl, Nat.le_of_ble_eq_true rfl⟩ (Nat.le_of_ble_eq_true rfl) (Nat.le_of_ble_eq_true rfl) (c_isBelow_t hv (by decide) _) ?_
        refine gd_if_ne_t 25 dX8_ground_15 (by decide) (by decide) ?_
        refine gd_ald0 dX8_ground_25 (by decide) ?_
        refine gd_getR (r := 1) dX8_ground_26 fl_8_12 rfl rfl rfl (by decide) ?_
        refine gd_getR (r := 2) dX8_ground_29 fl_8_57 rfl rfl rfl (by decide) ?_
        refine gd_getR (r := 3) dX8_ground_32 fl_8_61 rfl rfl rfl (by decide) ?_
        refine gd_ild1 dX8_ground_35 ?_
        refine gd_iald (n := 144) dX8_ground_36 rfl (by decide) (by repeat' (first | with_reducible rfl | apply ni_add | apply ni_mul)) (by omega) ?_
        refine gd_ist3 dX8_ground_37 rfl ?_
        refine gd_ald0 dX8_ground_38 (by decide) ?_
        refine gd_getR (r := 1) dX8_ground_39 fl_8_12 rfl rfl rfl (by decide) ?_
        refine gd_getR (r := 2) dX8_ground_42 fl_8_57 rfl rfl rfl (by decide) ?_
        refine gd_getR (r := 3) dX8_ground_45 fl_8_61 rfl rfl rfl (by decide) ?_
        refine gd_ild1 dX8_ground_48 ?_
        refine gd_ild2 dX8_ground_49 ?_
        refine gd_iast (n := 144) dX8_ground_50 rfl (by decide) (by repeat' (first | with_reducible rfl | apply ni_add | apply ni_mul)) (by omega) ?_
        refine gd_ild3 dX8_ground_51 ?_
        refine gd_iret dX8_ground_52 rfl rfl ?_
        rw [i.c.g1 c hc]
      · refine gd_ild1 dX9_ground_0 ?_
        refine gd_cS1i dX9_ground_1 ct_9_93 ⟨Nat.le_of_ble_eq_true rfl, Nat.le_of_ble_eq_true rfl⟩ (Nat.le_of_ble_eq_true rfl) (Nat.le_of_ble_eq_true rfl) (m_isCell_t hc _) ?_
        refine gd_if_eq_f 16 dX9_ground_4 (by decide) (by decide) ?_
        refine gd_ild2 dX9_ground_7 ?_
        refine gd_ic0 dX9_ground_8 ?_
        refine gd_ic2 dX9_ground_9 ?_
        refine gd_cS3i dX9_ground_10 ct_9_79 ⟨Nat.le_of_ble_eq_true rfl, Nat.le_of_ble_eq_true rfl⟩ (Nat.le_of_ble_eq_true rfl) (Nat.le_of_ble_eq_true rfl) (m_in_t (m := 2) (by omega) (by decide) _) ?_
        refine gd_if_ne_t 22 dX9_ground_13 (by decide) (by decide) ?_
        refine gd_ald0 dX9_ground_22 (by decide) ?_
        refine gd_getR (r := 75) dX9_ground_23 fl_9_16 rfl rfl rfl (by decide) ?_
        refine gd_ild1 dX9_ground_26 ?_
        refine gd_iald (n := 144) dX9_ground_27 rfl (by decide) (by repeat' (first | with_reducible rfl | apply ni_add | apply ni_mul)) (by omega) ?_
        refine gd_ist3 dX9_ground_28 rfl ?_
        refine gd_ald0 dX9_ground_29 (by decide) ?_
        refine gd_getR (r := 75) dX9_ground_30 fl_9_16 rfl rfl rfl (by decide) ?_
        refine gd_ild1 dX9_ground_33 ?_
        refine gd_ild2 dX9_ground_34 ?_
        refine gd_iast (n := 144) dX9_ground_35 rfl (by decide) (by repeat' (first | with_reducible rfl | apply ni_add | apply ni_mul)) (by omega) ?_
        refine gd_ild3 dX9_ground_36 ?_
        refine gd_iret dX9_ground_37 rfl rfl ?_
        rw [ms_r1 hc]; rfl
      · have em : ms (sI (sI h 3 (upd (h.1 3) c (nI v))) 75 (upd (h.1 75) c (nI v))) = sR (ms h) 1 (upd (ms h 1) c (nI v)) := by
          have := ms_upd (h := sI h 3 (upd (h.1 3) c (nI v))) (k := 1) (c := c) (v := nI v) hc (by decide)
          rw [ms_si (h := h) (k := 3) (Or.inl (by decide))] at this
          exact this
        refine inv_world i (fun k hk => by rw [sI_n (by omega), sI_n (by omega)]) rfl ?_ ?_
        · rw [em]
          exact ⟨i.w.t, i.w.n, i.w.x, i.w.o, i.w.d, (fun j hj => by
            show ∃ g, g < 3 ∧ upd (ms h 1) c (nI v) j = nI g
            rw [upd_at]; split
            · exact ⟨v, hv, rfl⟩
            · exact i.w.g j hj), i.w.c, i.w.h, i.w.l, i.w.f, i.w.c6, i.w.r, i.w.k⟩
        · rw [em]
          exact ⟨i.c.t, i.c.d, i.c.n, i.c.x, i.c.o, (fun j hj => by
            show upd (h.1 3) c (nI v) j = upd (ms h 1) c (nI v) j
            rw [upd_at, upd_at, i.c.g1 j hj]), i.c.c, i.c.h, i.c.h0, i.c.lk, i.c.lt, i.c.lw, i.c.ld, i.c.lr, i.c.lq, i.c.lf, i.c.le, i.c.lo, i.c.f, i.c.c6, i.c.rk, i.c.rl, i.c.rh, i.c.ks, i.c.km, i.c.kd⟩
    · refine Pas.find (h1 := h) (h2 := hf h 0) (v := -1000000001) (w := (-1000000000 : Int32) - nI 1) 0 i (by decide) (by decide) (by decide) (Same.rf _) (Same.rf _) ?_ ?_
      · refine gd_ild1 dX8_ground_0 ?_
        refine gd_sipush (v := nI 144) dX8_ground_1 (by decide) ?_
        refine gd_cS2i dX8_ground_4 ct_8_48 ⟨Nat.le_of_ble_eq_true rfl, Nat.le_of_ble_eq_true rfl⟩ (Nat.le_of_ble_eq_true rfl) (Nat.le_of_ble_eq_true rfl) (c_isBelow_t hc (by decide) _) ?_
        refine gd_if_eq_f 18 dX8_ground_7 (by decide) (by decide) ?_
        refine gd_ild2 dX8_ground_10 ?_
        refine gd_ic3 dX8_ground_11 ?_
        refine gd_cS2i dX8_ground_12 ct_8_48 ⟨Nat.le_of_ble_eq_true rfl, Nat.le_of_ble_eq_true rfl⟩ (Nat.le_of_ble_eq_true rfl) (Nat.le_of_ble_eq_true rfl) (c_isBelow_f hb _) ?_
        refine gd_if_ne_f 25 dX8_ground_15 (by decide) (by decide) ?_
        refine gd_ald0 dX8_ground_18 (by decide) ?_
        refine gd_ldc dX8_ground_19 ld_8_52 ?_
        refine gd_cV1i dX8_ground_21 ct_8_53 rc_0 ⟨Nat.le_of_ble_eq_true rfl, Nat.le_of_ble_eq_true rfl⟩ (Nat.le_of_ble_eq_true rfl) (Nat.le_of_ble_eq_true rfl) (c_f0 _) ?_
        refine gd_iret dX8_ground_24 rfl rfl ?_
        rfl
      · refine gd_ild1 dX9_ground_0 ?_
        refine gd_cS1i dX9_ground_1 ct_9_93 ⟨Nat.le_of_ble_eq_true rfl, Nat.le_of_ble_eq_true rfl⟩ (Nat.le_of_ble_eq_true rfl) (Nat.le_of_ble_eq_true rfl) (m_isCell_t hc _) ?_
        refine gd_if_eq_f 16 dX9_ground_4 (by decide) (by decide) ?_
        refine gd_ild2 dX9_ground_7 ?_
        refine gd_ic0 dX9_ground_8 ?_
        refine gd_ic2 dX9_ground_9 ?_
        refine gd_cS3i dX9_ground_10 ct_9_79 ⟨Nat.le_of_ble_eq_true rfl, Nat.le_of_ble_eq_true rfl⟩ (Nat.le_of_ble_eq_true rfl) (Nat.le_of_ble_eq_true rfl) (m_in_f (n := 3) (by decide) (by decide) hb _) ?_
        refine gd_if_ne_f 22 dX9_ground_13 (by decide) (by decide) ?_
        refine gd_ald0 dX9_ground_16 (by decide) ?_
        refine gd_ic1 dX9_ground_17 ?_
        refine gd_cV1i dX9_ground_18 ct_9_97 rc_72 ⟨Nat.le_of_ble_eq_true rfl, Nat.le_of_ble_eq_true rfl⟩ (Nat.le_of_ble_eq_true rfl) (Nat.le_of_ble_eq_true rfl) (m_f0 _) ?_
        refine gd_iret dX9_ground_21 rfl rfl ?_
        rfl
  · refine Pas.find (h1 := h) (h2 := hf h 0) (v := -1000000001) (w := (-1000000000 : Int32) - nI 1) 0 i (by decide) (by decide) (by decide) (Same.rf _) (Same.rf _) ?_ ?_
    · refine gd_ild1 dX8_ground_0 ?_
      refine gd_sipush (v := nI 144) dX8_ground_1 (by decide) ?_
      refine gd_cS2i dX8_ground_4 ct_8_48 ⟨Nat.le_of_ble_eq_true rfl, Nat.le_of_ble_eq_true rfl⟩ (Nat.le_of_ble_eq_true rfl) (Nat.le_of_ble_eq_true rfl) (c_isBelow_f ha _) ?_
      refine gd_if_eq_t 18 dX8_ground_7 (by decide) (by decide) ?_
      refine gd_ald0 dX8_ground_18 (by decide) ?_
      refine gd_ldc dX8_ground_19 ld_8_52 ?_
      refine gd_cV1i dX8_ground_21 ct_8_53 rc_0 ⟨Nat.le_of_ble_eq_true rfl, Nat.le_of_ble_eq_true rfl⟩ (Nat.le_of_ble_eq_true rfl) (Nat.le_of_ble_eq_true rfl) (c_f0 _) ?_
      refine gd_iret dX8_ground_24 rfl rfl ?_
      rfl
    · refine gd_ild1 dX9_ground_0 ?_
      refine gd_cS1i dX9_ground_1 ct_9_93 ⟨Nat.le_of_ble_eq_true rfl, Nat.le_of_ble_eq_true rfl⟩ (Nat.le_of_ble_eq_true rfl) (Nat.le_of_ble_eq_true rfl) (m_isCell_f ha _) ?_
      refine gd_if_eq_t 16 dX9_ground_4 (by decide) (by decide) ?_
      refine gd_ald0 dX9_ground_16 (by decide) ?_
      refine gd_ic1 dX9_ground_17 ?_
      refine gd_cV1i dX9_ground_18 ct_9_97 rc_72 ⟨Nat.le_of_ble_eq_true rfl, Nat.le_of_ble_eq_true rfl⟩ (Nat.le_of_ble_eq_true rfl) (Nat.le_of_ble_eq_true rfl) (m_f0 _) ?_
      refine gd_iret dX9_ground_21 rfl rfl ?_
      rfl
