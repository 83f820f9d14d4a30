theorem upd_same {f : Nat → Int32} {k : Nat} {v : Int32} (e : f k = v) : upd f k v = f := by
  funext j; rw [upd_at]; split
  · rename_i h; rw [h, e]
  · rfl
theorem updL_same {f : Nat → Int64} {k : Nat} {v : Int64} (e : f k = v) : vp_updL f k v = f := by
  funext j; rw [updL_at]; split
  · rename_i h; rw [h, e]
  · rfl
theorem bset_flip {p q : Nat → Bool} {n l : Nat} (hl : l < n) (h1 : ∀ j, j < n → j ≠ l → q j = p j) (h2 : q l = !(p l)) : bset p n ^^^ 2 ^ l = bset q n := by
  apply Nat.eq_of_testBit_eq
  intro j
  rw [Nat.testBit_xor, Nat.testBit_two_pow, bset_bit, bset_bit]
  by_cases e : j = l
  · subst e; simp [hl, h2]
  · by_cases hj : j < n
    · rw [h1 j hj e]; simp [hj, Ne.symm e]
    · simp [hj, Ne.symm e]
set_option maxHeartbeats 1000000 in
theorem p_lose {h : Hp} (i : Inv h) (a v : Int32) (hv : v = nI 0 ∨ v = nI 1) : Pas mX8_lose mX9_lose [.ref 0, .int a, .int v] [.ref 72, .int a, .int v, .null, .null] h := by
  have lN := i.lN
  rcases rng a (nN (ms h)) (by omega) with ⟨l, hl, rfl⟩ | ha
  · rcases hv with rfl | rfl
    · by_cases hn1 : ms h 4 (9 * l + 6) = nI 1
      · have hm6 : h.1 78 (9 * l + 6) = nI 1 := by rw [← ms_r4 (by omega)]; exact hn1
        refine ⟨.int (nI 1), sI h 6 (upd (h.1 6) 8 (nI (lostS (ms h) ^^^ 2 ^ l))), sI (sI h 6 (upd (h.1 6) 8 (nI (lostS (ms h) ^^^ 2 ^ l)))) 78 (upd (h.1 78) (9 * l + 6) (nI 0)), ?_, ?_, ?_, rfl, rfl⟩
        · refine gd_ald0 dX8_lose_0 (by decide) ?_
          refine gd_ild1 dX8_lose_1 ?_
          refine gd_cV1i dX8_lose_2 ct_8_142 rc_0 ⟨Nat.le_of_ble_eq_true rfl, Nat.le_of_ble_eq_true rfl⟩ (Nat.le_of_ble_eq_true rfl) (Nat.le_of_ble_eq_true rfl) (c_isLetter_t i.w i.c hl) ?_
          refine gd_if_ne_t 15 dX8_lose_5 (by decide) (by decide) ?_
          refine gd_ald0 dX8_lose_15 (by decide) ?_
          refine gd_getR (r := 1) dX8_lose_16 fl_8_12 rfl rfl rfl (by decide) ?_
          refine gd_getR (r := 6) dX8_lose_19 fl_8_100 rfl rfl rfl (by decide) ?_
          refine gd_ild1 dX8_lose_22 ?_
          refine gd_cV1i dX8_lose_23 ct_8_152 rc_6 ⟨Nat.le_of_ble_eq_true rfl, Nat.le_of_ble_eq_true rfl⟩ (Nat.le_of_ble_eq_true rfl) (Nat.le_of_ble_eq_true rfl) (c_isLost i.w i.c hl) ?_
          rw [bi_dt hn1]
          refine gd_ild2 dX8_lose_26 ?_
          refine gd_icmp_ne_t 32 dX8_lose_27 (by decide) (by decide) ?_
          refine gd_ald0 dX8_lose_32 (by decide) ?_
          refine gd_getR (r := 1) dX8_lose_33 fl_8_12 rfl rfl rfl (by decide) ?_
          refine gd_getR (r := 6) dX8_lose_36 fl_8_100 rfl rfl rfl (by decide) ?_
          refine gd_dupr (by decide) dX8_lose_39 ?_
          refine gd_getI dX8_lose_40 fl_8_155 rfl rfl ?_
          refine gd_ic1 dX8_lose_43 ?_
          refine gd_ild1 dX8_lose_44 ?_
          refine gd_ishl dX8_lose_45 ?_
          refine gd_ixor dX8_lose_46 ?_
          rw [i.c.lo1, shl_nI (by omega), xor_nI]
          refine gd_putI dX8_lose_47 fl_8_155 rfl rfl (fun _ _ _ e => by cases e; rfl) ?_
          refine gd_ic1 dX8_lose_50 ?_
          refine gd_iret dX8_lose_51 rfl rfl ?_
          rfl
        · refine gd_ald0 dX9_lose_0 (by decide) ?_
          refine gd_ild1 dX9_lose_1 ?_
          refine gd_cV1i dX9_lose_2 ct_9_113 rc_72 ⟨Nat.le_of_ble_eq_true rfl, Nat.le_of_ble_eq_true rfl⟩ (Nat.le_of_ble_eq_true rfl) (Nat.le_of_ble_eq_true rfl) (m_isLetter_t (by exact i.w) hl) ?_
          refine gd_if_ne_t 14 dX9_lose_5 (by decide) (by decide) ?_
          refine gd_ild2 dX9_lose_14 ?_
          refine gd_if_eq_t 22 dX9_lose_15 (by decide) (by decide) ?_
          refine gd_ic0 dX9_lose_22 ?_
          refine gd_ist3 dX9_lose_23 rfl ?_
          refine gd_ald0 dX9_lose_24 (by decide) ?_
          refine gd_ild1 dX9_lose_25 ?_
          refine gd_bipush (v := nI 6) dX9_lose_26 (by decide) ?_
          refine gd_cV2i dX9_lose_28 ct_9_120 rc_72 ⟨Nat.le_of_ble_eq_true rfl, Nat.le_of_ble_eq_true rfl⟩ (Nat.le_of_ble_eq_true rfl) (Nat.le_of_ble_eq_true rfl) (m_its (l := l) (w := 6) (by omega) (by decide) _) ?_
          rw [show (sI h 6 (upd (h.1 6) 8 (nI (lostS (ms h) ^^^ 2 ^ l)))).1 78 (9 * l + 6) = nI 1 from hm6]
          refine gd_ild3 dX9_lose_31 ?_
          refine gd_icmp_eq_f 39 dX9_lose_32 (by decide) (by decide) ?_
          refine gd_ic1 dX9_lose_35 ?_
          refine gd_goto 40 dX9_lose_36 (by decide) ?_
          refine gd_ist4 dX9_lose_40 rfl ?_
          refine gd_ald0 dX9_lose_42 (by decide) ?_
          refine gd_getR (r := 78) dX9_lose_43 fl_9_25 rfl rfl rfl (by decide) ?_
          refine gd_bipush (v := nI 9) dX9_lose_46 (by decide) ?_
          refine gd_ild1 dX9_lose_48 ?_
          refine gd_imul dX9_lose_49 ?_
          refine gd_bipush (v := nI 6) dX9_lose_50 (by decide) ?_
          refine gd_iadd dX9_lose_52 ?_
          refine gd_ild3 dX9_lose_53 ?_
          refine gd_iast (n := 270) dX9_lose_54 rfl (by decide) (by repeat' (first | with_reducible rfl | apply ni_add | apply ni_mul)) (by omega) ?_
          refine gd_ild4 dX9_lose_55 ?_
          refine gd_iret dX9_lose_57 rfl rfl ?_
          rfl
        · have em : ms (sI (sI h 6 (upd (h.1 6) 8 (nI (lostS (ms h) ^^^ 2 ^ l)))) 78 (upd (h.1 78) (9 * l + 6) (nI 0))) = sR (ms h) 4 (trR 4 (upd (h.1 78) (9 * l + 6) (nI 0))) := by
            rw [ms_set 4 (by decide), ms_si (Or.inl (by decide))]
          skip
          refine inv_world i (fun k hk => by rw [sI_n (by omega), sI_n (by omega)]) rfl ?_ ?_
          · rw [em]
            refine ⟨i.w.t, i.w.n, i.w.x, i.w.o, i.w.d, i.w.g, i.w.c, i.w.h, ?_, i.w.f, i.w.c6, i.w.r, i.w.k⟩
            · intro j hj
              have hj : j < nN (ms h) := hj
              obtain ⟨k, t, x, d, r, q, z, y, a1, a2, a3, a4, a5, a6, a7, a8, b⟩ := i.w.l j hj
              have key : ∀ f, f < 9 → f ≠ 6 → (sR (ms h) 4 (trR 4 (upd (h.1 78) (9 * l + 6) (nI 0)))) 4 (9 * j + f) = ms h 4 (9 * j + f) := fun f h1 h2 => by
                show trR 4 (upd (h.1 78) (9 * l + 6) (nI 0)) (9 * j + f) = _
                rw [trR_at (show 9 * j + f < 270 by omega), upd_at, if_neg (by omega), ms_r4 (by omega)]
              unfold LetOK
              rw [show (sR (ms h) 4 (trR 4 (upd (h.1 78) (9 * l + 6) (nI 0)))) 4 (9 * j) = ms h 4 (9 * j) from key 0 (by decide) (by decide), key 1 (by decide) (by decide), key 2 (by decide) (by decide), key 3 (by decide) (by decide), key 4 (by decide) (by decide), key 5 (by decide) (by decide), key 7 (by decide) (by decide), key 8 (by decide) (by decide)]
              by_cases e : j = l
              · subst e
                refine ⟨k, t, x, d, r, q, 0, y, a1, a2, a3, a4, a5, a6, ?_, a8, b.1, b.2.1, b.2.2.1, b.2.2.2.1, b.2.2.2.2.1, b.2.2.2.2.2.1, by omega, b.2.2.2.2.2.2.2⟩
                show trR 4 (upd (h.1 78) (9 * j + 6) (nI 0)) (9 * j + 6) = _
                rw [trR_at (show 9 * j + 6 < 270 by omega), upd_at, if_pos rfl]
              · refine ⟨k, t, x, d, r, q, z, y, a1, a2, a3, a4, a5, a6, ?_, a8, b⟩
                show trR 4 (upd (h.1 78) (9 * l + 6) (nI 0)) (9 * j + 6) = _
                rw [trR_at (show 9 * j + 6 < 270 by omega), upd_at, if_neg (by omega), ← ms_r4 (by omega)]
                exact a7
          · rw [em]
            refine ⟨i.c.t, i.c.d, i.c.n, i.c.x, i.c.o, i.c.g, i.c.c, i.c.h, i.c.h0, ?_, ?_, ?_, ?_, ?_, ?_, ?_, ?_, ?_, i.c.f, i.c.c6, i.c.rk, i.c.rl, i.c.rh, i.c.ks, i.c.km, i.c.kd⟩
            · intro j hj
              have hj : j < nN (ms h) := hj
              show h.1 7 j = trR 4 (upd (h.1 78) (9 * l + 6) (nI 0)) (9 * j)
              rw [trR_at (show 9 * j < 270 by omega), upd_at, if_neg (by omega), ← ms_r4 (by omega)]
              exact i.c.lk1 j hj
            · intro j hj
              have hj : j < nN (ms h) := hj
              show h.1 8 j = trR 4 (upd (h.1 78) (9 * l + 6) (nI 0)) (9 * j + 1)
              rw [trR_at (show 9 * j + 1 < 270 by omega), upd_at, if_neg (by omega), ← ms_r4 (by omega)]
              exact i.c.lt1 j hj
            · intro j hj
              have hj : j < nN (ms h) := hj
              show h.1 9 j = trR 4 (upd (h.1 78) (9 * l + 6) (nI 0)) (9 * j + 2)
              rw [trR_at (show 9 * j + 2 < 270 by omega), upd_at, if_neg (by omega), ← ms_r4 (by omega)]
              exact i.c.lw1 j hj
            · intro j hj
              have hj : j < nN (ms h) := hj
              show h.1 10 j = trR 4 (upd (h.1 78) (9 * l + 6) (nI 0)) (9 * j + 3)
              rw [trR_at (show 9 * j + 3 < 270 by omega), upd_at, if_neg (by omega), ← ms_r4 (by omega)]
              exact i.c.ld1 j hj
            · intro j hj
              have hj : j < nN (ms h) := hj
              show h.1 11 j = trR 4 (upd (h.1 78) (9 * l + 6) (nI 0)) (9 * j + 4)
              rw [trR_at (show 9 * j + 4 < 270 by omega), upd_at, if_neg (by omega), ← ms_r4 (by omega)]
              exact i.c.lr1 j hj
            · intro j hj
              have hj : j < nN (ms h) := hj
              show h.1 12 j = trR 4 (upd (h.1 78) (9 * l + 6) (nI 0)) (9 * j + 5)
              rw [trR_at (show 9 * j + 5 < 270 by omega), upd_at, if_neg (by omega), ← ms_r4 (by omega)]
              exact i.c.lq1 j hj
            · intro j hj
              have hj : j < nN (ms h) := hj
              show h.1 13 j = trR 4 (upd (h.1 78) (9 * l + 6) (nI 0)) (9 * j + 7)
              rw [trR_at (show 9 * j + 7 < 270 by omega), upd_at, if_neg (by omega), ← ms_r4 (by omega)]
              exact i.c.lf1 j hj
            · intro j hj
              have hj : j < nN (ms h) := hj
              show h.1 14 j = trR 4 (upd (h.1 78) (9 * l + 6) (nI 0)) (9 * j + 8)
              rw [trR_at (show 9 * j + 8 < 270 by omega), upd_at, if_neg (by omega), ← ms_r4 (by omega)]
              exact i.c.le1 j hj
            · show nI (lostS (ms h) ^^^ 2 ^ l) = nI (lostS ((sR (ms h) 4 (trR 4 (upd (h.1 78) (9 * l + 6) (nI 0))))))
              congr 1
              refine bset_flip (n := nN (ms h)) hl (fun j hj e => ?_) ?_
              · show decide (trR 4 (upd (h.1 78) (9 * l + 6) (nI 0)) (9 * j + 6) = nI 1) = _
                rw [trR_at (show 9 * j + 6 < 270 by omega), upd_at, if_neg (by omega), ← ms_r4 (by omega)]
              · show decide (trR 4 (upd (h.1 78) (9 * l + 6) (nI 0)) (9 * l + 6) = nI 1) = !(decide (ms h 4 (9 * l + 6) = nI 1))
                rw [trR_at (show 9 * l + 6 < 270 by omega), upd_at, if_pos rfl, ms_r4 (by omega), hm6]
                decide
      · have hm6 : h.1 78 (9 * l + 6) = nI 0 := by
          rw [← ms_r4 (by omega)]
          obtain ⟨_, _, _, _, _, _, oo, _, _, _, _, _, _, _, h7, _, _, _, _, _, _, _, h8, _⟩ := i.w.l l hl
          rw [h7] at hn1
          have : oo ≠ 1 := fun e => hn1 (by rw [e])
          rw [h7, show oo = 0 by omega]
        refine Pas.read (r := .int (nI 0)) (r2 := .int (nI 0)) (h1 := h) (h2 := h) i rfl (Same.rf _) (Same.rf _) ?_ ?_
        · refine gd_ald0 dX8_lose_0 (by decide) ?_
          refine gd_ild1 dX8_lose_1 ?_
          refine gd_cV1i dX8_lose_2 ct_8_142 rc_0 ⟨Nat.le_of_ble_eq_true rfl, Nat.le_of_ble_eq_true rfl⟩ (Nat.le_of_ble_eq_true rfl) (Nat.le_of_ble_eq_true rfl) (c_isLetter_t i.w i.c hl) ?_
          refine gd_if_ne_t 15 dX8_lose_5 (by decide) (by decide) ?_
          refine gd_ald0 dX8_lose_15 (by decide) ?_
          refine gd_getR (r := 1) dX8_lose_16 fl_8_12 rfl rfl rfl (by decide) ?_
          refine gd_getR (r := 6) dX8_lose_19 fl_8_100 rfl rfl rfl (by decide) ?_
          refine gd_ild1 dX8_lose_22 ?_
          refine gd_cV1i dX8_lose_23 ct_8_152 rc_6 ⟨Nat.le_of_ble_eq_true rfl, Nat.le_of_ble_eq_true rfl⟩ (Nat.le_of_ble_eq_true rfl) (Nat.le_of_ble_eq_true rfl) (c_isLost i.w i.c hl) ?_
          rw [bi_df hn1]
          refine gd_ild2 dX8_lose_26 ?_
          refine gd_icmp_ne_f 32 dX8_lose_27 (by decide) (by decide) ?_
          refine gd_ic0 dX8_lose_30 ?_
          refine gd_iret dX8_lose_31 rfl rfl ?_
          rfl
        · refine gd_ald0 dX9_lose_0 (by decide) ?_
          refine gd_ild1 dX9_lose_1 ?_
          refine gd_cV1i dX9_lose_2 ct_9_113 rc_72 ⟨Nat.le_of_ble_eq_true rfl, Nat.le_of_ble_eq_true rfl⟩ (Nat.le_of_ble_eq_true rfl) (Nat.le_of_ble_eq_true rfl) (m_isLetter_t (h := h) (by exact i.w) hl) ?_
          refine gd_if_ne_t 14 dX9_lose_5 (by decide) (by decide) ?_
          refine gd_ild2 dX9_lose_14 ?_
          refine gd_if_eq_t 22 dX9_lose_15 (by decide) (by decide) ?_
          refine gd_ic0 dX9_lose_22 ?_
          refine gd_ist3 dX9_lose_23 rfl ?_
          refine gd_ald0 dX9_lose_24 (by decide) ?_
          refine gd_ild1 dX9_lose_25 ?_
          refine gd_bipush (v := nI 6) dX9_lose_26 (by decide) ?_
          refine gd_cV2i dX9_lose_28 ct_9_120 rc_72 ⟨Nat.le_of_ble_eq_true rfl, Nat.le_of_ble_eq_true rfl⟩ (Nat.le_of_ble_eq_true rfl) (Nat.le_of_ble_eq_true rfl) (m_its (l := l) (w := 6) (by omega) (by decide) _) ?_
          rw [show (h).1 78 (9 * l + 6) = nI 0 from hm6]
          refine gd_ild3 dX9_lose_31 ?_
          refine gd_icmp_eq_t 39 dX9_lose_32 (by decide) (by decide) ?_
          refine gd_ic0 dX9_lose_39 ?_
          refine gd_ist4 dX9_lose_40 rfl ?_
          refine gd_ald0 dX9_lose_42 (by decide) ?_
          refine gd_getR (r := 78) dX9_lose_43 fl_9_25 rfl rfl rfl (by decide) ?_
          refine gd_bipush (v := nI 9) dX9_lose_46 (by decide) ?_
          refine gd_ild1 dX9_lose_48 ?_
          refine gd_imul dX9_lose_49 ?_
          refine gd_bipush (v := nI 6) dX9_lose_50 (by decide) ?_
          refine gd_iadd dX9_lose_52 ?_
          refine gd_ild3 dX9_lose_53 ?_
          refine gd_iast (n := 270) dX9_lose_54 rfl (by decide) (by repeat' (first | with_reducible rfl | apply ni_add | apply ni_mul)) (by omega) ?_
          refine gd_ild4 dX9_lose_55 ?_
          refine gd_iret dX9_lose_57 rfl rfl ?_
          rw [upd_same hm6, sI_id]
    · by_cases hn1 : ms h 4 (9 * l + 6) = nI 1
      · have hm6 : h.1 78 (9 * l + 6) = nI 1 := by rw [← ms_r4 (by omega)]; exact hn1
        refine Pas.read (r := .int (nI 0)) (r2 := .int (nI 0)) (h1 := h) (h2 := h) i rfl (Same.rf _) (Same.rf _) ?_ ?_
        · refine gd_ald0 dX8_lose_0 (by decide) ?_
          refine gd_ild1 dX8_lose_1 ?_
          refine gd_cV1i dX8_lose_2 ct_8_142 rc_0 ⟨Nat.le_of_ble_eq_true rfl, Nat.le_of_ble_eq_true rfl⟩ (Nat.le_of_ble_eq_true rfl) (Nat.le_of_ble_eq_true rfl) (c_isLetter_t i.w i.c hl) ?_
          refine gd_if_ne_t 15 dX8_lose_5 (by decide) (by decide) ?_
          refine gd_ald0 dX8_lose_15 (by decide) ?_
          refine gd_getR (r := 1) dX8_lose_16 fl_8_12 rfl rfl rfl (by decide) ?_
          refine gd_getR (r := 6) dX8_lose_19 fl_8_100 rfl rfl rfl (by decide) ?_
          refine gd_ild1 dX8_lose_22 ?_
          refine gd_cV1i dX8_lose_23 ct_8_152 rc_6 ⟨Nat.le_of_ble_eq_true rfl, Nat.le_of_ble_eq_true rfl⟩ (Nat.le_of_ble_eq_true rfl) (Nat.le_of_ble_eq_true rfl) (c_isLost i.w i.c hl) ?_
          rw [bi_dt hn1]
          refine gd_ild2 dX8_lose_26 ?_
          refine gd_icmp_ne_f 32 dX8_lose_27 (by decide) (by decide) ?_
          refine gd_ic0 dX8_lose_30 ?_
          refine gd_iret dX8_lose_31 rfl rfl ?_
          rfl
        · refine gd_ald0 dX9_lose_0 (by decide) ?_
          refine gd_ild1 dX9_lose_1 ?_
          refine gd_cV1i dX9_lose_2 ct_9_113 rc_72 ⟨Nat.le_of_ble_eq_true rfl, Nat.le_of_ble_eq_true rfl⟩ (Nat.le_of_ble_eq_true rfl) (Nat.le_of_ble_eq_true rfl) (m_isLetter_t (h := h) (by exact i.w) hl) ?_
          refine gd_if_ne_t 14 dX9_lose_5 (by decide) (by decide) ?_
          refine gd_ild2 dX9_lose_14 ?_
          refine gd_if_eq_f 22 dX9_lose_15 (by decide) (by decide) ?_
          refine gd_ic1 dX9_lose_18 ?_
          refine gd_goto 23 dX9_lose_19 (by decide) ?_
          refine gd_ist3 dX9_lose_23 rfl ?_
          refine gd_ald0 dX9_lose_24 (by decide) ?_
          refine gd_ild1 dX9_lose_25 ?_
          refine gd_bipush (v := nI 6) dX9_lose_26 (by decide) ?_
          refine gd_cV2i dX9_lose_28 ct_9_120 rc_72 ⟨Nat.le_of_ble_eq_true rfl, Nat.le_of_ble_eq_true rfl⟩ (Nat.le_of_ble_eq_true rfl) (Nat.le_of_ble_eq_true rfl) (m_its (l := l) (w := 6) (by omega) (by decide) _) ?_
          rw [show (h).1 78 (9 * l + 6) = nI 1 from hm6]
          refine gd_ild3 dX9_lose_31 ?_
          refine gd_icmp_eq_t 39 dX9_lose_32 (by decide) (by decide) ?_
          refine gd_ic0 dX9_lose_39 ?_
          refine gd_ist4 dX9_lose_40 rfl ?_
          refine gd_ald0 dX9_lose_42 (by decide) ?_
          refine gd_getR (r := 78) dX9_lose_43 fl_9_25 rfl rfl rfl (by decide) ?_
          refine gd_bipush (v := nI 9) dX9_lose_46 (by decide) ?_
          refine gd_ild1 dX9_lose_48 ?_
          refine gd_imul dX9_lose_49 ?_
          refine gd_bipush (v := nI 6) dX9_lose_50 (by decide) ?_
          refine gd_iadd dX9_lose_52 ?_
          refine gd_ild3 dX9_lose_53 ?_
          refine gd_iast (n := 270) dX9_lose_54 rfl (by decide) (by repeat' (first | with_reducible rfl | apply ni_add | apply ni_mul)) (by omega) ?_
          refine gd_ild4 dX9_lose_55 ?_
          refine gd_iret dX9_lose_57 rfl rfl ?_
          rw [upd_same hm6, sI_id]
      · have hm6 : h.1 78 (9 * l + 6) = nI 0 := by
          rw [← ms_r4 (by omega)]
          obtain ⟨_, _, _, _, _, _, oo, _, _, _, _, _, _, _, h7, _, _, _, _, _, _, _, h8, _⟩ := i.w.l l hl
          rw [h7] at hn1
          have : oo ≠ 1 := fun e => hn1 (by rw [e])
          rw [h7, show oo = 0 by omega]
        refine ⟨.int (nI 1), sI h 6 (upd (h.1 6) 8 (nI (lostS (ms h) ^^^ 2 ^ l))), sI (sI h 6 (upd (h.1 6) 8 (nI (lostS (ms h) ^^^ 2 ^ l)))) 78 (upd (h.1 78) (9 * l + 6) (nI 1)), ?_, ?_, ?_, rfl, rfl⟩
        · refine gd_ald0 dX8_lose_0 (by decide) ?_
          refine gd_ild1 dX8_lose_1 ?_
          refine gd_cV1i dX8_lose_2 ct_8_142 rc_0 ⟨Nat.le_of_ble_eq_true rfl, Nat.le_of_ble_eq_true rfl⟩ (Nat.le_of_ble_eq_true rfl) (Nat.le_of_ble_eq_true rfl) (c_isLetter_t i.w i.c hl) ?_
          refine gd_if_ne_t 15 dX8_lose_5 (by decide) (by decide) ?_
          refine gd_ald0 dX8_lose_15 (by decide) ?_
          refine gd_getR (r := 1) dX8_lose_16 fl_8_12 rfl rfl rfl (by decide) ?_
          refine gd_getR (r := 6) dX8_lose_19 fl_8_100 rfl rfl rfl (by decide) ?_
          refine gd_ild1 dX8_lose_22 ?_
          refine gd_cV1i dX8_lose_23 ct_8_152 rc_6 ⟨Nat.le_of_ble_eq_true rfl, Nat.le_of_ble_eq_true rfl⟩ (Nat.le_of_ble_eq_true rfl) (Nat.le_of_ble_eq_true rfl) (c_isLost i.w i.c hl) ?_
          rw [bi_df hn1]
          refine gd_ild2 dX8_lose_26 ?_
          refine gd_icmp_ne_t 32 dX8_lose_27 (by decide) (by decide) ?_
          refine gd_ald0 dX8_lose_32 (by decide) ?_
          refine gd_getR (r := 1) dX8_lose_33 fl_8_12 rfl rfl rfl (by decide) ?_
          refine gd_getR (r := 6) dX8_lose_36 fl_8_100 rfl rfl rfl (by decide) ?_
          refine gd_dupr (by decide) dX8_lose_39 ?_
          refine gd_getI dX8_lose_40 fl_8_155 rfl rfl ?_
          refine gd_ic1 dX8_lose_43 ?_
          refine gd_ild1 dX8_lose_44 ?_
          refine gd_ishl dX8_lose_45 ?_
          refine gd_ixor dX8_lose_46 ?_
          rw [i.c.lo1, shl_nI (by omega), xor_nI]
          refine gd_putI dX8_lose_47 fl_8_155 rfl rfl (fun _ _ _ e => by cases e; rfl) ?_
          refine gd_ic1 dX8_lose_50 ?_
          refine gd_iret dX8_lose_51 rfl rfl ?_
          rfl
        · refine gd_ald0 dX9_lose_0 (by decide) ?_
          refine gd_ild1 dX9_lose_1 ?_
          refine gd_cV1i dX9_lose_2 ct_9_113 rc_72 ⟨Nat.le_of_ble_eq_true rfl, Nat.le_of_ble_eq_true rfl⟩ (Nat.le_of_ble_eq_true rfl) (Nat.le_of_ble_eq_true rfl) (m_isLetter_t (by exact i.w) hl) ?_
          refine gd_if_ne_t 14 dX9_lose_5 (by decide) (by decide) ?_
          refine gd_ild2 dX9_lose_14 ?_
          refine gd_if_eq_f 22 dX9_lose_15 (by decide) (by decide) ?_
          refine gd_ic1 dX9_lose_18 ?_
          refine gd_goto 23 dX9_lose_19 (by decide) ?_
          refine gd_ist3 dX9_lose_23 rfl ?_
          refine gd_ald0 dX9_lose_24 (by decide) ?_
          refine gd_ild1 dX9_lose_25 ?_
          refine gd_bipush (v := nI 6) dX9_lose_26 (by decide) ?_
          refine gd_cV2i dX9_lose_28 ct_9_120 rc_72 ⟨Nat.le_of_ble_eq_true rfl, Nat.le_of_ble_eq_true rfl⟩ (Nat.le_of_ble_eq_true rfl) (Nat.le_of_ble_eq_true rfl) (m_its (l := l) (w := 6) (by omega) (by decide) _) ?_
          rw [show (sI h 6 (upd (h.1 6) 8 (nI (lostS (ms h) ^^^ 2 ^ l)))).1 78 (9 * l + 6) = nI 0 from hm6]
          refine gd_ild3 dX9_lose_31 ?_
          refine gd_icmp_eq_f 39 dX9_lose_32 (by decide) (by decide) ?_
          refine gd_ic1 dX9_lose_35 ?_
          refine gd_goto 40 dX9_lose_36 (by decide) ?_
          refine gd_ist4 dX9_lose_40 rfl ?_
          refine gd_ald0 dX9_lose_42 (by decide) ?_
          refine gd_getR (r := 78) dX9_lose_43 fl_9_25 rfl rfl rfl (by decide) ?_
          refine gd_bipush (v := nI 9) dX9_lose_46 (by decide) ?_
          refine gd_ild1 dX9_lose_48 ?_
          refine gd_imul dX9_lose_49 ?_
          refine gd_bipush (v := nI 6) dX9_lose_50 (by decide) ?_
          refine gd_iadd dX9_lose_52 ?_
          refine gd_ild3 dX9_lose_53 ?_
          refine gd_iast (n := 270) dX9_lose_54 rfl (by decide) (by repeat' (first | with_reducible rfl | apply ni_add | apply ni_mul)) (by omega) ?_
          refine gd_ild4 dX9_lose_55 ?_
          refine gd_iret dX9_lose_57 rfl rfl ?_
          rfl
        · have em : ms (sI (sI h 6 (upd (h.1 6) 8 (nI (lostS (ms h) ^^^ 2 ^ l)))) 78 (upd (h.1 78) (9 * l + 6) (nI 1))) = sR (ms h) 4 (trR 4 (upd (h.1 78) (9 * l + 6) (nI 1))) := by
            rw [ms_set 4 (by decide), ms_si (Or.inl (by decide))]
          skip
          refine inv_world i (fun k hk => by rw [sI_n (by omega), sI_n (by omega)]) rfl ?_ ?_
          · rw [em]
            refine ⟨i.w.t, i.w.n, i.w.x, i.w.o, i.w.d, i.w.g, i.w.c, i.w.h, ?_, i.w.f, i.w.c6, i.w.r, i.w.k⟩
            · intro j hj
              have hj : j < nN (ms h) := hj
              obtain ⟨k, t, x, d, r, q, z, y, a1, a2, a3, a4, a5, a6, a7, a8, b⟩ := i.w.l j hj
              have key : ∀ f, f < 9 → f ≠ 6 → (sR (ms h) 4 (trR 4 (upd (h.1 78) (9 * l + 6) (nI 1)))) 4 (9 * j + f) = ms h 4 (9 * j + f) := fun f h1 h2 => by
                show trR 4 (upd (h.1 78) (9 * l + 6) (nI 1)) (9 * j + f) = _
                rw [trR_at (show 9 * j + f < 270 by omega), upd_at, if_neg (by omega), ms_r4 (by omega)]
              unfold LetOK
              rw [show (sR (ms h) 4 (trR 4 (upd (h.1 78) (9 * l + 6) (nI 1)))) 4 (9 * j) = ms h 4 (9 * j) from key 0 (by decide) (by decide), key 1 (by decide) (by decide), key 2 (by decide) (by decide), key 3 (by decide) (by decide), key 4 (by decide) (by decide), key 5 (by decide) (by decide), key 7 (by decide) (by decide), key 8 (by decide) (by decide)]
              by_cases e : j = l
              · subst e
                refine ⟨k, t, x, d, r, q, 1, y, a1, a2, a3, a4, a5, a6, ?_, a8, b.1, b.2.1, b.2.2.1, b.2.2.2.1, b.2.2.2.2.1, b.2.2.2.2.2.1, by omega, b.2.2.2.2.2.2.2⟩
                show trR 4 (upd (h.1 78) (9 * j + 6) (nI 1)) (9 * j + 6) = _
                rw [trR_at (show 9 * j + 6 < 270 by omega), upd_at, if_pos rfl]
              · refine ⟨k, t, x, d, r, q, z, y, a1, a2, a3, a4, a5, a6, ?_, a8, b⟩
                show trR 4 (upd (h.1 78) (9 * l + 6) (nI 1)) (9 * j + 6) = _
                rw [trR_at (show 9 * j + 6 < 270 by omega), upd_at, if_neg (by omega), ← ms_r4 (by omega)]
                exact a7
          · rw [em]
            refine ⟨i.c.t, i.c.d, i.c.n, i.c.x, i.c.o, i.c.g, i.c.c, i.c.h, i.c.h0, ?_, ?_, ?_, ?_, ?_, ?_, ?_, ?_, ?_, i.c.f, i.c.c6, i.c.rk, i.c.rl, i.c.rh, i.c.ks, i.c.km, i.c.kd⟩
            · intro j hj
              have hj : j < nN (ms h) := hj
              show h.1 7 j = trR 4 (upd (h.1 78) (9 * l + 6) (nI 1)) (9 * j)
              rw [trR_at (show 9 * j < 270 by omega), upd_at, if_neg (by omega), ← ms_r4 (by omega)]
              exact i.c.lk1 j hj
            · intro j hj
              have hj : j < nN (ms h) := hj
              show h.1 8 j = trR 4 (upd (h.1 78) (9 * l + 6) (nI 1)) (9 * j + 1)
              rw [trR_at (show 9 * j + 1 < 270 by omega), upd_at, if_neg (by omega), ← ms_r4 (by omega)]
              exact i.c.lt1 j hj
            · intro j hj
              have hj : j < nN (ms h) := hj
              show h.1 9 j = trR 4 (upd (h.1 78) (9 * l + 6) (nI 1)) (9 * j + 2)
              rw [trR_at (show 9 * j + 2 < 270 by omega), upd_at, if_neg (by omega), ← ms_r4 (by omega)]
              exact i.c.lw1 j hj
            · intro j hj
              have hj : j < nN (ms h) := hj
              show h.1 10 j = trR 4 (upd (h.1 78) (9 * l + 6) (nI 1)) (9 * j + 3)
              rw [trR_at (show 9 * j + 3 < 270 by omega), upd_at, if_neg (by omega), ← ms_r4 (by omega)]
              exact i.c.ld1 j hj
            · intro j hj
              have hj : j < nN (ms h) := hj
              show h.1 11 j = trR 4 (upd (h.1 78) (9 * l + 6) (nI 1)) (9 * j + 4)
              rw [trR_at (show 9 * j + 4 < 270 by omega), upd_at, if_neg (by omega), ← ms_r4 (by omega)]
              exact i.c.lr1 j hj
            · intro j hj
              have hj : j < nN (ms h) := hj
              show h.1 12 j = trR 4 (upd (h.1 78) (9 * l + 6) (nI 1)) (9 * j + 5)
              rw [trR_at (show 9 * j + 5 < 270 by omega), upd_at, if_neg (by omega), ← ms_r4 (by omega)]
              exact i.c.lq1 j hj
            · intro j hj
              have hj : j < nN (ms h) := hj
              show h.1 13 j = trR 4 (upd (h.1 78) (9 * l + 6) (nI 1)) (9 * j + 7)
              rw [trR_at (show 9 * j + 7 < 270 by omega), upd_at, if_neg (by omega), ← ms_r4 (by omega)]
              exact i.c.lf1 j hj
            · intro j hj
              have hj : j < nN (ms h) := hj
              show h.1 14 j = trR 4 (upd (h.1 78) (9 * l + 6) (nI 1)) (9 * j + 8)
              rw [trR_at (show 9 * j + 8 < 270 by omega), upd_at, if_neg (by omega), ← ms_r4 (by omega)]
              exact i.c.le1 j hj
            · show nI (lostS (ms h) ^^^ 2 ^ l) = nI (lostS ((sR (ms h) 4 (trR 4 (upd (h.1 78) (9 * l + 6) (nI 1))))))
              congr 1
              refine bset_flip (n := nN (ms h)) hl (fun j hj e => ?_) ?_
              · show decide (trR 4 (upd (h.1 78) (9 * l + 6) (nI 1)) (9 * j + 6) = nI 1) = _
                rw [trR_at (show 9 * j + 6 < 270 by omega), upd_at, if_neg (by omega), ← ms_r4 (by omega)]
              · show decide (trR 4 (upd (h.1 78) (9 * l + 6) (nI 1)) (9 * l + 6) = nI 1) = !(decide (ms h 4 (9 * l + 6) = nI 1))
                rw [trR_at (show 9 * l + 6 < 270 by omega), upd_at, if_pos rfl, ms_r4 (by omega), hm6]
                decide
  · rcases hv with rfl | rfl
    · refine Pas.find (h1 := h) (h2 := hf (h) 0) (v := -1000000001) (w := (-1000000000 : Int32) - nI 1) 0 i (by decide) (by decide) (by decide) (Same.rf _) (Same.rf _) ?_ ?_
      · refine gd_ald0 dX8_lose_0 (by decide) ?_
        refine gd_ild1 dX8_lose_1 ?_
        refine gd_cV1i dX8_lose_2 ct_8_142 rc_0 ⟨Nat.le_of_ble_eq_true rfl, Nat.le_of_ble_eq_true rfl⟩ (Nat.le_of_ble_eq_true rfl) (Nat.le_of_ble_eq_true rfl) (c_isLetter_f i.w i.c ha) ?_
        refine gd_if_ne_f 15 dX8_lose_5 (by decide) (by decide) ?_
        refine gd_ald0 dX8_lose_8 (by decide) ?_
        refine gd_ldc dX8_lose_9 ld_8_52 ?_
        refine gd_cV1i dX8_lose_11 ct_8_53 rc_0 ⟨Nat.le_of_ble_eq_true rfl, Nat.le_of_ble_eq_true rfl⟩ (Nat.le_of_ble_eq_true rfl) (Nat.le_of_ble_eq_true rfl) (c_f0 _) ?_
        refine gd_iret dX8_lose_14 rfl rfl ?_
        rfl
      · refine gd_ald0 dX9_lose_0 (by decide) ?_
        refine gd_ild1 dX9_lose_1 ?_
        refine gd_cV1i dX9_lose_2 ct_9_113 rc_72 ⟨Nat.le_of_ble_eq_true rfl, Nat.le_of_ble_eq_true rfl⟩ (Nat.le_of_ble_eq_true rfl) (Nat.le_of_ble_eq_true rfl) (m_isLetter_f (h := hf h 0) (by exact i.w) ha) ?_
        refine gd_if_ne_f 14 dX9_lose_5 (by decide) (by decide) ?_
        refine gd_ald0 dX9_lose_8 (by decide) ?_
        refine gd_ic1 dX9_lose_9 ?_
        refine gd_cV1i dX9_lose_10 ct_9_97 rc_72 ⟨Nat.le_of_ble_eq_true rfl, Nat.le_of_ble_eq_true rfl⟩ (Nat.le_of_ble_eq_true rfl) (Nat.le_of_ble_eq_true rfl) (m_f0 _) ?_
        refine gd_iret dX9_lose_13 rfl rfl ?_
        rfl
    · refine Pas.find (h1 := h) (h2 := hf (h) 0) (v := -1000000001) (w := (-1000000000 : Int32) - nI 1) 0 i (by decide) (by decide) (by decide) (Same.rf _) (Same.rf _) ?_ ?_
      · refine gd_ald0 dX8_lose_0 (by decide) ?_
        refine gd_ild1 dX8_lose_1 ?_
        refine gd_cV1i dX8_lose_2 ct_8_142 rc_0 ⟨Nat.le_of_ble_eq_true rfl, Nat.le_of_ble_eq_true rfl⟩ (Nat.le_of_ble_eq_true rfl) (Nat.le_of_ble_eq_true rfl) (c_isLetter_f i.w i.c ha) ?_
        refine gd_if_ne_f 15 dX8_lose_5 (by decide) (by decide) ?_
        refine gd_ald0 dX8_lose_8 (by decide) ?_
        refine gd_ldc dX8_lose_9 ld_8_52 ?_
        refine gd_cV1i dX8_lose_11 ct_8_53 rc_0 ⟨Nat.le_of_ble_eq_true rfl, Nat.le_of_ble_eq_true rfl⟩ (Nat.le_of_ble_eq_true rfl) (Nat.le_of_ble_eq_true rfl) (c_f0 _) ?_
        refine gd_iret dX8_lose_14 rfl rfl ?_
        rfl
      · refine gd_ald0 dX9_lose_0 (by decide) ?_
        refine gd_ild1 dX9_lose_1 ?_
        refine gd_cV1i dX9_lose_2 ct_9_113 rc_72 ⟨Nat.le_of_ble_eq_true rfl, Nat.le_of_ble_eq_true rfl⟩ (Nat.le_of_ble_eq_true rfl) (Nat.le_of_ble_eq_true rfl) (m_isLetter_f (h := hf h 0) (by exact i.w) ha) ?_
        refine gd_if_ne_f 14 dX9_lose_5 (by decide) (by decide) ?_
        refine gd_ald0 dX9_lose_8 (by decide) ?_
        refine gd_ic1 dX9_lose_9 ?_
        refine gd_cV1i dX9_lose_10 ct_9_97 rc_72 ⟨Nat.le_of_ble_eq_true rfl, Nat.le_of_ble_eq_true rfl⟩ (Nat.le_of_ble_eq_true rfl) (Nat.le_of_ble_eq_true rfl) (m_f0 _) ?_
        refine gd_iret dX9_lose_13 rfl rfl ?_
        rfl

/-- the world of now, the kept one and the findings are as they were -/
theorem inv_rest {h h' : Hp} (i : Inv h) (e : ∀ k, ((1 ≤ k ∧ k ≤ 24) ∨ (27 ≤ k ∧ k ≤ 49) ∨ k = 71 ∨ (73 ≤ k ∧ k ≤ 81) ∨ k = 94) → h'.1 k = h.1 k) (ek : (h'.1 0 2 = h.1 0 2 ∧ h'.1 72 32 = h.1 72 32) ∨ (h'.1 0 2 = nI 0 ∧ h'.1 72 32 = nI 0)) (tp : TP h') (sh : SH h') (sc : h'.2 95 = h.2 95) : Inv h' := by
  have em : ms h' = ms h := by
    funext k j
    unfold ms
    by_cases hk : k < 8
    · rw [e (74 + k) (by omega)]
    · have : szR k = 0 := by unfold szR; rw [List.getD_eq_getElem?_getD, List.getElem?_eq_none (by simp; omega)]; rfl
      simp [this]
  have eks : ks h' = ks h := by funext j a; unfold ks; rw [e 94 (by omega)]
  refine ⟨by rw [em]; exact i.w, by rw [em]; exact i.c.same (fun a h1 h2 => e _ (by omega)), ?_, ?_, tp, sh, ?_⟩
  · rcases ek with ⟨k1, k2⟩ | ⟨k1, k2⟩
    · refine ⟨by rw [k1]; exact i.k.z, by rw [k1, k2]; exact i.k.e, ?_⟩
      rw [k1, eks]; exact fun z => ⟨(i.k.k z).1, (i.k.k z).2.same (fun a h1 h2 => e _ (by omega))⟩
    · exact ⟨Or.inl k1, by rw [k1, k2], fun z => absurd (k1.symm.trans z) (by decide)⟩
  · rw [e 73 (by omega), e 71 (by omega)]; exact i.f
  · unfold scL; rw [sc]; exact i.l

set_option maxHeartbeats 1000000 in
theorem p_wipe {h : Hp} (i : Inv h) : Pas mX8_wipe mX9_wipe [.ref 0, .null] [.ref 72, .null] h := by
  refine ⟨.int (h.1 72 14), sI h 51 (upd (h.1 51) 1 (nI 0)), sI (sI h 51 (upd (h.1 51) 1 (nI 0))) 72 (upd (h.1 72) 14 (nI 0)), ?_, ?_, ?_, rfl, rfl⟩
  · refine gd_ald0 dX8_wipe_0 (by decide) ?_
    refine gd_getR (r := 51) dX8_wipe_1 fl_8_26 rfl rfl rfl (by decide) ?_
    refine gd_getI dX8_wipe_4 fl_8_181 rfl rfl ?_
    refine gd_ist1 dX8_wipe_7 rfl ?_
    refine gd_ald0 dX8_wipe_8 (by decide) ?_
    refine gd_getR (r := 51) dX8_wipe_9 fl_8_26 rfl rfl rfl (by decide) ?_
    refine gd_ic0 dX8_wipe_12 ?_
    refine gd_putI dX8_wipe_13 fl_8_181 rfl rfl (fun _ _ _ e => by cases e; rfl) ?_
    refine gd_ild1 dX8_wipe_16 ?_
    refine gd_iret dX8_wipe_17 rfl rfl ?_
    rw [i.p.n.1, ← i.p.n.2.1]
  · refine gd_ald0 dX9_wipe_0 (by decide) ?_
    refine gd_getI dX9_wipe_1 fl_9_149 rfl rfl ?_
    refine gd_ist1 dX9_wipe_4 rfl ?_
    refine gd_ald0 dX9_wipe_5 (by decide) ?_
    refine gd_ic0 dX9_wipe_6 ?_
    refine gd_putI dX9_wipe_7 fl_9_149 rfl rfl (fun _ _ _ e => by cases e; rfl) ?_
    refine gd_ild1 dX9_wipe_10 ?_
    refine gd_iret dX9_wipe_11 rfl rfl ?_
    rfl
  · refine inv_rest i (fun k hk => by rw [sI_n (by omega), sI_n (by omega)]) (Or.inl ⟨rfl, rfl⟩) ⟨⟨rfl, rfl, show tn (nI 0) ≤ 120 by decide⟩, fun j hj => absurd hj (by show ¬ j < tn (nI 0); rw [tn_nI (by decide)]; omega)⟩ i.s rfl
set_option maxHeartbeats 1000000 in
theorem p_tear {h : Hp} (i : Inv h) : Pas mX8_tear mX9_tear [.ref 0, .null] [.ref 72, .null] h := by
  rcases i.k.z with hz | hz
  · refine ⟨.int (nI 0), sI h 0 (upd (h.1 0) 2 (nI 0)), sI (sI h 0 (upd (h.1 0) 2 (nI 0))) 72 (upd (h.1 72) 32 (nI 0)), ?_, ?_, ?_, rfl, rfl⟩
    · refine gd_ald0 dX8_tear_0 (by decide) ?_
      refine gd_getZ dX8_tear_1 fl_8_19 rfl rfl ?_
      rw [hz]
      refine gd_if_eq_t 11 dX8_tear_4 (by decide) (by decide) ?_
      refine gd_ic0 dX8_tear_11 ?_
      refine gd_ist1 dX8_tear_12 rfl ?_
      refine gd_ald0 dX8_tear_13 (by decide) ?_
      refine gd_ic0 dX8_tear_14 ?_
      refine gd_putZ dX8_tear_15 fl_8_19 rfl rfl (fun _ _ _ e => by cases e; rfl) (by first | exact Or.inl rfl | exact Or.inr rfl) ?_
      refine gd_ild1 dX8_tear_18 ?_
      refine gd_iret dX8_tear_19 rfl rfl ?_
      rfl
    · refine gd_ald0 dX9_tear_0 (by decide) ?_
      refine gd_getZ dX9_tear_1 fl_9_282 rfl rfl ?_
      rw [show (sI h 0 (upd (h.1 0) 2 (nI 0))).1 72 32 = nI 0 from i.k.e.trans hz]
      refine gd_if_eq_t 11 dX9_tear_4 (by decide) (by decide) ?_
      refine gd_ic0 dX9_tear_11 ?_
      refine gd_ist1 dX9_tear_12 rfl ?_
      refine gd_ald0 dX9_tear_13 (by decide) ?_
      refine gd_ic0 dX9_tear_14 ?_
      refine gd_putZ dX9_tear_15 fl_9_282 rfl rfl (fun _ _ _ e => by cases e; rfl) (by first | exact Or.inl rfl | exact Or.inr rfl) ?_
      refine gd_ild1 dX9_tear_18 ?_
      refine gd_iret dX9_tear_19 rfl rfl ?_
      rfl
    · exact inv_rest i (fun k hk => by rw [sI_n (by omega), sI_n (by omega)]) (Or.inr ⟨rfl, rfl⟩) ⟨i.p.n, i.p.b⟩ i.s rfl
  · refine ⟨.int (nI 1), sI h 0 (upd (h.1 0) 2 (nI 0)), sI (sI h 0 (upd (h.1 0) 2 (nI 0))) 72 (upd (h.1 72) 32 (nI 0)), ?_, ?_, ?_, rfl, rfl⟩
    · refine gd_ald0 dX8_tear_0 (by decide) ?_
      refine gd_getZ dX8_tear_1 fl_8_19 rfl rfl ?_
      rw [hz]
      refine gd_if_eq_f 11 dX8_tear_4 (by decide) (by decide) ?_
      refine gd_ic1 dX8_tear_7 ?_
      refine gd_goto 12 dX8_tear_8 (by decide) ?_
      refine gd_ist1 dX8_tear_12 rfl ?_
      refine gd_ald0 dX8_tear_13 (by decide) ?_
      refine gd_ic0 dX8_tear_14 ?_
      refine gd_putZ dX8_tear_15 fl_8_19 rfl rfl (fun _ _ _ e => by cases e; rfl) (by first | exact Or.inl rfl | exact Or.inr rfl) ?_
      refine gd_ild1 dX8_tear_18 ?_
      refine gd_iret dX8_tear_19 rfl rfl ?_
      rfl
    · refine gd_ald0 dX9_tear_0 (by decide) ?_
      refine gd_getZ dX9_tear_1 fl_9_282 rfl rfl ?_
      rw [show (sI h 0 (upd (h.1 0) 2 (nI 0))).1 72 32 = nI 1 from i.k.e.trans hz]
      refine gd_if_eq_f 11 dX9_tear_4 (by decide) (by decide) ?_
      refine gd_ic1 dX9_tear_7 ?_
      refine gd_goto 12 dX9_tear_8 (by decide) ?_
      refine gd_ist1 dX9_tear_12 rfl ?_
      refine gd_ald0 dX9_tear_13 (by decide) ?_
      refine gd_ic0 dX9_tear_14 ?_
      refine gd_putZ dX9_tear_15 fl_9_282 rfl rfl (fun _ _ _ e => by cases e; rfl) (by first | exact Or.inl rfl | exact Or.inr rfl) ?_
      refine gd_ild1 dX9_tear_18 ?_
      refine gd_iret dX9_tear_19 rfl rfl ?_
      rfl
    · exact inv_rest i (fun k hk => by rw [sI_n (by omega), sI_n (by omega)]) (Or.inr ⟨rfl, rfl⟩) ⟨i.p.n, i.p.b⟩ i.s rfl
