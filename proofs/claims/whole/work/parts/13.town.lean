
theorem tn_nI {n : Nat} (h : n < 2 ^ 31) : tn (nI n) = n := nI_clamp h

def hz6 (f : Nat → Int32) (T : Nat) : Nat → Int32 := upd (upd (upd (upd (upd (upd (f) (6 * T + 0) (nI 0)) (6 * T + (0 + 1)) (nI 0)) (6 * T + ((0 + 1) + 1)) (nI 0)) (6 * T + (((0 + 1) + 1) + 1)) (nI 0)) (6 * T + ((((0 + 1) + 1) + 1) + 1)) (nI 0)) (6 * T + (((((0 + 1) + 1) + 1) + 1) + 1)) (nI 0)
theorem hz6_at {f : Nat → Int32} {T j : Nat} : hz6 f T j = if 6 * T ≤ j ∧ j < 6 * T + 6 then nI 0 else f j := by
  unfold hz6
  simp only [upd_at]
  repeat (split; · rw [if_pos (by omega)])
  rw [if_neg (by omega)]
theorem c_addTown {h : Hp} {T : Nat} (hT : T < 16) (e : h.1 2 3 = nI T) (v : Int32) : Gd mX0_addTown 0 [.ref 2, .int v, .null] [] h (some (.int (nI T)), sI (sI h 4 (upd (h.1 4) T v)) 2 (upd (h.1 2) 3 (nI (T + 1)))) := by
  refine gd_ald0 dX0_addTown_0 (by decide) ?_
  refine gd_getI dX0_addTown_1 fl_0_21 rfl rfl ?_
  rw [e]
  refine gd_ist2 dX0_addTown_4 rfl ?_
  refine gd_ald0 dX0_addTown_5 (by decide) ?_
  refine gd_getR (r := 4) dX0_addTown_6 fl_0_15 rfl rfl rfl (by decide) ?_
  refine gd_ild2 dX0_addTown_9 ?_
  refine gd_ild1 dX0_addTown_10 ?_
  refine gd_iast (n := 16) dX0_addTown_11 rfl (by decide) (by repeat' (first | with_reducible rfl | apply ni_add | apply ni_mul)) (by omega) ?_
  refine gd_ald0 dX0_addTown_12 (by decide) ?_
  refine gd_dupr (by decide) dX0_addTown_13 ?_
  refine gd_getI dX0_addTown_14 fl_0_21 rfl rfl ?_
  refine gd_ic1 dX0_addTown_17 ?_
  refine gd_iadd dX0_addTown_18 ?_
  refine gd_putI dX0_addTown_19 fl_0_21 rfl rfl (fun _ _ _ e => by cases e; rfl) ?_
  refine gd_ild2 dX0_addTown_22 ?_
  refine gd_iret dX0_addTown_23 rfl rfl ?_
  rw [show (sI h 4 (upd (h.1 4) T v)).1 2 = h.1 2 from rfl, e, nI_add]

set_option maxHeartbeats 1000000 in
theorem p_town {h : Hp} (i : Inv h) (a : Int32) : Pas mX8_town mX9_town [.ref 0, .int a] [.ref 72, .int a, .null, .null] h := by
  rcases rng a (144) (by decide) with ⟨c, hc, rfl⟩ | ha
  · have lT := i.lT
    by_cases hT : nT (ms h) < 16
    · refine ⟨.int (nI (nT (ms h))), (sI (sI h 4 (upd (h.1 4) (nT (ms h)) (nI c))) 2 (upd (h.1 2) 3 (nI (nT (ms h) + 1)))), sI (sI (sI (sI (sI h 4 (upd (h.1 4) (nT (ms h)) (nI c))) 2 (upd (h.1 2) 3 (nI (nT (ms h) + 1)))) 76 (upd (h.1 76) (nT (ms h)) (nI c))) 77 (hz6 (h.1 77) (nT (ms h)))) 74 (upd (h.1 74) 0 (nI (nT (ms h) + 1))), ?_, ?_, ?_, rfl, rfl⟩
      · refine gd_ild1 dX8_town_0 ?_
        refine gd_sipush (v := nI 144) dX8_town_1 (by decide) ?_
        refine gd_cS2i dX8_town_4 ct_8_48 ⟨Nat.le_of_ble_eq_true rfl, Nat.le_of_ble_eq_true rfl⟩ (Nat.le_of_ble_eq_true rfl) (Nat.le_of_ble_eq_true rfl) (c_isBelow_t hc (by decide) _) ?_
        refine gd_if_ne_t 17 dX8_town_7 (by decide) (by decide) ?_
        refine gd_ald0 dX8_town_17 (by decide) ?_
        refine gd_getR (r := 1) dX8_town_18 fl_8_12 rfl rfl rfl (by decide) ?_
        refine gd_getR (r := 2) dX8_town_21 fl_8_57 rfl rfl rfl (by decide) ?_
        refine gd_getI dX8_town_24 fl_8_66 rfl rfl ?_
        refine gd_bipush (v := nI 16) dX8_town_27 (by decide) ?_
        refine gd_icmp_lt_t 39 dX8_town_29 (by decide) (by rw [i.cT]; exact nI_lt (by omega) (by omega)) ?_
        refine gd_ald0 dX8_town_39 (by decide) ?_
        refine gd_getR (r := 1) dX8_town_40 fl_8_12 rfl rfl rfl (by decide) ?_
        refine gd_getR (r := 2) dX8_town_43 fl_8_57 rfl rfl rfl (by decide) ?_
        refine gd_ild1 dX8_town_46 ?_
        refine gd_cV1i dX8_town_47 ct_8_71 rc_2 ⟨Nat.le_of_ble_eq_true rfl, Nat.le_of_ble_eq_true rfl⟩ (Nat.le_of_ble_eq_true rfl) (Nat.le_of_ble_eq_true rfl) (c_addTown hT i.cT _) ?_
        refine gd_iret dX8_town_50 rfl rfl ?_
        rfl
      · refine gd_ild1 dX9_town_0 ?_
        refine gd_cS1i dX9_town_1 ct_9_93 ⟨Nat.le_of_ble_eq_true rfl, Nat.le_of_ble_eq_true rfl⟩ (Nat.le_of_ble_eq_true rfl) (Nat.le_of_ble_eq_true rfl) (m_isCell_t hc _) ?_
        refine gd_if_ne_t 13 dX9_town_4 (by decide) (by decide) ?_
        refine gd_ald0 dX9_town_13 (by decide) ?_
        refine gd_getR (r := 74) dX9_town_14 fl_9_13 rfl rfl rfl (by decide) ?_
        refine gd_ic0 dX9_town_17 ?_
        refine gd_iald (n := 5) dX9_town_18 rfl (by decide) (by repeat' (first | with_reducible rfl | apply ni_add | apply ni_mul)) (by omega) ?_
        rw [show (sI (sI h 4 (upd (h.1 4) (nT (ms h)) (nI c))) 2 (upd (h.1 2) 3 (nI (nT (ms h) + 1)))).1 74 0 = nI (nT (ms h)) from i.mT]
        refine gd_bipush (v := nI 16) dX9_town_19 (by decide) ?_
        refine gd_icmp_ne_t 30 dX9_town_21 (by decide) (by exact fun z => absurd ((nI_eq (by omega) (by omega)).mp z) (by omega)) ?_
        refine gd_ald0 dX9_town_30 (by decide) ?_
        refine gd_getR (r := 74) dX9_town_31 fl_9_13 rfl rfl rfl (by decide) ?_
        refine gd_ic0 dX9_town_34 ?_
        refine gd_iald (n := 5) dX9_town_35 rfl (by decide) (by repeat' (first | with_reducible rfl | apply ni_add | apply ni_mul)) (by omega) ?_
        rw [show (sI (sI h 4 (upd (h.1 4) (nT (ms h)) (nI c))) 2 (upd (h.1 2) 3 (nI (nT (ms h) + 1)))).1 74 0 = nI (nT (ms h)) from i.mT]
        refine gd_ist2 dX9_town_36 rfl ?_
        refine gd_ald0 dX9_town_37 (by decide) ?_
        refine gd_getR (r := 76) dX9_town_38 fl_9_19 rfl rfl rfl (by decide) ?_
        refine gd_ild2 dX9_town_41 ?_
        refine gd_ild1 dX9_town_42 ?_
        refine gd_iast (n := 16) dX9_town_43 rfl (by decide) (by repeat' (first | with_reducible rfl | apply ni_add | apply ni_mul)) (by omega) ?_
        refine gd_ic0 dX9_town_44 ?_
        refine gd_ist3 dX9_town_45 rfl ?_
        refine gd_ild3 dX9_town_46 ?_
        refine gd_bipush (v := nI 6) dX9_town_47 (by decide) ?_
        refine gd_icmp_ge_f 70 dX9_town_49 (by decide) (by decide) ?_
        refine gd_ald0 dX9_town_52 (by decide) ?_
        refine gd_getR (r := 77) dX9_town_53 fl_9_22 rfl rfl rfl (by decide) ?_
        refine gd_bipush (v := nI 6) dX9_town_56 (by decide) ?_
        refine gd_ild2 dX9_town_58 ?_
        refine gd_imul dX9_town_59 ?_
        refine gd_ild3 dX9_town_60 ?_
        refine gd_iadd dX9_town_61 ?_
        refine gd_ic0 dX9_town_62 ?_
        refine gd_iast (n := 96) dX9_town_63 rfl (by decide) (by repeat' (first | with_reducible rfl | apply ni_add | apply ni_mul)) (by omega) ?_
        refine gd_iinc3 (b := nI 1) dX9_town_64 (by decide) rfl ?_
        refine gd_goto 46 dX9_town_67 (by decide) ?_
        refine gd_ild3 dX9_town_46 ?_
        refine gd_bipush (v := nI 6) dX9_town_47 (by decide) ?_
        refine gd_icmp_ge_f 70 dX9_town_49 (by decide) (by decide) ?_
        refine gd_ald0 dX9_town_52 (by decide) ?_
        refine gd_getR (r := 77) dX9_town_53 fl_9_22 rfl rfl rfl (by decide) ?_
        refine gd_bipush (v := nI 6) dX9_town_56 (by decide) ?_
        refine gd_ild2 dX9_town_58 ?_
        refine gd_imul dX9_town_59 ?_
        refine gd_ild3 dX9_town_60 ?_
        refine gd_iadd dX9_town_61 ?_
        refine gd_ic0 dX9_town_62 ?_
        refine gd_iast (n := 96) dX9_town_63 rfl (by decide) (by repeat' (first | with_reducible rfl | apply ni_add | apply ni_mul)) (by omega) ?_
        refine gd_iinc3 (b := nI 1) dX9_town_64 (by decide) rfl ?_
        refine gd_goto 46 dX9_town_67 (by decide) ?_
        refine gd_ild3 dX9_town_46 ?_
        refine gd_bipush (v := nI 6) dX9_town_47 (by decide) ?_
        refine gd_icmp_ge_f 70 dX9_town_49 (by decide) (by decide) ?_
        refine gd_ald0 dX9_town_52 (by decide) ?_
        refine gd_getR (r := 77) dX9_town_53 fl_9_22 rfl rfl rfl (by decide) ?_
        refine gd_bipush (v := nI 6) dX9_town_56 (by decide) ?_
        refine gd_ild2 dX9_town_58 ?_
        refine gd_imul dX9_town_59 ?_
        refine gd_ild3 dX9_town_60 ?_
        refine gd_iadd dX9_town_61 ?_
        refine gd_ic0 dX9_town_62 ?_
        refine gd_iast (n := 96) dX9_town_63 rfl (by decide) (by repeat' (first | with_reducible rfl | apply ni_add | apply ni_mul)) (by omega) ?_
        refine gd_iinc3 (b := nI 1) dX9_town_64 (by decide) rfl ?_
        refine gd_goto 46 dX9_town_67 (by decide) ?_
        refine gd_ild3 dX9_town_46 ?_
        refine gd_bipush (v := nI 6) dX9_town_47 (by decide) ?_
        refine gd_icmp_ge_f 70 dX9_town_49 (by decide) (by decide) ?_
        refine gd_ald0 dX9_town_52 (by decide) ?_
        refine gd_getR (r := 77) dX9_town_53 fl_9_22 rfl rfl rfl (by decide) ?_
        refine gd_bipush (v := nI 6) dX9_town_56 (by decide) ?_
        refine gd_ild2 dX9_town_58 ?_
        refine gd_imul dX9_town_59 ?_
        refine gd_ild3 dX9_town_60 ?_
        refine gd_iadd dX9_town_61 ?_
        refine gd_ic0 dX9_town_62 ?_
        refine gd_iast (n := 96) dX9_town_63 rfl (by decide) (by repeat' (first | with_reducible rfl | apply ni_add | apply ni_mul)) (by omega) ?_
        refine gd_iinc3 (b := nI 1) dX9_town_64 (by decide) rfl ?_
        refine gd_goto 46 dX9_town_67 (by decide) ?_
        refine gd_ild3 dX9_town_46 ?_
        refine gd_bipush (v := nI 6) dX9_town_47 (by decide) ?_
        refine gd_icmp_ge_f 70 dX9_town_49 (by decide) (by decide) ?_
        refine gd_ald0 dX9_town_52 (by decide) ?_
        refine gd_getR (r := 77) dX9_town_53 fl_9_22 rfl rfl rfl (by decide) ?_
        refine gd_bipush (v := nI 6) dX9_town_56 (by decide) ?_
        refine gd_ild2 dX9_town_58 ?_
        refine gd_imul dX9_town_59 ?_
        refine gd_ild3 dX9_town_60 ?_
        refine gd_iadd dX9_town_61 ?_
        refine gd_ic0 dX9_town_62 ?_
        refine gd_iast (n := 96) dX9_town_63 rfl (by decide) (by repeat' (first | with_reducible rfl | apply ni_add | apply ni_mul)) (by omega) ?_
        refine gd_iinc3 (b := nI 1) dX9_town_64 (by decide) rfl ?_
        refine gd_goto 46 dX9_town_67 (by decide) ?_
        refine gd_ild3 dX9_town_46 ?_
        refine gd_bipush (v := nI 6) dX9_town_47 (by decide) ?_
        refine gd_icmp_ge_f 70 dX9_town_49 (by decide) (by decide) ?_
        refine gd_ald0 dX9_town_52 (by decide) ?_
        refine gd_getR (r := 77) dX9_town_53 fl_9_22 rfl rfl rfl (by decide) ?_
        refine gd_bipush (v := nI 6) dX9_town_56 (by decide) ?_
        refine gd_ild2 dX9_town_58 ?_
        refine gd_imul dX9_town_59 ?_
        refine gd_ild3 dX9_town_60 ?_
        refine gd_iadd dX9_town_61 ?_
        refine gd_ic0 dX9_town_62 ?_
        refine gd_iast (n := 96) dX9_town_63 rfl (by decide) (by repeat' (first | with_reducible rfl | apply ni_add | apply ni_mul)) (by omega) ?_
        refine gd_iinc3 (b := nI 1) dX9_town_64 (by decide) rfl ?_
        refine gd_goto 46 dX9_town_67 (by decide) ?_
        refine gd_ild3 dX9_town_46 ?_
        refine gd_bipush (v := nI 6) dX9_town_47 (by decide) ?_
        refine gd_icmp_ge_t 70 dX9_town_49 (by decide) (by decide) ?_
        refine gd_ald0 dX9_town_70 (by decide) ?_
        refine gd_getR (r := 74) dX9_town_71 fl_9_13 rfl rfl rfl (by decide) ?_
        refine gd_ic0 dX9_town_74 ?_
        refine gd_dup2 (by decide) dX9_town_75 ?_
        refine gd_iald (n := 5) dX9_town_76 rfl (by decide) (by repeat' (first | with_reducible rfl | apply ni_add | apply ni_mul)) (by omega) ?_
        refine gd_ic1 dX9_town_77 ?_
        refine gd_iadd dX9_town_78 ?_
        refine gd_iast (n := 5) dX9_town_79 rfl (by decide) (by repeat' (first | with_reducible rfl | apply ni_add | apply ni_mul)) (by omega) ?_
        refine gd_ild2 dX9_town_80 ?_
        refine gd_iret dX9_town_81 rfl rfl ?_
        simp only [sI_sI, sI_at, sI_2, Nat.reduceEqDiff, reduceIte, i.mT, nI_add, hz6]
      · have em : ms (sI (sI (sI (sI (sI h 4 (upd (h.1 4) (nT (ms h)) (nI c))) 2 (upd (h.1 2) 3 (nI (nT (ms h) + 1)))) 76 (upd (h.1 76) (nT (ms h)) (nI c))) 77 (hz6 (h.1 77) (nT (ms h)))) 74 (upd (h.1 74) 0 (nI (nT (ms h) + 1)))) = sR (sR (sR (ms h) 2 (trR 2 (upd (h.1 76) (nT (ms h)) (nI c)))) 3 (trR 3 (hz6 (h.1 77) (nT (ms h))))) 0 (trR 0 (upd (h.1 74) 0 (nI (nT (ms h) + 1)))) := by
          rw [ms_set 0 (by decide), ms_set 3 (by decide), ms_set 2 (by decide), ms_si (Or.inl (by decide)), ms_si (Or.inl (by decide))]
        have e : nT (sR (sR (sR (ms h) 2 (trR 2 (upd (h.1 76) (nT (ms h)) (nI c)))) 3 (trR 3 (hz6 (h.1 77) (nT (ms h))))) 0 (trR 0 (upd (h.1 74) 0 (nI (nT (ms h) + 1))))) = nT (ms h) + 1 := tn_nI (by omega)
        refine inv_world i (fun k hk => ?_) rfl ?_ ?_
        · rw [sI_n (by omega), sI_n (by omega), sI_n (by omega), sI_n (by omega), sI_n (by omega)]
        · rw [em]
          refine ⟨⟨by rw [e]; rfl, by omega⟩, i.w.n, i.w.x, i.w.o, i.w.d, i.w.g, ?_, ?_, ?_, i.w.f, i.w.c6, i.w.r, i.w.k⟩
          · rw [e]
            intro t ht
            show ∃ c2, c2 < 144 ∧ trR 2 (upd (h.1 76) (nT (ms h)) (nI c)) t = nI c2
            rw [trR_at (show t < 16 by omega), upd_at]
            split
            · exact ⟨c, hc, rfl⟩
            · rw [← ms_r2 (by omega)]; exact i.w.c t (by omega)
          · rw [e]
            intro j hj
            show ∃ v, v < 10000 ∧ trR 3 (hz6 (h.1 77) (nT (ms h))) j = nI v
            rw [trR_at (show j < 96 by omega), hz6_at]
            split
            · exact ⟨0, by omega, rfl⟩
            · rw [← ms_r3 (by omega)]; exact i.w.h j (by omega)
          · intro l hl
            obtain ⟨k, t, x, d, r, q, z, y, a1, a2, a3, a4, a5, a6, a7, a8, b1, b2, b3⟩ := i.w.l l hl
            exact ⟨k, t, x, d, r, q, z, y, a1, a2, a3, a4, a5, a6, a7, a8, b1, by rw [e]; omega, b3⟩
        · rw [em]
          refine ⟨rfl, i.c.d, i.c.n, i.c.x, i.c.o, i.c.g, ?_, ?_, ?_, i.c.lk, i.c.lt, i.c.lw, i.c.ld, i.c.lr, i.c.lq, i.c.lf, i.c.le, i.c.lo, i.c.f, i.c.c6, i.c.rk, i.c.rl, i.c.rh, i.c.ks, i.c.km, i.c.kd⟩
          · rw [e]
            intro t ht
            show upd (h.1 4) (nT (ms h)) (nI c) t = trR 2 (upd (h.1 76) (nT (ms h)) (nI c)) t
            rw [trR_at (show t < 16 by omega), upd_at, upd_at]
            split
            · rfl
            · rw [← ms_r2 (by omega)]; exact i.c.c1 t (by omega)
          · rw [e]
            intro j hj
            show h.1 5 j = trR 3 (hz6 (h.1 77) (nT (ms h))) j
            rw [trR_at (show j < 96 by omega), hz6_at]
            split
            · exact i.c.h01 j (by omega) (by omega)
            · rw [← ms_r3 (by omega)]; exact i.c.h1 j (by omega)
          · rw [e]
            exact fun j h1 h2 => i.c.h01 j h1 (by omega)
    · refine Pas.find (h1 := h) (h2 := hf (h) 1) (v := -1000000002) (w := (-1000000000 : Int32) - nI 2) 1 i (by decide) (by decide) (by decide) (Same.rf _) (Same.rf _) ?_ ?_
      · refine gd_ild1 dX8_town_0 ?_
        refine gd_sipush (v := nI 144) dX8_town_1 (by decide) ?_
        refine gd_cS2i dX8_town_4 ct_8_48 ⟨Nat.le_of_ble_eq_true rfl, Nat.le_of_ble_eq_true rfl⟩ (Nat.le_of_ble_eq_true rfl) (Nat.le_of_ble_eq_true rfl) (c_isBelow_t hc (by decide) _) ?_
        refine gd_if_ne_t 17 dX8_town_7 (by decide) (by decide) ?_
        refine gd_ald0 dX8_town_17 (by decide) ?_
        refine gd_getR (r := 1) dX8_town_18 fl_8_12 rfl rfl rfl (by decide) ?_
        refine gd_getR (r := 2) dX8_town_21 fl_8_57 rfl rfl rfl (by decide) ?_
        refine gd_getI dX8_town_24 fl_8_66 rfl rfl ?_
        refine gd_bipush (v := nI 16) dX8_town_27 (by decide) ?_
        refine gd_icmp_lt_f 39 dX8_town_29 (by decide) (by rw [i.cT]; exact nI_nlt (by omega) (by omega)) ?_
        refine gd_ald0 dX8_town_32 (by decide) ?_
        refine gd_ldc dX8_town_33 ld_8_70 ?_
        refine gd_cV1i dX8_town_35 ct_8_53 rc_0 ⟨Nat.le_of_ble_eq_true rfl, Nat.le_of_ble_eq_true rfl⟩ (Nat.le_of_ble_eq_true rfl) (Nat.le_of_ble_eq_true rfl) (c_f1 _) ?_
        refine gd_iret dX8_town_38 rfl rfl ?_
        rfl
      · refine gd_ild1 dX9_town_0 ?_
        refine gd_cS1i dX9_town_1 ct_9_93 ⟨Nat.le_of_ble_eq_true rfl, Nat.le_of_ble_eq_true rfl⟩ (Nat.le_of_ble_eq_true rfl) (Nat.le_of_ble_eq_true rfl) (m_isCell_t hc _) ?_
        refine gd_if_ne_t 13 dX9_town_4 (by decide) (by decide) ?_
        refine gd_ald0 dX9_town_13 (by decide) ?_
        refine gd_getR (r := 74) dX9_town_14 fl_9_13 rfl rfl rfl (by decide) ?_
        refine gd_ic0 dX9_town_17 ?_
        refine gd_iald (n := 5) dX9_town_18 rfl (by decide) (by repeat' (first | with_reducible rfl | apply ni_add | apply ni_mul)) (by omega) ?_
        refine gd_bipush (v := nI 16) dX9_town_19 (by decide) ?_
        refine gd_icmp_ne_f 30 dX9_town_21 (by decide) (by rw [show (hf h 1).1 74 0 = _ from i.mT]; exact (nI_eq (by omega) (by omega)).mpr (by omega)) ?_
        refine gd_ald0 dX9_town_24 (by decide) ?_
        refine gd_ic2 dX9_town_25 ?_
        refine gd_cV1i dX9_town_26 ct_9_97 rc_72 ⟨Nat.le_of_ble_eq_true rfl, Nat.le_of_ble_eq_true rfl⟩ (Nat.le_of_ble_eq_true rfl) (Nat.le_of_ble_eq_true rfl) (m_f1 _) ?_
        refine gd_iret dX9_town_29 rfl rfl ?_
        rfl
  · refine Pas.find (h1 := h) (h2 := hf (h) 0) (v := -1000000001) (w := (-1000000000 : Int32) - nI 1) 0 i (by decide) (by decide) (by decide) (Same.rf _) (Same.rf _) ?_ ?_
    · refine gd_ild1 dX8_town_0 ?_
      refine gd_sipush (v := nI 144) dX8_town_1 (by decide) ?_
      refine gd_cS2i dX8_town_4 ct_8_48 ⟨Nat.le_of_ble_eq_true rfl, Nat.le_of_ble_eq_true rfl⟩ (Nat.le_of_ble_eq_true rfl) (Nat.le_of_ble_eq_true rfl) (c_isBelow_f ha _) ?_
      refine gd_if_ne_f 17 dX8_town_7 (by decide) (by decide) ?_
      refine gd_ald0 dX8_town_10 (by decide) ?_
      refine gd_ldc dX8_town_11 ld_8_52 ?_
      refine gd_cV1i dX8_town_13 ct_8_53 rc_0 ⟨Nat.le_of_ble_eq_true rfl, Nat.le_of_ble_eq_true rfl⟩ (Nat.le_of_ble_eq_true rfl) (Nat.le_of_ble_eq_true rfl) (c_f0 _) ?_
      refine gd_iret dX8_town_16 rfl rfl ?_
      rfl
    · refine gd_ild1 dX9_town_0 ?_
      refine gd_cS1i dX9_town_1 ct_9_93 ⟨Nat.le_of_ble_eq_true rfl, Nat.le_of_ble_eq_true rfl⟩ (Nat.le_of_ble_eq_true rfl) (Nat.le_of_ble_eq_true rfl) (m_isCell_f ha _) ?_
      refine gd_if_ne_f 13 dX9_town_4 (by decide) (by decide) ?_
      refine gd_ald0 dX9_town_7 (by decide) ?_
      refine gd_ic1 dX9_town_8 ?_
      refine gd_cV1i dX9_town_9 ct_9_97 rc_72 ⟨Nat.le_of_ble_eq_true rfl, Nat.le_of_ble_eq_true rfl⟩ (Nat.le_of_ble_eq_true rfl) (Nat.le_of_ble_eq_true rfl) (m_f0 _) ?_
      refine gd_iret dX9_town_12 rfl rfl ?_
      rfl
