
/-! ===== the law: one step ===== -/
set_option maxHeartbeats 1000000 in
theorem gd_callVk {M : MD} {pc : Nat} {ls st : List Value} {h : Hp} {x : Option Value × Hp} {i n b : Nat} {M' : MD} {vs : List Value} {y : Option Value × Hp} (hd : decode M.1 pc = .ok (.invokevirtual i, 3)) (hc : CVk M.2.2.1 i M' n) (hb : RCk b M'.2.1.cls) (hvn : vs.length = n) (hr : M'.2.2.2.2.2.1 + 1 ≤ M.2.2.2.2.2.1 ∧ 8 + (M'.2.2.2.1 + 11) + M'.2.2.2.2.2.2 ≤ M.2.2.2.2.2.2) (hst : (st.map fun v => v.category).sum ≤ 8) (hlen : (slV (.ref b :: vs)).length ≤ M'.2.2.2.1) (gc : Gd M' 0 (entL M'.2.2.2.1 (.ref b :: vs)) [] h y) (g : y.2.1 95 = h.1 95 → y.2.2 95 0 = h.2 95 0 → Gd M (pc + 3) ls (y.1.toList ++ st) y.2 x) : Gd M pc ls (vs.reverse ++ .ref b :: st) h x := by
  intro l ad D cI cJ cZ A fm xs L p e R s m args below meth c cells slots Q hC hR H locs lsA hN hl hn
  have hM := met_of hc.1 hlen gc l ad D cI cJ cZ A fm xs L hC.2.2.2.2.2.2.2.2.2
  obtain ⟨⟨k1, k2, k3, k4, k5⟩, k6, k7, k8, k9⟩ := hc
  have hrecv : ∃ cell : Cell, H[ad b]? = some cell ∧ cell.vm.isStatics = false ∧ s.vm.findClass M'.2.1.cls = some cell.cls := by
    rcases hb with ⟨c0, T, N, e1, e2⟩ | ⟨j, e1, e2, e3⟩
    · exact va_recv hC.2.2.2.2.2.2.1 hN.1 e2 (by rw [wO_get (kd_lt e1 (by decide)), enE_obj e1])
    · obtain ⟨-, -, -, -, -, -, c1, -⟩ := id hC.2.2.2.2.2.2.2.1
      rw [e2, e3]
      exact vk_recv (adK := fun i => ad (100 + i)) c1 e1 hN.2.2.1
  have cw := cwV (R := R) (own := cnm M.2.2.1) (index := i) (C := M'.2.1.cls) (y := M'.2.1) (bytes := M'.1) (maxL := M'.2.2.2.1) (ret := M'.2.2.2.2.1) (ws := wsM M') (ws' := wall) (rm := rmM M') (mc := 0) (ms := 0) n hC.2.2.2.2.1 (good_wall (fun w hw => by
    unfold wsV at hw
    simp only [List.cons_append, List.nil_append, List.mem_cons] at hw
    rcases hw with rfl | rfl | rfl | rfl | rfl | hw
    · exact k6
    · exact k7
    · exact k8
    · exact k5
    · exact k1
    · exact hw)) rfl rfl rfl ⟨rfl, k2.1, k2.2, k9⟩ ⟨Nat.le_trans hr.1 hC.2.2.2.2.2.1.1, Nat.le_trans hr.2 hC.2.2.2.2.2.1.2⟩
  have hrun := va_runV (As := vs.map (cv ad fm)) (rest := st.map (cv ad fm)) (g := F0 m pc lsA ((vs.reverse ++ .ref b :: st).map (cv ad fm))) (b := ad b) (cells := cells) (slots := slots) (H := H) (locs := locs) (e := e) (below := below) (meth := meth) ⟨hC.1, hC.2.1, hC.2.2.1, hC.2.2.2.1, hC.2.2.2.2.1⟩ hM cw ⟨Wd.blind, hrecv, fun U hU hW => ⟨by rw [List.map_cons, cv_ref hb.ne], by rw [hU]; exact hN.1, hN.2.1, va_K.moved hW.alike hC.2.2.2.2.2.2.1, Sts.go hN.2.2.1 hU hW hC.2.2.2.2.2.2.2.1, hN.2.2.2.1, hN.2.2.2.2.1, hN.2.2.2.2.2⟩⟩ rfl (by simp [hvn]) hl.1 (by simp [cv_ref hb.ne]) (lv_room (st_cat hC.2.2.2.2.2.2.2.2.2 hst)) hd ⟨hC.2.2.2.2.2.2.2.2.1.1, hC.2.2.2.2.2.2.2.2.1.2⟩
  refine call_go hrun hN.2.2.1 hN.2.2.2.2.2 (fun H1 locs1 hN1 => ?_)
  have g2 := g (hN1.2.2.2.1.trans hN.2.2.2.1.symm) (hN1.2.2.2.2.1.trans hN.2.2.2.2.1.symm) l ad D cI cJ cZ A fm xs L p e R s m args below meth c cells slots Q hC hR H1 locs1 lsA hN1 hl hn
  rw [opt_map] at g2
  exact g2
theorem gd_kV0i {M : MD} {pc : Nat} {ls st : List Value} {h : Hp} {x : Option Value × Hp} {i b : Nat} {M' : MD} {v : Int32} {h1 : Hp} (hd : decode M.1 pc = .ok (.invokevirtual i, 3)) (hc : CVk M.2.2.1 i M' 0) (hb : RCk b M'.2.1.cls) (hr : M'.2.2.2.2.2.1 + 1 ≤ M.2.2.2.2.2.1 ∧ 8 + (M'.2.2.2.1 + 11) + M'.2.2.2.2.2.2 ≤ M.2.2.2.2.2.2) (hst : (st.map fun v => v.category).sum ≤ 8) (hlen : (slV [.ref b]).length ≤ M'.2.2.2.1) (gc : Gd M' 0 (entL M'.2.2.2.1 [.ref b]) [] h (some (.int v), h1)) (g : h1.1 95 = h.1 95 → h1.2 95 0 = h.2 95 0 → Gd M (pc + 3) ls (.int v :: st) h1 x) : Gd M pc ls (.ref b :: st) h x := gd_callVk (vs := []) hd hc hb rfl hr hst hlen gc g
theorem gd_kV1i {M : MD} {pc : Nat} {ls st : List Value} {h : Hp} {x : Option Value × Hp} {i b : Nat} {M' : MD} {a1 : Value} {v : Int32} {h1 : Hp} (hd : decode M.1 pc = .ok (.invokevirtual i, 3)) (hc : CVk M.2.2.1 i M' 1) (hb : RCk b M'.2.1.cls) (hr : M'.2.2.2.2.2.1 + 1 ≤ M.2.2.2.2.2.1 ∧ 8 + (M'.2.2.2.1 + 11) + M'.2.2.2.2.2.2 ≤ M.2.2.2.2.2.2) (hst : (st.map fun v => v.category).sum ≤ 8) (hlen : (slV [.ref b, a1]).length ≤ M'.2.2.2.1) (gc : Gd M' 0 (entL M'.2.2.2.1 [.ref b, a1]) [] h (some (.int v), h1)) (g : h1.1 95 = h.1 95 → h1.2 95 0 = h.2 95 0 → Gd M (pc + 3) ls (.int v :: st) h1 x) : Gd M pc ls (a1 :: .ref b :: st) h x := gd_callVk (vs := [a1]) hd hc hb rfl hr hst hlen gc g
theorem gd_kV2i {M : MD} {pc : Nat} {ls st : List Value} {h : Hp} {x : Option Value × Hp} {i b : Nat} {M' : MD} {a1 a2 : Value} {v : Int32} {h1 : Hp} (hd : decode M.1 pc = .ok (.invokevirtual i, 3)) (hc : CVk M.2.2.1 i M' 2) (hb : RCk b M'.2.1.cls) (hr : M'.2.2.2.2.2.1 + 1 ≤ M.2.2.2.2.2.1 ∧ 8 + (M'.2.2.2.1 + 11) + M'.2.2.2.2.2.2 ≤ M.2.2.2.2.2.2) (hst : (st.map fun v => v.category).sum ≤ 8) (hlen : (slV [.ref b, a1, a2]).length ≤ M'.2.2.2.1) (gc : Gd M' 0 (entL M'.2.2.2.1 [.ref b, a1, a2]) [] h (some (.int v), h1)) (g : h1.1 95 = h.1 95 → h1.2 95 0 = h.2 95 0 → Gd M (pc + 3) ls (.int v :: st) h1 x) : Gd M pc ls (a2 :: a1 :: .ref b :: st) h x := gd_callVk (vs := [a1, a2]) hd hc hb rfl hr hst hlen gc g
theorem gd_kV3i {M : MD} {pc : Nat} {ls st : List Value} {h : Hp} {x : Option Value × Hp} {i b : Nat} {M' : MD} {a1 a2 a3 : Value} {v : Int32} {h1 : Hp} (hd : decode M.1 pc = .ok (.invokevirtual i, 3)) (hc : CVk M.2.2.1 i M' 3) (hb : RCk b M'.2.1.cls) (hr : M'.2.2.2.2.2.1 + 1 ≤ M.2.2.2.2.2.1 ∧ 8 + (M'.2.2.2.1 + 11) + M'.2.2.2.2.2.2 ≤ M.2.2.2.2.2.2) (hst : (st.map fun v => v.category).sum ≤ 8) (hlen : (slV [.ref b, a1, a2, a3]).length ≤ M'.2.2.2.1) (gc : Gd M' 0 (entL M'.2.2.2.1 [.ref b, a1, a2, a3]) [] h (some (.int v), h1)) (g : h1.1 95 = h.1 95 → h1.2 95 0 = h.2 95 0 → Gd M (pc + 3) ls (.int v :: st) h1 x) : Gd M pc ls (a3 :: a2 :: a1 :: .ref b :: st) h x := gd_callVk (vs := [a1, a2, a3]) hd hc hb rfl hr hst hlen gc g
theorem gd_kV5i {M : MD} {pc : Nat} {ls st : List Value} {h : Hp} {x : Option Value × Hp} {i b : Nat} {M' : MD} {a1 a2 a3 a4 a5 : Value} {v : Int32} {h1 : Hp} (hd : decode M.1 pc = .ok (.invokevirtual i, 3)) (hc : CVk M.2.2.1 i M' 5) (hb : RCk b M'.2.1.cls) (hr : M'.2.2.2.2.2.1 + 1 ≤ M.2.2.2.2.2.1 ∧ 8 + (M'.2.2.2.1 + 11) + M'.2.2.2.2.2.2 ≤ M.2.2.2.2.2.2) (hst : (st.map fun v => v.category).sum ≤ 8) (hlen : (slV [.ref b, a1, a2, a3, a4, a5]).length ≤ M'.2.2.2.1) (gc : Gd M' 0 (entL M'.2.2.2.1 [.ref b, a1, a2, a3, a4, a5]) [] h (some (.int v), h1)) (g : h1.1 95 = h.1 95 → h1.2 95 0 = h.2 95 0 → Gd M (pc + 3) ls (.int v :: st) h1 x) : Gd M pc ls (a5 :: a4 :: a3 :: a2 :: a1 :: .ref b :: st) h x := gd_callVk (vs := [a1, a2, a3, a4, a5]) hd hc hb rfl hr hst hlen gc g
theorem gd_kV2l {M : MD} {pc : Nat} {ls st : List Value} {h : Hp} {x : Option Value × Hp} {i b : Nat} {M' : MD} {a1 a2 : Value} {v : Int64} {h1 : Hp} (hd : decode M.1 pc = .ok (.invokevirtual i, 3)) (hc : CVk M.2.2.1 i M' 2) (hb : RCk b M'.2.1.cls) (hr : M'.2.2.2.2.2.1 + 1 ≤ M.2.2.2.2.2.1 ∧ 8 + (M'.2.2.2.1 + 11) + M'.2.2.2.2.2.2 ≤ M.2.2.2.2.2.2) (hst : (st.map fun v => v.category).sum ≤ 8) (hlen : (slV [.ref b, a1, a2]).length ≤ M'.2.2.2.1) (gc : Gd M' 0 (entL M'.2.2.2.1 [.ref b, a1, a2]) [] h (some (.long v), h1)) (g : h1.1 95 = h.1 95 → h1.2 95 0 = h.2 95 0 → Gd M (pc + 3) ls (.long v :: st) h1 x) : Gd M pc ls (a2 :: a1 :: .ref b :: st) h x := gd_callVk (vs := [a1, a2]) hd hc hb rfl hr hst hlen gc g
theorem gd_kV3l {M : MD} {pc : Nat} {ls st : List Value} {h : Hp} {x : Option Value × Hp} {i b : Nat} {M' : MD} {a1 a2 a3 : Value} {v : Int64} {h1 : Hp} (hd : decode M.1 pc = .ok (.invokevirtual i, 3)) (hc : CVk M.2.2.1 i M' 3) (hb : RCk b M'.2.1.cls) (hr : M'.2.2.2.2.2.1 + 1 ≤ M.2.2.2.2.2.1 ∧ 8 + (M'.2.2.2.1 + 11) + M'.2.2.2.2.2.2 ≤ M.2.2.2.2.2.2) (hst : (st.map fun v => v.category).sum ≤ 8) (hlen : (slV [.ref b, a1, a2, a3]).length ≤ M'.2.2.2.1) (gc : Gd M' 0 (entL M'.2.2.2.1 [.ref b, a1, a2, a3]) [] h (some (.long v), h1)) (g : h1.1 95 = h.1 95 → h1.2 95 0 = h.2 95 0 → Gd M (pc + 3) ls (.long v :: st) h1 x) : Gd M pc ls (a3 :: a2 :: a1 :: .ref b :: st) h x := gd_callVk (vs := [a1, a2, a3]) hd hc hb rfl hr hst hlen gc g

/-- an answer of a sort that the method has not is no answer -/
theorem gd_vac {M : MD} {pc : Nat} {ls st : List Value} {h : Hp} {x y : Option Value × Hp} (hn : ∀ pc', ¬ rtn M pc' x.1) (g : Gd M pc ls st h x) : Gd M pc ls st h y := by
  intro l ad D cI cJ cZ A fm xs L p e R s m args below meth c cells slots Q hC hR H locs lsA hN hl hn2
  exact g l ad D cI cJ cZ A fm xs L p e R s m args below meth c cells slots Q hC (fun H' locs' lsA' pc' _ hr => absurd hr (hn pc')) H locs lsA hN hl hn2
def PasI (Mc Mm : MD) (ac am : List Value) (h : Hp) : Prop := ∃ (v : Int32) (h1 h2 : Hp), Gd Mc 0 ac [] h (some (.int v), h1) ∧ Gd Mm 0 am [] h1 (some (.int v), h2) ∧ Inv h2 ∧ h2.1 95 = h.1 95 ∧ h2.2 95 = h.2 95
theorem Pas.int {Mc Mm : MD} {ac am : List Value} {h : Hp} (hc : Mc.2.2.2.2.1 = some .int) (hm : Mm.2.2.2.2.1 = some .int) (q : Pas Mc Mm ac am h) : PasI Mc Mm ac am h := by
  obtain ⟨r, h1, h2, g1, g2, i2, e1, e2⟩ := q
  cases r with
  | int v => exact ⟨v, h1, h2, g1, g2, i2, e1, e2⟩
  | long v => exact ⟨0, h1, h2, gd_vac (fun pc' z => by have z2 := z.2; rw [hc] at z2; cases z2) g1, gd_vac (fun pc' z => by have z2 := z.2; rw [hm] at z2; cases z2) g2, i2, e1, e2⟩
  | _ => exact ⟨0, h1, h2, gd_vac (by intro pc' z; exact z) g1, gd_vac (by intro pc' z; exact z) g2, i2, e1, e2⟩
def PasL (Mc Mm : MD) (ac am : List Value) (h : Hp) : Prop := ∃ (r : Value) (h1 h2 : Hp), Gd Mc 0 ac [] h (some r, h1) ∧ Gd Mm 0 am [] h1 (some r, h2) ∧ Inv h2 ∧ h2.1 95 = h.1 95 ∧ h2.2 95 = h.2 95 ∧ ∃ v, r = .long v
theorem PasL.findV {Mc Mm : MD} {ac am : List Value} {h h1 h2 : Hp} {r r2 : Value} (j : Nat) (i : Inv h) (hj : j < 7) (hr : r2 = r) (q1 : Same h h1) (q2 : Same (hf h1 j) h2) (g1 : Gd Mc 0 ac [] h (some r, hf h1 j)) (g2 : Gd Mm 0 am [] (hf h1 j) (some r2, hm h2 j)) (hl : ∃ v, r = .long v := by exact ⟨_, rfl⟩) : PasL Mc Mm ac am h := by
  subst hr
  refine ⟨_, _, _, g1, g2, inv_find2 i hj q1 q2, ?_, ?_, hl⟩
  · unfold hm; rw [sI_n (by decide), q2.1 95 (by decide)]; unfold hf; rw [sI_n (by decide), q1.1 95 (by decide)]
  · exact (q2.2.2 95 (by decide)).trans (q1.2.2 95 (by decide))
theorem PasL.read {Mc Mm : MD} {ac am : List Value} {h h1 h2 : Hp} {r r2 : Value} (i : Inv h) (hr : r2 = r) (q1 : Same h h1) (q2 : Same h1 h2) (g1 : Gd Mc 0 ac [] h (some r, h1)) (g2 : Gd Mm 0 am [] h1 (some r2, h2)) (hl : ∃ v, r = .long v := by exact ⟨_, rfl⟩) : PasL Mc Mm ac am h := by
  subst hr
  have q := q1.tr q2
  exact ⟨_, _, _, g1, g2, i.same q, q.1 95 (by decide), q.2.2 95 (by decide), hl⟩

set_option maxHeartbeats 2000000 in
theorem q_write {h : Hp} (i : Inv h) (a b : Int32) (v : Int64) : PasL mX8_write mX9_write [.ref 0, .int a, .int b, .long v, .null] [.ref 72, .int a, .int b, .long v, .null, .null, .null] h := by
  rcases rng a (4) (by decide) with ⟨q, hq, rfl⟩ | ha
  · have e91 := (i.s.n q hq).1
    have l91 := (i.s.n q hq).2
    have e59 : h.1 59 q = nI (tn (h.1 91 q)) := (i.s.z q hq).trans e91
    rcases i.s.v q hq with e90 | e90 | e90 | e90
    · have e58 : h.1 58 q = nI 0 := (i.s.w q hq).trans e90
      refine PasL.findV (h1 := h) (h2 := hf (h) 5) (r := .long (-1000000006 : Int32).toInt64) (r2 := .long ((-1000000000 : Int32) - nI 6).toInt64) 5 i (by decide) (by decide) (Same.rf _) (Same.rf _) ?_ ?_
      · refine gd_ild1 dX8_write_0 ?_
        refine gd_ic4 dX8_write_1 ?_
        refine gd_cS2i dX8_write_2 ct_8_48 ⟨Nat.le_of_ble_eq_true rfl, Nat.le_of_ble_eq_true rfl⟩ (Nat.le_of_ble_eq_true rfl) (Nat.le_of_ble_eq_true rfl) (c_isBelow_t hq (by decide) _) ?_
        refine gd_if_ne_t 16 dX8_write_5 (by decide) (by decide) ?_
        refine gd_ald0 dX8_write_16 (by decide) ?_
        refine gd_getR (r := 56) dX8_write_17 fl_8_33 rfl rfl rfl (by decide) ?_
        refine gd_ild1 dX8_write_20 ?_
        refine gd_cV1i dX8_write_21 ct_8_82 rc_56 ⟨Nat.le_of_ble_eq_true rfl, Nat.le_of_ble_eq_true rfl⟩ (Nat.le_of_ble_eq_true rfl) (Nat.le_of_ble_eq_true rfl) (c_isMissing1 hq e58) ?_
        refine gd_if_eq_f 35 dX8_write_24 (by decide) (by decide) ?_
        refine gd_ald0 dX8_write_27 (by decide) ?_
        refine gd_ldc dX8_write_28 ld_8_85 ?_
        refine gd_cV1i dX8_write_30 ct_8_53 rc_0 ⟨Nat.le_of_ble_eq_true rfl, Nat.le_of_ble_eq_true rfl⟩ (Nat.le_of_ble_eq_true rfl) (Nat.le_of_ble_eq_true rfl) (c_f5 _) ?_
        refine gd_i2l dX8_write_33 ?_
        refine gd_lret dX8_write_34 rfl ?_
        rfl
      · refine gd_ild1 dX9_write_0 ?_
        refine gd_cS1i dX9_write_1 ct_9_104 ⟨Nat.le_of_ble_eq_true rfl, Nat.le_of_ble_eq_true rfl⟩ (Nat.le_of_ble_eq_true rfl) (Nat.le_of_ble_eq_true rfl) (m_isSheet_t hq _) ?_
        refine gd_if_ne_t 14 dX9_write_4 (by decide) (by decide) ?_
        refine gd_ald0 dX9_write_14 (by decide) ?_
        refine gd_getR (r := 90) dX9_write_15 fl_9_63 rfl rfl rfl (by decide) ?_
        refine gd_ild1 dX9_write_18 ?_
        refine gd_iald (n := 4) dX9_write_19 rfl (by decide) (by repeat' (first | with_reducible rfl | apply ni_add | apply ni_mul)) (by omega) ?_
        rw [show (hf h 5).1 90 q = nI 0 from e90]
        refine gd_if_ne_f 31 dX9_write_20 (by decide) (by decide) ?_
        refine gd_ald0 dX9_write_23 (by decide) ?_
        refine gd_bipush (v := nI 6) dX9_write_24 (by decide) ?_
        refine gd_cV1i dX9_write_26 ct_9_97 rc_72 ⟨Nat.le_of_ble_eq_true rfl, Nat.le_of_ble_eq_true rfl⟩ (Nat.le_of_ble_eq_true rfl) (Nat.le_of_ble_eq_true rfl) (m_f5 _) ?_
        refine gd_i2l dX9_write_29 ?_
        refine gd_lret dX9_write_30 rfl ?_
        rfl
    · have e58 : h.1 58 q = nI 8 := (i.s.w q hq).trans e90
      rcases rng b (tn (h.1 91 q)) (by omega) with ⟨j, hj, rfl⟩ | hb
      · refine ⟨.long (h.2 92 (40 * q + j)), sL h 57 (vp_updL (h.2 57) (40 * q + j) (v.toInt32.toInt8.toInt32.toInt64)), sL (sL h 57 (vp_updL (h.2 57) (40 * q + j) (v.toInt32.toInt8.toInt32.toInt64))) 92 (vp_updL (h.2 92) (40 * q + j) (v.toInt32.toInt8.toInt32.toInt64)), ?_, ?_, ?_, rfl, rfl, _, rfl⟩
        · refine gd_ild1 dX8_write_0 ?_
          refine gd_ic4 dX8_write_1 ?_
          refine gd_cS2i dX8_write_2 ct_8_48 ⟨Nat.le_of_ble_eq_true rfl, Nat.le_of_ble_eq_true rfl⟩ (Nat.le_of_ble_eq_true rfl) (Nat.le_of_ble_eq_true rfl) (c_isBelow_t hq (by decide) _) ?_
          refine gd_if_ne_t 16 dX8_write_5 (by decide) (by decide) ?_
          refine gd_ald0 dX8_write_16 (by decide) ?_
          refine gd_getR (r := 56) dX8_write_17 fl_8_33 rfl rfl rfl (by decide) ?_
          refine gd_ild1 dX8_write_20 ?_
          refine gd_cV1i dX8_write_21 ct_8_82 rc_56 ⟨Nat.le_of_ble_eq_true rfl, Nat.le_of_ble_eq_true rfl⟩ (Nat.le_of_ble_eq_true rfl) (Nat.le_of_ble_eq_true rfl) (c_isMissing0 hq e58 (by decide) (by decide)) ?_
          refine gd_if_eq_t 35 dX8_write_24 (by decide) (by decide) ?_
          refine gd_ild2 dX8_write_35 ?_
          refine gd_ald0 dX8_write_36 (by decide) ?_
          refine gd_getR (r := 56) dX8_write_37 fl_8_33 rfl rfl rfl (by decide) ?_
          refine gd_getR (r := 59) dX8_write_40 fl_8_86 rfl rfl rfl (by decide) ?_
          refine gd_ild1 dX8_write_43 ?_
          refine gd_iald (n := 4) dX8_write_44 rfl (by decide) (by repeat' (first | with_reducible rfl | apply ni_add | apply ni_mul)) (by omega) ?_
          rw [e59]
          refine gd_cS2i dX8_write_45 ct_8_48 ⟨Nat.le_of_ble_eq_true rfl, Nat.le_of_ble_eq_true rfl⟩ (Nat.le_of_ble_eq_true rfl) (Nat.le_of_ble_eq_true rfl) (c_isBelow_t hj (by omega) _) ?_
          refine gd_if_ne_t 59 dX8_write_48 (by decide) (by decide) ?_
          refine gd_ald0 dX8_write_59 (by decide) ?_
          refine gd_getR (r := 56) dX8_write_60 fl_8_33 rfl rfl rfl (by decide) ?_
          refine gd_ild1 dX8_write_63 ?_
          refine gd_ild2 dX8_write_64 ?_
          refine gd_lld3 dX8_write_65 ?_
          refine gd_cV3l dX8_write_66 ct_8_302 rc_56 ⟨Nat.le_of_ble_eq_true rfl, Nat.le_of_ble_eq_true rfl⟩ (Nat.le_of_ble_eq_true rfl) (Nat.le_of_ble_eq_true rfl) (c_put8 hq (by omega) v _ e58) ?_
          refine gd_lret dX8_write_69 rfl ?_
          rw [i.s.x _ (by omega)]
        · refine gd_ild1 dX9_write_0 ?_
          refine gd_cS1i dX9_write_1 ct_9_104 ⟨Nat.le_of_ble_eq_true rfl, Nat.le_of_ble_eq_true rfl⟩ (Nat.le_of_ble_eq_true rfl) (Nat.le_of_ble_eq_true rfl) (m_isSheet_t hq _) ?_
          refine gd_if_ne_t 14 dX9_write_4 (by decide) (by decide) ?_
          refine gd_ald0 dX9_write_14 (by decide) ?_
          refine gd_getR (r := 90) dX9_write_15 fl_9_63 rfl rfl rfl (by decide) ?_
          refine gd_ild1 dX9_write_18 ?_
          refine gd_iald (n := 4) dX9_write_19 rfl (by decide) (by repeat' (first | with_reducible rfl | apply ni_add | apply ni_mul)) (by omega) ?_
          rw [show (sL h 57 (vp_updL (h.2 57) (40 * q + j) (v.toInt32.toInt8.toInt32.toInt64))).1 90 q = nI 8 from e90]
          refine gd_if_ne_t 31 dX9_write_20 (by decide) (by decide) ?_
          refine gd_ild2 dX9_write_31 ?_
          refine gd_ic0 dX9_write_32 ?_
          refine gd_ald0 dX9_write_33 (by decide) ?_
          refine gd_getR (r := 91) dX9_write_34 fl_9_66 rfl rfl rfl (by decide) ?_
          refine gd_ild1 dX9_write_37 ?_
          refine gd_iald (n := 4) dX9_write_38 rfl (by decide) (by repeat' (first | with_reducible rfl | apply ni_add | apply ni_mul)) (by omega) ?_
          rw [show (sL h 57 (vp_updL (h.2 57) (40 * q + j) (v.toInt32.toInt8.toInt32.toInt64))).1 91 q = nI (tn (h.1 91 q)) from e91]
          refine gd_ic1 dX9_write_39 ?_
          refine gd_isub dX9_write_40 ?_
          refine gd_cS3i dX9_write_41 ct_9_79 ⟨Nat.le_of_ble_eq_true rfl, Nat.le_of_ble_eq_true rfl⟩ (Nat.le_of_ble_eq_true rfl) (Nat.le_of_ble_eq_true rfl) (m_inz_t hj (by omega) _) ?_
          refine gd_if_ne_t 54 dX9_write_44 (by decide) (by decide) ?_
          refine gd_ald0 dX9_write_54 (by decide) ?_
          refine gd_getR (r := 92) dX9_write_55 fl_9_69 rfl rfl rfl (by decide) ?_
          refine gd_bipush (v := nI 40) dX9_write_58 (by decide) ?_
          refine gd_ild1 dX9_write_60 ?_
          refine gd_imul dX9_write_61 ?_
          refine gd_ild2 dX9_write_62 ?_
          refine gd_iadd dX9_write_63 ?_
          refine gd_lald (n := 160) dX9_write_64 rfl (by decide) (by repeat' (first | with_reducible rfl | apply ni_add | apply ni_mul)) (by omega) ?_
          refine gd_lst5 dX9_write_65 rfl ?_
          refine gd_ald0 dX9_write_67 (by decide) ?_
          refine gd_getR (r := 92) dX9_write_68 fl_9_69 rfl rfl rfl (by decide) ?_
          refine gd_bipush (v := nI 40) dX9_write_71 (by decide) ?_
          refine gd_ild1 dX9_write_73 ?_
          refine gd_imul dX9_write_74 ?_
          refine gd_ild2 dX9_write_75 ?_
          refine gd_iadd dX9_write_76 ?_
          refine gd_ald0 dX9_write_77 (by decide) ?_
          refine gd_getR (r := 90) dX9_write_78 fl_9_63 rfl rfl rfl (by decide) ?_
          refine gd_ild1 dX9_write_81 ?_
          refine gd_iald (n := 4) dX9_write_82 rfl (by decide) (by repeat' (first | with_reducible rfl | apply ni_add | apply ni_mul)) (by omega) ?_
          rw [show (sL h 57 (vp_updL (h.2 57) (40 * q + j) (v.toInt32.toInt8.toInt32.toInt64))).1 90 q = nI 8 from e90]
          refine gd_bipush (v := nI 8) dX9_write_83 (by decide) ?_
          refine gd_icmp_ne_f 95 dX9_write_85 (by decide) (by decide) ?_
          refine gd_lld3 dX9_write_88 ?_
          refine gd_l2i dX9_write_89 ?_
          refine gd_i2b dX9_write_90 ?_
          refine gd_i2l dX9_write_91 ?_
          refine gd_goto 114 dX9_write_92 (by decide) ?_
          refine gd_last (n := 160) dX9_write_114 rfl (by decide) (by repeat' (first | with_reducible rfl | apply ni_add | apply ni_mul)) (by omega) ?_
          refine gd_lld5 dX9_write_115 ?_
          refine gd_lret dX9_write_117 rfl ?_
          rfl
        · refine inv_rest i (fun k hk => rfl) (Or.inl ⟨rfl, rfl⟩) ⟨i.p.n, i.p.b⟩ ⟨i.s.w, i.s.z, i.s.n, i.s.v, ?_⟩ rfl
          intro p hp
          show vp_updL (h.2 57) _ _ p = vp_updL (h.2 92) _ _ p
          rw [updL_at, updL_at, i.s.x p hp]
      · refine PasL.findV (h1 := h) (h2 := hf (h) 0) (r := .long (-1000000001 : Int32).toInt64) (r2 := .long ((-1000000000 : Int32) - nI 1).toInt64) 0 i (by decide) (by decide) (Same.rf _) (Same.rf _) ?_ ?_
        · refine gd_ild1 dX8_write_0 ?_
          refine gd_ic4 dX8_write_1 ?_
          refine gd_cS2i dX8_write_2 ct_8_48 ⟨Nat.le_of_ble_eq_true rfl, Nat.le_of_ble_eq_true rfl⟩ (Nat.le_of_ble_eq_true rfl) (Nat.le_of_ble_eq_true rfl) (c_isBelow_t hq (by decide) _) ?_
          refine gd_if_ne_t 16 dX8_write_5 (by decide) (by decide) ?_
          refine gd_ald0 dX8_write_16 (by decide) ?_
          refine gd_getR (r := 56) dX8_write_17 fl_8_33 rfl rfl rfl (by decide) ?_
          refine gd_ild1 dX8_write_20 ?_
          refine gd_cV1i dX8_write_21 ct_8_82 rc_56 ⟨Nat.le_of_ble_eq_true rfl, Nat.le_of_ble_eq_true rfl⟩ (Nat.le_of_ble_eq_true rfl) (Nat.le_of_ble_eq_true rfl) (c_isMissing0 hq e58 (by decide) (by decide)) ?_
          refine gd_if_eq_t 35 dX8_write_24 (by decide) (by decide) ?_
          refine gd_ild2 dX8_write_35 ?_
          refine gd_ald0 dX8_write_36 (by decide) ?_
          refine gd_getR (r := 56) dX8_write_37 fl_8_33 rfl rfl rfl (by decide) ?_
          refine gd_getR (r := 59) dX8_write_40 fl_8_86 rfl rfl rfl (by decide) ?_
          refine gd_ild1 dX8_write_43 ?_
          refine gd_iald (n := 4) dX8_write_44 rfl (by decide) (by repeat' (first | with_reducible rfl | apply ni_add | apply ni_mul)) (by omega) ?_
          rw [e59]
          refine gd_cS2i dX8_write_45 ct_8_48 ⟨Nat.le_of_ble_eq_true rfl, Nat.le_of_ble_eq_true rfl⟩ (Nat.le_of_ble_eq_true rfl) (Nat.le_of_ble_eq_true rfl) (c_isBelow_f hb _) ?_
          refine gd_if_ne_f 59 dX8_write_48 (by decide) (by decide) ?_
          refine gd_ald0 dX8_write_51 (by decide) ?_
          refine gd_ldc dX8_write_52 ld_8_52 ?_
          refine gd_cV1i dX8_write_54 ct_8_53 rc_0 ⟨Nat.le_of_ble_eq_true rfl, Nat.le_of_ble_eq_true rfl⟩ (Nat.le_of_ble_eq_true rfl) (Nat.le_of_ble_eq_true rfl) (c_f0 _) ?_
          refine gd_i2l dX8_write_57 ?_
          refine gd_lret dX8_write_58 rfl ?_
          rfl
        · refine gd_ild1 dX9_write_0 ?_
          refine gd_cS1i dX9_write_1 ct_9_104 ⟨Nat.le_of_ble_eq_true rfl, Nat.le_of_ble_eq_true rfl⟩ (Nat.le_of_ble_eq_true rfl) (Nat.le_of_ble_eq_true rfl) (m_isSheet_t hq _) ?_
          refine gd_if_ne_t 14 dX9_write_4 (by decide) (by decide) ?_
          refine gd_ald0 dX9_write_14 (by decide) ?_
          refine gd_getR (r := 90) dX9_write_15 fl_9_63 rfl rfl rfl (by decide) ?_
          refine gd_ild1 dX9_write_18 ?_
          refine gd_iald (n := 4) dX9_write_19 rfl (by decide) (by repeat' (first | with_reducible rfl | apply ni_add | apply ni_mul)) (by omega) ?_
          rw [show (hf h 0).1 90 q = nI 8 from e90]
          refine gd_if_ne_t 31 dX9_write_20 (by decide) (by decide) ?_
          refine gd_ild2 dX9_write_31 ?_
          refine gd_ic0 dX9_write_32 ?_
          refine gd_ald0 dX9_write_33 (by decide) ?_
          refine gd_getR (r := 91) dX9_write_34 fl_9_66 rfl rfl rfl (by decide) ?_
          refine gd_ild1 dX9_write_37 ?_
          refine gd_iald (n := 4) dX9_write_38 rfl (by decide) (by repeat' (first | with_reducible rfl | apply ni_add | apply ni_mul)) (by omega) ?_
          rw [show (hf h 0).1 91 q = nI (tn (h.1 91 q)) from e91]
          refine gd_ic1 dX9_write_39 ?_
          refine gd_isub dX9_write_40 ?_
          refine gd_cS3i dX9_write_41 ct_9_79 ⟨Nat.le_of_ble_eq_true rfl, Nat.le_of_ble_eq_true rfl⟩ (Nat.le_of_ble_eq_true rfl) (Nat.le_of_ble_eq_true rfl) (m_inz_f hb (by omega) _) ?_
          refine gd_if_ne_f 54 dX9_write_44 (by decide) (by decide) ?_
          refine gd_ald0 dX9_write_47 (by decide) ?_
          refine gd_ic1 dX9_write_48 ?_
          refine gd_cV1i dX9_write_49 ct_9_97 rc_72 ⟨Nat.le_of_ble_eq_true rfl, Nat.le_of_ble_eq_true rfl⟩ (Nat.le_of_ble_eq_true rfl) (Nat.le_of_ble_eq_true rfl) (m_f0 _) ?_
          refine gd_i2l dX9_write_52 ?_
          refine gd_lret dX9_write_53 rfl ?_
          rfl
    · have e58 : h.1 58 q = nI 16 := (i.s.w q hq).trans e90
      rcases rng b (tn (h.1 91 q)) (by omega) with ⟨j, hj, rfl⟩ | hb
      · refine ⟨.long (h.2 92 (40 * q + j)), sL h 57 (vp_updL (h.2 57) (40 * q + j) (v.toInt32.toInt16.toInt32.toInt64)), sL (sL h 57 (vp_updL (h.2 57) (40 * q + j) (v.toInt32.toInt16.toInt32.toInt64))) 92 (vp_updL (h.2 92) (40 * q + j) (v.toInt32.toInt16.toInt32.toInt64)), ?_, ?_, ?_, rfl, rfl, _, rfl⟩
        · refine gd_ild1 dX8_write_0 ?_
          refine gd_ic4 dX8_write_1 ?_
          refine gd_cS2i dX8_write_2 ct_8_48 ⟨Nat.le_of_ble_eq_true rfl, Nat.le_of_ble_eq_true rfl⟩ (Nat.le_of_ble_eq_true rfl) (Nat.le_of_ble_eq_true rfl) (c_isBelow_t hq (by decide) _) ?_
          refine gd_if_ne_t 16 dX8_write_5 (by decide) (by decide) ?_
          refine gd_ald0 dX8_write_16 (by decide) ?_
          refine gd_getR (r := 56) dX8_write_17 fl_8_33 rfl rfl rfl (by decide) ?_
          refine gd_ild1 dX8_write_20 ?_
          refine gd_cV1i dX8_write_21 ct_8_82 rc_56 ⟨Nat.le_of_ble_eq_true rfl, Nat.le_of_ble_eq_true rfl⟩ (Nat.le_of_ble_eq_true rfl) (Nat.le_of_ble_eq_true rfl) (c_isMissing0 hq e58 (by decide) (by decide)) ?_
          refine gd_if_eq_t 35 dX8_write_24 (by decide) (by decide) ?_
          refine gd_ild2 dX8_write_35 ?_
          refine gd_ald0 dX8_write_36 (by decide) ?_
          refine gd_getR (r := 56) dX8_write_37 fl_8_33 rfl rfl rfl (by decide) ?_
          refine gd_getR (r := 59) dX8_write_40 fl_8_86 rfl rfl rfl (by decide) ?_
          refine gd_ild1 dX8_write_43 ?_
          refine gd_iald (n := 4) dX8_write_44 rfl (by decide) (by repeat' (first | with_reducible rfl | apply ni_add | apply ni_mul)) (by omega) ?_
          rw [e59]
          refine gd_cS2i dX8_write_45 ct_8_48 ⟨Nat.le_of_ble_eq_true rfl, Nat.le_of_ble_eq_true rfl⟩ (Nat.le_of_ble_eq_true rfl) (Nat.le_of_ble_eq_true rfl) (c_isBelow_t hj (by omega) _) ?_
          refine gd_if_ne_t 59 dX8_write_48 (by decide) (by decide) ?_
          refine gd_ald0 dX8_write_59 (by decide) ?_
          refine gd_getR (r := 56) dX8_write_60 fl_8_33 rfl rfl rfl (by decide) ?_
          refine gd_ild1 dX8_write_63 ?_
          refine gd_ild2 dX8_write_64 ?_
          refine gd_lld3 dX8_write_65 ?_
          refine gd_cV3l dX8_write_66 ct_8_302 rc_56 ⟨Nat.le_of_ble_eq_true rfl, Nat.le_of_ble_eq_true rfl⟩ (Nat.le_of_ble_eq_true rfl) (Nat.le_of_ble_eq_true rfl) (c_put16 hq (by omega) v _ e58) ?_
          refine gd_lret dX8_write_69 rfl ?_
          rw [i.s.x _ (by omega)]
        · refine gd_ild1 dX9_write_0 ?_
          refine gd_cS1i dX9_write_1 ct_9_104 ⟨Nat.le_of_ble_eq_true rfl, Nat.le_of_ble_eq_true rfl⟩ (Nat.le_of_ble_eq_true rfl) (Nat.le_of_ble_eq_true rfl) (m_isSheet_t hq _) ?_
          refine gd_if_ne_t 14 dX9_write_4 (by decide) (by decide) ?_
          refine gd_ald0 dX9_write_14 (by decide) ?_
          refine gd_getR (r := 90) dX9_write_15 fl_9_63 rfl rfl rfl (by decide) ?_
          refine gd_ild1 dX9_write_18 ?_
          refine gd_iald (n := 4) dX9_write_19 rfl (by decide) (by repeat' (first | with_reducible rfl | apply ni_add | apply ni_mul)) (by omega) ?_
          rw [show (sL h 57 (vp_updL (h.2 57) (40 * q + j) (v.toInt32.toInt16.toInt32.toInt64))).1 90 q = nI 16 from e90]
          refine gd_if_ne_t 31 dX9_write_20 (by decide) (by decide) ?_
          refine gd_ild2 dX9_write_31 ?_
          refine gd_ic0 dX9_write_32 ?_
          refine gd_ald0 dX9_write_33 (by decide) ?_
          refine gd_getR (r := 91) dX9_write_34 fl_9_66 rfl rfl rfl (by decide) ?_
          refine gd_ild1 dX9_write_37 ?_
          refine gd_iald (n := 4) dX9_write_38 rfl (by decide) (by repeat' (first | with_reducible rfl | apply ni_add | apply ni_mul)) (by omega) ?_
          rw [show (sL h 57 (vp_updL (h.2 57) (40 * q + j) (v.toInt32.toInt16.toInt32.toInt64))).1 91 q = nI (tn (h.1 91 q)) from e91]
          refine gd_ic1 dX9_write_39 ?_
          refine gd_isub dX9_write_40 ?_
          refine gd_cS3i dX9_write_41 ct_9_79 ⟨Nat.le_of_ble_eq_true rfl, Nat.le_of_ble_eq_true rfl⟩ (Nat.le_of_ble_eq_true rfl) (Nat.le_of_ble_eq_true rfl) (m_inz_t hj (by omega) _) ?_
          refine gd_if_ne_t 54 dX9_write_44 (by decide) (by decide) ?_
          refine gd_ald0 dX9_write_54 (by decide) ?_
          refine gd_getR (r := 92) dX9_write_55 fl_9_69 rfl rfl rfl (by decide) ?_
          refine gd_bipush (v := nI 40) dX9_write_58 (by decide) ?_
          refine gd_ild1 dX9_write_60 ?_
          refine gd_imul dX9_write_61 ?_
          refine gd_ild2 dX9_write_62 ?_
          refine gd_iadd dX9_write_63 ?_
          refine gd_lald (n := 160) dX9_write_64 rfl (by decide) (by repeat' (first | with_reducible rfl | apply ni_add | apply ni_mul)) (by omega) ?_
          refine gd_lst5 dX9_write_65 rfl ?_
          refine gd_ald0 dX9_write_67 (by decide) ?_
          refine gd_getR (r := 92) dX9_write_68 fl_9_69 rfl rfl rfl (by decide) ?_
          refine gd_bipush (v := nI 40) dX9_write_71 (by decide) ?_
          refine gd_ild1 dX9_write_73 ?_
          refine gd_imul dX9_write_74 ?_
          refine gd_ild2 dX9_write_75 ?_
          refine gd_iadd dX9_write_76 ?_
          refine gd_ald0 dX9_write_77 (by decide) ?_
          refine gd_getR (r := 90) dX9_write_78 fl_9_63 rfl rfl rfl (by decide) ?_
          refine gd_ild1 dX9_write_81 ?_
          refine gd_iald (n := 4) dX9_write_82 rfl (by decide) (by repeat' (first | with_reducible rfl | apply ni_add | apply ni_mul)) (by omega) ?_
          rw [show (sL h 57 (vp_updL (h.2 57) (40 * q + j) (v.toInt32.toInt16.toInt32.toInt64))).1 90 q = nI 16 from e90]
          refine gd_bipush (v := nI 8) dX9_write_83 (by decide) ?_
          refine gd_icmp_ne_t 95 dX9_write_85 (by decide) (by decide) ?_
          refine gd_ald0 dX9_write_95 (by decide) ?_
          refine gd_getR (r := 90) dX9_write_96 fl_9_63 rfl rfl rfl (by decide) ?_
          refine gd_ild1 dX9_write_99 ?_
          refine gd_iald (n := 4) dX9_write_100 rfl (by decide) (by repeat' (first | with_reducible rfl | apply ni_add | apply ni_mul)) (by omega) ?_
          rw [show (sL h 57 (vp_updL (h.2 57) (40 * q + j) (v.toInt32.toInt16.toInt32.toInt64))).1 90 q = nI 16 from e90]
          refine gd_bipush (v := nI 16) dX9_write_101 (by decide) ?_
          refine gd_icmp_ne_f 113 dX9_write_103 (by decide) (by decide) ?_
          refine gd_lld3 dX9_write_106 ?_
          refine gd_l2i dX9_write_107 ?_
          refine gd_i2s dX9_write_108 ?_
          refine gd_i2l dX9_write_109 ?_
          refine gd_goto 114 dX9_write_110 (by decide) ?_
          refine gd_last (n := 160) dX9_write_114 rfl (by decide) (by repeat' (first | with_reducible rfl | apply ni_add | apply ni_mul)) (by omega) ?_
          refine gd_lld5 dX9_write_115 ?_
          refine gd_lret dX9_write_117 rfl ?_
          rfl
        · refine inv_rest i (fun k hk => rfl) (Or.inl ⟨rfl, rfl⟩) ⟨i.p.n, i.p.b⟩ ⟨i.s.w, i.s.z, i.s.n, i.s.v, ?_⟩ rfl
          intro p hp
          show vp_updL (h.2 57) _ _ p = vp_updL (h.2 92) _ _ p
          rw [updL_at, updL_at, i.s.x p hp]
      · refine PasL.findV (h1 := h) (h2 := hf (h) 0) (r := .long (-1000000001 : Int32).toInt64) (r2 := .long ((-1000000000 : Int32) - nI 1).toInt64) 0 i (by decide) (by decide) (Same.rf _) (Same.rf _) ?_ ?_
        · refine gd_ild1 dX8_write_0 ?_
          refine gd_ic4 dX8_write_1 ?_
          refine gd_cS2i dX8_write_2 ct_8_48 ⟨Nat.le_of_ble_eq_true rfl, Nat.le_of_ble_eq_true rfl⟩ (Nat.le_of_ble_eq_true rfl) (Nat.le_of_ble_eq_true rfl) (c_isBelow_t hq (by decide) _) ?_
          refine gd_if_ne_t 16 dX8_write_5 (by decide) (by decide) ?_
          refine gd_ald0 dX8_write_16 (by decide) ?_
          refine gd_getR (r := 56) dX8_write_17 fl_8_33 rfl rfl rfl (by decide) ?_
          refine gd_ild1 dX8_write_20 ?_
          refine gd_cV1i dX8_write_21 ct_8_82 rc_56 ⟨Nat.le_of_ble_eq_true rfl, Nat.le_of_ble_eq_true rfl⟩ (Nat.le_of_ble_eq_true rfl) (Nat.le_of_ble_eq_true rfl) (c_isMissing0 hq e58 (by decide) (by decide)) ?_
          refine gd_if_eq_t 35 dX8_write_24 (by decide) (by decide) ?_
          refine gd_ild2 dX8_write_35 ?_
          refine gd_ald0 dX8_write_36 (by decide) ?_
          refine gd_getR (r := 56) dX8_write_37 fl_8_33 rfl rfl rfl (by decide) ?_
          refine gd_getR (r := 59) dX8_write_40 fl_8_86 rfl rfl rfl (by decide) ?_
          refine gd_ild1 dX8_write_43 ?_
          refine gd_iald (n := 4) dX8_write_44 rfl (by decide) (by repeat' (first | with_reducible rfl | apply ni_add | apply ni_mul)) (by omega) ?_
          rw [e59]
          refine gd_cS2i dX8_write_45 ct_8_48 ⟨Nat.le_of_ble_eq_true rfl, Nat.le_of_ble_eq_true rfl⟩ (Nat.le_of_ble_eq_true rfl) (Nat.le_of_ble_eq_true rfl) (c_isBelow_f hb _) ?_
          refine gd_if_ne_f 59 dX8_write_48 (by decide) (by decide) ?_
          refine gd_ald0 dX8_write_51 (by decide) ?_
          refine gd_ldc dX8_write_52 ld_8_52 ?_
          refine gd_cV1i dX8_write_54 ct_8_53 rc_0 ⟨Nat.le_of_ble_eq_true rfl, Nat.le_of_ble_eq_true rfl⟩ (Nat.le_of_ble_eq_true rfl) (Nat.le_of_ble_eq_true rfl) (c_f0 _) ?_
          refine gd_i2l dX8_write_57 ?_
          refine gd_lret dX8_write_58 rfl ?_
          rfl
        · refine gd_ild1 dX9_write_0 ?_
          refine gd_cS1i dX9_write_1 ct_9_104 ⟨Nat.le_of_ble_eq_true rfl, Nat.le_of_ble_eq_true rfl⟩ (Nat.le_of_ble_eq_true rfl) (Nat.le_of_ble_eq_true rfl) (m_isSheet_t hq _) ?_
          refine gd_if_ne_t 14 dX9_write_4 (by decide) (by decide) ?_
          refine gd_ald0 dX9_write_14 (by decide) ?_
          refine gd_getR (r := 90) dX9_write_15 fl_9_63 rfl rfl rfl (by decide) ?_
          refine gd_ild1 dX9_write_18 ?_
          refine gd_iald (n := 4) dX9_write_19 rfl (by decide) (by repeat' (first | with_reducible rfl | apply ni_add | apply ni_mul)) (by omega) ?_
          rw [show (hf h 0).1 90 q = nI 16 from e90]
          refine gd_if_ne_t 31 dX9_write_20 (by decide) (by decide) ?_
          refine gd_ild2 dX9_write_31 ?_
          refine gd_ic0 dX9_write_32 ?_
          refine gd_ald0 dX9_write_33 (by decide) ?_
          refine gd_getR (r := 91) dX9_write_34 fl_9_66 rfl rfl rfl (by decide) ?_
          refine gd_ild1 dX9_write_37 ?_
          refine gd_iald (n := 4) dX9_write_38 rfl (by decide) (by repeat' (first | with_reducible rfl | apply ni_add | apply ni_mul)) (by omega) ?_
          rw [show (hf h 0).1 91 q = nI (tn (h.1 91 q)) from e91]
          refine gd_ic1 dX9_write_39 ?_
          refine gd_isub dX9_write_40 ?_
          refine gd_cS3i dX9_write_41 ct_9_79 ⟨Nat.le_of_ble_eq_true rfl, Nat.le_of_ble_eq_true rfl⟩ (Nat.le_of_ble_eq_true rfl) (Nat.le_of_ble_eq_true rfl) (m_inz_f hb (by omega) _) ?_
          refine gd_if_ne_f 54 dX9_write_44 (by decide) (by decide) ?_
          refine gd_ald0 dX9_write_47 (by decide) ?_
          refine gd_ic1 dX9_write_48 ?_
          refine gd_cV1i dX9_write_49 ct_9_97 rc_72 ⟨Nat.le_of_ble_eq_true rfl, Nat.le_of_ble_eq_true rfl⟩ (Nat.le_of_ble_eq_true rfl) (Nat.le_of_ble_eq_true rfl) (m_f0 _) ?_
          refine gd_i2l dX9_write_52 ?_
          refine gd_lret dX9_write_53 rfl ?_
          rfl
    · have e58 : h.1 58 q = nI 64 := (i.s.w q hq).trans e90
      rcases rng b (tn (h.1 91 q)) (by omega) with ⟨j, hj, rfl⟩ | hb
      · refine ⟨.long (h.2 92 (40 * q + j)), sL h 57 (vp_updL (h.2 57) (40 * q + j) (v)), sL (sL h 57 (vp_updL (h.2 57) (40 * q + j) (v))) 92 (vp_updL (h.2 92) (40 * q + j) (v)), ?_, ?_, ?_, rfl, rfl, _, rfl⟩
        · refine gd_ild1 dX8_write_0 ?_
          refine gd_ic4 dX8_write_1 ?_
          refine gd_cS2i dX8_write_2 ct_8_48 ⟨Nat.le_of_ble_eq_true rfl, Nat.le_of_ble_eq_true rfl⟩ (Nat.le_of_ble_eq_true rfl) (Nat.le_of_ble_eq_true rfl) (c_isBelow_t hq (by decide) _) ?_
          refine gd_if_ne_t 16 dX8_write_5 (by decide) (by decide) ?_
          refine gd_ald0 dX8_write_16 (by decide) ?_
          refine gd_getR (r := 56) dX8_write_17 fl_8_33 rfl rfl rfl (by decide) ?_
          refine gd_ild1 dX8_write_20 ?_
          refine gd_cV1i dX8_write_21 ct_8_82 rc_56 ⟨Nat.le_of_ble_eq_true rfl, Nat.le_of_ble_eq_true rfl⟩ (Nat.le_of_ble_eq_true rfl) (Nat.le_of_ble_eq_true rfl) (c_isMissing0 hq e58 (by decide) (by decide)) ?_
          refine gd_if_eq_t 35 dX8_write_24 (by decide) (by decide) ?_
          refine gd_ild2 dX8_write_35 ?_
          refine gd_ald0 dX8_write_36 (by decide) ?_
          refine gd_getR (r := 56) dX8_write_37 fl_8_33 rfl rfl rfl (by decide) ?_
          refine gd_getR (r := 59) dX8_write_40 fl_8_86 rfl rfl rfl (by decide) ?_
          refine gd_ild1 dX8_write_43 ?_
          refine gd_iald (n := 4) dX8_write_44 rfl (by decide) (by repeat' (first | with_reducible rfl | apply ni_add | apply ni_mul)) (by omega) ?_
          rw [e59]
          refine gd_cS2i dX8_write_45 ct_8_48 ⟨Nat.le_of_ble_eq_true rfl, Nat.le_of_ble_eq_true rfl⟩ (Nat.le_of_ble_eq_true rfl) (Nat.le_of_ble_eq_true rfl) (c_isBelow_t hj (by omega) _) ?_
          refine gd_if_ne_t 59 dX8_write_48 (by decide) (by decide) ?_
          refine gd_ald0 dX8_write_59 (by decide) ?_
          refine gd_getR (r := 56) dX8_write_60 fl_8_33 rfl rfl rfl (by decide) ?_
          refine gd_ild1 dX8_write_63 ?_
          refine gd_ild2 dX8_write_64 ?_
          refine gd_lld3 dX8_write_65 ?_
          refine gd_cV3l dX8_write_66 ct_8_302 rc_56 ⟨Nat.le_of_ble_eq_true rfl, Nat.le_of_ble_eq_true rfl⟩ (Nat.le_of_ble_eq_true rfl) (Nat.le_of_ble_eq_true rfl) (c_put64 hq (by omega) v _ e58) ?_
          refine gd_lret dX8_write_69 rfl ?_
          rw [i.s.x _ (by omega)]
        · refine gd_ild1 dX9_write_0 ?_
          refine gd_cS1i dX9_write_1 ct_9_104 ⟨Nat.le_of_ble_eq_true rfl, Nat.le_of_ble_eq_true rfl⟩ (Nat.le_of_ble_eq_true rfl) (Nat.le_of_ble_eq_true rfl) (m_isSheet_t hq _) ?_
          refine gd_if_ne_t 14 dX9_write_4 (by decide) (by decide) ?_
          refine gd_ald0 dX9_write_14 (by decide) ?_
          refine gd_getR (r := 90) dX9_write_15 fl_9_63 rfl rfl rfl (by decide) ?_
          refine gd_ild1 dX9_write_18 ?_
          refine gd_iald (n := 4) dX9_write_19 rfl (by decide) (by repeat' (first | with_reducible rfl | apply ni_add | apply ni_mul)) (by omega) ?_
          rw [show (sL h 57 (vp_updL (h.2 57) (40 * q + j) (v))).1 90 q = nI 64 from e90]
          refine gd_if_ne_t 31 dX9_write_20 (by decide) (by decide) ?_
          refine gd_ild2 dX9_write_31 ?_
          refine gd_ic0 dX9_write_32 ?_
          refine gd_ald0 dX9_write_33 (by decide) ?_
          refine gd_getR (r := 91) dX9_write_34 fl_9_66 rfl rfl rfl (by decide) ?_
          refine gd_ild1 dX9_write_37 ?_
          refine gd_iald (n := 4) dX9_write_38 rfl (by decide) (by repeat' (first | with_reducible rfl | apply ni_add | apply ni_mul)) (by omega) ?_
          rw [show (sL h 57 (vp_updL (h.2 57) (40 * q + j) (v))).1 91 q = nI (tn (h.1 91 q)) from e91]
          refine gd_ic1 dX9_write_39 ?_
          refine gd_isub dX9_write_40 ?_
          refine gd_cS3i dX9_write_41 ct_9_79 ⟨Nat.le_of_ble_eq_true rfl, Nat.le_of_ble_eq_true rfl⟩ (Nat.le_of_ble_eq_true rfl) (Nat.le_of_ble_eq_true rfl) (m_inz_t hj (by omega) _) ?_
          refine gd_if_ne_t 54 dX9_write_44 (by decide) (by decide) ?_
          refine gd_ald0 dX9_write_54 (by decide) ?_
          refine gd_getR (r := 92) dX9_write_55 fl_9_69 rfl rfl rfl (by decide) ?_
          refine gd_bipush (v := nI 40) dX9_write_58 (by decide) ?_
          refine gd_ild1 dX9_write_60 ?_
          refine gd_imul dX9_write_61 ?_
          refine gd_ild2 dX9_write_62 ?_
          refine gd_iadd dX9_write_63 ?_
          refine gd_lald (n := 160) dX9_write_64 rfl (by decide) (by repeat' (first | with_reducible rfl | apply ni_add | apply ni_mul)) (by omega) ?_
          refine gd_lst5 dX9_write_65 rfl ?_
          refine gd_ald0 dX9_write_67 (by decide) ?_
          refine gd_getR (r := 92) dX9_write_68 fl_9_69 rfl rfl rfl (by decide) ?_
          refine gd_bipush (v := nI 40) dX9_write_71 (by decide) ?_
          refine gd_ild1 dX9_write_73 ?_
          refine gd_imul dX9_write_74 ?_
          refine gd_ild2 dX9_write_75 ?_
          refine gd_iadd dX9_write_76 ?_
          refine gd_ald0 dX9_write_77 (by decide) ?_
          refine gd_getR (r := 90) dX9_write_78 fl_9_63 rfl rfl rfl (by decide) ?_
          refine gd_ild1 dX9_write_81 ?_
          refine gd_iald (n := 4) dX9_write_82 rfl (by decide) (by repeat' (first | with_reducible rfl | apply ni_add | apply ni_mul)) (by omega) ?_
          rw [show (sL h 57 (vp_updL (h.2 57) (40 * q + j) (v))).1 90 q = nI 64 from e90]
          refine gd_bipush (v := nI 8) dX9_write_83 (by decide) ?_
          refine gd_icmp_ne_t 95 dX9_write_85 (by decide) (by decide) ?_
          refine gd_ald0 dX9_write_95 (by decide) ?_
          refine gd_getR (r := 90) dX9_write_96 fl_9_63 rfl rfl rfl (by decide) ?_
          refine gd_ild1 dX9_write_99 ?_
          refine gd_iald (n := 4) dX9_write_100 rfl (by decide) (by repeat' (first | with_reducible rfl | apply ni_add | apply ni_mul)) (by omega) ?_
          rw [show (sL h 57 (vp_updL (h.2 57) (40 * q + j) (v))).1 90 q = nI 64 from e90]
          refine gd_bipush (v := nI 16) dX9_write_101 (by decide) ?_
          refine gd_icmp_ne_t 113 dX9_write_103 (by decide) (by decide) ?_
          refine gd_lld3 dX9_write_113 ?_
          refine gd_last (n := 160) dX9_write_114 rfl (by decide) (by repeat' (first | with_reducible rfl | apply ni_add | apply ni_mul)) (by omega) ?_
          refine gd_lld5 dX9_write_115 ?_
          refine gd_lret dX9_write_117 rfl ?_
          rfl
        · refine inv_rest i (fun k hk => rfl) (Or.inl ⟨rfl, rfl⟩) ⟨i.p.n, i.p.b⟩ ⟨i.s.w, i.s.z, i.s.n, i.s.v, ?_⟩ rfl
          intro p hp
          show vp_updL (h.2 57) _ _ p = vp_updL (h.2 92) _ _ p
          rw [updL_at, updL_at, i.s.x p hp]
      · refine PasL.findV (h1 := h) (h2 := hf (h) 0) (r := .long (-1000000001 : Int32).toInt64) (r2 := .long ((-1000000000 : Int32) - nI 1).toInt64) 0 i (by decide) (by decide) (Same.rf _) (Same.rf _) ?_ ?_
        · refine gd_ild1 dX8_write_0 ?_
          refine gd_ic4 dX8_write_1 ?_
          refine gd_cS2i dX8_write_2 ct_8_48 ⟨Nat.le_of_ble_eq_true rfl, Nat.le_of_ble_eq_true rfl⟩ (Nat.le_of_ble_eq_true rfl) (Nat.le_of_ble_eq_true rfl) (c_isBelow_t hq (by decide) _) ?_
          refine gd_if_ne_t 16 dX8_write_5 (by decide) (by decide) ?_
          refine gd_ald0 dX8_write_16 (by decide) ?_
          refine gd_getR (r := 56) dX8_write_17 fl_8_33 rfl rfl rfl (by decide) ?_
          refine gd_ild1 dX8_write_20 ?_
          refine gd_cV1i dX8_write_21 ct_8_82 rc_56 ⟨Nat.le_of_ble_eq_true rfl, Nat.le_of_ble_eq_true rfl⟩ (Nat.le_of_ble_eq_true rfl) (Nat.le_of_ble_eq_true rfl) (c_isMissing0 hq e58 (by decide) (by decide)) ?_
          refine gd_if_eq_t 35 dX8_write_24 (by decide) (by decide) ?_
          refine gd_ild2 dX8_write_35 ?_
          refine gd_ald0 dX8_write_36 (by decide) ?_
          refine gd_getR (r := 56) dX8_write_37 fl_8_33 rfl rfl rfl (by decide) ?_
          refine gd_getR (r := 59) dX8_write_40 fl_8_86 rfl rfl rfl (by decide) ?_
          refine gd_ild1 dX8_write_43 ?_
          refine gd_iald (n := 4) dX8_write_44 rfl (by decide) (by repeat' (first | with_reducible rfl | apply ni_add | apply ni_mul)) (by omega) ?_
          rw [e59]
          refine gd_cS2i dX8_write_45 ct_8_48 ⟨Nat.le_of_ble_eq_true rfl, Nat.le_of_ble_eq_true rfl⟩ (Nat.le_of_ble_eq_true rfl) (Nat.le_of_ble_eq_true rfl) (c_isBelow_f hb _) ?_
          refine gd_if_ne_f 59 dX8_write_48 (by decide) (by decide) ?_
          refine gd_ald0 dX8_write_51 (by decide) ?_
          refine gd_ldc dX8_write_52 ld_8_52 ?_
          refine gd_cV1i dX8_write_54 ct_8_53 rc_0 ⟨Nat.le_of_ble_eq_true rfl, Nat.le_of_ble_eq_true rfl⟩ (Nat.le_of_ble_eq_true rfl) (Nat.le_of_ble_eq_true rfl) (c_f0 _) ?_
          refine gd_i2l dX8_write_57 ?_
          refine gd_lret dX8_write_58 rfl ?_
          rfl
        · refine gd_ild1 dX9_write_0 ?_
          refine gd_cS1i dX9_write_1 ct_9_104 ⟨Nat.le_of_ble_eq_true rfl, Nat.le_of_ble_eq_true rfl⟩ (Nat.le_of_ble_eq_true rfl) (Nat.le_of_ble_eq_true rfl) (m_isSheet_t hq _) ?_
          refine gd_if_ne_t 14 dX9_write_4 (by decide) (by decide) ?_
          refine gd_ald0 dX9_write_14 (by decide) ?_
          refine gd_getR (r := 90) dX9_write_15 fl_9_63 rfl rfl rfl (by decide) ?_
          refine gd_ild1 dX9_write_18 ?_
          refine gd_iald (n := 4) dX9_write_19 rfl (by decide) (by repeat' (first | with_reducible rfl | apply ni_add | apply ni_mul)) (by omega) ?_
          rw [show (hf h 0).1 90 q = nI 64 from e90]
          refine gd_if_ne_t 31 dX9_write_20 (by decide) (by decide) ?_
          refine gd_ild2 dX9_write_31 ?_
          refine gd_ic0 dX9_write_32 ?_
          refine gd_ald0 dX9_write_33 (by decide) ?_
          refine gd_getR (r := 91) dX9_write_34 fl_9_66 rfl rfl rfl (by decide) ?_
          refine gd_ild1 dX9_write_37 ?_
          refine gd_iald (n := 4) dX9_write_38 rfl (by decide) (by repeat' (first | with_reducible rfl | apply ni_add | apply ni_mul)) (by omega) ?_
          rw [show (hf h 0).1 91 q = nI (tn (h.1 91 q)) from e91]
          refine gd_ic1 dX9_write_39 ?_
          refine gd_isub dX9_write_40 ?_
          refine gd_cS3i dX9_write_41 ct_9_79 ⟨Nat.le_of_ble_eq_true rfl, Nat.le_of_ble_eq_true rfl⟩ (Nat.le_of_ble_eq_true rfl) (Nat.le_of_ble_eq_true rfl) (m_inz_f hb (by omega) _) ?_
          refine gd_if_ne_f 54 dX9_write_44 (by decide) (by decide) ?_
          refine gd_ald0 dX9_write_47 (by decide) ?_
          refine gd_ic1 dX9_write_48 ?_
          refine gd_cV1i dX9_write_49 ct_9_97 rc_72 ⟨Nat.le_of_ble_eq_true rfl, Nat.le_of_ble_eq_true rfl⟩ (Nat.le_of_ble_eq_true rfl) (Nat.le_of_ble_eq_true rfl) (m_f0 _) ?_
          refine gd_i2l dX9_write_52 ?_
          refine gd_lret dX9_write_53 rfl ?_
          rfl
  · refine PasL.findV (h1 := h) (h2 := hf (h) 0) (r := .long (-1000000001 : Int32).toInt64) (r2 := .long ((-1000000000 : Int32) - nI 1).toInt64) 0 i (by decide) (by decide) (Same.rf _) (Same.rf _) ?_ ?_
    · refine gd_ild1 dX8_write_0 ?_
      refine gd_ic4 dX8_write_1 ?_
      refine gd_cS2i dX8_write_2 ct_8_48 ⟨Nat.le_of_ble_eq_true rfl, Nat.le_of_ble_eq_true rfl⟩ (Nat.le_of_ble_eq_true rfl) (Nat.le_of_ble_eq_true rfl) (c_isBelow_f ha _) ?_
      refine gd_if_ne_f 16 dX8_write_5 (by decide) (by decide) ?_
      refine gd_ald0 dX8_write_8 (by decide) ?_
      refine gd_ldc dX8_write_9 ld_8_52 ?_
      refine gd_cV1i dX8_write_11 ct_8_53 rc_0 ⟨Nat.le_of_ble_eq_true rfl, Nat.le_of_ble_eq_true rfl⟩ (Nat.le_of_ble_eq_true rfl) (Nat.le_of_ble_eq_true rfl) (c_f0 _) ?_
      refine gd_i2l dX8_write_14 ?_
      refine gd_lret dX8_write_15 rfl ?_
      rfl
    · refine gd_ild1 dX9_write_0 ?_
      refine gd_cS1i dX9_write_1 ct_9_104 ⟨Nat.le_of_ble_eq_true rfl, Nat.le_of_ble_eq_true rfl⟩ (Nat.le_of_ble_eq_true rfl) (Nat.le_of_ble_eq_true rfl) (m_isSheet_f ha _) ?_
      refine gd_if_ne_f 14 dX9_write_4 (by decide) (by decide) ?_
      refine gd_ald0 dX9_write_7 (by decide) ?_
      refine gd_ic1 dX9_write_8 ?_
      refine gd_cV1i dX9_write_9 ct_9_97 rc_72 ⟨Nat.le_of_ble_eq_true rfl, Nat.le_of_ble_eq_true rfl⟩ (Nat.le_of_ble_eq_true rfl) (Nat.le_of_ble_eq_true rfl) (m_f0 _) ?_
      refine gd_i2l dX9_write_12 ?_
      refine gd_lret dX9_write_13 rfl ?_
      rfl
set_option maxHeartbeats 2000000 in
theorem q_odds {h : Hp} (i : Inv h) (a b : Int32) : PasL mX8_odds mX9_odds [.ref 0, .int a, .int b] [.ref 72, .int a, .int b] h := by
  rcases rng a (4) (by decide) with ⟨d, hd, rfl⟩ | ha
  · by_cases hb : b = -1
    · subst hb
      obtain ⟨h1, gt, f1, v1⟩ := c_take i.w i.c (-1)
      have c1 := f1.cr i.c
      obtain ⟨h3, g3, f3, v3, r3⟩ := c_weighGrid i.w v1 hd
      have e1 : ms (h3) = ms h := (f1.tr f3).same.msE
      obtain ⟨h2, gp, f2, v2⟩ := m_prepare (h := h3) (by rw [e1]; exact i.w) (-1)
      rw [e1] at v2
      obtain ⟨h4, gs, sw⟩ := m_sweep i.w v2 hd
      refine PasL.read (h1 := h3) (h2 := h4) (r := .long (lN (alN (ms h) (-1) d))) i rfl (f1.tr f3).same (f2.tr sw.1).same ?_ ?_
      · refine gd_ild1 dX8_odds_0 ?_
        refine gd_ic4 dX8_odds_1 ?_
        refine gd_cS2i dX8_odds_2 ct_8_48 ⟨Nat.le_of_ble_eq_true rfl, Nat.le_of_ble_eq_true rfl⟩ (Nat.le_of_ble_eq_true rfl) (Nat.le_of_ble_eq_true rfl) (c_isBelow_t hd (by decide) _) ?_
        refine gd_if_eq_f 23 dX8_odds_5 (by decide) (by decide) ?_
        refine gd_ild2 dX8_odds_8 ?_
        refine gd_icm1 dX8_odds_9 ?_
        refine gd_icmp_eq_t 31 dX8_odds_10 (by decide) (rfl) ?_
        refine gd_ald0 dX8_odds_31 (by decide) ?_
        refine gd_getR (r := 60) dX8_odds_32 fl_8_40 rfl rfl rfl (by decide) ?_
        refine gd_ald0 dX8_odds_35 (by decide) ?_
        refine gd_getR (r := 1) dX8_odds_36 fl_8_12 rfl rfl rfl (by decide) ?_
        refine gd_icm1 dX8_odds_39 ?_
        refine gd_cV2v dX8_odds_40 ct_8_211 rc_60 ⟨Nat.le_of_ble_eq_true rfl, Nat.le_of_ble_eq_true rfl⟩ (Nat.le_of_ble_eq_true rfl) (Nat.le_of_ble_eq_true rfl) (gt) ?_
        refine gd_ild2 dX8_odds_43 ?_
        refine gd_icm1 dX8_odds_44 ?_
        refine gd_icmp_ne_f 59 dX8_odds_45 (by decide) (rfl) ?_
        refine gd_ald0 dX8_odds_48 (by decide) ?_
        refine gd_getR (r := 60) dX8_odds_49 fl_8_40 rfl rfl rfl (by decide) ?_
        refine gd_ild1 dX8_odds_52 ?_
        refine gd_cV1l dX8_odds_53 ct_8_259 rc_60 ⟨Nat.le_of_ble_eq_true rfl, Nat.le_of_ble_eq_true rfl⟩ (Nat.le_of_ble_eq_true rfl) (Nat.le_of_ble_eq_true rfl) (g3) ?_
        refine gd_goto 68 dX8_odds_56 (by decide) ?_
        refine gd_lret dX8_odds_68 rfl ?_
        rfl
      · refine gd_ild1 dX9_odds_0 ?_
        refine gd_cS1i dX9_odds_1 ct_9_259 ⟨Nat.le_of_ble_eq_true rfl, Nat.le_of_ble_eq_true rfl⟩ (Nat.le_of_ble_eq_true rfl) (Nat.le_of_ble_eq_true rfl) (m_isDepth_t hd _) ?_
        refine gd_if_eq_f 19 dX9_odds_4 (by decide) (by decide) ?_
        refine gd_ild2 dX9_odds_7 ?_
        refine gd_icm1 dX9_odds_8 ?_
        refine gd_icmp_eq_t 26 dX9_odds_9 (by decide) (rfl) ?_
        refine gd_ald0 dX9_odds_26 (by decide) ?_
        refine gd_icm1 dX9_odds_27 ?_
        refine gd_cV1v dX9_odds_28 ct_9_216 rc_72 ⟨Nat.le_of_ble_eq_true rfl, Nat.le_of_ble_eq_true rfl⟩ (Nat.le_of_ble_eq_true rfl) (Nat.le_of_ble_eq_true rfl) (gp) ?_
        refine gd_ald0 dX9_odds_31 (by decide) ?_
        refine gd_ild1 dX9_odds_32 ?_
        refine gd_cV1v dX9_odds_33 ct_9_262 rc_72 ⟨Nat.le_of_ble_eq_true rfl, Nat.le_of_ble_eq_true rfl⟩ (Nat.le_of_ble_eq_true rfl) (Nat.le_of_ble_eq_true rfl) (gs) ?_
        refine gd_ild2 dX9_odds_36 ?_
        refine gd_if_ge_f 47 dX9_odds_37 (by decide) (by decide) ?_
        refine gd_ald0 dX9_odds_40 (by decide) ?_
        refine gd_getJ dX9_odds_41 fl_9_250 rfl rfl ?_
        rw [sw.2.2.2.1]
        refine gd_goto 53 dX9_odds_44 (by decide) ?_
        refine gd_lret dX9_odds_53 rfl ?_
        rfl
    · rcases rng b (144) (by decide) with ⟨c, hc, rfl⟩ | hbb
      · obtain ⟨h1, gt, f1, v1⟩ := c_take i.w i.c (-1)
        have c1 := f1.cr i.c
        obtain ⟨h3, g3, f3⟩ := c_weighCell i.w v1 hc hd
        have e1 : ms (h3) = ms h := (f1.tr f3.fs).same.msE
        obtain ⟨h2, gp, f2, v2⟩ := m_prepare (h := h3) (by rw [e1]; exact i.w) (-1)
        rw [e1] at v2
        obtain ⟨h4, gs, sw⟩ := m_sweep i.w v2 hd
        refine PasL.read (h1 := h3) (h2 := h4) (r := .long (lN (owN (ms h) (-1) d c))) i rfl (f1.tr f3.fs).same (f2.tr sw.1).same ?_ ?_
        · refine gd_ild1 dX8_odds_0 ?_
          refine gd_ic4 dX8_odds_1 ?_
          refine gd_cS2i dX8_odds_2 ct_8_48 ⟨Nat.le_of_ble_eq_true rfl, Nat.le_of_ble_eq_true rfl⟩ (Nat.le_of_ble_eq_true rfl) (Nat.le_of_ble_eq_true rfl) (c_isBelow_t hd (by decide) _) ?_
          refine gd_if_eq_f 23 dX8_odds_5 (by decide) (by decide) ?_
          refine gd_ild2 dX8_odds_8 ?_
          refine gd_icm1 dX8_odds_9 ?_
          refine gd_icmp_eq_f 31 dX8_odds_10 (by decide) (hb) ?_
          refine gd_ild2 dX8_odds_13 ?_
          refine gd_sipush (v := nI 144) dX8_odds_14 (by decide) ?_
          refine gd_cS2i dX8_odds_17 ct_8_48 ⟨Nat.le_of_ble_eq_true rfl, Nat.le_of_ble_eq_true rfl⟩ (Nat.le_of_ble_eq_true rfl) (Nat.le_of_ble_eq_true rfl) (c_isBelow_t hc (by decide) _) ?_
          refine gd_if_ne_t 31 dX8_odds_20 (by decide) (by decide) ?_
          refine gd_ald0 dX8_odds_31 (by decide) ?_
          refine gd_getR (r := 60) dX8_odds_32 fl_8_40 rfl rfl rfl (by decide) ?_
          refine gd_ald0 dX8_odds_35 (by decide) ?_
          refine gd_getR (r := 1) dX8_odds_36 fl_8_12 rfl rfl rfl (by decide) ?_
          refine gd_icm1 dX8_odds_39 ?_
          refine gd_cV2v dX8_odds_40 ct_8_211 rc_60 ⟨Nat.le_of_ble_eq_true rfl, Nat.le_of_ble_eq_true rfl⟩ (Nat.le_of_ble_eq_true rfl) (Nat.le_of_ble_eq_true rfl) (gt) ?_
          refine gd_ild2 dX8_odds_43 ?_
          refine gd_icm1 dX8_odds_44 ?_
          refine gd_icmp_ne_t 59 dX8_odds_45 (by decide) (hb) ?_
          refine gd_ald0 dX8_odds_59 (by decide) ?_
          refine gd_getR (r := 60) dX8_odds_60 fl_8_40 rfl rfl rfl (by decide) ?_
          refine gd_ild2 dX8_odds_63 ?_
          refine gd_ild1 dX8_odds_64 ?_
          refine gd_cV2l dX8_odds_65 ct_8_263 rc_60 ⟨Nat.le_of_ble_eq_true rfl, Nat.le_of_ble_eq_true rfl⟩ (Nat.le_of_ble_eq_true rfl) (Nat.le_of_ble_eq_true rfl) (g3) ?_
          refine gd_lret dX8_odds_68 rfl ?_
          rfl
        · refine gd_ild1 dX9_odds_0 ?_
          refine gd_cS1i dX9_odds_1 ct_9_259 ⟨Nat.le_of_ble_eq_true rfl, Nat.le_of_ble_eq_true rfl⟩ (Nat.le_of_ble_eq_true rfl) (Nat.le_of_ble_eq_true rfl) (m_isDepth_t hd _) ?_
          refine gd_if_eq_f 19 dX9_odds_4 (by decide) (by decide) ?_
          refine gd_ild2 dX9_odds_7 ?_
          refine gd_icm1 dX9_odds_8 ?_
          refine gd_icmp_eq_f 26 dX9_odds_9 (by decide) (hb) ?_
          refine gd_ild2 dX9_odds_12 ?_
          refine gd_cS1i dX9_odds_13 ct_9_93 ⟨Nat.le_of_ble_eq_true rfl, Nat.le_of_ble_eq_true rfl⟩ (Nat.le_of_ble_eq_true rfl) (Nat.le_of_ble_eq_true rfl) (m_isCell_t hc _) ?_
          refine gd_if_ne_t 26 dX9_odds_16 (by decide) (by decide) ?_
          refine gd_ald0 dX9_odds_26 (by decide) ?_
          refine gd_icm1 dX9_odds_27 ?_
          refine gd_cV1v dX9_odds_28 ct_9_216 rc_72 ⟨Nat.le_of_ble_eq_true rfl, Nat.le_of_ble_eq_true rfl⟩ (Nat.le_of_ble_eq_true rfl) (Nat.le_of_ble_eq_true rfl) (gp) ?_
          refine gd_ald0 dX9_odds_31 (by decide) ?_
          refine gd_ild1 dX9_odds_32 ?_
          refine gd_cV1v dX9_odds_33 ct_9_262 rc_72 ⟨Nat.le_of_ble_eq_true rfl, Nat.le_of_ble_eq_true rfl⟩ (Nat.le_of_ble_eq_true rfl) (Nat.le_of_ble_eq_true rfl) (gs) ?_
          refine gd_ild2 dX9_odds_36 ?_
          refine gd_if_ge_t 47 dX9_odds_37 (by decide) (by exact nI_pos' (by omega)) ?_
          refine gd_ald0 dX9_odds_47 (by decide) ?_
          refine gd_getR (r := 88) dX9_odds_48 fl_9_56 rfl rfl rfl (by decide) ?_
          refine gd_ild2 dX9_odds_51 ?_
          refine gd_lald (n := 144) dX9_odds_52 rfl (by decide) (by repeat' (first | with_reducible rfl | apply ni_add | apply ni_mul)) (by omega) ?_
          rw [sw.2.2.1 c hc]
          refine gd_lret dX9_odds_53 rfl ?_
          rfl
      · refine PasL.findV (h1 := h) (h2 := hf (h) 0) (r := .long (-1000000001 : Int32).toInt64) (r2 := .long ((-1000000000 : Int32) - nI 1).toInt64) 0 i (by decide) (by decide) (Same.rf _) (Same.rf _) ?_ ?_
        · refine gd_ild1 dX8_odds_0 ?_
          refine gd_ic4 dX8_odds_1 ?_
          refine gd_cS2i dX8_odds_2 ct_8_48 ⟨Nat.le_of_ble_eq_true rfl, Nat.le_of_ble_eq_true rfl⟩ (Nat.le_of_ble_eq_true rfl) (Nat.le_of_ble_eq_true rfl) (c_isBelow_t hd (by decide) _) ?_
          refine gd_if_eq_f 23 dX8_odds_5 (by decide) (by decide) ?_
          refine gd_ild2 dX8_odds_8 ?_
          refine gd_icm1 dX8_odds_9 ?_
          refine gd_icmp_eq_f 31 dX8_odds_10 (by decide) (hb) ?_
          refine gd_ild2 dX8_odds_13 ?_
          refine gd_sipush (v := nI 144) dX8_odds_14 (by decide) ?_
          refine gd_cS2i dX8_odds_17 ct_8_48 ⟨Nat.le_of_ble_eq_true rfl, Nat.le_of_ble_eq_true rfl⟩ (Nat.le_of_ble_eq_true rfl) (Nat.le_of_ble_eq_true rfl) (c_isBelow_f hbb _) ?_
          refine gd_if_ne_f 31 dX8_odds_20 (by decide) (by decide) ?_
          refine gd_ald0 dX8_odds_23 (by decide) ?_
          refine gd_ldc dX8_odds_24 ld_8_52 ?_
          refine gd_cV1i dX8_odds_26 ct_8_53 rc_0 ⟨Nat.le_of_ble_eq_true rfl, Nat.le_of_ble_eq_true rfl⟩ (Nat.le_of_ble_eq_true rfl) (Nat.le_of_ble_eq_true rfl) (c_f0 _) ?_
          refine gd_i2l dX8_odds_29 ?_
          refine gd_lret dX8_odds_30 rfl ?_
          rfl
        · refine gd_ild1 dX9_odds_0 ?_
          refine gd_cS1i dX9_odds_1 ct_9_259 ⟨Nat.le_of_ble_eq_true rfl, Nat.le_of_ble_eq_true rfl⟩ (Nat.le_of_ble_eq_true rfl) (Nat.le_of_ble_eq_true rfl) (m_isDepth_t hd _) ?_
          refine gd_if_eq_f 19 dX9_odds_4 (by decide) (by decide) ?_
          refine gd_ild2 dX9_odds_7 ?_
          refine gd_icm1 dX9_odds_8 ?_
          refine gd_icmp_eq_f 26 dX9_odds_9 (by decide) (hb) ?_
          refine gd_ild2 dX9_odds_12 ?_
          refine gd_cS1i dX9_odds_13 ct_9_93 ⟨Nat.le_of_ble_eq_true rfl, Nat.le_of_ble_eq_true rfl⟩ (Nat.le_of_ble_eq_true rfl) (Nat.le_of_ble_eq_true rfl) (m_isCell_f hbb _) ?_
          refine gd_if_ne_f 26 dX9_odds_16 (by decide) (by decide) ?_
          refine gd_ald0 dX9_odds_19 (by decide) ?_
          refine gd_ic1 dX9_odds_20 ?_
          refine gd_cV1i dX9_odds_21 ct_9_97 rc_72 ⟨Nat.le_of_ble_eq_true rfl, Nat.le_of_ble_eq_true rfl⟩ (Nat.le_of_ble_eq_true rfl) (Nat.le_of_ble_eq_true rfl) (m_f0 _) ?_
          refine gd_i2l dX9_odds_24 ?_
          refine gd_lret dX9_odds_25 rfl ?_
          rfl
  · refine PasL.findV (h1 := h) (h2 := hf (h) 0) (r := .long (-1000000001 : Int32).toInt64) (r2 := .long ((-1000000000 : Int32) - nI 1).toInt64) 0 i (by decide) (by decide) (Same.rf _) (Same.rf _) ?_ ?_
    · refine gd_ild1 dX8_odds_0 ?_
      refine gd_ic4 dX8_odds_1 ?_
      refine gd_cS2i dX8_odds_2 ct_8_48 ⟨Nat.le_of_ble_eq_true rfl, Nat.le_of_ble_eq_true rfl⟩ (Nat.le_of_ble_eq_true rfl) (Nat.le_of_ble_eq_true rfl) (c_isBelow_f ha _) ?_
      refine gd_if_eq_t 23 dX8_odds_5 (by decide) (by decide) ?_
      refine gd_ald0 dX8_odds_23 (by decide) ?_
      refine gd_ldc dX8_odds_24 ld_8_52 ?_
      refine gd_cV1i dX8_odds_26 ct_8_53 rc_0 ⟨Nat.le_of_ble_eq_true rfl, Nat.le_of_ble_eq_true rfl⟩ (Nat.le_of_ble_eq_true rfl) (Nat.le_of_ble_eq_true rfl) (c_f0 _) ?_
      refine gd_i2l dX8_odds_29 ?_
      refine gd_lret dX8_odds_30 rfl ?_
      rfl
    · refine gd_ild1 dX9_odds_0 ?_
      refine gd_cS1i dX9_odds_1 ct_9_259 ⟨Nat.le_of_ble_eq_true rfl, Nat.le_of_ble_eq_true rfl⟩ (Nat.le_of_ble_eq_true rfl) (Nat.le_of_ble_eq_true rfl) (m_isDepth_f ha _) ?_
      refine gd_if_eq_t 19 dX9_odds_4 (by decide) (by decide) ?_
      refine gd_ald0 dX9_odds_19 (by decide) ?_
      refine gd_ic1 dX9_odds_20 ?_
      refine gd_cV1i dX9_odds_21 ct_9_97 rc_72 ⟨Nat.le_of_ble_eq_true rfl, Nat.le_of_ble_eq_true rfl⟩ (Nat.le_of_ble_eq_true rfl) (Nat.le_of_ble_eq_true rfl) (m_f0 _) ?_
      refine gd_i2l dX9_odds_24 ?_
      refine gd_lret dX9_odds_25 rfl ?_
      rfl
