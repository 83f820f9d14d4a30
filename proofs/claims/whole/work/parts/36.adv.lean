
def TPB (h : Hp) (b : Nat → Nat) (N : Nat) : Prop := h.1 51 1 = nI N ∧ N ≤ 120 ∧ ∀ j, j < N → h.1 52 j = nI (b j) ∧ b j < 256
def hT (h : Hp) (s x k v : Int32) : Hp := sI h 51 (tpF (h.1 51) s x k v)
theorem hT6 (h : Hp) (s x k v : Int32) : (hT h s x k v).1 51 6 = s := rfl
theorem hT7 (h : Hp) (s x k v : Int32) : (hT h s x k v).1 51 7 = x := rfl
theorem hT8 (h : Hp) (s x k v : Int32) : (hT h s x k v).1 51 8 = k := rfl
theorem hT9 (h : Hp) (s x k v : Int32) : (hT h s x k v).1 51 9 = v := rfl
theorem hT1 (h : Hp) (s x k v : Int32) : (hT h s x k v).1 51 1 = h.1 51 1 := rfl
theorem hT52 (h : Hp) (s x k v : Int32) (j : Nat) : (hT h s x k v).1 52 j = h.1 52 j := rfl
theorem hTs6 (h : Hp) (s x k v u : Int32) : sI (hT h s x k v) 51 (upd ((hT h s x k v).1 51) 6 u) = hT h u x k v := by
  unfold hT; rw [sI_s, tpF_6, sI_sI]
theorem hTs7 (h : Hp) (s x k v u : Int32) : sI (hT h s x k v) 51 (upd ((hT h s x k v).1 51) 7 u) = hT h s u k v := by
  unfold hT; rw [sI_s, tpF_7, sI_sI]
theorem hTs8 (h : Hp) (s x k v u : Int32) : sI (hT h s x k v) 51 (upd ((hT h s x k v).1 51) 8 u) = hT h s x u v := by
  unfold hT; rw [sI_s, tpF_8, sI_sI]
theorem hTs9 (h : Hp) (s x k v u : Int32) : sI (hT h s x k v) 51 (upd ((hT h s x k v).1 51) 9 u) = hT h s x k u := by
  unfold hT; rw [sI_s, tpF_9, sI_sI]
theorem hT_id (h : Hp) : hT h (h.1 51 6) (h.1 51 7) (h.1 51 8) (h.1 51 9) = h := by
  unfold hT; rw [tpF_id, sI_id]
theorem hT_hT (h : Hp) (s x k v s' x' k' v' : Int32) : hT (hT h s x k v) s' x' k' v' = hT h s' x' k' v' := by
  unfold hT; rw [sI_s, tpF_tp, sI_sI]
theorem mn_nI {a c : Nat} (ha : a < 2 ^ 31) (hc : c < 2 ^ 31) : (if nI c < nI a then nI c else nI a) = nI (min a c) := by
  by_cases q : c < a
  · rw [if_pos (nI_lt q ha), Nat.min_eq_right (by omega)]
  · rw [if_neg (nI_nlt (by omega) hc), Nat.min_eq_left (by omega)]
theorem knd1 {c : Nat} : knd c = 1 ↔ 97 ≤ c ∧ c ≤ 122 := by
  unfold knd
  repeat (split; · omega)
  omega
theorem knd2 {c : Nat} : knd c = 2 ↔ 48 ≤ c ∧ c ≤ 57 := by
  unfold knd
  repeat (split; · omega)
  omega
theorem knd3 {c : Nat} : knd c = 3 ↔ c = 59 ∨ c = 45 := by
  unfold knd
  repeat (split; · omega)
  omega

theorem c_adv1 {h : Hp} {b : Nat → Nat} {N e : Nat} {x k v : Int32} {y : Option Value × Hp} (t : TPB h b N) (he : e ≤ N) (g : Gd mX5_advance 46 [.ref 51, .null, .null] [] (hT h (nI (tkS b N e)) x k v) y) : Gd mX5_advance 8 [.ref 51, .null, .null] [] (hT h (nI e) x k v) y := by
  obtain ⟨a1, a2, a3, a4⟩ := tkS_ok (b := b) t.2.1 he
  have hN := t.2.1
  generalize tkS b N e = s at a1 a2 a3 a4 g
  refine loopG (P := fun j => e ≤ j → Gd mX5_advance 8 [.ref 51, .null, .null] [] (hT h (nI j) x k v) y) (n := s) ?_ ?_ e a1 (Nat.le_refl _)
  · intro _
    by_cases q : s < N
    · have := (t.2.2 s q).2
      refine gd_ald0 dX5_advance_8 (by decide) ?_
      refine gd_getI dX5_advance_9 fl_5_41 rfl rfl ?_
      rw [hT6]
      refine gd_ald0 dX5_advance_12 (by decide) ?_
      refine gd_getI dX5_advance_13 fl_5_15 rfl rfl ?_
      rw [hT1, t.1]
      refine gd_icmp_ge_f 46 dX5_advance_16 (by decide) (by exact nI_ge (by omega) (by omega)) ?_
      refine gd_ald0 dX5_advance_19 (by decide) ?_
      refine gd_getR (r := 52) dX5_advance_20 fl_5_9 rfl rfl rfl (by decide) ?_
      refine gd_ald0 dX5_advance_23 (by decide) ?_
      refine gd_getI dX5_advance_24 fl_5_41 rfl rfl ?_
      rw [hT6]
      refine gd_iald (n := 120) dX5_advance_27 rfl (by decide) (by repeat' (first | with_reducible rfl | apply ni_add | apply ni_mul)) (by omega) ?_
      rw [hT52, (t.2.2 _ (by omega)).1]
      refine gd_bipush (v := nI 32) dX5_advance_28 (by decide) ?_
      refine gd_icmp_ne_t 46 dX5_advance_30 (by decide) (fun z => a4 q ((nI_eq (by omega) (by decide)).mp z)) ?_
      exact g
    · refine gd_ald0 dX5_advance_8 (by decide) ?_
      refine gd_getI dX5_advance_9 fl_5_41 rfl rfl ?_
      rw [hT6]
      refine gd_ald0 dX5_advance_12 (by decide) ?_
      refine gd_getI dX5_advance_13 fl_5_15 rfl rfl ?_
      rw [hT1, t.1]
      refine gd_icmp_ge_t 46 dX5_advance_16 (by decide) (by exact nI_le (by omega) (by omega)) ?_
      exact g
  · intro j hj ih le
    have ih := ih (by omega)
    refine gd_ald0 dX5_advance_8 (by decide) ?_
    refine gd_getI dX5_advance_9 fl_5_41 rfl rfl ?_
    rw [hT6]
    refine gd_ald0 dX5_advance_12 (by decide) ?_
    refine gd_getI dX5_advance_13 fl_5_15 rfl rfl ?_
    rw [hT1, t.1]
    refine gd_icmp_ge_f 46 dX5_advance_16 (by decide) (by exact nI_ge (by omega) (by omega)) ?_
    refine gd_ald0 dX5_advance_19 (by decide) ?_
    refine gd_getR (r := 52) dX5_advance_20 fl_5_9 rfl rfl rfl (by decide) ?_
    refine gd_ald0 dX5_advance_23 (by decide) ?_
    refine gd_getI dX5_advance_24 fl_5_41 rfl rfl ?_
    rw [hT6]
    refine gd_iald (n := 120) dX5_advance_27 rfl (by decide) (by repeat' (first | with_reducible rfl | apply ni_add | apply ni_mul)) (by omega) ?_
    rw [hT52, (t.2.2 _ (by omega)).1]
    refine gd_bipush (v := nI 32) dX5_advance_28 (by decide) ?_
    refine gd_icmp_ne_f 46 dX5_advance_30 (by decide) (by rw [a3 j le hj]) ?_
    refine gd_ald0 dX5_advance_33 (by decide) ?_
    refine gd_dupr (by decide) dX5_advance_34 ?_
    refine gd_getI dX5_advance_35 fl_5_41 rfl rfl ?_
    rw [hT6]
    refine gd_ic1 dX5_advance_38 ?_
    refine gd_iadd dX5_advance_39 ?_
    rw [nI_add]
    refine gd_putI dX5_advance_40 fl_5_41 rfl rfl (fun _ _ _ e => by cases e; rfl) ?_
    rw [hTs6]
    refine gd_goto 8 dX5_advance_43 (by decide) ?_
    exact ih
theorem c_adv3 {h : Hp} {b : Nat → Nat} {N s k : Nat} {st v : Int32} {y : Option Value × Hp} (t : TPB h b N) (hs : s ≤ N) (hk : k ≤ 4) (g : Gd mX5_advance 188 [.ref 51, .int (nI 1), .null] [] (hT h st (nI (runE (fun j => decide (knd (b j) = k)) N 200 s)) (nI k) v) y) : Gd mX5_advance 141 [.ref 51, .int (nI 1), .null] [] (hT h st (nI s) (nI k) v) y := by
  have hN := t.2.1
  obtain ⟨a1, a2, a3, a4⟩ := runE_ok (p := fun j => decide (knd (b j) = k)) (N := N) 200 s (by omega) hs
  generalize runE (fun j => decide (knd (b j) = k)) N 200 s = x at a1 a2 a3 a4 g
  refine loopG (P := fun j => s ≤ j → Gd mX5_advance 141 [.ref 51, .int (nI 1), .null] [] (hT h st (nI j) (nI k) v) y) (n := x) ?_ ?_ s a1 (Nat.le_refl _)
  · intro _
    by_cases q : x < N
    · have kl := knd_lt (b x)
      have a5 := of_decide_eq_false (a4 q)
      refine gd_ild1 dX5_advance_141 ?_
      refine gd_if_eq_f 188 dX5_advance_142 (by decide) (by decide) ?_
      refine gd_ald0 dX5_advance_145 (by decide) ?_
      refine gd_getI dX5_advance_146 fl_5_31 rfl rfl ?_
      rw [hT7]
      refine gd_ald0 dX5_advance_149 (by decide) ?_
      refine gd_getI dX5_advance_150 fl_5_15 rfl rfl ?_
      rw [hT1, t.1]
      refine gd_icmp_ge_f 188 dX5_advance_153 (by decide) (by exact nI_ge (by omega) (by omega)) ?_
      refine gd_ald0 dX5_advance_156 (by decide) ?_
      refine gd_getR (r := 52) dX5_advance_157 fl_5_9 rfl rfl rfl (by decide) ?_
      refine gd_ald0 dX5_advance_160 (by decide) ?_
      refine gd_getI dX5_advance_161 fl_5_31 rfl rfl ?_
      rw [hT7]
      refine gd_iald (n := 120) dX5_advance_164 rfl (by decide) (by repeat' (first | with_reducible rfl | apply ni_add | apply ni_mul)) (by omega) ?_
      rw [hT52, (t.2.2 _ (by omega)).1]
      refine gd_cS1i dX5_advance_165 ct_5_93 ⟨Nat.le_of_ble_eq_true rfl, Nat.le_of_ble_eq_true rfl⟩ (Nat.le_of_ble_eq_true rfl) (Nat.le_of_ble_eq_true rfl) (c_sortOf (t.2.2 _ (by omega)).2 _) ?_
      refine gd_ald0 dX5_advance_168 (by decide) ?_
      refine gd_getI dX5_advance_169 fl_5_48 rfl rfl ?_
      rw [hT8]
      refine gd_icmp_ne_t 188 dX5_advance_172 (by decide) (by exact fun z => absurd ((nI_eq (by omega) (by omega)).mp z) (by omega)) ?_
      exact g
    · refine gd_ild1 dX5_advance_141 ?_
      refine gd_if_eq_f 188 dX5_advance_142 (by decide) (by decide) ?_
      refine gd_ald0 dX5_advance_145 (by decide) ?_
      refine gd_getI dX5_advance_146 fl_5_31 rfl rfl ?_
      rw [hT7]
      refine gd_ald0 dX5_advance_149 (by decide) ?_
      refine gd_getI dX5_advance_150 fl_5_15 rfl rfl ?_
      rw [hT1, t.1]
      refine gd_icmp_ge_t 188 dX5_advance_153 (by decide) (by exact nI_le (by omega) (by omega)) ?_
      exact g
  · intro j hj ih le
    have ih := ih (by omega)
    have a5 := of_decide_eq_true (a3 j le hj)
    refine gd_ild1 dX5_advance_141 ?_
    refine gd_if_eq_f 188 dX5_advance_142 (by decide) (by decide) ?_
    refine gd_ald0 dX5_advance_145 (by decide) ?_
    refine gd_getI dX5_advance_146 fl_5_31 rfl rfl ?_
    rw [hT7]
    refine gd_ald0 dX5_advance_149 (by decide) ?_
    refine gd_getI dX5_advance_150 fl_5_15 rfl rfl ?_
    rw [hT1, t.1]
    refine gd_icmp_ge_f 188 dX5_advance_153 (by decide) (by exact nI_ge (by omega) (by omega)) ?_
    refine gd_ald0 dX5_advance_156 (by decide) ?_
    refine gd_getR (r := 52) dX5_advance_157 fl_5_9 rfl rfl rfl (by decide) ?_
    refine gd_ald0 dX5_advance_160 (by decide) ?_
    refine gd_getI dX5_advance_161 fl_5_31 rfl rfl ?_
    rw [hT7]
    refine gd_iald (n := 120) dX5_advance_164 rfl (by decide) (by repeat' (first | with_reducible rfl | apply ni_add | apply ni_mul)) (by omega) ?_
    rw [hT52, (t.2.2 _ (by omega)).1]
    refine gd_cS1i dX5_advance_165 ct_5_93 ⟨Nat.le_of_ble_eq_true rfl, Nat.le_of_ble_eq_true rfl⟩ (Nat.le_of_ble_eq_true rfl) (Nat.le_of_ble_eq_true rfl) (c_sortOf (t.2.2 _ (by omega)).2 _) ?_
    refine gd_ald0 dX5_advance_168 (by decide) ?_
    refine gd_getI dX5_advance_169 fl_5_48 rfl rfl ?_
    rw [hT8]
    refine gd_icmp_ne_f 188 dX5_advance_172 (by decide) (by rw [a5]) ?_
    refine gd_ald0 dX5_advance_175 (by decide) ?_
    refine gd_dupr (by decide) dX5_advance_176 ?_
    refine gd_getI dX5_advance_177 fl_5_31 rfl rfl ?_
    rw [hT7]
    refine gd_ic1 dX5_advance_180 ?_
    refine gd_iadd dX5_advance_181 ?_
    rw [nI_add]
    refine gd_putI dX5_advance_182 fl_5_31 rfl rfl (fun _ _ _ e => by cases e; rfl) ?_
    rw [hTs7]
    refine gd_goto 141 dX5_advance_185 (by decide) ?_
    exact ih
theorem c_adv4 {h : Hp} {b : Nat → Nat} {N s x : Nat} {l1 : Int32} (t : TPB h b N) (hs : s ≤ x) (hx : x ≤ N) (hd : ∀ j, s ≤ j → j < x → 48 ≤ b j ∧ b j ≤ 57) : Gd mX5_advance 193 [.ref 51, .int l1, .int (nI s)] [] (hT h (nI s) (nI x) (nI 2) (nI 0)) (none, hT h (nI s) (nI x) (nI 2) (nI (min 100000 (dcV b s (x - s))))) := by
  have hN := t.2.1
  have key := loopG (P := fun j => Gd mX5_advance 193 [.ref 51, .int l1, .int (nI (s + j))] [] (hT h (nI s) (nI x) (nI 2) (nI (min 100000 (dcV b s j)))) (none, hT h (nI s) (nI x) (nI 2) (nI (min 100000 (dcV b s (x - s)))))) (n := x - s) ?_ ?_ 0 (by omega)
  · exact key
  · rw [show s + (x - s) = x by omega]
    refine gd_ild2 dX5_advance_193 ?_
    refine gd_ald0 dX5_advance_194 (by decide) ?_
    refine gd_getI dX5_advance_195 fl_5_31 rfl rfl ?_
    rw [hT7]
    refine gd_icmp_ge_t 241 dX5_advance_198 (by decide) (by exact nI_le (by omega) (by omega)) ?_
    refine gd_vret dX5_advance_241 rfl ?_
    rfl
  · intro j hj ih
    have d := hd (s + j) (by omega) (by omega)
    refine gd_ild2 dX5_advance_193 ?_
    refine gd_ald0 dX5_advance_194 (by decide) ?_
    refine gd_getI dX5_advance_195 fl_5_31 rfl rfl ?_
    rw [hT7]
    refine gd_icmp_ge_f 241 dX5_advance_198 (by decide) (by exact nI_ge (by omega) (by omega)) ?_
    refine gd_ald0 dX5_advance_201 (by decide) ?_
    refine gd_getI dX5_advance_202 fl_5_48 rfl rfl ?_
    rw [hT8]
    refine gd_ic2 dX5_advance_205 ?_
    refine gd_icmp_ne_f 241 dX5_advance_206 (by decide) (by decide) ?_
    refine gd_ald0 dX5_advance_209 (by decide) ?_
    refine gd_ldc dX5_advance_210 ld_5_103 ?_
    refine gd_bipush (v := nI 10) dX5_advance_212 (by decide) ?_
    refine gd_ald0 dX5_advance_214 (by decide) ?_
    refine gd_getI dX5_advance_215 fl_5_77 rfl rfl ?_
    rw [hT9]
    refine gd_imul dX5_advance_218 ?_
    refine gd_ald0 dX5_advance_219 (by decide) ?_
    refine gd_getR (r := 52) dX5_advance_220 fl_5_9 rfl rfl rfl (by decide) ?_
    refine gd_ild2 dX5_advance_223 ?_
    refine gd_iald (n := 120) dX5_advance_224 rfl (by decide) (by repeat' (first | with_reducible rfl | apply ni_add | apply ni_mul)) (by omega) ?_
    rw [hT52, (t.2.2 _ (by omega)).1]
    refine gd_iadd dX5_advance_225 ?_
    refine gd_bipush (v := nI 48) dX5_advance_226 (by decide) ?_
    refine gd_isub dX5_advance_228 ?_
    rw [pk_mul, nI_add, pk_sub (by omega)]
    refine gd_mmin dX5_advance_229 mm_5_97 (Nat.le_of_ble_eq_true rfl) (Nat.le_of_ble_eq_true rfl) (Nat.le_of_ble_eq_true rfl) ?_
    rw [mn_nI (by decide) (by omega)]
    refine gd_putI dX5_advance_232 fl_5_77 rfl rfl (fun _ _ _ e => by cases e; rfl) ?_
    rw [hTs9]
    refine gd_iinc2 (b := nI 1) dX5_advance_235 (by decide) rfl ?_
    rw [nI_add]
    refine gd_goto 193 dX5_advance_238 (by decide) ?_
    rw [show min 100000 (10 * min 100000 (dcV b s j) + b (s + j) - 48) = min 100000 (dcV b s (j + 1)) by show _ = min 100000 (10 * dcV b s j + (b (s + j) - 48)); omega]
    exact ih
theorem c_advance {h : Hp} {b : Nat → Nat} {N e : Nat} (t : TPB h b N) (he : e ≤ N) (hx : h.1 51 7 = nI e) : Gd mX5_advance 0 [.ref 51, .null, .null] [] h (none, hT h (nI (tkS b N e)) (nI (tkX b N e)) (nI (tkK b N e)) (nI (tkV b N e))) := by
  have hN := t.2.1
  obtain ⟨a1, a2, a3, a4⟩ := tkS_ok (b := b) t.2.1 he
  have key : Gd mX5_advance 46 [.ref 51, .null, .null] [] (hT h (nI (tkS b N e)) (nI e) (h.1 51 8) (h.1 51 9)) (none, hT h (nI (tkS b N e)) (nI (tkX b N e)) (nI (tkK b N e)) (nI (tkV b N e))) := by
    clear a3 a4
    obtain ⟨s, hS⟩ : ∃ s, tkS b N e = s := ⟨_, rfl⟩
    rw [hS] at a1 a2
    by_cases q : s < N
    · have kl := knd_lt (b s)
      rcases (show knd (b s) = 1 ∨ knd (b s) = 2 ∨ knd (b s) = 3 ∨ knd (b s) = 4 by omega) with kb | kb | kb | kb
      · have kK : tkK b N e = 1 := by unfold tkK; rw [hS, if_pos q]; exact kb
        have r := runE_ok (p := fun j => decide (knd (b j) = 1)) (N := N) 200 (s + 1) (by omega) (by omega)
        have eX : tkX b N e = runE (fun j => decide (knd (b j) = 1)) N 200 (s + 1) := by unfold tkX; rw [hS, if_pos q, kK, if_pos (by decide)]
        have eV : tkV b N e = 0 := by unfold tkV; rw [kK, if_neg (by decide), if_neg (by decide)]
        rw [hS, eX, kK, eV]
        refine gd_ald0 dX5_advance_46 (by decide) ?_
        refine gd_ald0 dX5_advance_47 (by decide) ?_
        refine gd_getI dX5_advance_48 fl_5_41 rfl rfl ?_
        rw [hT6]
        refine gd_ald0 dX5_advance_51 (by decide) ?_
        refine gd_getI dX5_advance_52 fl_5_15 rfl rfl ?_
        rw [hT1, t.1]
        refine gd_icmp_ge_f 73 dX5_advance_55 (by decide) (by exact nI_ge (by omega) (by omega)) ?_
        refine gd_ald0 dX5_advance_58 (by decide) ?_
        refine gd_getR (r := 52) dX5_advance_59 fl_5_9 rfl rfl rfl (by decide) ?_
        refine gd_ald0 dX5_advance_62 (by decide) ?_
        refine gd_getI dX5_advance_63 fl_5_41 rfl rfl ?_
        rw [hT6]
        refine gd_iald (n := 120) dX5_advance_66 rfl (by decide) (by repeat' (first | with_reducible rfl | apply ni_add | apply ni_mul)) (by omega) ?_
        rw [hT52, (t.2.2 _ (by omega)).1]
        refine gd_cS1i dX5_advance_67 ct_5_93 ⟨Nat.le_of_ble_eq_true rfl, Nat.le_of_ble_eq_true rfl⟩ (Nat.le_of_ble_eq_true rfl) (Nat.le_of_ble_eq_true rfl) (c_sortOf (t.2.2 _ (by omega)).2 _) ?_
        rw [kb]
        refine gd_goto 74 dX5_advance_70 (by decide) ?_
        refine gd_putI dX5_advance_74 fl_5_48 rfl rfl (fun _ _ _ e => by cases e; rfl) ?_
        rw [hTs8]
        refine gd_ald0 dX5_advance_77 (by decide) ?_
        refine gd_ald0 dX5_advance_78 (by decide) ?_
        refine gd_getI dX5_advance_79 fl_5_48 rfl rfl ?_
        rw [hT8]
        refine gd_ic3 dX5_advance_82 ?_
        refine gd_icmp_ne_t 98 dX5_advance_83 (by decide) (by decide) ?_
        refine gd_ic0 dX5_advance_98 ?_
        refine gd_putI dX5_advance_99 fl_5_77 rfl rfl (fun _ _ _ e => by cases e; rfl) ?_
        rw [hTs9]
        refine gd_ald0 dX5_advance_102 (by decide) ?_
        refine gd_ald0 dX5_advance_103 (by decide) ?_
        refine gd_getI dX5_advance_104 fl_5_15 rfl rfl ?_
        rw [hT1, t.1]
        refine gd_ald0 dX5_advance_107 (by decide) ?_
        refine gd_getI dX5_advance_108 fl_5_41 rfl rfl ?_
        rw [hT6]
        refine gd_ic1 dX5_advance_111 ?_
        refine gd_iadd dX5_advance_112 ?_
        rw [nI_add]
        refine gd_mmin dX5_advance_113 mm_5_97 (Nat.le_of_ble_eq_true rfl) (Nat.le_of_ble_eq_true rfl) (Nat.le_of_ble_eq_true rfl) ?_
        rw [mn_nI (by omega) (by omega), show min N (s + 1) = s + 1 by omega]
        refine gd_putI dX5_advance_116 fl_5_31 rfl rfl (fun _ _ _ e => by cases e; rfl) ?_
        rw [hTs7]
        refine gd_ald0 dX5_advance_119 (by decide) ?_
        refine gd_getI dX5_advance_120 fl_5_48 rfl rfl ?_
        rw [hT8]
        refine gd_ic1 dX5_advance_123 ?_
        refine gd_icmp_eq_t 135 dX5_advance_124 (by decide) (by decide) ?_
        refine gd_ic1 dX5_advance_135 ?_
        refine gd_goto 140 dX5_advance_136 (by decide) ?_
        refine gd_ist1 dX5_advance_140 rfl ?_
        refine c_adv3 t (by omega) (by decide) ?_
        refine gd_ald0 dX5_advance_188 (by decide) ?_
        refine gd_getI dX5_advance_189 fl_5_41 rfl rfl ?_
        rw [hT6]
        refine gd_ist2 dX5_advance_192 rfl ?_
        refine gd_ild2 dX5_advance_193 ?_
        refine gd_ald0 dX5_advance_194 (by decide) ?_
        refine gd_getI dX5_advance_195 fl_5_31 rfl rfl ?_
        rw [hT7]
        refine gd_icmp_ge_f 241 dX5_advance_198 (by decide) (by exact nI_ge (by omega) (by omega)) ?_
        refine gd_ald0 dX5_advance_201 (by decide) ?_
        refine gd_getI dX5_advance_202 fl_5_48 rfl rfl ?_
        rw [hT8]
        refine gd_ic2 dX5_advance_205 ?_
        refine gd_icmp_ne_t 241 dX5_advance_206 (by decide) (by decide) ?_
        refine gd_vret dX5_advance_241 rfl ?_
        rfl
      · have kK : tkK b N e = 2 := by unfold tkK; rw [hS, if_pos q]; exact kb
        have r := runE_ok (p := fun j => decide (knd (b j) = 2)) (N := N) 200 (s + 1) (by omega) (by omega)
        have eX : tkX b N e = runE (fun j => decide (knd (b j) = 2)) N 200 (s + 1) := by unfold tkX; rw [hS, if_pos q, kK, if_pos (by decide)]
        have eV : tkV b N e = min 100000 (dcV b s (runE (fun j => decide (knd (b j) = 2)) N 200 (s + 1) - s)) := by unfold tkV; rw [kK, if_neg (by decide), if_pos rfl, hS, eX]
        rw [hS, eX, kK, eV]
        have x2 := r.2.1
        have dg : ∀ j, s ≤ j → j < runE (fun j => decide (knd (b j) = 2)) N 200 (s + 1) → 48 ≤ b j ∧ b j ≤ 57 := fun j u w => knd2.mp (by
          by_cases z : j = s
          · rw [z]; exact kb
          · exact of_decide_eq_true (r.2.2.1 j (by omega) w))
        refine gd_ald0 dX5_advance_46 (by decide) ?_
        refine gd_ald0 dX5_advance_47 (by decide) ?_
        refine gd_getI dX5_advance_48 fl_5_41 rfl rfl ?_
        rw [hT6]
        refine gd_ald0 dX5_advance_51 (by decide) ?_
        refine gd_getI dX5_advance_52 fl_5_15 rfl rfl ?_
        rw [hT1, t.1]
        refine gd_icmp_ge_f 73 dX5_advance_55 (by decide) (by exact nI_ge (by omega) (by omega)) ?_
        refine gd_ald0 dX5_advance_58 (by decide) ?_
        refine gd_getR (r := 52) dX5_advance_59 fl_5_9 rfl rfl rfl (by decide) ?_
        refine gd_ald0 dX5_advance_62 (by decide) ?_
        refine gd_getI dX5_advance_63 fl_5_41 rfl rfl ?_
        rw [hT6]
        refine gd_iald (n := 120) dX5_advance_66 rfl (by decide) (by repeat' (first | with_reducible rfl | apply ni_add | apply ni_mul)) (by omega) ?_
        rw [hT52, (t.2.2 _ (by omega)).1]
        refine gd_cS1i dX5_advance_67 ct_5_93 ⟨Nat.le_of_ble_eq_true rfl, Nat.le_of_ble_eq_true rfl⟩ (Nat.le_of_ble_eq_true rfl) (Nat.le_of_ble_eq_true rfl) (c_sortOf (t.2.2 _ (by omega)).2 _) ?_
        rw [kb]
        refine gd_goto 74 dX5_advance_70 (by decide) ?_
        refine gd_putI dX5_advance_74 fl_5_48 rfl rfl (fun _ _ _ e => by cases e; rfl) ?_
        rw [hTs8]
        refine gd_ald0 dX5_advance_77 (by decide) ?_
        refine gd_ald0 dX5_advance_78 (by decide) ?_
        refine gd_getI dX5_advance_79 fl_5_48 rfl rfl ?_
        rw [hT8]
        refine gd_ic3 dX5_advance_82 ?_
        refine gd_icmp_ne_t 98 dX5_advance_83 (by decide) (by decide) ?_
        refine gd_ic0 dX5_advance_98 ?_
        refine gd_putI dX5_advance_99 fl_5_77 rfl rfl (fun _ _ _ e => by cases e; rfl) ?_
        rw [hTs9]
        refine gd_ald0 dX5_advance_102 (by decide) ?_
        refine gd_ald0 dX5_advance_103 (by decide) ?_
        refine gd_getI dX5_advance_104 fl_5_15 rfl rfl ?_
        rw [hT1, t.1]
        refine gd_ald0 dX5_advance_107 (by decide) ?_
        refine gd_getI dX5_advance_108 fl_5_41 rfl rfl ?_
        rw [hT6]
        refine gd_ic1 dX5_advance_111 ?_
        refine gd_iadd dX5_advance_112 ?_
        rw [nI_add]
        refine gd_mmin dX5_advance_113 mm_5_97 (Nat.le_of_ble_eq_true rfl) (Nat.le_of_ble_eq_true rfl) (Nat.le_of_ble_eq_true rfl) ?_
        rw [mn_nI (by omega) (by omega), show min N (s + 1) = s + 1 by omega]
        refine gd_putI dX5_advance_116 fl_5_31 rfl rfl (fun _ _ _ e => by cases e; rfl) ?_
        rw [hTs7]
        refine gd_ald0 dX5_advance_119 (by decide) ?_
        refine gd_getI dX5_advance_120 fl_5_48 rfl rfl ?_
        rw [hT8]
        refine gd_ic1 dX5_advance_123 ?_
        refine gd_icmp_eq_f 135 dX5_advance_124 (by decide) (by decide) ?_
        refine gd_ald0 dX5_advance_127 (by decide) ?_
        refine gd_getI dX5_advance_128 fl_5_48 rfl rfl ?_
        rw [hT8]
        refine gd_ic2 dX5_advance_131 ?_
        refine gd_icmp_ne_f 139 dX5_advance_132 (by decide) (by decide) ?_
        refine gd_ic1 dX5_advance_135 ?_
        refine gd_goto 140 dX5_advance_136 (by decide) ?_
        refine gd_ist1 dX5_advance_140 rfl ?_
        refine c_adv3 t (by omega) (by decide) ?_
        refine gd_ald0 dX5_advance_188 (by decide) ?_
        refine gd_getI dX5_advance_189 fl_5_41 rfl rfl ?_
        rw [hT6]
        refine gd_ist2 dX5_advance_192 rfl ?_
        exact c_adv4 t (by omega) x2 dg
      · have kK : tkK b N e = 3 := by unfold tkK; rw [hS, if_pos q]; exact kb
        have eX : tkX b N e = s + 1 := by unfold tkX; rw [hS, if_pos q, kK, if_neg (by decide)]
        have eV : tkV b N e = b s := by unfold tkV; rw [kK, if_pos rfl, hS]
        rw [hS, eX, kK, eV]
        refine gd_ald0 dX5_advance_46 (by decide) ?_
        refine gd_ald0 dX5_advance_47 (by decide) ?_
        refine gd_getI dX5_advance_48 fl_5_41 rfl rfl ?_
        rw [hT6]
        refine gd_ald0 dX5_advance_51 (by decide) ?_
        refine gd_getI dX5_advance_52 fl_5_15 rfl rfl ?_
        rw [hT1, t.1]
        refine gd_icmp_ge_f 73 dX5_advance_55 (by decide) (by exact nI_ge (by omega) (by omega)) ?_
        refine gd_ald0 dX5_advance_58 (by decide) ?_
        refine gd_getR (r := 52) dX5_advance_59 fl_5_9 rfl rfl rfl (by decide) ?_
        refine gd_ald0 dX5_advance_62 (by decide) ?_
        refine gd_getI dX5_advance_63 fl_5_41 rfl rfl ?_
        rw [hT6]
        refine gd_iald (n := 120) dX5_advance_66 rfl (by decide) (by repeat' (first | with_reducible rfl | apply ni_add | apply ni_mul)) (by omega) ?_
        rw [hT52, (t.2.2 _ (by omega)).1]
        refine gd_cS1i dX5_advance_67 ct_5_93 ⟨Nat.le_of_ble_eq_true rfl, Nat.le_of_ble_eq_true rfl⟩ (Nat.le_of_ble_eq_true rfl) (Nat.le_of_ble_eq_true rfl) (c_sortOf (t.2.2 _ (by omega)).2 _) ?_
        rw [kb]
        refine gd_goto 74 dX5_advance_70 (by decide) ?_
        refine gd_putI dX5_advance_74 fl_5_48 rfl rfl (fun _ _ _ e => by cases e; rfl) ?_
        rw [hTs8]
        refine gd_ald0 dX5_advance_77 (by decide) ?_
        refine gd_ald0 dX5_advance_78 (by decide) ?_
        refine gd_getI dX5_advance_79 fl_5_48 rfl rfl ?_
        rw [hT8]
        refine gd_ic3 dX5_advance_82 ?_
        refine gd_icmp_ne_f 98 dX5_advance_83 (by decide) (by decide) ?_
        refine gd_ald0 dX5_advance_86 (by decide) ?_
        refine gd_getR (r := 52) dX5_advance_87 fl_5_9 rfl rfl rfl (by decide) ?_
        refine gd_ald0 dX5_advance_90 (by decide) ?_
        refine gd_getI dX5_advance_91 fl_5_41 rfl rfl ?_
        rw [hT6]
        refine gd_iald (n := 120) dX5_advance_94 rfl (by decide) (by repeat' (first | with_reducible rfl | apply ni_add | apply ni_mul)) (by omega) ?_
        rw [hT52, (t.2.2 _ (by omega)).1]
        refine gd_goto 99 dX5_advance_95 (by decide) ?_
        refine gd_putI dX5_advance_99 fl_5_77 rfl rfl (fun _ _ _ e => by cases e; rfl) ?_
        rw [hTs9]
        refine gd_ald0 dX5_advance_102 (by decide) ?_
        refine gd_ald0 dX5_advance_103 (by decide) ?_
        refine gd_getI dX5_advance_104 fl_5_15 rfl rfl ?_
        rw [hT1, t.1]
        refine gd_ald0 dX5_advance_107 (by decide) ?_
        refine gd_getI dX5_advance_108 fl_5_41 rfl rfl ?_
        rw [hT6]
        refine gd_ic1 dX5_advance_111 ?_
        refine gd_iadd dX5_advance_112 ?_
        rw [nI_add]
        refine gd_mmin dX5_advance_113 mm_5_97 (Nat.le_of_ble_eq_true rfl) (Nat.le_of_ble_eq_true rfl) (Nat.le_of_ble_eq_true rfl) ?_
        rw [mn_nI (by omega) (by omega), show min N (s + 1) = s + 1 by omega]
        refine gd_putI dX5_advance_116 fl_5_31 rfl rfl (fun _ _ _ e => by cases e; rfl) ?_
        rw [hTs7]
        refine gd_ald0 dX5_advance_119 (by decide) ?_
        refine gd_getI dX5_advance_120 fl_5_48 rfl rfl ?_
        rw [hT8]
        refine gd_ic1 dX5_advance_123 ?_
        refine gd_icmp_eq_f 135 dX5_advance_124 (by decide) (by decide) ?_
        refine gd_ald0 dX5_advance_127 (by decide) ?_
        refine gd_getI dX5_advance_128 fl_5_48 rfl rfl ?_
        rw [hT8]
        refine gd_ic2 dX5_advance_131 ?_
        refine gd_icmp_ne_t 139 dX5_advance_132 (by decide) (by decide) ?_
        refine gd_ic0 dX5_advance_139 ?_
        refine gd_ist1 dX5_advance_140 rfl ?_
        refine gd_ild1 dX5_advance_141 ?_
        refine gd_if_eq_t 188 dX5_advance_142 (by decide) (by decide) ?_
        refine gd_ald0 dX5_advance_188 (by decide) ?_
        refine gd_getI dX5_advance_189 fl_5_41 rfl rfl ?_
        rw [hT6]
        refine gd_ist2 dX5_advance_192 rfl ?_
        refine gd_ild2 dX5_advance_193 ?_
        refine gd_ald0 dX5_advance_194 (by decide) ?_
        refine gd_getI dX5_advance_195 fl_5_31 rfl rfl ?_
        rw [hT7]
        refine gd_icmp_ge_f 241 dX5_advance_198 (by decide) (by exact nI_ge (by omega) (by omega)) ?_
        refine gd_ald0 dX5_advance_201 (by decide) ?_
        refine gd_getI dX5_advance_202 fl_5_48 rfl rfl ?_
        rw [hT8]
        refine gd_ic2 dX5_advance_205 ?_
        refine gd_icmp_ne_t 241 dX5_advance_206 (by decide) (by decide) ?_
        refine gd_vret dX5_advance_241 rfl ?_
        rfl
      · have kK : tkK b N e = 4 := by unfold tkK; rw [hS, if_pos q]; exact kb
        have eX : tkX b N e = s + 1 := by unfold tkX; rw [hS, if_pos q, kK, if_neg (by decide)]
        have eV : tkV b N e = 0 := by unfold tkV; rw [kK, if_neg (by decide), if_neg (by decide)]
        rw [hS, eX, kK, eV]
        refine gd_ald0 dX5_advance_46 (by decide) ?_
        refine gd_ald0 dX5_advance_47 (by decide) ?_
        refine gd_getI dX5_advance_48 fl_5_41 rfl rfl ?_
        rw [hT6]
        refine gd_ald0 dX5_advance_51 (by decide) ?_
        refine gd_getI dX5_advance_52 fl_5_15 rfl rfl ?_
        rw [hT1, t.1]
        refine gd_icmp_ge_f 73 dX5_advance_55 (by decide) (by exact nI_ge (by omega) (by omega)) ?_
        refine gd_ald0 dX5_advance_58 (by decide) ?_
        refine gd_getR (r := 52) dX5_advance_59 fl_5_9 rfl rfl rfl (by decide) ?_
        refine gd_ald0 dX5_advance_62 (by decide) ?_
        refine gd_getI dX5_advance_63 fl_5_41 rfl rfl ?_
        rw [hT6]
        refine gd_iald (n := 120) dX5_advance_66 rfl (by decide) (by repeat' (first | with_reducible rfl | apply ni_add | apply ni_mul)) (by omega) ?_
        rw [hT52, (t.2.2 _ (by omega)).1]
        refine gd_cS1i dX5_advance_67 ct_5_93 ⟨Nat.le_of_ble_eq_true rfl, Nat.le_of_ble_eq_true rfl⟩ (Nat.le_of_ble_eq_true rfl) (Nat.le_of_ble_eq_true rfl) (c_sortOf (t.2.2 _ (by omega)).2 _) ?_
        rw [kb]
        refine gd_goto 74 dX5_advance_70 (by decide) ?_
        refine gd_putI dX5_advance_74 fl_5_48 rfl rfl (fun _ _ _ e => by cases e; rfl) ?_
        rw [hTs8]
        refine gd_ald0 dX5_advance_77 (by decide) ?_
        refine gd_ald0 dX5_advance_78 (by decide) ?_
        refine gd_getI dX5_advance_79 fl_5_48 rfl rfl ?_
        rw [hT8]
        refine gd_ic3 dX5_advance_82 ?_
        refine gd_icmp_ne_t 98 dX5_advance_83 (by decide) (by decide) ?_
        refine gd_ic0 dX5_advance_98 ?_
        refine gd_putI dX5_advance_99 fl_5_77 rfl rfl (fun _ _ _ e => by cases e; rfl) ?_
        rw [hTs9]
        refine gd_ald0 dX5_advance_102 (by decide) ?_
        refine gd_ald0 dX5_advance_103 (by decide) ?_
        refine gd_getI dX5_advance_104 fl_5_15 rfl rfl ?_
        rw [hT1, t.1]
        refine gd_ald0 dX5_advance_107 (by decide) ?_
        refine gd_getI dX5_advance_108 fl_5_41 rfl rfl ?_
        rw [hT6]
        refine gd_ic1 dX5_advance_111 ?_
        refine gd_iadd dX5_advance_112 ?_
        rw [nI_add]
        refine gd_mmin dX5_advance_113 mm_5_97 (Nat.le_of_ble_eq_true rfl) (Nat.le_of_ble_eq_true rfl) (Nat.le_of_ble_eq_true rfl) ?_
        rw [mn_nI (by omega) (by omega), show min N (s + 1) = s + 1 by omega]
        refine gd_putI dX5_advance_116 fl_5_31 rfl rfl (fun _ _ _ e => by cases e; rfl) ?_
        rw [hTs7]
        refine gd_ald0 dX5_advance_119 (by decide) ?_
        refine gd_getI dX5_advance_120 fl_5_48 rfl rfl ?_
        rw [hT8]
        refine gd_ic1 dX5_advance_123 ?_
        refine gd_icmp_eq_f 135 dX5_advance_124 (by decide) (by decide) ?_
        refine gd_ald0 dX5_advance_127 (by decide) ?_
        refine gd_getI dX5_advance_128 fl_5_48 rfl rfl ?_
        rw [hT8]
        refine gd_ic2 dX5_advance_131 ?_
        refine gd_icmp_ne_t 139 dX5_advance_132 (by decide) (by decide) ?_
        refine gd_ic0 dX5_advance_139 ?_
        refine gd_ist1 dX5_advance_140 rfl ?_
        refine gd_ild1 dX5_advance_141 ?_
        refine gd_if_eq_t 188 dX5_advance_142 (by decide) (by decide) ?_
        refine gd_ald0 dX5_advance_188 (by decide) ?_
        refine gd_getI dX5_advance_189 fl_5_41 rfl rfl ?_
        rw [hT6]
        refine gd_ist2 dX5_advance_192 rfl ?_
        refine gd_ild2 dX5_advance_193 ?_
        refine gd_ald0 dX5_advance_194 (by decide) ?_
        refine gd_getI dX5_advance_195 fl_5_31 rfl rfl ?_
        rw [hT7]
        refine gd_icmp_ge_f 241 dX5_advance_198 (by decide) (by exact nI_ge (by omega) (by omega)) ?_
        refine gd_ald0 dX5_advance_201 (by decide) ?_
        refine gd_getI dX5_advance_202 fl_5_48 rfl rfl ?_
        rw [hT8]
        refine gd_ic2 dX5_advance_205 ?_
        refine gd_icmp_ne_t 241 dX5_advance_206 (by decide) (by decide) ?_
        refine gd_vret dX5_advance_241 rfl ?_
        rfl
    · have kK : tkK b N e = 0 := by unfold tkK; rw [hS, if_neg q]
      have eX : tkX b N e = N := by unfold tkX; rw [hS, if_neg q]
      have eV : tkV b N e = 0 := by unfold tkV; rw [kK, if_neg (by decide), if_neg (by decide)]
      have sN : s = N := by omega
      rw [hS, eX, kK, eV]
      refine gd_ald0 dX5_advance_46 (by decide) ?_
      refine gd_ald0 dX5_advance_47 (by decide) ?_
      refine gd_getI dX5_advance_48 fl_5_41 rfl rfl ?_
      rw [hT6]
      refine gd_ald0 dX5_advance_51 (by decide) ?_
      refine gd_getI dX5_advance_52 fl_5_15 rfl rfl ?_
      rw [hT1, t.1]
      refine gd_icmp_ge_t 73 dX5_advance_55 (by decide) (by exact nI_le (by omega) (by omega)) ?_
      refine gd_ic0 dX5_advance_73 ?_
      refine gd_putI dX5_advance_74 fl_5_48 rfl rfl (fun _ _ _ e => by cases e; rfl) ?_
      rw [hTs8]
      refine gd_ald0 dX5_advance_77 (by decide) ?_
      refine gd_ald0 dX5_advance_78 (by decide) ?_
      refine gd_getI dX5_advance_79 fl_5_48 rfl rfl ?_
      rw [hT8]
      refine gd_ic3 dX5_advance_82 ?_
      refine gd_icmp_ne_t 98 dX5_advance_83 (by decide) (by decide) ?_
      refine gd_ic0 dX5_advance_98 ?_
      refine gd_putI dX5_advance_99 fl_5_77 rfl rfl (fun _ _ _ e => by cases e; rfl) ?_
      rw [hTs9]
      refine gd_ald0 dX5_advance_102 (by decide) ?_
      refine gd_ald0 dX5_advance_103 (by decide) ?_
      refine gd_getI dX5_advance_104 fl_5_15 rfl rfl ?_
      rw [hT1, t.1]
      refine gd_ald0 dX5_advance_107 (by decide) ?_
      refine gd_getI dX5_advance_108 fl_5_41 rfl rfl ?_
      rw [hT6]
      refine gd_ic1 dX5_advance_111 ?_
      refine gd_iadd dX5_advance_112 ?_
      rw [nI_add]
      refine gd_mmin dX5_advance_113 mm_5_97 (Nat.le_of_ble_eq_true rfl) (Nat.le_of_ble_eq_true rfl) (Nat.le_of_ble_eq_true rfl) ?_
      rw [mn_nI (by omega) (by omega), show min N (s + 1) = N by omega]
      refine gd_putI dX5_advance_116 fl_5_31 rfl rfl (fun _ _ _ e => by cases e; rfl) ?_
      rw [hTs7]
      refine gd_ald0 dX5_advance_119 (by decide) ?_
      refine gd_getI dX5_advance_120 fl_5_48 rfl rfl ?_
      rw [hT8]
      refine gd_ic1 dX5_advance_123 ?_
      refine gd_icmp_eq_f 135 dX5_advance_124 (by decide) (by decide) ?_
      refine gd_ald0 dX5_advance_127 (by decide) ?_
      refine gd_getI dX5_advance_128 fl_5_48 rfl rfl ?_
      rw [hT8]
      refine gd_ic2 dX5_advance_131 ?_
      refine gd_icmp_ne_t 139 dX5_advance_132 (by decide) (by decide) ?_
      refine gd_ic0 dX5_advance_139 ?_
      refine gd_ist1 dX5_advance_140 rfl ?_
      refine gd_ild1 dX5_advance_141 ?_
      refine gd_if_eq_t 188 dX5_advance_142 (by decide) (by decide) ?_
      refine gd_ald0 dX5_advance_188 (by decide) ?_
      refine gd_getI dX5_advance_189 fl_5_41 rfl rfl ?_
      rw [hT6]
      refine gd_ist2 dX5_advance_192 rfl ?_
      refine gd_ild2 dX5_advance_193 ?_
      refine gd_ald0 dX5_advance_194 (by decide) ?_
      refine gd_getI dX5_advance_195 fl_5_31 rfl rfl ?_
      rw [hT7]
      refine gd_icmp_ge_t 241 dX5_advance_198 (by decide) (by exact nI_le (by omega) (by omega)) ?_
      refine gd_vret dX5_advance_241 rfl ?_
      rfl
  have key := c_adv1 t he key
  refine gd_ald0 dX5_advance_0 (by decide) ?_
  refine gd_ald0 dX5_advance_1 (by decide) ?_
  refine gd_getI dX5_advance_2 fl_5_31 rfl rfl ?_
  rw [hx]
  refine gd_putI dX5_advance_5 fl_5_41 rfl rfl (fun _ _ _ e => by cases e; rfl) ?_
  refine gd_eqH ?_ key
  conv => lhs; rw [← hT_id h]
  rw [hTs6, hx]
