
/-! ===== the reference's tokens ===== -/
def MPB (h : Hp) (b : Nat → Nat) (N : Nat) : Prop := h.1 72 14 = nI N ∧ N ≤ 120 ∧ ∀ j, j < N → h.1 85 j = nI (b j) ∧ b j < 256
def mpF (f : Nat → Int32) (s x k : Int32) : Nat → Int32 := fun j => if j = 15 then s else if j = 16 then x else if j = 17 then k else f j
theorem mpF_id (f : Nat → Int32) : mpF f (f 15) (f 16) (f 17) = f := by
  funext j; unfold mpF
  by_cases h6 : j = 15
  · rw [if_pos h6, h6]
  · rw [if_neg h6]
    by_cases h7 : j = 16
    · rw [if_pos h7, h7]
    · rw [if_neg h7]
      by_cases h8 : j = 17
      · rw [if_pos h8, h8]
      · rw [if_neg h8]
theorem mpF_15 (f : Nat → Int32) (s x k u : Int32) : upd (mpF f s x k) 15 u = mpF f u x k := by
  funext j; rw [upd_at]; unfold mpF; split <;> rfl
theorem mpF_16 (f : Nat → Int32) (s x k u : Int32) : upd (mpF f s x k) 16 u = mpF f s u k := by
  funext j; rw [upd_at]; unfold mpF
  by_cases e : j = 16
  · rw [if_pos e, if_neg (by omega), if_pos e]
  · rw [if_neg e, if_neg e, if_neg e]
theorem mpF_17 (f : Nat → Int32) (s x k u : Int32) : upd (mpF f s x k) 17 u = mpF f s x u := by
  funext j; rw [upd_at]; unfold mpF
  by_cases e : j = 17
  · rw [if_pos e, if_neg (by omega), if_neg (by omega), if_pos e]
  · rw [if_neg e, if_neg e, if_neg e]
theorem updL_id (f : Nat → Int64) (k : Nat) : vp_updL f k (f k) = f := by
  funext j; rw [updL_at]; split
  · rename_i e; rw [e]
  · rfl
theorem updL_updL (f : Nat → Int64) (k : Nat) (v w : Int64) : vp_updL (vp_updL f k v) k w = vp_updL f k w := by
  funext j; rw [updL_at, updL_at, updL_at]; split <;> rfl
def hM (h : Hp) (s x k : Int32) (v : Int64) : Hp := sL (sI h 72 (mpF (h.1 72) s x k)) 72 (vp_updL (h.2 72) 18 v)
theorem hM_id (h : Hp) : hM h (h.1 72 15) (h.1 72 16) (h.1 72 17) (h.2 72 18) = h := by
  unfold hM; rw [mpF_id, sI_id, updL_id, sL_id]
theorem hM15 (h : Hp) (s x k : Int32) (v : Int64) : (hM h s x k v).1 72 15 = s := rfl
theorem hM16 (h : Hp) (s x k : Int32) (v : Int64) : (hM h s x k v).1 72 16 = x := rfl
theorem hM17 (h : Hp) (s x k : Int32) (v : Int64) : (hM h s x k v).1 72 17 = k := rfl
theorem hM18 (h : Hp) (s x k : Int32) (v : Int64) : (hM h s x k v).2 72 18 = v := rfl
theorem hM14 (h : Hp) (s x k : Int32) (v : Int64) : (hM h s x k v).1 72 14 = h.1 72 14 := rfl
theorem hM85 (h : Hp) (s x k : Int32) (v : Int64) (j : Nat) : (hM h s x k v).1 85 j = h.1 85 j := rfl
theorem hMs15 (h : Hp) (s x k : Int32) (v : Int64) (u : Int32) : sI (hM h s x k v) 72 (upd ((hM h s x k v).1 72) 15 u) = hM h u x k v := by
  unfold hM; rw [sL_1, sI_s, mpF_15, sI_sL, sI_sI]
theorem hMs16 (h : Hp) (s x k : Int32) (v : Int64) (u : Int32) : sI (hM h s x k v) 72 (upd ((hM h s x k v).1 72) 16 u) = hM h s u k v := by
  unfold hM; rw [sL_1, sI_s, mpF_16, sI_sL, sI_sI]
theorem hMs17 (h : Hp) (s x k : Int32) (v : Int64) (u : Int32) : sI (hM h s x k v) 72 (upd ((hM h s x k v).1 72) 17 u) = hM h s x u v := by
  unfold hM; rw [sL_1, sI_s, mpF_17, sI_sL, sI_sI]
theorem hMs18 (h : Hp) (s x k : Int32) (v u : Int64) : sL (hM h s x k v) 72 (vp_updL ((hM h s x k v).2 72) 18 u) = hM h s x k u := by
  unfold hM; rw [sL_s, updL_updL, sL_sL]
def pkV (b : Nat → Nat) (s : Nat) : Nat → Nat
  | 0 => 0
  | n + 1 => 256 * pkV b s n + b (s + n)
def nmV (b : Nat → Nat) (s n : Nat) : Int64 := if n ≤ 7 then lN (pkV b s n) else -1
def mdV (b : Nat → Nat) (s : Nat) : Nat → Nat
  | 0 => 0
  | n + 1 => if 9999 < mdV b s n then mdV b s n else 10 * mdV b s n + (b (s + n) - 48)
def tkL (b : Nat → Nat) (N e : Nat) : Nat := if tkK b N e = 4 then 3 else tkK b N e
def tkM (b : Nat → Nat) (N e : Nat) : Int64 := if tkK b N e = 0 then lN 0 else if tkK b N e = 1 then nmV b (tkS b N e) (tkX b N e - tkS b N e) else if tkK b N e = 2 then lN (mdV b (tkS b N e) (tkX b N e - tkS b N e)) else lN (b (tkS b N e))
theorem l_shl8 (v c : Nat) (hc : c < 256) : (lN v <<< ((nI 8).toInt64 &&& 63)) ||| lN c = lN (256 * v + c) := by
  rw [show (nI 8).toInt64 &&& 63 = (8 : Int64) by decide]
  apply Int64.toBitVec_inj.mp
  show (BitVec.ofNat 64 v <<< _) ||| BitVec.ofNat 64 c = BitVec.ofNat 64 (256 * v + c)
  rw [show (BitVec.ofNat 64 v <<< ((8 : Int64).toBitVec.smod 64) : BitVec 64) = BitVec.ofNat 64 v <<< 8 from rfl]
  apply BitVec.eq_of_toNat_eq
  rw [BitVec.toNat_or, BitVec.toNat_shiftLeft, BitVec.toNat_ofNat, BitVec.toNat_ofNat, BitVec.toNat_ofNat]
  rw [Nat.mod_eq_of_lt (show c < 2 ^ 64 by omega), Nat.shiftLeft_eq]
  rw [show v % 2 ^ 64 * 2 ^ 8 % 2 ^ 64 = 2 ^ 8 * (v % 2 ^ 56) by omega]
  rw [← Nat.two_pow_add_eq_or_of_lt (show c < 2 ^ 8 from hc)]
  omega
theorem m_isSmall {c : Nat} (hc : c < 256) (h : Hp) : Gd mX9_isSmall 0 [.int (nI c)] [] h (some (.int (bi (decide (knd c = 1)))), h) := by
  by_cases h1 : c < 97
  · rw [decide_eq_false (fun z => by rw [knd1] at z; omega)]
    refine gd_ild0 dX9_isSmall_0 ?_
    refine gd_bipush (v := nI 97) dX9_isSmall_1 (by decide) ?_
    refine gd_icmp_lt_t 16 dX9_isSmall_3 (by decide) (by exact nI_lt (by omega) (by omega)) ?_
    refine gd_ic0 dX9_isSmall_16 ?_
    refine gd_iret dX9_isSmall_17 rfl (by first | rfl | decide | exact nar_bi _ | assumption) ?_
    rfl
  · by_cases h2 : c ≤ 122
    · rw [decide_eq_true (knd1.mpr ⟨by omega, h2⟩)]
      refine gd_ild0 dX9_isSmall_0 ?_
      refine gd_bipush (v := nI 97) dX9_isSmall_1 (by decide) ?_
      refine gd_icmp_lt_f 16 dX9_isSmall_3 (by decide) (by exact nI_nlt (by omega) (by omega)) ?_
      refine gd_ild0 dX9_isSmall_6 ?_
      refine gd_bipush (v := nI 122) dX9_isSmall_7 (by decide) ?_
      refine gd_icmp_gt_f 16 dX9_isSmall_9 (by decide) (by exact nI_nlt (by omega) (by omega)) ?_
      refine gd_ic1 dX9_isSmall_12 ?_
      refine gd_goto 17 dX9_isSmall_13 (by decide) ?_
      refine gd_iret dX9_isSmall_17 rfl (by first | rfl | decide | exact nar_bi _ | assumption) ?_
      rfl
    · rw [decide_eq_false (fun z => by rw [knd1] at z; omega)]
      refine gd_ild0 dX9_isSmall_0 ?_
      refine gd_bipush (v := nI 97) dX9_isSmall_1 (by decide) ?_
      refine gd_icmp_lt_f 16 dX9_isSmall_3 (by decide) (by exact nI_nlt (by omega) (by omega)) ?_
      refine gd_ild0 dX9_isSmall_6 ?_
      refine gd_bipush (v := nI 122) dX9_isSmall_7 (by decide) ?_
      refine gd_icmp_gt_t 16 dX9_isSmall_9 (by decide) (by exact nI_lt (by omega) (by omega)) ?_
      refine gd_ic0 dX9_isSmall_16 ?_
      refine gd_iret dX9_isSmall_17 rfl (by first | rfl | decide | exact nar_bi _ | assumption) ?_
      rfl
theorem m_isDigit {c : Nat} (hc : c < 256) (h : Hp) : Gd mX9_isDigit 0 [.int (nI c)] [] h (some (.int (bi (decide (knd c = 2)))), h) := by
  by_cases h1 : c < 48
  · rw [decide_eq_false (fun z => by rw [knd2] at z; omega)]
    refine gd_ild0 dX9_isDigit_0 ?_
    refine gd_bipush (v := nI 48) dX9_isDigit_1 (by decide) ?_
    refine gd_icmp_lt_t 16 dX9_isDigit_3 (by decide) (by exact nI_lt (by omega) (by omega)) ?_
    refine gd_ic0 dX9_isDigit_16 ?_
    refine gd_iret dX9_isDigit_17 rfl (by first | rfl | decide | exact nar_bi _ | assumption) ?_
    rfl
  · by_cases h2 : c ≤ 57
    · rw [decide_eq_true (knd2.mpr ⟨by omega, h2⟩)]
      refine gd_ild0 dX9_isDigit_0 ?_
      refine gd_bipush (v := nI 48) dX9_isDigit_1 (by decide) ?_
      refine gd_icmp_lt_f 16 dX9_isDigit_3 (by decide) (by exact nI_nlt (by omega) (by omega)) ?_
      refine gd_ild0 dX9_isDigit_6 ?_
      refine gd_bipush (v := nI 57) dX9_isDigit_7 (by decide) ?_
      refine gd_icmp_gt_f 16 dX9_isDigit_9 (by decide) (by exact nI_nlt (by omega) (by omega)) ?_
      refine gd_ic1 dX9_isDigit_12 ?_
      refine gd_goto 17 dX9_isDigit_13 (by decide) ?_
      refine gd_iret dX9_isDigit_17 rfl (by first | rfl | decide | exact nar_bi _ | assumption) ?_
      rfl
    · rw [decide_eq_false (fun z => by rw [knd2] at z; omega)]
      refine gd_ild0 dX9_isDigit_0 ?_
      refine gd_bipush (v := nI 48) dX9_isDigit_1 (by decide) ?_
      refine gd_icmp_lt_f 16 dX9_isDigit_3 (by decide) (by exact nI_nlt (by omega) (by omega)) ?_
      refine gd_ild0 dX9_isDigit_6 ?_
      refine gd_bipush (v := nI 57) dX9_isDigit_7 (by decide) ?_
      refine gd_icmp_gt_t 16 dX9_isDigit_9 (by decide) (by exact nI_lt (by omega) (by omega)) ?_
      refine gd_ic0 dX9_isDigit_16 ?_
      refine gd_iret dX9_isDigit_17 rfl (by first | rfl | decide | exact nar_bi _ | assumption) ?_
      rfl
theorem m_nx1 {h : Hp} {b : Nat → Nat} {N e : Nat} {y : Option Value × Hp} (t : MPB h b N) (he : e ≤ N) (g : Gd mX9_next 30 [.ref 72, .int (nI (tkS b N e))] [] h y) : Gd mX9_next 5 [.ref 72, .int (nI e)] [] h y := by
  obtain ⟨a1, a2, a3, a4⟩ := tkS_ok (b := b) t.2.1 he
  have hN := t.2.1
  generalize tkS b N e = s at a1 a2 a3 a4 g
  refine loopG (P := fun j => e ≤ j → Gd mX9_next 5 [.ref 72, .int (nI j)] [] h y) (n := s) ?_ ?_ e a1 (Nat.le_refl _)
  · intro _
    by_cases q : s < N
    · have := (t.2.2 s q).2
      refine gd_ild1 dX9_next_5 ?_
      refine gd_ald0 dX9_next_6 (by decide) ?_
      refine gd_getI dX9_next_7 fl_9_149 rfl rfl ?_
      rw [t.1]
      refine gd_icmp_ge_f 30 dX9_next_10 (by decide) (by exact nI_ge (by omega) (by omega)) ?_
      refine gd_ald0 dX9_next_13 (by decide) ?_
      refine gd_getR (r := 85) dX9_next_14 fl_9_47 rfl rfl rfl (by decide) ?_
      refine gd_ild1 dX9_next_17 ?_
      refine gd_iald (n := 120) dX9_next_18 rfl (by decide) (by repeat' (first | with_reducible rfl | apply ni_add | apply ni_mul)) (by omega) ?_
      rw [(t.2.2 _ (by omega)).1]
      refine gd_bipush (v := nI 32) dX9_next_19 (by decide) ?_
      refine gd_icmp_ne_t 30 dX9_next_21 (by decide) (fun z => a4 q ((nI_eq (by omega) (by decide)).mp z)) ?_
      exact g
    · refine gd_ild1 dX9_next_5 ?_
      refine gd_ald0 dX9_next_6 (by decide) ?_
      refine gd_getI dX9_next_7 fl_9_149 rfl rfl ?_
      rw [t.1]
      refine gd_icmp_ge_t 30 dX9_next_10 (by decide) (by exact nI_le (by omega) (by omega)) ?_
      exact g
  · intro j hj ih le
    have ih := ih (by omega)
    refine gd_ild1 dX9_next_5 ?_
    refine gd_ald0 dX9_next_6 (by decide) ?_
    refine gd_getI dX9_next_7 fl_9_149 rfl rfl ?_
    rw [t.1]
    refine gd_icmp_ge_f 30 dX9_next_10 (by decide) (by exact nI_ge (by omega) (by omega)) ?_
    refine gd_ald0 dX9_next_13 (by decide) ?_
    refine gd_getR (r := 85) dX9_next_14 fl_9_47 rfl rfl rfl (by decide) ?_
    refine gd_ild1 dX9_next_17 ?_
    refine gd_iald (n := 120) dX9_next_18 rfl (by decide) (by repeat' (first | with_reducible rfl | apply ni_add | apply ni_mul)) (by omega) ?_
    rw [(t.2.2 _ (by omega)).1]
    refine gd_bipush (v := nI 32) dX9_next_19 (by decide) ?_
    refine gd_icmp_ne_f 30 dX9_next_21 (by decide) (by rw [a3 j le hj]) ?_
    refine gd_iinc1 (b := nI 1) dX9_next_24 (by decide) rfl ?_
    rw [nI_add]
    refine gd_goto 5 dX9_next_27 (by decide) ?_
    exact ih
theorem m_nx2 {h : Hp} {b : Nat → Nat} {N s x : Nat} {x0 : Int32} (t : MPB h b N) (hs : s ≤ x) (hx : x ≤ N) (hi : ∀ j, s ≤ j → j < x → knd (b j) = 1) (hz : x < N → ¬ knd (b x) = 1) : Gd mX9_next 73 [.ref 72, .int (nI s)] [] (hM h (nI s) x0 (nI 1) (lN 0)) (none, hM h (nI s) (nI x) (nI 1) (nmV b s (x - s))) := by
  have hN := t.2.1
  have key := loopG (P := fun j => Gd mX9_next 73 [.ref 72, .int (nI (s + j))] [] (hM h (nI s) x0 (nI 1) (nmV b s j)) (none, hM h (nI s) (nI x) (nI 1) (nmV b s (x - s)))) (n := x - s) ?_ ?_ 0 (by omega)
  · exact key
  · rw [show s + (x - s) = x by omega]
    by_cases q : x < N
    · refine gd_ild1 dX9_next_73 ?_
      refine gd_ald0 dX9_next_74 (by decide) ?_
      refine gd_getI dX9_next_75 fl_9_149 rfl rfl ?_
      rw [hM14, t.1]
      refine gd_icmp_ge_f 239 dX9_next_78 (by decide) (by exact nI_ge (by omega) (by omega)) ?_
      refine gd_ald0 dX9_next_81 (by decide) ?_
      refine gd_getR (r := 85) dX9_next_82 fl_9_47 rfl rfl rfl (by decide) ?_
      refine gd_ild1 dX9_next_85 ?_
      refine gd_iald (n := 120) dX9_next_86 rfl (by decide) (by repeat' (first | with_reducible rfl | apply ni_add | apply ni_mul)) (by omega) ?_
      rw [hM85, (t.2.2 _ (by omega)).1]
      refine gd_cS1i dX9_next_87 ct_9_165 ⟨Nat.le_of_ble_eq_true rfl, Nat.le_of_ble_eq_true rfl⟩ (Nat.le_of_ble_eq_true rfl) (Nat.le_of_ble_eq_true rfl) (m_isSmall (t.2.2 _ (by omega)).2 _) ?_
      rw [decide_eq_false (hz q)]
      rw [show bi false = nI 0 from rfl]
      refine gd_if_eq_t 239 dX9_next_90 (by decide) (by decide) ?_
      refine gd_ald0 dX9_next_239 (by decide) ?_
      refine gd_ild1 dX9_next_240 ?_
      refine gd_putI dX9_next_241 fl_9_152 rfl rfl (fun _ _ _ e => by cases e; rfl) ?_
      rw [hMs16]
      refine gd_vret dX9_next_244 rfl ?_
      rfl
    · refine gd_ild1 dX9_next_73 ?_
      refine gd_ald0 dX9_next_74 (by decide) ?_
      refine gd_getI dX9_next_75 fl_9_149 rfl rfl ?_
      rw [hM14, t.1]
      refine gd_icmp_ge_t 239 dX9_next_78 (by decide) (by exact nI_le (by omega) (by omega)) ?_
      refine gd_ald0 dX9_next_239 (by decide) ?_
      refine gd_ild1 dX9_next_240 ?_
      refine gd_putI dX9_next_241 fl_9_152 rfl rfl (fun _ _ _ e => by cases e; rfl) ?_
      rw [hMs16]
      refine gd_vret dX9_next_244 rfl ?_
      rfl
  · intro j hj ih
    have kj := hi (s + j) (by omega) (by omega)
    have hc := (t.2.2 (s + j) (by omega)).2
    by_cases q : j < 7
    · refine gd_ild1 dX9_next_73 ?_
      refine gd_ald0 dX9_next_74 (by decide) ?_
      refine gd_getI dX9_next_75 fl_9_149 rfl rfl ?_
      rw [hM14, t.1]
      refine gd_icmp_ge_f 239 dX9_next_78 (by decide) (by exact nI_ge (by omega) (by omega)) ?_
      refine gd_ald0 dX9_next_81 (by decide) ?_
      refine gd_getR (r := 85) dX9_next_82 fl_9_47 rfl rfl rfl (by decide) ?_
      refine gd_ild1 dX9_next_85 ?_
      refine gd_iald (n := 120) dX9_next_86 rfl (by decide) (by repeat' (first | with_reducible rfl | apply ni_add | apply ni_mul)) (by omega) ?_
      rw [hM85, (t.2.2 _ (by omega)).1]
      refine gd_cS1i dX9_next_87 ct_9_165 ⟨Nat.le_of_ble_eq_true rfl, Nat.le_of_ble_eq_true rfl⟩ (Nat.le_of_ble_eq_true rfl) (Nat.le_of_ble_eq_true rfl) (m_isSmall (t.2.2 _ (by omega)).2 _) ?_
      rw [decide_eq_true kj]
      rw [show bi true = nI 1 from rfl]
      refine gd_if_eq_f 239 dX9_next_90 (by decide) (by decide) ?_
      refine gd_ald0 dX9_next_93 (by decide) ?_
      refine gd_ild1 dX9_next_94 ?_
      refine gd_ald0 dX9_next_95 (by decide) ?_
      refine gd_getI dX9_next_96 fl_9_155 rfl rfl ?_
      rw [hM15]
      refine gd_isub dX9_next_99 ?_
      rw [pk_sub (by omega), Nat.add_sub_cancel_left]
      refine gd_bipush (v := nI 7) dX9_next_100 (by decide) ?_
      refine gd_icmp_ge_f 123 dX9_next_102 (by decide) (by exact nI_ge (by omega) (by omega)) ?_
      refine gd_ald0 dX9_next_105 (by decide) ?_
      refine gd_getJ dX9_next_106 fl_9_158 rfl rfl ?_
      rw [hM18]
      refine gd_bipush (v := nI 8) dX9_next_109 (by decide) ?_
      refine gd_lshl dX9_next_111 ?_
      refine gd_ald0 dX9_next_112 (by decide) ?_
      refine gd_getR (r := 85) dX9_next_113 fl_9_47 rfl rfl rfl (by decide) ?_
      refine gd_ild1 dX9_next_116 ?_
      refine gd_iald (n := 120) dX9_next_117 rfl (by decide) (by repeat' (first | with_reducible rfl | apply ni_add | apply ni_mul)) (by omega) ?_
      rw [hM85, (t.2.2 _ (by omega)).1]
      refine gd_i2l dX9_next_118 ?_
      rw [nI_l (by omega)]
      refine gd_lor dX9_next_119 ?_
      rw [show nmV b s j = lN (pkV b s j) from if_pos (by omega), l_shl8 _ _ hc, show lN (256 * pkV b s j + b (s + j)) = nmV b s (j + 1) from (if_pos (by omega)).symm]
      refine gd_goto 126 dX9_next_120 (by decide) ?_
      refine gd_putJ dX9_next_126 fl_9_158 rfl rfl (fun _ _ _ e => by cases e; rfl) ?_
      rw [hMs18]
      refine gd_iinc1 (b := nI 1) dX9_next_129 (by decide) rfl ?_
      rw [nI_add]
      refine gd_goto 73 dX9_next_132 (by decide) ?_
      exact ih
    · rw [show nmV b s (j + 1) = -1 from if_neg (by omega)] at ih
      refine gd_ild1 dX9_next_73 ?_
      refine gd_ald0 dX9_next_74 (by decide) ?_
      refine gd_getI dX9_next_75 fl_9_149 rfl rfl ?_
      rw [hM14, t.1]
      refine gd_icmp_ge_f 239 dX9_next_78 (by decide) (by exact nI_ge (by omega) (by omega)) ?_
      refine gd_ald0 dX9_next_81 (by decide) ?_
      refine gd_getR (r := 85) dX9_next_82 fl_9_47 rfl rfl rfl (by decide) ?_
      refine gd_ild1 dX9_next_85 ?_
      refine gd_iald (n := 120) dX9_next_86 rfl (by decide) (by repeat' (first | with_reducible rfl | apply ni_add | apply ni_mul)) (by omega) ?_
      rw [hM85, (t.2.2 _ (by omega)).1]
      refine gd_cS1i dX9_next_87 ct_9_165 ⟨Nat.le_of_ble_eq_true rfl, Nat.le_of_ble_eq_true rfl⟩ (Nat.le_of_ble_eq_true rfl) (Nat.le_of_ble_eq_true rfl) (m_isSmall (t.2.2 _ (by omega)).2 _) ?_
      rw [decide_eq_true kj]
      rw [show bi true = nI 1 from rfl]
      refine gd_if_eq_f 239 dX9_next_90 (by decide) (by decide) ?_
      refine gd_ald0 dX9_next_93 (by decide) ?_
      refine gd_ild1 dX9_next_94 ?_
      refine gd_ald0 dX9_next_95 (by decide) ?_
      refine gd_getI dX9_next_96 fl_9_155 rfl rfl ?_
      rw [hM15]
      refine gd_isub dX9_next_99 ?_
      rw [pk_sub (by omega), Nat.add_sub_cancel_left]
      refine gd_bipush (v := nI 7) dX9_next_100 (by decide) ?_
      refine gd_icmp_ge_t 123 dX9_next_102 (by decide) (by exact nI_le (by omega) (by omega)) ?_
      refine gd_ldc2 dX9_next_123 l2_9_168 ?_
      refine gd_putJ dX9_next_126 fl_9_158 rfl rfl (fun _ _ _ e => by cases e; rfl) ?_
      rw [hMs18]
      refine gd_iinc1 (b := nI 1) dX9_next_129 (by decide) rfl ?_
      rw [nI_add]
      refine gd_goto 73 dX9_next_132 (by decide) ?_
      exact ih

theorem mdV_le {b : Nat → Nat} {s n : Nat} (h : ∀ j, j < n → b (s + j) ≤ 57) : mdV b s n ≤ 99999 := by
  induction n with
  | zero => exact Nat.zero_le _
  | succ n ih =>
    have i1 := ih (fun j hj => h j (by omega))
    have i2 := h n (by omega)
    unfold mdV
    split
    · exact i1
    · omega
theorem m_nx3 {h : Hp} {b : Nat → Nat} {N s x : Nat} {x0 : Int32} (t : MPB h b N) (hs : s ≤ x) (hx : x ≤ N) (hi : ∀ j, s ≤ j → j < x → knd (b j) = 2) (hz : x < N → ¬ knd (b x) = 2) : Gd mX9_next 152 [.ref 72, .int (nI s)] [] (hM h (nI s) x0 (nI 2) (lN 0)) (none, hM h (nI s) (nI x) (nI 2) (lN (mdV b s (x - s)))) := by
  have hN := t.2.1
  have key := loopG (P := fun j => Gd mX9_next 152 [.ref 72, .int (nI (s + j))] [] (hM h (nI s) x0 (nI 2) (lN (mdV b s j))) (none, hM h (nI s) (nI x) (nI 2) (lN (mdV b s (x - s))))) (n := x - s) ?_ ?_ 0 (by omega)
  · exact key
  · rw [show s + (x - s) = x by omega]
    by_cases q : x < N
    · refine gd_ild1 dX9_next_152 ?_
      refine gd_ald0 dX9_next_153 (by decide) ?_
      refine gd_getI dX9_next_154 fl_9_149 rfl rfl ?_
      rw [hM14, t.1]
      refine gd_icmp_ge_f 239 dX9_next_157 (by decide) (by exact nI_ge (by omega) (by omega)) ?_
      refine gd_ald0 dX9_next_160 (by decide) ?_
      refine gd_getR (r := 85) dX9_next_161 fl_9_47 rfl rfl rfl (by decide) ?_
      refine gd_ild1 dX9_next_164 ?_
      refine gd_iald (n := 120) dX9_next_165 rfl (by decide) (by repeat' (first | with_reducible rfl | apply ni_add | apply ni_mul)) (by omega) ?_
      rw [hM85, (t.2.2 _ (by omega)).1]
      refine gd_cS1i dX9_next_166 ct_9_170 ⟨Nat.le_of_ble_eq_true rfl, Nat.le_of_ble_eq_true rfl⟩ (Nat.le_of_ble_eq_true rfl) (Nat.le_of_ble_eq_true rfl) (m_isDigit (t.2.2 _ (by omega)).2 _) ?_
      rw [decide_eq_false (hz q)]
      rw [show bi false = nI 0 from rfl]
      refine gd_if_eq_t 239 dX9_next_169 (by decide) (by decide) ?_
      refine gd_ald0 dX9_next_239 (by decide) ?_
      refine gd_ild1 dX9_next_240 ?_
      refine gd_putI dX9_next_241 fl_9_152 rfl rfl (fun _ _ _ e => by cases e; rfl) ?_
      rw [hMs16]
      refine gd_vret dX9_next_244 rfl ?_
      rfl
    · refine gd_ild1 dX9_next_152 ?_
      refine gd_ald0 dX9_next_153 (by decide) ?_
      refine gd_getI dX9_next_154 fl_9_149 rfl rfl ?_
      rw [hM14, t.1]
      refine gd_icmp_ge_t 239 dX9_next_157 (by decide) (by exact nI_le (by omega) (by omega)) ?_
      refine gd_ald0 dX9_next_239 (by decide) ?_
      refine gd_ild1 dX9_next_240 ?_
      refine gd_putI dX9_next_241 fl_9_152 rfl rfl (fun _ _ _ e => by cases e; rfl) ?_
      rw [hMs16]
      refine gd_vret dX9_next_244 rfl ?_
      rfl
  · intro j hj ih
    have kj := hi (s + j) (by omega) (by omega)
    have hc := (t.2.2 (s + j) (by omega)).2
    have kd := knd2.mp kj
    have ml := mdV_le (b := b) (s := s) (n := j) (fun i q => (knd2.mp (hi (s + i) (by omega) (by omega))).2)
    by_cases q : 9999 < mdV b s j
    · rw [show mdV b s (j + 1) = mdV b s j from if_pos q] at ih
      refine gd_ild1 dX9_next_152 ?_
      refine gd_ald0 dX9_next_153 (by decide) ?_
      refine gd_getI dX9_next_154 fl_9_149 rfl rfl ?_
      rw [hM14, t.1]
      refine gd_icmp_ge_f 239 dX9_next_157 (by decide) (by exact nI_ge (by omega) (by omega)) ?_
      refine gd_ald0 dX9_next_160 (by decide) ?_
      refine gd_getR (r := 85) dX9_next_161 fl_9_47 rfl rfl rfl (by decide) ?_
      refine gd_ild1 dX9_next_164 ?_
      refine gd_iald (n := 120) dX9_next_165 rfl (by decide) (by repeat' (first | with_reducible rfl | apply ni_add | apply ni_mul)) (by omega) ?_
      rw [hM85, (t.2.2 _ (by omega)).1]
      refine gd_cS1i dX9_next_166 ct_9_170 ⟨Nat.le_of_ble_eq_true rfl, Nat.le_of_ble_eq_true rfl⟩ (Nat.le_of_ble_eq_true rfl) (Nat.le_of_ble_eq_true rfl) (m_isDigit (t.2.2 _ (by omega)).2 _) ?_
      rw [decide_eq_true kj]
      rw [show bi true = nI 1 from rfl]
      refine gd_if_eq_f 239 dX9_next_169 (by decide) (by decide) ?_
      refine gd_ald0 dX9_next_172 (by decide) ?_
      refine gd_ald0 dX9_next_173 (by decide) ?_
      refine gd_getJ dX9_next_174 fl_9_158 rfl rfl ?_
      rw [hM18]
      refine gd_ldc2 dX9_next_177 l2_9_107 ?_
      refine gd_lcmp dX9_next_180 ?_
      refine gd_if_le_f 191 dX9_next_181 (by decide) (fun z => absurd ((lN_le (by omega) (by decide)).mp ((lg_cmp_le _ _).mp z)) (by omega)) ?_
      refine gd_ald0 dX9_next_184 (by decide) ?_
      refine gd_getJ dX9_next_185 fl_9_158 rfl rfl ?_
      rw [hM18]
      refine gd_goto 211 dX9_next_188 (by decide) ?_
      refine gd_putJ dX9_next_211 fl_9_158 rfl rfl (fun _ _ _ e => by cases e; rfl) ?_
      rw [hMs18]
      refine gd_iinc1 (b := nI 1) dX9_next_214 (by decide) rfl ?_
      rw [nI_add]
      refine gd_goto 152 dX9_next_217 (by decide) ?_
      exact ih
    · rw [show mdV b s (j + 1) = 10 * mdV b s j + (b (s + j) - 48) from if_neg q] at ih
      refine gd_ild1 dX9_next_152 ?_
      refine gd_ald0 dX9_next_153 (by decide) ?_
      refine gd_getI dX9_next_154 fl_9_149 rfl rfl ?_
      rw [hM14, t.1]
      refine gd_icmp_ge_f 239 dX9_next_157 (by decide) (by exact nI_ge (by omega) (by omega)) ?_
      refine gd_ald0 dX9_next_160 (by decide) ?_
      refine gd_getR (r := 85) dX9_next_161 fl_9_47 rfl rfl rfl (by decide) ?_
      refine gd_ild1 dX9_next_164 ?_
      refine gd_iald (n := 120) dX9_next_165 rfl (by decide) (by repeat' (first | with_reducible rfl | apply ni_add | apply ni_mul)) (by omega) ?_
      rw [hM85, (t.2.2 _ (by omega)).1]
      refine gd_cS1i dX9_next_166 ct_9_170 ⟨Nat.le_of_ble_eq_true rfl, Nat.le_of_ble_eq_true rfl⟩ (Nat.le_of_ble_eq_true rfl) (Nat.le_of_ble_eq_true rfl) (m_isDigit (t.2.2 _ (by omega)).2 _) ?_
      rw [decide_eq_true kj]
      rw [show bi true = nI 1 from rfl]
      refine gd_if_eq_f 239 dX9_next_169 (by decide) (by decide) ?_
      refine gd_ald0 dX9_next_172 (by decide) ?_
      refine gd_ald0 dX9_next_173 (by decide) ?_
      refine gd_getJ dX9_next_174 fl_9_158 rfl rfl ?_
      rw [hM18]
      refine gd_ldc2 dX9_next_177 l2_9_107 ?_
      refine gd_lcmp dX9_next_180 ?_
      refine gd_if_le_t 191 dX9_next_181 (by decide) ((lg_cmp_le _ _).mpr ((lN_le (by omega) (by decide)).mpr (by omega))) ?_
      refine gd_ldc2 dX9_next_191 l2_9_89 ?_
      refine gd_ald0 dX9_next_194 (by decide) ?_
      refine gd_getJ dX9_next_195 fl_9_158 rfl rfl ?_
      rw [hM18]
      refine gd_lmul dX9_next_198 ?_
      refine gd_ald0 dX9_next_199 (by decide) ?_
      refine gd_getR (r := 85) dX9_next_200 fl_9_47 rfl rfl rfl (by decide) ?_
      refine gd_ild1 dX9_next_203 ?_
      refine gd_iald (n := 120) dX9_next_204 rfl (by decide) (by repeat' (first | with_reducible rfl | apply ni_add | apply ni_mul)) (by omega) ?_
      rw [hM85, (t.2.2 _ (by omega)).1]
      refine gd_i2l dX9_next_205 ?_
      rw [nI_l (by omega)]
      refine gd_ladd dX9_next_206 ?_
      refine gd_ldc2 dX9_next_207 l2_9_173 ?_
      refine gd_lsub dX9_next_210 ?_
      rw [lN_mul, lN_add, lN_sub (by omega), show 10 * mdV b s j + b (s + j) - 48 = 10 * mdV b s j + (b (s + j) - 48) by omega]
      refine gd_putJ dX9_next_211 fl_9_158 rfl rfl (fun _ _ _ e => by cases e; rfl) ?_
      rw [hMs18]
      refine gd_iinc1 (b := nI 1) dX9_next_214 (by decide) rfl ?_
      rw [nI_add]
      refine gd_goto 152 dX9_next_217 (by decide) ?_
      exact ih
theorem m_next {h : Hp} {b : Nat → Nat} {N e : Nat} (t : MPB h b N) (he : e ≤ N) (hx : h.1 72 16 = nI e) : Gd mX9_next 0 [.ref 72, .null] [] h (none, hM h (nI (tkS b N e)) (nI (tkX b N e)) (nI (tkL b N e)) (tkM b N e)) := by
  have hN := t.2.1
  obtain ⟨a1, a2, a3, a4⟩ := tkS_ok (b := b) t.2.1 he
  have key : Gd mX9_next 30 [.ref 72, .int (nI (tkS b N e))] [] h (none, hM h (nI (tkS b N e)) (nI (tkX b N e)) (nI (tkL b N e)) (tkM b N e)) := by
    clear a3 a4
    obtain ⟨s, hS⟩ : ∃ s, tkS b N e = s := ⟨_, rfl⟩
    rw [hS] at a1 a2
    by_cases q : s < N
    · have kl := knd_lt (b s)
      rcases (show knd (b s) = 1 ∨ knd (b s) = 2 ∨ knd (b s) = 3 ∨ knd (b s) = 4 by omega) with kb | kb | kb | kb
      · have kK : tkK b N e = 1 := by unfold tkK; rw [hS, if_pos q]; exact kb
        have kL : tkL b N e = 1 := by unfold tkL; rw [kK]; rfl
        have r := runE_ok (p := fun j => decide (knd (b j) = 1)) (N := N) 200 (s + 1) (by omega) (by omega)
        have eX : tkX b N e = runE (fun j => decide (knd (b j) = 1)) N 200 (s + 1) := by unfold tkX; rw [hS, if_pos q, kK, if_pos (by decide)]
        have dg : ∀ j, s ≤ j → j < runE (fun j => decide (knd (b j) = 1)) N 200 (s + 1) → knd (b j) = 1 := fun j u w => by
          by_cases z : j = s
          · rw [z]; exact kb
          · exact of_decide_eq_true (r.2.2.1 j (by omega) w)
        have hz : runE (fun j => decide (knd (b j) = 1)) N 200 (s + 1) < N → ¬ knd (b (runE (fun j => decide (knd (b j) = 1)) N 200 (s + 1))) = 1 := fun u => of_decide_eq_false (r.2.2.2 u)
        have eV : tkM b N e = nmV b s (runE (fun j => decide (knd (b j) = 1)) N 200 (s + 1) - s) := by unfold tkM; rw [kK, if_neg (by decide), if_pos rfl, hS, eX]
        rw [hS, eX, kL, eV]
        refine gd_eqH (hM_id h).symm ?_
        refine gd_ald0 dX9_next_30 (by decide) ?_
        refine gd_ild1 dX9_next_31 ?_
        refine gd_putI dX9_next_32 fl_9_155 rfl rfl (fun _ _ _ e => by cases e; rfl) ?_
        rw [hMs15]
        refine gd_ald0 dX9_next_35 (by decide) ?_
        refine gd_lc0 dX9_next_36 ?_
        refine gd_putJ dX9_next_37 fl_9_158 rfl rfl (fun _ _ _ e => by cases e; rfl) ?_
        rw [hMs18]
        refine gd_ild1 dX9_next_40 ?_
        refine gd_ald0 dX9_next_41 (by decide) ?_
        refine gd_getI dX9_next_42 fl_9_149 rfl rfl ?_
        rw [hM14, t.1]
        refine gd_icmp_ne_t 56 dX9_next_45 (by decide) (by exact fun z => absurd ((nI_eq (by omega) (by omega)).mp z) (by omega)) ?_
        refine gd_ald0 dX9_next_56 (by decide) ?_
        refine gd_getR (r := 85) dX9_next_57 fl_9_47 rfl rfl rfl (by decide) ?_
        refine gd_ild1 dX9_next_60 ?_
        refine gd_iald (n := 120) dX9_next_61 rfl (by decide) (by repeat' (first | with_reducible rfl | apply ni_add | apply ni_mul)) (by omega) ?_
        rw [hM85, (t.2.2 _ (by omega)).1]
        refine gd_cS1i dX9_next_62 ct_9_165 ⟨Nat.le_of_ble_eq_true rfl, Nat.le_of_ble_eq_true rfl⟩ (Nat.le_of_ble_eq_true rfl) (Nat.le_of_ble_eq_true rfl) (m_isSmall (t.2.2 _ (by omega)).2 _) ?_
        rw [kb, show bi (decide (1 = 1)) = nI 1 from by decide]
        refine gd_if_eq_f 135 dX9_next_65 (by decide) (by decide) ?_
        refine gd_ald0 dX9_next_68 (by decide) ?_
        refine gd_ic1 dX9_next_69 ?_
        refine gd_putI dX9_next_70 fl_9_162 rfl rfl (fun _ _ _ e => by cases e; rfl) ?_
        rw [hMs17]
        exact m_nx2 t (by omega) r.2.1 dg hz
      · have kK : tkK b N e = 2 := by unfold tkK; rw [hS, if_pos q]; exact kb
        have kL : tkL b N e = 2 := by unfold tkL; rw [kK]; rfl
        have r := runE_ok (p := fun j => decide (knd (b j) = 2)) (N := N) 200 (s + 1) (by omega) (by omega)
        have eX : tkX b N e = runE (fun j => decide (knd (b j) = 2)) N 200 (s + 1) := by unfold tkX; rw [hS, if_pos q, kK, if_pos (by decide)]
        have dg : ∀ j, s ≤ j → j < runE (fun j => decide (knd (b j) = 2)) N 200 (s + 1) → knd (b j) = 2 := fun j u w => by
          by_cases z : j = s
          · rw [z]; exact kb
          · exact of_decide_eq_true (r.2.2.1 j (by omega) w)
        have hz : runE (fun j => decide (knd (b j) = 2)) N 200 (s + 1) < N → ¬ knd (b (runE (fun j => decide (knd (b j) = 2)) N 200 (s + 1))) = 2 := fun u => of_decide_eq_false (r.2.2.2 u)
        have eV : tkM b N e = lN (mdV b s (runE (fun j => decide (knd (b j) = 2)) N 200 (s + 1) - s)) := by unfold tkM; rw [kK, if_neg (by decide), if_neg (by decide), if_pos rfl, hS, eX]
        rw [hS, eX, kL, eV]
        refine gd_eqH (hM_id h).symm ?_
        refine gd_ald0 dX9_next_30 (by decide) ?_
        refine gd_ild1 dX9_next_31 ?_
        refine gd_putI dX9_next_32 fl_9_155 rfl rfl (fun _ _ _ e => by cases e; rfl) ?_
        rw [hMs15]
        refine gd_ald0 dX9_next_35 (by decide) ?_
        refine gd_lc0 dX9_next_36 ?_
        refine gd_putJ dX9_next_37 fl_9_158 rfl rfl (fun _ _ _ e => by cases e; rfl) ?_
        rw [hMs18]
        refine gd_ild1 dX9_next_40 ?_
        refine gd_ald0 dX9_next_41 (by decide) ?_
        refine gd_getI dX9_next_42 fl_9_149 rfl rfl ?_
        rw [hM14, t.1]
        refine gd_icmp_ne_t 56 dX9_next_45 (by decide) (by exact fun z => absurd ((nI_eq (by omega) (by omega)).mp z) (by omega)) ?_
        refine gd_ald0 dX9_next_56 (by decide) ?_
        refine gd_getR (r := 85) dX9_next_57 fl_9_47 rfl rfl rfl (by decide) ?_
        refine gd_ild1 dX9_next_60 ?_
        refine gd_iald (n := 120) dX9_next_61 rfl (by decide) (by repeat' (first | with_reducible rfl | apply ni_add | apply ni_mul)) (by omega) ?_
        rw [hM85, (t.2.2 _ (by omega)).1]
        refine gd_cS1i dX9_next_62 ct_9_165 ⟨Nat.le_of_ble_eq_true rfl, Nat.le_of_ble_eq_true rfl⟩ (Nat.le_of_ble_eq_true rfl) (Nat.le_of_ble_eq_true rfl) (m_isSmall (t.2.2 _ (by omega)).2 _) ?_
        rw [kb, show bi (decide (2 = 1)) = nI 0 from by decide]
        refine gd_if_eq_t 135 dX9_next_65 (by decide) (by decide) ?_
        refine gd_ald0 dX9_next_135 (by decide) ?_
        refine gd_getR (r := 85) dX9_next_136 fl_9_47 rfl rfl rfl (by decide) ?_
        refine gd_ild1 dX9_next_139 ?_
        refine gd_iald (n := 120) dX9_next_140 rfl (by decide) (by repeat' (first | with_reducible rfl | apply ni_add | apply ni_mul)) (by omega) ?_
        rw [hM85, (t.2.2 _ (by omega)).1]
        refine gd_cS1i dX9_next_141 ct_9_170 ⟨Nat.le_of_ble_eq_true rfl, Nat.le_of_ble_eq_true rfl⟩ (Nat.le_of_ble_eq_true rfl) (Nat.le_of_ble_eq_true rfl) (m_isDigit (t.2.2 _ (by omega)).2 _) ?_
        rw [kb, show bi (decide (2 = 2)) = nI 1 from by decide]
        refine gd_if_eq_f 220 dX9_next_144 (by decide) (by decide) ?_
        refine gd_ald0 dX9_next_147 (by decide) ?_
        refine gd_ic2 dX9_next_148 ?_
        refine gd_putI dX9_next_149 fl_9_162 rfl rfl (fun _ _ _ e => by cases e; rfl) ?_
        rw [hMs17]
        exact m_nx3 t (by omega) r.2.1 dg hz
      · have kK : tkK b N e = 3 := by unfold tkK; rw [hS, if_pos q]; exact kb
        have kL : tkL b N e = 3 := by unfold tkL; rw [kK]; rfl
        have eX : tkX b N e = s + 1 := by unfold tkX; rw [hS, if_pos q, kK, if_neg (by decide)]
        have hc := (t.2.2 s q).2
        have eV : tkM b N e = lN (b s) := by unfold tkM; rw [kK, if_neg (by decide), if_neg (by decide), if_neg (by decide), hS]
        rw [hS, eX, kL, eV]
        refine gd_eqH (hM_id h).symm ?_
        refine gd_ald0 dX9_next_30 (by decide) ?_
        refine gd_ild1 dX9_next_31 ?_
        refine gd_putI dX9_next_32 fl_9_155 rfl rfl (fun _ _ _ e => by cases e; rfl) ?_
        rw [hMs15]
        refine gd_ald0 dX9_next_35 (by decide) ?_
        refine gd_lc0 dX9_next_36 ?_
        refine gd_putJ dX9_next_37 fl_9_158 rfl rfl (fun _ _ _ e => by cases e; rfl) ?_
        rw [hMs18]
        refine gd_ild1 dX9_next_40 ?_
        refine gd_ald0 dX9_next_41 (by decide) ?_
        refine gd_getI dX9_next_42 fl_9_149 rfl rfl ?_
        rw [hM14, t.1]
        refine gd_icmp_ne_t 56 dX9_next_45 (by decide) (by exact fun z => absurd ((nI_eq (by omega) (by omega)).mp z) (by omega)) ?_
        refine gd_ald0 dX9_next_56 (by decide) ?_
        refine gd_getR (r := 85) dX9_next_57 fl_9_47 rfl rfl rfl (by decide) ?_
        refine gd_ild1 dX9_next_60 ?_
        refine gd_iald (n := 120) dX9_next_61 rfl (by decide) (by repeat' (first | with_reducible rfl | apply ni_add | apply ni_mul)) (by omega) ?_
        rw [hM85, (t.2.2 _ (by omega)).1]
        refine gd_cS1i dX9_next_62 ct_9_165 ⟨Nat.le_of_ble_eq_true rfl, Nat.le_of_ble_eq_true rfl⟩ (Nat.le_of_ble_eq_true rfl) (Nat.le_of_ble_eq_true rfl) (m_isSmall (t.2.2 _ (by omega)).2 _) ?_
        rw [kb, show bi (decide (3 = 1)) = nI 0 from by decide]
        refine gd_if_eq_t 135 dX9_next_65 (by decide) (by decide) ?_
        refine gd_ald0 dX9_next_135 (by decide) ?_
        refine gd_getR (r := 85) dX9_next_136 fl_9_47 rfl rfl rfl (by decide) ?_
        refine gd_ild1 dX9_next_139 ?_
        refine gd_iald (n := 120) dX9_next_140 rfl (by decide) (by repeat' (first | with_reducible rfl | apply ni_add | apply ni_mul)) (by omega) ?_
        rw [hM85, (t.2.2 _ (by omega)).1]
        refine gd_cS1i dX9_next_141 ct_9_170 ⟨Nat.le_of_ble_eq_true rfl, Nat.le_of_ble_eq_true rfl⟩ (Nat.le_of_ble_eq_true rfl) (Nat.le_of_ble_eq_true rfl) (m_isDigit (t.2.2 _ (by omega)).2 _) ?_
        rw [kb, show bi (decide (3 = 2)) = nI 0 from by decide]
        refine gd_if_eq_t 220 dX9_next_144 (by decide) (by decide) ?_
        refine gd_ald0 dX9_next_220 (by decide) ?_
        refine gd_ic3 dX9_next_221 ?_
        refine gd_putI dX9_next_222 fl_9_162 rfl rfl (fun _ _ _ e => by cases e; rfl) ?_
        rw [hMs17]
        refine gd_ald0 dX9_next_225 (by decide) ?_
        refine gd_ald0 dX9_next_226 (by decide) ?_
        refine gd_getR (r := 85) dX9_next_227 fl_9_47 rfl rfl rfl (by decide) ?_
        refine gd_ild1 dX9_next_230 ?_
        refine gd_iald (n := 120) dX9_next_231 rfl (by decide) (by repeat' (first | with_reducible rfl | apply ni_add | apply ni_mul)) (by omega) ?_
        rw [hM85, (t.2.2 _ (by omega)).1]
        refine gd_i2l dX9_next_232 ?_
        rw [nI_l (by omega)]
        refine gd_putJ dX9_next_233 fl_9_158 rfl rfl (fun _ _ _ e => by cases e; rfl) ?_
        rw [hMs18]
        refine gd_iinc1 (b := nI 1) dX9_next_236 (by decide) rfl ?_
        rw [nI_add]
        refine gd_ald0 dX9_next_239 (by decide) ?_
        refine gd_ild1 dX9_next_240 ?_
        refine gd_putI dX9_next_241 fl_9_152 rfl rfl (fun _ _ _ e => by cases e; rfl) ?_
        rw [hMs16]
        refine gd_vret dX9_next_244 rfl ?_
        rfl
      · have kK : tkK b N e = 4 := by unfold tkK; rw [hS, if_pos q]; exact kb
        have kL : tkL b N e = 3 := by unfold tkL; rw [kK]; rfl
        have eX : tkX b N e = s + 1 := by unfold tkX; rw [hS, if_pos q, kK, if_neg (by decide)]
        have hc := (t.2.2 s q).2
        have eV : tkM b N e = lN (b s) := by unfold tkM; rw [kK, if_neg (by decide), if_neg (by decide), if_neg (by decide), hS]
        rw [hS, eX, kL, eV]
        refine gd_eqH (hM_id h).symm ?_
        refine gd_ald0 dX9_next_30 (by decide) ?_
        refine gd_ild1 dX9_next_31 ?_
        refine gd_putI dX9_next_32 fl_9_155 rfl rfl (fun _ _ _ e => by cases e; rfl) ?_
        rw [hMs15]
        refine gd_ald0 dX9_next_35 (by decide) ?_
        refine gd_lc0 dX9_next_36 ?_
        refine gd_putJ dX9_next_37 fl_9_158 rfl rfl (fun _ _ _ e => by cases e; rfl) ?_
        rw [hMs18]
        refine gd_ild1 dX9_next_40 ?_
        refine gd_ald0 dX9_next_41 (by decide) ?_
        refine gd_getI dX9_next_42 fl_9_149 rfl rfl ?_
        rw [hM14, t.1]
        refine gd_icmp_ne_t 56 dX9_next_45 (by decide) (by exact fun z => absurd ((nI_eq (by omega) (by omega)).mp z) (by omega)) ?_
        refine gd_ald0 dX9_next_56 (by decide) ?_
        refine gd_getR (r := 85) dX9_next_57 fl_9_47 rfl rfl rfl (by decide) ?_
        refine gd_ild1 dX9_next_60 ?_
        refine gd_iald (n := 120) dX9_next_61 rfl (by decide) (by repeat' (first | with_reducible rfl | apply ni_add | apply ni_mul)) (by omega) ?_
        rw [hM85, (t.2.2 _ (by omega)).1]
        refine gd_cS1i dX9_next_62 ct_9_165 ⟨Nat.le_of_ble_eq_true rfl, Nat.le_of_ble_eq_true rfl⟩ (Nat.le_of_ble_eq_true rfl) (Nat.le_of_ble_eq_true rfl) (m_isSmall (t.2.2 _ (by omega)).2 _) ?_
        rw [kb, show bi (decide (4 = 1)) = nI 0 from by decide]
        refine gd_if_eq_t 135 dX9_next_65 (by decide) (by decide) ?_
        refine gd_ald0 dX9_next_135 (by decide) ?_
        refine gd_getR (r := 85) dX9_next_136 fl_9_47 rfl rfl rfl (by decide) ?_
        refine gd_ild1 dX9_next_139 ?_
        refine gd_iald (n := 120) dX9_next_140 rfl (by decide) (by repeat' (first | with_reducible rfl | apply ni_add | apply ni_mul)) (by omega) ?_
        rw [hM85, (t.2.2 _ (by omega)).1]
        refine gd_cS1i dX9_next_141 ct_9_170 ⟨Nat.le_of_ble_eq_true rfl, Nat.le_of_ble_eq_true rfl⟩ (Nat.le_of_ble_eq_true rfl) (Nat.le_of_ble_eq_true rfl) (m_isDigit (t.2.2 _ (by omega)).2 _) ?_
        rw [kb, show bi (decide (4 = 2)) = nI 0 from by decide]
        refine gd_if_eq_t 220 dX9_next_144 (by decide) (by decide) ?_
        refine gd_ald0 dX9_next_220 (by decide) ?_
        refine gd_ic3 dX9_next_221 ?_
        refine gd_putI dX9_next_222 fl_9_162 rfl rfl (fun _ _ _ e => by cases e; rfl) ?_
        rw [hMs17]
        refine gd_ald0 dX9_next_225 (by decide) ?_
        refine gd_ald0 dX9_next_226 (by decide) ?_
        refine gd_getR (r := 85) dX9_next_227 fl_9_47 rfl rfl rfl (by decide) ?_
        refine gd_ild1 dX9_next_230 ?_
        refine gd_iald (n := 120) dX9_next_231 rfl (by decide) (by repeat' (first | with_reducible rfl | apply ni_add | apply ni_mul)) (by omega) ?_
        rw [hM85, (t.2.2 _ (by omega)).1]
        refine gd_i2l dX9_next_232 ?_
        rw [nI_l (by omega)]
        refine gd_putJ dX9_next_233 fl_9_158 rfl rfl (fun _ _ _ e => by cases e; rfl) ?_
        rw [hMs18]
        refine gd_iinc1 (b := nI 1) dX9_next_236 (by decide) rfl ?_
        rw [nI_add]
        refine gd_ald0 dX9_next_239 (by decide) ?_
        refine gd_ild1 dX9_next_240 ?_
        refine gd_putI dX9_next_241 fl_9_152 rfl rfl (fun _ _ _ e => by cases e; rfl) ?_
        rw [hMs16]
        refine gd_vret dX9_next_244 rfl ?_
        rfl
    · have kK : tkK b N e = 0 := by unfold tkK; rw [hS, if_neg q]
      have kL : tkL b N e = 0 := by unfold tkL; rw [kK]; rfl
      have eX : tkX b N e = N := by unfold tkX; rw [hS, if_neg q]
      have eV : tkM b N e = lN 0 := by unfold tkM; rw [kK, if_pos rfl]
      have sN : s = N := by omega
      subst sN
      rw [hS, eX, kL, eV]
      refine gd_eqH (hM_id h).symm ?_
      refine gd_ald0 dX9_next_30 (by decide) ?_
      refine gd_ild1 dX9_next_31 ?_
      refine gd_putI dX9_next_32 fl_9_155 rfl rfl (fun _ _ _ e => by cases e; rfl) ?_
      rw [hMs15]
      refine gd_ald0 dX9_next_35 (by decide) ?_
      refine gd_lc0 dX9_next_36 ?_
      refine gd_putJ dX9_next_37 fl_9_158 rfl rfl (fun _ _ _ e => by cases e; rfl) ?_
      rw [hMs18]
      refine gd_ild1 dX9_next_40 ?_
      refine gd_ald0 dX9_next_41 (by decide) ?_
      refine gd_getI dX9_next_42 fl_9_149 rfl rfl ?_
      rw [hM14, t.1]
      refine gd_icmp_ne_f 56 dX9_next_45 (by decide) (by exact (nI_eq (by omega) (by omega)).mpr (by omega)) ?_
      refine gd_ald0 dX9_next_48 (by decide) ?_
      refine gd_ic0 dX9_next_49 ?_
      refine gd_putI dX9_next_50 fl_9_162 rfl rfl (fun _ _ _ e => by cases e; rfl) ?_
      rw [hMs17]
      refine gd_goto 239 dX9_next_53 (by decide) ?_
      refine gd_ald0 dX9_next_239 (by decide) ?_
      refine gd_ild1 dX9_next_240 ?_
      refine gd_putI dX9_next_241 fl_9_152 rfl rfl (fun _ _ _ e => by cases e; rfl) ?_
      rw [hMs16]
      refine gd_vret dX9_next_244 rfl ?_
      rfl
  refine gd_ald0 dX9_next_0 (by decide) ?_
  refine gd_getI dX9_next_1 fl_9_152 rfl rfl ?_
  rw [hx]
  refine gd_ist1 dX9_next_4 rfl ?_
  exact m_nx1 t he key
