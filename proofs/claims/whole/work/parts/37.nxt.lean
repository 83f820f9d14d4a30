
/-! ===== the reference's tokens ===== -/
def MPB (h : Hp) (b : Nat → Nat) (N : Nat) : Prop := h.1 72 14 = nI N ∧ N ≤ 120 ∧ ∀ j, j < N → h.1 85 j = nI (b j) ∧ b j < 256
def mpF (f : Nat → Int32) (s x k : Int32) : Nat → Int32 := fun j => if j = 15 then s else if j = 16 then x else if j = 17 then k else f j
theorem mpF_id (f : Nat → Int32) : mpF f (f 15) (f 16) (f 17) = f := by
  funext j; unfold mpF
  by_cases h6 : j = 15
  · rw [if_pos h6, h6]
  · rw [if_neg h6]
    by_cases h7 : j = 16
    · rw [if_pos h7, h7]
    · rw [if_neg h7]
      by_cases h8 : j = 17
      · rw [if_pos h8, h8]
      · rw [if_neg h8]
theorem mpF_15 (f : Nat → Int32) (s x k u : Int32) : upd (mpF f s x k) 15 u = mpF f u x k := by
  funext j; rw [upd_at]; unfold mpF; split <;> rfl
theorem mpF_16 (f : Nat → Int32) (s x k u : Int32) : upd (mpF f s x k) 16 u = mpF f s u k := by
  funext j; rw [upd_at]; unfold mpF
  by_cases e : j = 16
  · rw [if_pos e, if_neg (by omega), if_pos e]
  · rw [if_neg e, if_neg e, if_neg e]
theorem mpF_17 (f : Nat → Int32) (s x k u : Int32) : upd (mpF f s x k) 17 u = mpF f s x u := by
  funext j; rw [upd_at]; unfold mpF
  by_cases e : j = 17
  · rw [if_pos e, if_neg (by omega), if_neg (by omega), if_pos e]
  · rw [if_neg e, if_neg e, if_neg e]
theorem updL_id (f : Nat → Int64) (k : Nat) : vp_updL f k (f k) = f := by
  funext j; rw [updL_at]; split
  · rename_i e; rw [e]
  · rfl
theorem updL_updL (f : Nat → Int64) (k : Nat) (v w : Int64) : vp_updL (vp_updL f k v) k w = vp_updL f k w := by
  funext j; rw [updL_at, updL_at, updL_at]; split <;> rfl
def hM (h : Hp) (s x k : Int32) (v : Int64) : Hp := sL (sI h 72 (mpF (h.1 72) s x k)) 72 (vp_updL (h.2 72) 18 v)
theorem hM_id (h : Hp) : hM h (h.1 72 15) (h.1 72 16) (h.1 72 17) (h.2 72 18) = h := by
  unfold hM; rw [mpF_id, sI_id, updL_id, sL_id]
theorem hM15 (h : Hp) (s x k : Int32) (v : Int64) : (hM h s x k v).1 72 15 = s := rfl
theorem hM16 (h : Hp) (s x k : Int32) (v : Int64) : (hM h s x k v).1 72 16 = x := rfl
theorem hM17 (h : Hp) (s x k : Int32) (v : Int64) : (hM h s x k v).1 72 17 = k := rfl
theorem hM18 (h : Hp) (s x k : Int32) (v : Int64) : (hM h s x k v).2 72 18 = v := rfl
theorem hM14 (h : Hp) (s x k : Int32) (v : Int64) : (hM h s x k v).1 72 14 = h.1 72 14 := rfl
theorem hM85 (h : Hp) (s x k : Int32) (v : Int64) (j : Nat) : (hM h s x k v).1 85 j = h.1 85 j := rfl
theorem hMs15 (h : Hp) (s x k : Int32) (v : Int64) (u : Int32) : sI (hM h s x k v) 72 (upd ((hM h s x k v).1 72) 15 u) = hM h u x k v := by
  unfold hM; rw [sL_1, sI_s, mpF_15, sI_sL, sI_sI]
theorem hMs16 (h : Hp) (s x k : Int32) (v : Int64) (u : Int32) : sI (hM h s x k v) 72 (upd ((hM h s x k v).1 72) 16 u) = hM h s u k v := by
  unfold hM; rw [sL_1, sI_s, mpF_16, sI_sL, sI_sI]
theorem hMs17 (h : Hp) (s x k : Int32) (v : Int64) (u : Int32) : sI (hM h s x k v) 72 (upd ((hM h s x k v).1 72) 17 u) = hM h s x u v := by
  unfold hM; rw [sL_1, sI_s, mpF_17, sI_sL, sI_sI]
theorem hMs18 (h : Hp) (s x k : Int32) (v u : Int64) : sL (hM h s x k v) 72 (vp_updL ((hM h s x k v).2 72) 18 u) = hM h s x k u := by
  unfold hM; rw [sL_s, updL_updL, sL_sL]
def pkV (b : Nat → Nat) (s : Nat) : Nat → Nat
  | 0 => 0
  | n + 1 => 256 * pkV b s n + b (s + n)
def nmV (b : Nat → Nat) (s n : Nat) : Int64 := if n ≤ 7 then lN (pkV b s n) else -1
def mdV (b : Nat → Nat) (s : Nat) : Nat → Nat
  | 0 => 0
  | n + 1 => if 9999 < mdV b s n then mdV b s n else 10 * mdV b s n + (b (s + n) - 48)
def tkL (b : Nat → Nat) (N e : Nat) : Nat := if tkK b N e = 4 then 3 else tkK b N e
def tkM (b : Nat → Nat) (N e : Nat) : Int64 := if tkK b N e = 0 then lN 0 else if tkK b N e = 1 then nmV b (tkS b N e) (tkX b N e - tkS b N e) else if tkK b N e = 2 then lN (mdV b (tkS b N e) (tkX b N e - tkS b N e)) else lN (b (tkS b N e))
theorem l_shl8 (v c : Nat) (hc : c < 256) : (lN v <<< ((nI 8).toInt64 &&& 63)) ||| lN c = lN (256 * v + c) := by
  rw [show (nI 8).toInt64 &&& 63 = (8 : Int64) by decide]
  apply Int64.toBitVec_inj.mp
  show (BitVec.ofNat 64 v <<< _) ||| BitVec.ofNat 64 c = BitVec.ofNat 64 (256 * v + c)
  rw [show (BitVec.ofNat 64 v <<< ((8 : Int64).toBitVec.smod 64) : BitVec 64) = BitVec.ofNat 64 v <<< 8 from rfl]
  apply BitVec.eq_of_toNat_eq
  rw [BitVec.toNat_or, BitVec.toNat_shiftLeft, BitVec.toNat_ofNat, BitVec.toNat_ofNat, BitVec.toNat_ofNat]
  rw [Nat.mod_eq_of_lt (show c < 2 ^ 64 by omega), Nat.shiftLeft_eq]
  rw [show v % 2 ^ 64 * 2 ^ 8 % 2 ^ 64 = 2 ^ 8 * (v % 2 ^ 56) by omega]
  rw [← Nat.two_pow_add_eq_or_of_lt (show c < 2 ^ 8 from hc)]
  omega
theorem m_isSmall {c : Nat} (hc : c < 256) (h : Hp) : Gd mX9_isSmall 0 [.int (nI c)] [] h (some (.int (bi (decide (knd c = 1)))), h) := by
  by_cases h1 : c < 97
  · rw [decide_eq_false (fun z => by rw [knd1] at z; omega)]
    refine gd_ild0 dX9_isSmall_0 ?_
    refine gd_bipush (v := nI 97) dX9_isSmall_1 (by decide) ?_
    refine gd_icmp_lt_t 16 dX9_isSmall_3 (by decide) (by exact nI_lt (by omega) (by omega)) ?_
    refine gd_ic0 dX9_isSmall_16 ?_
    refine gd_iret dX9_isSmall_17 rfl (by first | rfl | decide | exact nar_bi _ | assumption) ?_
    rfl
  · by_cases h2 : c ≤ 122
    · rw [decide_eq_true (knd1.mpr ⟨by omega, h2⟩)]
      refine gd_ild0 dX9_isSmall_0 ?_
      refine gd_bipush (v := nI 97) dX9_isSmall_1 (by decide) ?_
      refine gd_icmp_lt_f 16 dX9_isSmall_3 (by decide) (by exact nI_nlt (by omega) (by omega)) ?_
      refine gd_ild0 dX9_isSmall_6 ?_
      refine gd_bipush (v := nI 122) dX9_isSmall_7 (by decide) ?_
      refine gd_icmp_gt_f 16 dX9_isSmall_9 (by decide) (by exact nI_nlt (by omega) (by omega)) ?_
      refine gd_ic1 dX9_isSmall_12 ?_
      refine gd_goto 17 dX9_isSmall_13 (by decide) ?_
      refine gd_iret dX9_isSmall_17 rfl (by first | rfl | decide | exact nar_bi _ | assumption) ?_
      rfl
    · rw [decide_eq_false (fun z => by rw [knd1] at z; omega)]
      refine gd_ild0 dX9_isSmall_0 ?_
      refine gd_bipush (v := nI 97) dX9_isSmall_1 (by decide) ?_
      refine gd_icmp_lt_f 16 dX9_isSmall_3 (by decide) (by exact nI_nlt (by omega) (by omega)) ?_
      refine gd_ild0 dX9_isSmall_6 ?_
      refine gd_bipush (v := nI 122) dX9_isSmall_7 (by decide) ?_
      refine gd_icmp_gt_t 16 dX9_isSmall_9 (by decide) (by exact nI_lt (by omega) (by omega)) ?_
      refine gd_ic0 dX9_isSmall_16 ?_
      refine gd_iret dX9_isSmall_17 rfl (by first | rfl | decide | exact nar_bi _ | assumption) ?_
      rfl
theorem m_isDigit {c : Nat} (hc : c < 256) (h : Hp) : Gd mX9_isDigit 0 [.int (nI c)] [] h (some (.int (bi (decide (knd c = 2)))), h) := by
  by_cases h1 : c < 48
  · rw [decide_eq_false (fun z => by rw [knd2] at z; omega)]
    refine gd_ild0 dX9_isDigit_0 ?_
    refine gd_bipush (v := nI 48) dX9_isDigit_1 (by decide) ?_
    refine gd_icmp_lt_t 16 dX9_isDigit_3 (by decide) (by exact nI_lt (by omega) (by omega)) ?_
    refine gd_ic0 dX9_isDigit_16 ?_
    refine gd_iret dX9_isDigit_17 rfl (by first | rfl | decide | exact nar_bi _ | assumption) ?_
    rfl
  · by_cases h2 : c ≤ 57
    · rw [decide_eq_true (knd2.mpr ⟨by omega, h2⟩)]
      refine gd_ild0 dX9_isDigit_0 ?_
      refine gd_bipush (v := nI 48) dX9_isDigit_1 (by decide) ?_
      refine gd_icmp_lt_f 16 dX9_isDigit_3 (by decide) (by exact nI_nlt (by omega) (by omega)) ?_
      refine gd_ild0 dX9_isDigit_6 ?_
      refine gd_bipush (v := nI 57) dX9_isDigit_7 (by decide) ?_
      refine gd_icmp_gt_f 16 dX9_isDigit_9 (by decide) (by exact nI_nlt (by omega) (by omega)) ?_
      refine gd_ic1 dX9_isDigit_12 ?_
      refine gd_goto 17 dX9_isDigit_13 (by decide) ?_
      refine gd_iret dX9_isDigit_17 rfl (by first | rfl | decide | exact nar_bi _ | assumption) ?_
      rfl
    · rw [decide_eq_false (fun z => by rw [knd2] at z; omega)]
      refine gd_ild0 dX9_isDigit_0 ?_
      refine gd_bipush (v := nI 48) dX9_isDigit_1 (by decide) ?_
      refine gd_icmp_lt_f 16 dX9_isDigit_3 (by decide) (by exact nI_nlt (by omega) (by omega)) ?_
      refine gd_ild0 dX9_isDigit_6 ?_
      refine gd_bipush (v := nI 57) dX9_isDigit_7 (by decide) ?_
      refine gd_icmp_gt_t 16 dX9_isDigit_9 (by decide) (by exact nI_lt (by omega) (by omega)) ?_
      refine gd_ic0 dX9_isDigit_16 ?_
      refine gd_iret dX9_isDigit_17 rfl (by first | rfl | decide | exact nar_bi _ | assumption) ?_
      rfl
