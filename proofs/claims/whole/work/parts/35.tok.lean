
/-! ===== tokens of the tape ===== -/
def knd (c : Nat) : Nat := if 97 ≤ c ∧ c ≤ 122 then 1 else if 48 ≤ c ∧ c ≤ 57 then 2 else if c = 59 ∨ c = 45 then 3 else 4
def runE (p : Nat → Bool) (N : Nat) : Nat → Nat → Nat
  | 0, e => e
  | f + 1, e => if e < N ∧ p e = true then runE p N f (e + 1) else e
theorem runE_ok {p : Nat → Bool} {N : Nat} : ∀ f e, N - e ≤ f → e ≤ N → e ≤ runE p N f e ∧ runE p N f e ≤ N ∧ (∀ j, e ≤ j → j < runE p N f e → p j = true) ∧ (runE p N f e < N → p (runE p N f e) = false) := by
  intro f
  induction f with
  | zero => exact fun e h1 h2 => ⟨Nat.le_refl _, h2, fun j a b => absurd (show j < e from b) (by omega), fun a => absurd (show e < N from a) (by omega)⟩
  | succ f ih =>
    intro e h1 h2
    unfold runE
    by_cases c : e < N ∧ p e = true
    · rw [if_pos c]
      obtain ⟨a1, a2, a3, a4⟩ := ih (e + 1) (by omega) (by omega)
      refine ⟨by omega, a2, fun j u v => ?_, a4⟩
      by_cases q : j = e
      · rw [q]; exact c.2
      · exact a3 j (by omega) v
    · rw [if_neg c]
      refine ⟨Nat.le_refl _, h2, fun j u v => absurd v (by omega), fun u => ?_⟩
      cases hp : p e
      · rfl
      · exact absurd ⟨u, hp⟩ c
/-- the token behind e: its first byte, its sort, the byte behind it -/
def tkS (b : Nat → Nat) (N e : Nat) : Nat := runE (fun j => decide (b j = 32)) N 200 e
def tkK (b : Nat → Nat) (N e : Nat) : Nat := if tkS b N e < N then knd (b (tkS b N e)) else 0
def tkX (b : Nat → Nat) (N e : Nat) : Nat := if tkS b N e < N then (if tkK b N e = 1 ∨ tkK b N e = 2 then runE (fun j => decide (knd (b j) = tkK b N e)) N 200 (tkS b N e + 1) else tkS b N e + 1) else N
def dcV (b : Nat → Nat) (s : Nat) : Nat → Nat
  | 0 => 0
  | n + 1 => 10 * dcV b s n + (b (s + n) - 48)
def tkV (b : Nat → Nat) (N e : Nat) : Nat := if tkK b N e = 3 then b (tkS b N e) else if tkK b N e = 2 then min 100000 (dcV b (tkS b N e) (tkX b N e - tkS b N e)) else 0
theorem knd_lt (c : Nat) : 1 ≤ knd c ∧ knd c ≤ 4 := by
  unfold knd
  repeat (split; · exact ⟨by omega, by omega⟩)
  exact ⟨by omega, by omega⟩
theorem tkS_ok {b : Nat → Nat} {N e : Nat} (hN : N ≤ 120) (he : e ≤ N) : e ≤ tkS b N e ∧ tkS b N e ≤ N ∧ (∀ j, e ≤ j → j < tkS b N e → b j = 32) ∧ (tkS b N e < N → ¬ b (tkS b N e) = 32) := by
  obtain ⟨a1, a2, a3, a4⟩ := runE_ok (p := fun j => decide (b j = 32)) (N := N) 200 e (by omega) he
  exact ⟨a1, a2, fun j u v => of_decide_eq_true (a3 j u v), fun u => of_decide_eq_false (a4 u)⟩
theorem tkK_lt {b : Nat → Nat} {N e : Nat} : tkK b N e ≤ 4 := by
  unfold tkK
  split
  · exact (knd_lt _).2
  · omega
theorem tkX_ok {b : Nat → Nat} {N e : Nat} (hN : N ≤ 120) (he : e ≤ N) : tkS b N e ≤ tkX b N e ∧ tkX b N e ≤ N ∧ (tkS b N e < N → tkS b N e < tkX b N e) := by
  have a := tkS_ok (b := b) hN he
  unfold tkX
  split
  · split
    · have r := runE_ok (p := fun j => decide (knd (b j) = tkK b N e)) (N := N) 200 (tkS b N e + 1) (by omega) (by omega)
      exact ⟨by omega, r.2.1, fun _ => by omega⟩
    · exact ⟨by omega, by omega, fun _ => by omega⟩
  · exact ⟨a.2.1, Nat.le_refl _, fun h => by omega⟩
/-- the tape's row with start, end, sort, value -/
def tpF (f : Nat → Int32) (s x k v : Int32) : Nat → Int32 := fun j => if j = 6 then s else if j = 7 then x else if j = 8 then k else if j = 9 then v else f j
theorem tpF_id (f : Nat → Int32) : tpF f (f 6) (f 7) (f 8) (f 9) = f := by
  funext j; unfold tpF
  by_cases h6 : j = 6
  · rw [if_pos h6, h6]
  · rw [if_neg h6]
    by_cases h7 : j = 7
    · rw [if_pos h7, h7]
    · rw [if_neg h7]
      by_cases h8 : j = 8
      · rw [if_pos h8, h8]
      · rw [if_neg h8]
        by_cases h9 : j = 9
        · rw [if_pos h9, h9]
        · rw [if_neg h9]
theorem tpF_6 (f : Nat → Int32) (s x k v u : Int32) : upd (tpF f s x k v) 6 u = tpF f u x k v := by
  funext j; rw [upd_at]; unfold tpF; split <;> rfl
theorem tpF_7 (f : Nat → Int32) (s x k v u : Int32) : upd (tpF f s x k v) 7 u = tpF f s u k v := by
  funext j; rw [upd_at]; unfold tpF
  by_cases e : j = 7
  · rw [if_pos e, if_neg (by omega), if_pos e]
  · rw [if_neg e, if_neg e, if_neg e]
theorem tpF_8 (f : Nat → Int32) (s x k v u : Int32) : upd (tpF f s x k v) 8 u = tpF f s x u v := by
  funext j; rw [upd_at]; unfold tpF
  by_cases e : j = 8
  · rw [if_pos e, if_neg (by omega), if_neg (by omega), if_pos e]
  · rw [if_neg e, if_neg e, if_neg e]
theorem tpF_9 (f : Nat → Int32) (s x k v u : Int32) : upd (tpF f s x k v) 9 u = tpF f s x k u := by
  funext j; rw [upd_at]; unfold tpF
  by_cases e : j = 9
  · rw [if_pos e, if_neg (by omega), if_neg (by omega), if_neg (by omega), if_pos e]
  · rw [if_neg e, if_neg e, if_neg e]
theorem tpF_o (f : Nat → Int32) (s x k v : Int32) {j : Nat} (h : j < 6) : tpF f s x k v j = f j := by
  unfold tpF; rw [if_neg (by omega), if_neg (by omega), if_neg (by omega), if_neg (by omega)]
theorem tpF_tp (f : Nat → Int32) (s x k v s' x' k' v' : Int32) : tpF (tpF f s x k v) s' x' k' v' = tpF f s' x' k' v' := by
  funext j; unfold tpF
  repeat (split; · rfl)
  rfl

theorem c_sortOf {c : Nat} (hc : c < 256) (h : Hp) : Gd mX5_sortOf 0 [.int (nI c)] [] h (some (.int (nI (knd c))), h) := by
  by_cases h1 : c < 97
  · by_cases h2 : c < 48
    · by_cases h3 : c = 45
      · subst h3
        refine gd_ild0 dX5_sortOf_0 ?_
        refine gd_bipush (v := nI 97) dX5_sortOf_1 (by decide) ?_
        refine gd_icmp_lt_t 14 dX5_sortOf_3 (by decide) (by exact nI_lt (by omega) (by omega)) ?_
        refine gd_ild0 dX5_sortOf_14 ?_
        refine gd_bipush (v := nI 48) dX5_sortOf_15 (by decide) ?_
        refine gd_icmp_lt_t 28 dX5_sortOf_17 (by decide) (by exact nI_lt (by omega) (by omega)) ?_
        refine gd_ild0 dX5_sortOf_28 ?_
        refine gd_bipush (v := nI 59) dX5_sortOf_29 (by decide) ?_
        refine gd_icmp_eq_f 40 dX5_sortOf_31 (by decide) (by exact fun z => absurd ((nI_eq (by omega) (by omega)).mp z) (by omega)) ?_
        refine gd_ild0 dX5_sortOf_34 ?_
        refine gd_bipush (v := nI 45) dX5_sortOf_35 (by decide) ?_
        refine gd_icmp_ne_f 44 dX5_sortOf_37 (by decide) (rfl) ?_
        refine gd_ic3 dX5_sortOf_40 ?_
        refine gd_goto 45 dX5_sortOf_41 (by decide) ?_
        refine gd_iret dX5_sortOf_45 rfl rfl ?_
        rfl
      · refine gd_ild0 dX5_sortOf_0 ?_
        refine gd_bipush (v := nI 97) dX5_sortOf_1 (by decide) ?_
        refine gd_icmp_lt_t 14 dX5_sortOf_3 (by decide) (by exact nI_lt (by omega) (by omega)) ?_
        refine gd_ild0 dX5_sortOf_14 ?_
        refine gd_bipush (v := nI 48) dX5_sortOf_15 (by decide) ?_
        refine gd_icmp_lt_t 28 dX5_sortOf_17 (by decide) (by exact nI_lt (by omega) (by omega)) ?_
        refine gd_ild0 dX5_sortOf_28 ?_
        refine gd_bipush (v := nI 59) dX5_sortOf_29 (by decide) ?_
        refine gd_icmp_eq_f 40 dX5_sortOf_31 (by decide) (by exact fun z => absurd ((nI_eq (by omega) (by omega)).mp z) (by omega)) ?_
        refine gd_ild0 dX5_sortOf_34 ?_
        refine gd_bipush (v := nI 45) dX5_sortOf_35 (by decide) ?_
        refine gd_icmp_ne_t 44 dX5_sortOf_37 (by decide) (by exact fun z => absurd ((nI_eq (by omega) (by omega)).mp z) (by omega)) ?_
        refine gd_ic4 dX5_sortOf_44 ?_
        refine gd_iret dX5_sortOf_45 rfl rfl ?_
        unfold knd; rw [if_neg (by omega), if_neg (by omega), if_neg (by omega)]
    · by_cases h3 : c ≤ 57
      · refine gd_ild0 dX5_sortOf_0 ?_
        refine gd_bipush (v := nI 97) dX5_sortOf_1 (by decide) ?_
        refine gd_icmp_lt_t 14 dX5_sortOf_3 (by decide) (by exact nI_lt (by omega) (by omega)) ?_
        refine gd_ild0 dX5_sortOf_14 ?_
        refine gd_bipush (v := nI 48) dX5_sortOf_15 (by decide) ?_
        refine gd_icmp_lt_f 28 dX5_sortOf_17 (by decide) (by exact nI_nlt (by omega) (by omega)) ?_
        refine gd_ild0 dX5_sortOf_20 ?_
        refine gd_bipush (v := nI 57) dX5_sortOf_21 (by decide) ?_
        refine gd_icmp_gt_f 28 dX5_sortOf_23 (by decide) (by exact nI_nlt (by omega) (by omega)) ?_
        refine gd_ic2 dX5_sortOf_26 ?_
        refine gd_iret dX5_sortOf_27 rfl rfl ?_
        unfold knd; rw [if_neg (by omega), if_pos (by omega)]
      · by_cases h4 : c = 59
        · subst h4
          refine gd_ild0 dX5_sortOf_0 ?_
          refine gd_bipush (v := nI 97) dX5_sortOf_1 (by decide) ?_
          refine gd_icmp_lt_t 14 dX5_sortOf_3 (by decide) (by exact nI_lt (by omega) (by omega)) ?_
          refine gd_ild0 dX5_sortOf_14 ?_
          refine gd_bipush (v := nI 48) dX5_sortOf_15 (by decide) ?_
          refine gd_icmp_lt_f 28 dX5_sortOf_17 (by decide) (by exact nI_nlt (by omega) (by omega)) ?_
          refine gd_ild0 dX5_sortOf_20 ?_
          refine gd_bipush (v := nI 57) dX5_sortOf_21 (by decide) ?_
          refine gd_icmp_gt_t 28 dX5_sortOf_23 (by decide) (by exact nI_lt (by omega) (by omega)) ?_
          refine gd_ild0 dX5_sortOf_28 ?_
          refine gd_bipush (v := nI 59) dX5_sortOf_29 (by decide) ?_
          refine gd_icmp_eq_t 40 dX5_sortOf_31 (by decide) (rfl) ?_
          refine gd_ic3 dX5_sortOf_40 ?_
          refine gd_goto 45 dX5_sortOf_41 (by decide) ?_
          refine gd_iret dX5_sortOf_45 rfl rfl ?_
          rfl
        · refine gd_ild0 dX5_sortOf_0 ?_
          refine gd_bipush (v := nI 97) dX5_sortOf_1 (by decide) ?_
          refine gd_icmp_lt_t 14 dX5_sortOf_3 (by decide) (by exact nI_lt (by omega) (by omega)) ?_
          refine gd_ild0 dX5_sortOf_14 ?_
          refine gd_bipush (v := nI 48) dX5_sortOf_15 (by decide) ?_
          refine gd_icmp_lt_f 28 dX5_sortOf_17 (by decide) (by exact nI_nlt (by omega) (by omega)) ?_
          refine gd_ild0 dX5_sortOf_20 ?_
          refine gd_bipush (v := nI 57) dX5_sortOf_21 (by decide) ?_
          refine gd_icmp_gt_t 28 dX5_sortOf_23 (by decide) (by exact nI_lt (by omega) (by omega)) ?_
          refine gd_ild0 dX5_sortOf_28 ?_
          refine gd_bipush (v := nI 59) dX5_sortOf_29 (by decide) ?_
          refine gd_icmp_eq_f 40 dX5_sortOf_31 (by decide) (by exact fun z => absurd ((nI_eq (by omega) (by omega)).mp z) (by omega)) ?_
          refine gd_ild0 dX5_sortOf_34 ?_
          refine gd_bipush (v := nI 45) dX5_sortOf_35 (by decide) ?_
          refine gd_icmp_ne_t 44 dX5_sortOf_37 (by decide) (by exact fun z => absurd ((nI_eq (by omega) (by omega)).mp z) (by omega)) ?_
          refine gd_ic4 dX5_sortOf_44 ?_
          refine gd_iret dX5_sortOf_45 rfl rfl ?_
          unfold knd; rw [if_neg (by omega), if_neg (by omega), if_neg (by omega)]
  · by_cases h2 : c ≤ 122
    · refine gd_ild0 dX5_sortOf_0 ?_
      refine gd_bipush (v := nI 97) dX5_sortOf_1 (by decide) ?_
      refine gd_icmp_lt_f 14 dX5_sortOf_3 (by decide) (by exact nI_nlt (by omega) (by omega)) ?_
      refine gd_ild0 dX5_sortOf_6 ?_
      refine gd_bipush (v := nI 122) dX5_sortOf_7 (by decide) ?_
      refine gd_icmp_gt_f 14 dX5_sortOf_9 (by decide) (by exact nI_nlt (by omega) (by omega)) ?_
      refine gd_ic1 dX5_sortOf_12 ?_
      refine gd_iret dX5_sortOf_13 rfl rfl ?_
      unfold knd; rw [if_pos (by omega)]
    · refine gd_ild0 dX5_sortOf_0 ?_
      refine gd_bipush (v := nI 97) dX5_sortOf_1 (by decide) ?_
      refine gd_icmp_lt_f 14 dX5_sortOf_3 (by decide) (by exact nI_nlt (by omega) (by omega)) ?_
      refine gd_ild0 dX5_sortOf_6 ?_
      refine gd_bipush (v := nI 122) dX5_sortOf_7 (by decide) ?_
      refine gd_icmp_gt_t 14 dX5_sortOf_9 (by decide) (by exact nI_lt (by omega) (by omega)) ?_
      refine gd_ild0 dX5_sortOf_14 ?_
      refine gd_bipush (v := nI 48) dX5_sortOf_15 (by decide) ?_
      refine gd_icmp_lt_f 28 dX5_sortOf_17 (by decide) (by exact nI_nlt (by omega) (by omega)) ?_
      refine gd_ild0 dX5_sortOf_20 ?_
      refine gd_bipush (v := nI 57) dX5_sortOf_21 (by decide) ?_
      refine gd_icmp_gt_t 28 dX5_sortOf_23 (by decide) (by exact nI_lt (by omega) (by omega)) ?_
      refine gd_ild0 dX5_sortOf_28 ?_
      refine gd_bipush (v := nI 59) dX5_sortOf_29 (by decide) ?_
      refine gd_icmp_eq_f 40 dX5_sortOf_31 (by decide) (by exact fun z => absurd ((nI_eq (by omega) (by omega)).mp z) (by omega)) ?_
      refine gd_ild0 dX5_sortOf_34 ?_
      refine gd_bipush (v := nI 45) dX5_sortOf_35 (by decide) ?_
      refine gd_icmp_ne_t 44 dX5_sortOf_37 (by decide) (by exact fun z => absurd ((nI_eq (by omega) (by omega)).mp z) (by omega)) ?_
      refine gd_ic4 dX5_sortOf_44 ?_
      refine gd_iret dX5_sortOf_45 rfl rfl ?_
      unfold knd; rw [if_neg (by omega), if_neg (by omega), if_neg (by omega)]
