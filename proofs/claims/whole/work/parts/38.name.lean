
theorem nar_ch {c : Nat} (hc : c < 256) : narrow .char (.int (nI c)) = .int (nI c) := by
  show Value.int _ = _
  congr 1
  apply Int32.toBitVec_inj.mp
  apply BitVec.eq_of_toNat_eq
  show (BitVec.ofNat 32 c % 65536#32).toNat = (BitVec.ofNat 32 c).toNat
  rw [BitVec.toNat_umod, BitVec.toNat_ofNat]
  show c % 2 ^ 32 % 65536 = c % 2 ^ 32
  omega

/-! ===== names ===== -/
theorem c255 {c : Nat} (hc : c < 256) : ((nI c &&& nI 255).toUInt32 % 65536).toInt32 = nI c := by
  rw [and_nI, show c &&& 255 = c % 256 from Nat.and_two_pow_sub_one_eq_mod c 8, Nat.mod_eq_of_lt hc]
  apply Int32.toBitVec_inj.mp
  apply BitVec.eq_of_toNat_eq
  show (BitVec.ofNat 32 c % 65536#32).toNat = (BitVec.ofNat 32 c).toNat
  rw [BitVec.toNat_umod, BitVec.toNat_ofNat]
  show c % 2 ^ 32 % 65536 = c % 2 ^ 32
  omega
theorem j_ck {i n : Nat} (h1 : i < n) (hn : n < 2 ^ 31) (h : Hp) : Gd mJ3_checkIndex_8e157 0 [.int (nI i), .int (nI n), .ref 120] [] h (some (.int (nI i)), h) := by
  refine gd_ild0 dJ3_checkIndex_8e157_0 ?_
  refine gd_if_lt_f 9 dJ3_checkIndex_8e157_1 (by decide) (by exact nI_pos (by omega)) ?_
  refine gd_ild0 dJ3_checkIndex_8e157_4 ?_
  refine gd_ild1 dJ3_checkIndex_8e157_5 ?_
  refine gd_icmp_lt_t 16 dJ3_checkIndex_8e157_6 (by decide) (by exact nI_lt (by omega) (by omega)) ?_
  refine gd_ild0 dJ3_checkIndex_8e157_16 ?_
  refine gd_iret dJ3_checkIndex_8e157_17 rfl rfl ?_
  rfl
theorem j_ck2 {i n : Nat} (h1 : i < n) (hn : n < 2 ^ 31) (h : Hp) : Gd mJ0_checkIndex_df160 0 [.int (nI i), .int (nI n)] [] h (none, h) := by
  refine gd_ild0 dJ0_checkIndex_df160_0 ?_
  refine gd_ild1 dJ0_checkIndex_df160_1 ?_
  refine gd_gsF rfl dJ0_checkIndex_df160_2 ?_
  refine gd_cS3i dJ0_checkIndex_df160_5 ct_11_1059 ⟨Nat.le_of_ble_eq_true rfl, Nat.le_of_ble_eq_true rfl⟩ (Nat.le_of_ble_eq_true rfl) (Nat.le_of_ble_eq_true rfl) (j_ck h1 hn _) ?_
  refine gd_popi dJ0_checkIndex_df160_8 ?_
  refine gd_vret dJ0_checkIndex_df160_9 rfl ?_
  rfl
theorem j_coder0 (h : Hp) : Gd mJ0_coder_7d493 0 [.ref 100] [] h (some (.int 0), h) := by
  refine gd_gsC rfl dJ0_coder_7d493_0 ?_
  refine gd_if_eq_f 13 dJ0_coder_7d493_3 (by decide) (by decide) ?_
  refine gd_ald0 dJ0_coder_7d493_6 (by decide) ?_
  refine gd_getSc (j := 0) (by decide) rfl dJ0_coder_7d493_7 ?_
  refine gd_goto 14 dJ0_coder_7d493_10 (by decide) ?_
  refine gd_iret dJ0_coder_7d493_14 rfl (by first | rfl | decide | exact nar_bi _ | assumption) ?_
  rfl
theorem j_len0 (h : Hp) : Gd mJ0_length_8abf5 0 [.ref 100] [] h (some (.int (nI 4)), h) := by
  refine gd_ald0 dJ0_length_8abf5_0 (by decide) ?_
  refine gd_getSv (j := 0) (by decide) rfl dJ0_length_8abf5_1 ?_
  refine gd_alenS (j := 0) (v := nI 4) (by decide) dJ0_length_8abf5_4 rfl ?_
  refine gd_ald0 dJ0_length_8abf5_5 (by decide) ?_
  refine gd_cV0i dJ0_length_8abf5_6 ct_11_335 rc_100 ⟨Nat.le_of_ble_eq_true rfl, Nat.le_of_ble_eq_true rfl⟩ (Nat.le_of_ble_eq_true rfl) (Nat.le_of_ble_eq_true rfl) (j_coder0 _) ?_
  refine gd_ishr dJ0_length_8abf5_9 ?_
  refine gd_iret dJ0_length_8abf5_10 rfl rfl ?_
  rw [show nI 4 >>> ((0 : Int32) &&& 31) = nI 4 by decide]
theorem j_lat0 (h : Hp) : Gd mJ0_isLatin1_aae02 0 [.ref 100] [] h (some (.int (nI 1)), h) := by
  refine gd_gsC rfl dJ0_isLatin1_aae02_0 ?_
  refine gd_if_eq_f 17 dJ0_isLatin1_aae02_3 (by decide) (by decide) ?_
  refine gd_ald0 dJ0_isLatin1_aae02_6 (by decide) ?_
  refine gd_getSc (j := 0) (by decide) rfl dJ0_isLatin1_aae02_7 ?_
  refine gd_if_ne_f 17 dJ0_isLatin1_aae02_10 (by decide) (by decide) ?_
  refine gd_ic1 dJ0_isLatin1_aae02_13 ?_
  refine gd_goto 18 dJ0_isLatin1_aae02_14 (by decide) ?_
  refine gd_iret dJ0_isLatin1_aae02_18 rfl (by first | rfl | decide | exact nar_bi _ | assumption) ?_
  rfl
def ch0 (i : Nat) : Nat := [119, 111, 114, 100].getD i 0
theorem j_at0 {i : Nat} (hi : i < 4) (h : Hp) : Gd mJ0_charAt_5068e 0 [.ref 100, .int (nI i)] [] h (some (.int (nI (ch0 i))), h) := by
  have l1 : Gd mJ1_charAt_3b067 0 [.ref 110, .int (nI i)] [] h (some (.int (nI (ch0 i))), h) := by
    have hb : (bytS.getD 0 []).getD i 0 = nI (ch0 i) ∧ ch0 i < 256 := by
      rcases (show i = 0 ∨ i = 1 ∨ i = 2 ∨ i = 3 by omega) with rfl | rfl | rfl | rfl <;> exact ⟨by decide, by decide⟩
    refine gd_ild1 dJ1_charAt_3b067_0 ?_
    refine gd_ald0 dJ1_charAt_3b067_1 (by decide) ?_
    refine gd_alenS (j := 0) (v := nI 4) (by decide) dJ1_charAt_3b067_2 rfl ?_
    refine gd_cS2v dJ1_charAt_3b067_3 ct_12_9 ⟨Nat.le_of_ble_eq_true rfl, Nat.le_of_ble_eq_true rfl⟩ (Nat.le_of_ble_eq_true rfl) (Nat.le_of_ble_eq_true rfl) (j_ck2 hi (by decide) _) ?_
    refine gd_ald0 dJ1_charAt_3b067_6 (by decide) ?_
    refine gd_ild1 dJ1_charAt_3b067_7 ?_
    refine gd_bald (q := 0) (by decide) dJ1_charAt_3b067_8 (by repeat' (first | with_reducible rfl | apply ni_add | apply ni_mul)) (hi) ?_
    rw [hb.1]
    refine gd_sipush (v := nI 255) dJ1_charAt_3b067_9 (by decide) ?_
    refine gd_iand dJ1_charAt_3b067_12 ?_
    refine gd_i2c dJ1_charAt_3b067_13 ?_
    rw [c255 hb.2]
    refine gd_iret dJ1_charAt_3b067_14 rfl (nar_ch hb.2) ?_
    rfl
  refine gd_ald0 dJ0_charAt_5068e_0 (by decide) ?_
  refine gd_cV0i dJ0_charAt_5068e_1 ct_11_492 rc_100 ⟨Nat.le_of_ble_eq_true rfl, Nat.le_of_ble_eq_true rfl⟩ (Nat.le_of_ble_eq_true rfl) (Nat.le_of_ble_eq_true rfl) (j_lat0 _) ?_
  refine gd_if_eq_f 16 dJ0_charAt_5068e_4 (by decide) (by decide) ?_
  refine gd_ald0 dJ0_charAt_5068e_7 (by decide) ?_
  refine gd_getSv (j := 0) (by decide) rfl dJ0_charAt_5068e_8 ?_
  refine gd_ild1 dJ0_charAt_5068e_11 ?_
  refine gd_cS2i dJ0_charAt_5068e_12 ct_11_495 ⟨Nat.le_of_ble_eq_true rfl, Nat.le_of_ble_eq_true rfl⟩ (Nat.le_of_ble_eq_true rfl) (Nat.le_of_ble_eq_true rfl) (l1) ?_
  refine gd_iret dJ0_charAt_5068e_15 rfl (nar_ch (by rcases (show i = 0 ∨ i = 1 ∨ i = 2 ∨ i = 3 by omega) with rfl | rfl | rfl | rfl <;> decide)) ?_
  rfl
theorem j_coder1 (h : Hp) : Gd mJ0_coder_7d493 0 [.ref 101] [] h (some (.int 0), h) := by
  refine gd_gsC rfl dJ0_coder_7d493_0 ?_
  refine gd_if_eq_f 13 dJ0_coder_7d493_3 (by decide) (by decide) ?_
  refine gd_ald0 dJ0_coder_7d493_6 (by decide) ?_
  refine gd_getSc (j := 1) (by decide) rfl dJ0_coder_7d493_7 ?_
  refine gd_goto 14 dJ0_coder_7d493_10 (by decide) ?_
  refine gd_iret dJ0_coder_7d493_14 rfl (by first | rfl | decide | exact nar_bi _ | assumption) ?_
  rfl
theorem j_len1 (h : Hp) : Gd mJ0_length_8abf5 0 [.ref 101] [] h (some (.int (nI 2)), h) := by
  refine gd_ald0 dJ0_length_8abf5_0 (by decide) ?_
  refine gd_getSv (j := 1) (by decide) rfl dJ0_length_8abf5_1 ?_
  refine gd_alenS (j := 1) (v := nI 2) (by decide) dJ0_length_8abf5_4 rfl ?_
  refine gd_ald0 dJ0_length_8abf5_5 (by decide) ?_
  refine gd_cV0i dJ0_length_8abf5_6 ct_11_335 rc_101 ⟨Nat.le_of_ble_eq_true rfl, Nat.le_of_ble_eq_true rfl⟩ (Nat.le_of_ble_eq_true rfl) (Nat.le_of_ble_eq_true rfl) (j_coder1 _) ?_
  refine gd_ishr dJ0_length_8abf5_9 ?_
  refine gd_iret dJ0_length_8abf5_10 rfl rfl ?_
  rw [show nI 2 >>> ((0 : Int32) &&& 31) = nI 2 by decide]
theorem j_lat1 (h : Hp) : Gd mJ0_isLatin1_aae02 0 [.ref 101] [] h (some (.int (nI 1)), h) := by
  refine gd_gsC rfl dJ0_isLatin1_aae02_0 ?_
  refine gd_if_eq_f 17 dJ0_isLatin1_aae02_3 (by decide) (by decide) ?_
  refine gd_ald0 dJ0_isLatin1_aae02_6 (by decide) ?_
  refine gd_getSc (j := 1) (by decide) rfl dJ0_isLatin1_aae02_7 ?_
  refine gd_if_ne_f 17 dJ0_isLatin1_aae02_10 (by decide) (by decide) ?_
  refine gd_ic1 dJ0_isLatin1_aae02_13 ?_
  refine gd_goto 18 dJ0_isLatin1_aae02_14 (by decide) ?_
  refine gd_iret dJ0_isLatin1_aae02_18 rfl (by first | rfl | decide | exact nar_bi _ | assumption) ?_
  rfl
def ch1 (i : Nat) : Nat := [105, 115].getD i 0
theorem j_at1 {i : Nat} (hi : i < 2) (h : Hp) : Gd mJ0_charAt_5068e 0 [.ref 101, .int (nI i)] [] h (some (.int (nI (ch1 i))), h) := by
  have l1 : Gd mJ1_charAt_3b067 0 [.ref 111, .int (nI i)] [] h (some (.int (nI (ch1 i))), h) := by
    have hb : (bytS.getD 1 []).getD i 0 = nI (ch1 i) ∧ ch1 i < 256 := by
      rcases (show i = 0 ∨ i = 1 by omega) with rfl | rfl <;> exact ⟨by decide, by decide⟩
    refine gd_ild1 dJ1_charAt_3b067_0 ?_
    refine gd_ald0 dJ1_charAt_3b067_1 (by decide) ?_
    refine gd_alenS (j := 1) (v := nI 2) (by decide) dJ1_charAt_3b067_2 rfl ?_
    refine gd_cS2v dJ1_charAt_3b067_3 ct_12_9 ⟨Nat.le_of_ble_eq_true rfl, Nat.le_of_ble_eq_true rfl⟩ (Nat.le_of_ble_eq_true rfl) (Nat.le_of_ble_eq_true rfl) (j_ck2 hi (by decide) _) ?_
    refine gd_ald0 dJ1_charAt_3b067_6 (by decide) ?_
    refine gd_ild1 dJ1_charAt_3b067_7 ?_
    refine gd_bald (q := 1) (by decide) dJ1_charAt_3b067_8 (by repeat' (first | with_reducible rfl | apply ni_add | apply ni_mul)) (hi) ?_
    rw [hb.1]
    refine gd_sipush (v := nI 255) dJ1_charAt_3b067_9 (by decide) ?_
    refine gd_iand dJ1_charAt_3b067_12 ?_
    refine gd_i2c dJ1_charAt_3b067_13 ?_
    rw [c255 hb.2]
    refine gd_iret dJ1_charAt_3b067_14 rfl (nar_ch hb.2) ?_
    rfl
  refine gd_ald0 dJ0_charAt_5068e_0 (by decide) ?_
  refine gd_cV0i dJ0_charAt_5068e_1 ct_11_492 rc_101 ⟨Nat.le_of_ble_eq_true rfl, Nat.le_of_ble_eq_true rfl⟩ (Nat.le_of_ble_eq_true rfl) (Nat.le_of_ble_eq_true rfl) (j_lat1 _) ?_
  refine gd_if_eq_f 16 dJ0_charAt_5068e_4 (by decide) (by decide) ?_
  refine gd_ald0 dJ0_charAt_5068e_7 (by decide) ?_
  refine gd_getSv (j := 1) (by decide) rfl dJ0_charAt_5068e_8 ?_
  refine gd_ild1 dJ0_charAt_5068e_11 ?_
  refine gd_cS2i dJ0_charAt_5068e_12 ct_11_495 ⟨Nat.le_of_ble_eq_true rfl, Nat.le_of_ble_eq_true rfl⟩ (Nat.le_of_ble_eq_true rfl) (Nat.le_of_ble_eq_true rfl) (l1) ?_
  refine gd_iret dJ0_charAt_5068e_15 rfl (nar_ch (by rcases (show i = 0 ∨ i = 1 by omega) with rfl | rfl <;> decide)) ?_
  rfl
theorem j_coder2 (h : Hp) : Gd mJ0_coder_7d493 0 [.ref 102] [] h (some (.int 0), h) := by
  refine gd_gsC rfl dJ0_coder_7d493_0 ?_
  refine gd_if_eq_f 13 dJ0_coder_7d493_3 (by decide) (by decide) ?_
  refine gd_ald0 dJ0_coder_7d493_6 (by decide) ?_
  refine gd_getSc (j := 2) (by decide) rfl dJ0_coder_7d493_7 ?_
  refine gd_goto 14 dJ0_coder_7d493_10 (by decide) ?_
  refine gd_iret dJ0_coder_7d493_14 rfl (by first | rfl | decide | exact nar_bi _ | assumption) ?_
  rfl
theorem j_len2 (h : Hp) : Gd mJ0_length_8abf5 0 [.ref 102] [] h (some (.int (nI 6)), h) := by
  refine gd_ald0 dJ0_length_8abf5_0 (by decide) ?_
  refine gd_getSv (j := 2) (by decide) rfl dJ0_length_8abf5_1 ?_
  refine gd_alenS (j := 2) (v := nI 6) (by decide) dJ0_length_8abf5_4 rfl ?_
  refine gd_ald0 dJ0_length_8abf5_5 (by decide) ?_
  refine gd_cV0i dJ0_length_8abf5_6 ct_11_335 rc_102 ⟨Nat.le_of_ble_eq_true rfl, Nat.le_of_ble_eq_true rfl⟩ (Nat.le_of_ble_eq_true rfl) (Nat.le_of_ble_eq_true rfl) (j_coder2 _) ?_
  refine gd_ishr dJ0_length_8abf5_9 ?_
  refine gd_iret dJ0_length_8abf5_10 rfl rfl ?_
  rw [show nI 6 >>> ((0 : Int32) &&& 31) = nI 6 by decide]
theorem j_lat2 (h : Hp) : Gd mJ0_isLatin1_aae02 0 [.ref 102] [] h (some (.int (nI 1)), h) := by
  refine gd_gsC rfl dJ0_isLatin1_aae02_0 ?_
  refine gd_if_eq_f 17 dJ0_isLatin1_aae02_3 (by decide) (by decide) ?_
  refine gd_ald0 dJ0_isLatin1_aae02_6 (by decide) ?_
  refine gd_getSc (j := 2) (by decide) rfl dJ0_isLatin1_aae02_7 ?_
  refine gd_if_ne_f 17 dJ0_isLatin1_aae02_10 (by decide) (by decide) ?_
  refine gd_ic1 dJ0_isLatin1_aae02_13 ?_
  refine gd_goto 18 dJ0_isLatin1_aae02_14 (by decide) ?_
  refine gd_iret dJ0_isLatin1_aae02_18 rfl (by first | rfl | decide | exact nar_bi _ | assumption) ?_
  rfl
def ch2 (i : Nat) : Nat := [114, 101, 99, 107, 111, 110].getD i 0
theorem j_at2 {i : Nat} (hi : i < 6) (h : Hp) : Gd mJ0_charAt_5068e 0 [.ref 102, .int (nI i)] [] h (some (.int (nI (ch2 i))), h) := by
  have l1 : Gd mJ1_charAt_3b067 0 [.ref 112, .int (nI i)] [] h (some (.int (nI (ch2 i))), h) := by
    have hb : (bytS.getD 2 []).getD i 0 = nI (ch2 i) ∧ ch2 i < 256 := by
      rcases (show i = 0 ∨ i = 1 ∨ i = 2 ∨ i = 3 ∨ i = 4 ∨ i = 5 by omega) with rfl | rfl | rfl | rfl | rfl | rfl <;> exact ⟨by decide, by decide⟩
    refine gd_ild1 dJ1_charAt_3b067_0 ?_
    refine gd_ald0 dJ1_charAt_3b067_1 (by decide) ?_
    refine gd_alenS (j := 2) (v := nI 6) (by decide) dJ1_charAt_3b067_2 rfl ?_
    refine gd_cS2v dJ1_charAt_3b067_3 ct_12_9 ⟨Nat.le_of_ble_eq_true rfl, Nat.le_of_ble_eq_true rfl⟩ (Nat.le_of_ble_eq_true rfl) (Nat.le_of_ble_eq_true rfl) (j_ck2 hi (by decide) _) ?_
    refine gd_ald0 dJ1_charAt_3b067_6 (by decide) ?_
    refine gd_ild1 dJ1_charAt_3b067_7 ?_
    refine gd_bald (q := 2) (by decide) dJ1_charAt_3b067_8 (by repeat' (first | with_reducible rfl | apply ni_add | apply ni_mul)) (hi) ?_
    rw [hb.1]
    refine gd_sipush (v := nI 255) dJ1_charAt_3b067_9 (by decide) ?_
    refine gd_iand dJ1_charAt_3b067_12 ?_
    refine gd_i2c dJ1_charAt_3b067_13 ?_
    rw [c255 hb.2]
    refine gd_iret dJ1_charAt_3b067_14 rfl (nar_ch hb.2) ?_
    rfl
  refine gd_ald0 dJ0_charAt_5068e_0 (by decide) ?_
  refine gd_cV0i dJ0_charAt_5068e_1 ct_11_492 rc_102 ⟨Nat.le_of_ble_eq_true rfl, Nat.le_of_ble_eq_true rfl⟩ (Nat.le_of_ble_eq_true rfl) (Nat.le_of_ble_eq_true rfl) (j_lat2 _) ?_
  refine gd_if_eq_f 16 dJ0_charAt_5068e_4 (by decide) (by decide) ?_
  refine gd_ald0 dJ0_charAt_5068e_7 (by decide) ?_
  refine gd_getSv (j := 2) (by decide) rfl dJ0_charAt_5068e_8 ?_
  refine gd_ild1 dJ0_charAt_5068e_11 ?_
  refine gd_cS2i dJ0_charAt_5068e_12 ct_11_495 ⟨Nat.le_of_ble_eq_true rfl, Nat.le_of_ble_eq_true rfl⟩ (Nat.le_of_ble_eq_true rfl) (Nat.le_of_ble_eq_true rfl) (l1) ?_
  refine gd_iret dJ0_charAt_5068e_15 rfl (nar_ch (by rcases (show i = 0 ∨ i = 1 ∨ i = 2 ∨ i = 3 ∨ i = 4 ∨ i = 5 by omega) with rfl | rfl | rfl | rfl | rfl | rfl <;> decide)) ?_
  rfl
theorem j_coder3 (h : Hp) : Gd mJ0_coder_7d493 0 [.ref 103] [] h (some (.int 0), h) := by
  refine gd_gsC rfl dJ0_coder_7d493_0 ?_
  refine gd_if_eq_f 13 dJ0_coder_7d493_3 (by decide) (by decide) ?_
  refine gd_ald0 dJ0_coder_7d493_6 (by decide) ?_
  refine gd_getSc (j := 3) (by decide) rfl dJ0_coder_7d493_7 ?_
  refine gd_goto 14 dJ0_coder_7d493_10 (by decide) ?_
  refine gd_iret dJ0_coder_7d493_14 rfl (by first | rfl | decide | exact nar_bi _ | assumption) ?_
  rfl
theorem j_len3 (h : Hp) : Gd mJ0_length_8abf5 0 [.ref 103] [] h (some (.int (nI 4)), h) := by
  refine gd_ald0 dJ0_length_8abf5_0 (by decide) ?_
  refine gd_getSv (j := 3) (by decide) rfl dJ0_length_8abf5_1 ?_
  refine gd_alenS (j := 3) (v := nI 4) (by decide) dJ0_length_8abf5_4 rfl ?_
  refine gd_ald0 dJ0_length_8abf5_5 (by decide) ?_
  refine gd_cV0i dJ0_length_8abf5_6 ct_11_335 rc_103 ⟨Nat.le_of_ble_eq_true rfl, Nat.le_of_ble_eq_true rfl⟩ (Nat.le_of_ble_eq_true rfl) (Nat.le_of_ble_eq_true rfl) (j_coder3 _) ?_
  refine gd_ishr dJ0_length_8abf5_9 ?_
  refine gd_iret dJ0_length_8abf5_10 rfl rfl ?_
  rw [show nI 4 >>> ((0 : Int32) &&& 31) = nI 4 by decide]
theorem j_lat3 (h : Hp) : Gd mJ0_isLatin1_aae02 0 [.ref 103] [] h (some (.int (nI 1)), h) := by
  refine gd_gsC rfl dJ0_isLatin1_aae02_0 ?_
  refine gd_if_eq_f 17 dJ0_isLatin1_aae02_3 (by decide) (by decide) ?_
  refine gd_ald0 dJ0_isLatin1_aae02_6 (by decide) ?_
  refine gd_getSc (j := 3) (by decide) rfl dJ0_isLatin1_aae02_7 ?_
  refine gd_if_ne_f 17 dJ0_isLatin1_aae02_10 (by decide) (by decide) ?_
  refine gd_ic1 dJ0_isLatin1_aae02_13 ?_
  refine gd_goto 18 dJ0_isLatin1_aae02_14 (by decide) ?_
  refine gd_iret dJ0_isLatin1_aae02_18 rfl (by first | rfl | decide | exact nar_bi _ | assumption) ?_
  rfl
def ch3 (i : Nat) : Nat := [109, 111, 114, 101].getD i 0
theorem j_at3 {i : Nat} (hi : i < 4) (h : Hp) : Gd mJ0_charAt_5068e 0 [.ref 103, .int (nI i)] [] h (some (.int (nI (ch3 i))), h) := by
  have l1 : Gd mJ1_charAt_3b067 0 [.ref 113, .int (nI i)] [] h (some (.int (nI (ch3 i))), h) := by
    have hb : (bytS.getD 3 []).getD i 0 = nI (ch3 i) ∧ ch3 i < 256 := by
      rcases (show i = 0 ∨ i = 1 ∨ i = 2 ∨ i = 3 by omega) with rfl | rfl | rfl | rfl <;> exact ⟨by decide, by decide⟩
    refine gd_ild1 dJ1_charAt_3b067_0 ?_
    refine gd_ald0 dJ1_charAt_3b067_1 (by decide) ?_
    refine gd_alenS (j := 3) (v := nI 4) (by decide) dJ1_charAt_3b067_2 rfl ?_
    refine gd_cS2v dJ1_charAt_3b067_3 ct_12_9 ⟨Nat.le_of_ble_eq_true rfl, Nat.le_of_ble_eq_true rfl⟩ (Nat.le_of_ble_eq_true rfl) (Nat.le_of_ble_eq_true rfl) (j_ck2 hi (by decide) _) ?_
    refine gd_ald0 dJ1_charAt_3b067_6 (by decide) ?_
    refine gd_ild1 dJ1_charAt_3b067_7 ?_
    refine gd_bald (q := 3) (by decide) dJ1_charAt_3b067_8 (by repeat' (first | with_reducible rfl | apply ni_add | apply ni_mul)) (hi) ?_
    rw [hb.1]
    refine gd_sipush (v := nI 255) dJ1_charAt_3b067_9 (by decide) ?_
    refine gd_iand dJ1_charAt_3b067_12 ?_
    refine gd_i2c dJ1_charAt_3b067_13 ?_
    rw [c255 hb.2]
    refine gd_iret dJ1_charAt_3b067_14 rfl (nar_ch hb.2) ?_
    rfl
  refine gd_ald0 dJ0_charAt_5068e_0 (by decide) ?_
  refine gd_cV0i dJ0_charAt_5068e_1 ct_11_492 rc_103 ⟨Nat.le_of_ble_eq_true rfl, Nat.le_of_ble_eq_true rfl⟩ (Nat.le_of_ble_eq_true rfl) (Nat.le_of_ble_eq_true rfl) (j_lat3 _) ?_
  refine gd_if_eq_f 16 dJ0_charAt_5068e_4 (by decide) (by decide) ?_
  refine gd_ald0 dJ0_charAt_5068e_7 (by decide) ?_
  refine gd_getSv (j := 3) (by decide) rfl dJ0_charAt_5068e_8 ?_
  refine gd_ild1 dJ0_charAt_5068e_11 ?_
  refine gd_cS2i dJ0_charAt_5068e_12 ct_11_495 ⟨Nat.le_of_ble_eq_true rfl, Nat.le_of_ble_eq_true rfl⟩ (Nat.le_of_ble_eq_true rfl) (Nat.le_of_ble_eq_true rfl) (l1) ?_
  refine gd_iret dJ0_charAt_5068e_15 rfl (nar_ch (by rcases (show i = 0 ∨ i = 1 ∨ i = 2 ∨ i = 3 by omega) with rfl | rfl | rfl | rfl <;> decide)) ?_
  rfl
theorem j_coder4 (h : Hp) : Gd mJ0_coder_7d493 0 [.ref 104] [] h (some (.int 0), h) := by
  refine gd_gsC rfl dJ0_coder_7d493_0 ?_
  refine gd_if_eq_f 13 dJ0_coder_7d493_3 (by decide) (by decide) ?_
  refine gd_ald0 dJ0_coder_7d493_6 (by decide) ?_
  refine gd_getSc (j := 4) (by decide) rfl dJ0_coder_7d493_7 ?_
  refine gd_goto 14 dJ0_coder_7d493_10 (by decide) ?_
  refine gd_iret dJ0_coder_7d493_14 rfl (by first | rfl | decide | exact nar_bi _ | assumption) ?_
  rfl
theorem j_len4 (h : Hp) : Gd mJ0_length_8abf5 0 [.ref 104] [] h (some (.int (nI 5)), h) := by
  refine gd_ald0 dJ0_length_8abf5_0 (by decide) ?_
  refine gd_getSv (j := 4) (by decide) rfl dJ0_length_8abf5_1 ?_
  refine gd_alenS (j := 4) (v := nI 5) (by decide) dJ0_length_8abf5_4 rfl ?_
  refine gd_ald0 dJ0_length_8abf5_5 (by decide) ?_
  refine gd_cV0i dJ0_length_8abf5_6 ct_11_335 rc_104 ⟨Nat.le_of_ble_eq_true rfl, Nat.le_of_ble_eq_true rfl⟩ (Nat.le_of_ble_eq_true rfl) (Nat.le_of_ble_eq_true rfl) (j_coder4 _) ?_
  refine gd_ishr dJ0_length_8abf5_9 ?_
  refine gd_iret dJ0_length_8abf5_10 rfl rfl ?_
  rw [show nI 5 >>> ((0 : Int32) &&& 31) = nI 5 by decide]
theorem j_lat4 (h : Hp) : Gd mJ0_isLatin1_aae02 0 [.ref 104] [] h (some (.int (nI 1)), h) := by
  refine gd_gsC rfl dJ0_isLatin1_aae02_0 ?_
  refine gd_if_eq_f 17 dJ0_isLatin1_aae02_3 (by decide) (by decide) ?_
  refine gd_ald0 dJ0_isLatin1_aae02_6 (by decide) ?_
  refine gd_getSc (j := 4) (by decide) rfl dJ0_isLatin1_aae02_7 ?_
  refine gd_if_ne_f 17 dJ0_isLatin1_aae02_10 (by decide) (by decide) ?_
  refine gd_ic1 dJ0_isLatin1_aae02_13 ?_
  refine gd_goto 18 dJ0_isLatin1_aae02_14 (by decide) ?_
  refine gd_iret dJ0_isLatin1_aae02_18 rfl (by first | rfl | decide | exact nar_bi _ | assumption) ?_
  rfl
def ch4 (i : Nat) : Nat := [102, 97, 108, 108, 115].getD i 0
theorem j_at4 {i : Nat} (hi : i < 5) (h : Hp) : Gd mJ0_charAt_5068e 0 [.ref 104, .int (nI i)] [] h (some (.int (nI (ch4 i))), h) := by
  have l1 : Gd mJ1_charAt_3b067 0 [.ref 114, .int (nI i)] [] h (some (.int (nI (ch4 i))), h) := by
    have hb : (bytS.getD 4 []).getD i 0 = nI (ch4 i) ∧ ch4 i < 256 := by
      rcases (show i = 0 ∨ i = 1 ∨ i = 2 ∨ i = 3 ∨ i = 4 by omega) with rfl | rfl | rfl | rfl | rfl <;> exact ⟨by decide, by decide⟩
    refine gd_ild1 dJ1_charAt_3b067_0 ?_
    refine gd_ald0 dJ1_charAt_3b067_1 (by decide) ?_
    refine gd_alenS (j := 4) (v := nI 5) (by decide) dJ1_charAt_3b067_2 rfl ?_
    refine gd_cS2v dJ1_charAt_3b067_3 ct_12_9 ⟨Nat.le_of_ble_eq_true rfl, Nat.le_of_ble_eq_true rfl⟩ (Nat.le_of_ble_eq_true rfl) (Nat.le_of_ble_eq_true rfl) (j_ck2 hi (by decide) _) ?_
    refine gd_ald0 dJ1_charAt_3b067_6 (by decide) ?_
    refine gd_ild1 dJ1_charAt_3b067_7 ?_
    refine gd_bald (q := 4) (by decide) dJ1_charAt_3b067_8 (by repeat' (first | with_reducible rfl | apply ni_add | apply ni_mul)) (hi) ?_
    rw [hb.1]
    refine gd_sipush (v := nI 255) dJ1_charAt_3b067_9 (by decide) ?_
    refine gd_iand dJ1_charAt_3b067_12 ?_
    refine gd_i2c dJ1_charAt_3b067_13 ?_
    rw [c255 hb.2]
    refine gd_iret dJ1_charAt_3b067_14 rfl (nar_ch hb.2) ?_
    rfl
  refine gd_ald0 dJ0_charAt_5068e_0 (by decide) ?_
  refine gd_cV0i dJ0_charAt_5068e_1 ct_11_492 rc_104 ⟨Nat.le_of_ble_eq_true rfl, Nat.le_of_ble_eq_true rfl⟩ (Nat.le_of_ble_eq_true rfl) (Nat.le_of_ble_eq_true rfl) (j_lat4 _) ?_
  refine gd_if_eq_f 16 dJ0_charAt_5068e_4 (by decide) (by decide) ?_
  refine gd_ald0 dJ0_charAt_5068e_7 (by decide) ?_
  refine gd_getSv (j := 4) (by decide) rfl dJ0_charAt_5068e_8 ?_
  refine gd_ild1 dJ0_charAt_5068e_11 ?_
  refine gd_cS2i dJ0_charAt_5068e_12 ct_11_495 ⟨Nat.le_of_ble_eq_true rfl, Nat.le_of_ble_eq_true rfl⟩ (Nat.le_of_ble_eq_true rfl) (Nat.le_of_ble_eq_true rfl) (l1) ?_
  refine gd_iret dJ0_charAt_5068e_15 rfl (nar_ch (by rcases (show i = 0 ∨ i = 1 ∨ i = 2 ∨ i = 3 ∨ i = 4 by omega) with rfl | rfl | rfl | rfl | rfl <;> decide)) ?_
  rfl
theorem j_coder5 (h : Hp) : Gd mJ0_coder_7d493 0 [.ref 105] [] h (some (.int 0), h) := by
  refine gd_gsC rfl dJ0_coder_7d493_0 ?_
  refine gd_if_eq_f 13 dJ0_coder_7d493_3 (by decide) (by decide) ?_
  refine gd_ald0 dJ0_coder_7d493_6 (by decide) ?_
  refine gd_getSc (j := 5) (by decide) rfl dJ0_coder_7d493_7 ?_
  refine gd_goto 14 dJ0_coder_7d493_10 (by decide) ?_
  refine gd_iret dJ0_coder_7d493_14 rfl (by first | rfl | decide | exact nar_bi _ | assumption) ?_
  rfl
theorem j_len5 (h : Hp) : Gd mJ0_length_8abf5 0 [.ref 105] [] h (some (.int (nI 6)), h) := by
  refine gd_ald0 dJ0_length_8abf5_0 (by decide) ?_
  refine gd_getSv (j := 5) (by decide) rfl dJ0_length_8abf5_1 ?_
  refine gd_alenS (j := 5) (v := nI 6) (by decide) dJ0_length_8abf5_4 rfl ?_
  refine gd_ald0 dJ0_length_8abf5_5 (by decide) ?_
  refine gd_cV0i dJ0_length_8abf5_6 ct_11_335 rc_105 ⟨Nat.le_of_ble_eq_true rfl, Nat.le_of_ble_eq_true rfl⟩ (Nat.le_of_ble_eq_true rfl) (Nat.le_of_ble_eq_true rfl) (j_coder5 _) ?_
  refine gd_ishr dJ0_length_8abf5_9 ?_
  refine gd_iret dJ0_length_8abf5_10 rfl rfl ?_
  rw [show nI 6 >>> ((0 : Int32) &&& 31) = nI 6 by decide]
theorem j_lat5 (h : Hp) : Gd mJ0_isLatin1_aae02 0 [.ref 105] [] h (some (.int (nI 1)), h) := by
  refine gd_gsC rfl dJ0_isLatin1_aae02_0 ?_
  refine gd_if_eq_f 17 dJ0_isLatin1_aae02_3 (by decide) (by decide) ?_
  refine gd_ald0 dJ0_isLatin1_aae02_6 (by decide) ?_
  refine gd_getSc (j := 5) (by decide) rfl dJ0_isLatin1_aae02_7 ?_
  refine gd_if_ne_f 17 dJ0_isLatin1_aae02_10 (by decide) (by decide) ?_
  refine gd_ic1 dJ0_isLatin1_aae02_13 ?_
  refine gd_goto 18 dJ0_isLatin1_aae02_14 (by decide) ?_
  refine gd_iret dJ0_isLatin1_aae02_18 rfl (by first | rfl | decide | exact nar_bi _ | assumption) ?_
  rfl
def ch5 (i : Nat) : Nat := [103, 114, 111, 117, 110, 100].getD i 0
theorem j_at5 {i : Nat} (hi : i < 6) (h : Hp) : Gd mJ0_charAt_5068e 0 [.ref 105, .int (nI i)] [] h (some (.int (nI (ch5 i))), h) := by
  have l1 : Gd mJ1_charAt_3b067 0 [.ref 115, .int (nI i)] [] h (some (.int (nI (ch5 i))), h) := by
    have hb : (bytS.getD 5 []).getD i 0 = nI (ch5 i) ∧ ch5 i < 256 := by
      rcases (show i = 0 ∨ i = 1 ∨ i = 2 ∨ i = 3 ∨ i = 4 ∨ i = 5 by omega) with rfl | rfl | rfl | rfl | rfl | rfl <;> exact ⟨by decide, by decide⟩
    refine gd_ild1 dJ1_charAt_3b067_0 ?_
    refine gd_ald0 dJ1_charAt_3b067_1 (by decide) ?_
    refine gd_alenS (j := 5) (v := nI 6) (by decide) dJ1_charAt_3b067_2 rfl ?_
    refine gd_cS2v dJ1_charAt_3b067_3 ct_12_9 ⟨Nat.le_of_ble_eq_true rfl, Nat.le_of_ble_eq_true rfl⟩ (Nat.le_of_ble_eq_true rfl) (Nat.le_of_ble_eq_true rfl) (j_ck2 hi (by decide) _) ?_
    refine gd_ald0 dJ1_charAt_3b067_6 (by decide) ?_
    refine gd_ild1 dJ1_charAt_3b067_7 ?_
    refine gd_bald (q := 5) (by decide) dJ1_charAt_3b067_8 (by repeat' (first | with_reducible rfl | apply ni_add | apply ni_mul)) (hi) ?_
    rw [hb.1]
    refine gd_sipush (v := nI 255) dJ1_charAt_3b067_9 (by decide) ?_
    refine gd_iand dJ1_charAt_3b067_12 ?_
    refine gd_i2c dJ1_charAt_3b067_13 ?_
    rw [c255 hb.2]
    refine gd_iret dJ1_charAt_3b067_14 rfl (nar_ch hb.2) ?_
    rfl
  refine gd_ald0 dJ0_charAt_5068e_0 (by decide) ?_
  refine gd_cV0i dJ0_charAt_5068e_1 ct_11_492 rc_105 ⟨Nat.le_of_ble_eq_true rfl, Nat.le_of_ble_eq_true rfl⟩ (Nat.le_of_ble_eq_true rfl) (Nat.le_of_ble_eq_true rfl) (j_lat5 _) ?_
  refine gd_if_eq_f 16 dJ0_charAt_5068e_4 (by decide) (by decide) ?_
  refine gd_ald0 dJ0_charAt_5068e_7 (by decide) ?_
  refine gd_getSv (j := 5) (by decide) rfl dJ0_charAt_5068e_8 ?_
  refine gd_ild1 dJ0_charAt_5068e_11 ?_
  refine gd_cS2i dJ0_charAt_5068e_12 ct_11_495 ⟨Nat.le_of_ble_eq_true rfl, Nat.le_of_ble_eq_true rfl⟩ (Nat.le_of_ble_eq_true rfl) (Nat.le_of_ble_eq_true rfl) (l1) ?_
  refine gd_iret dJ0_charAt_5068e_15 rfl (nar_ch (by rcases (show i = 0 ∨ i = 1 ∨ i = 2 ∨ i = 3 ∨ i = 4 ∨ i = 5 by omega) with rfl | rfl | rfl | rfl | rfl | rfl <;> decide)) ?_
  rfl
