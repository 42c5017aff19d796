/-! texts: length, charAt -/
def xB (t j : Nat) : Int32 := (xByt.getD t []).getD j 0
theorem xB_char : ∀ t, t < 25 → ∀ j, j < xLen.getD t 0 → (Int32.toUInt32 (xB t j &&& 255) % 65536).toInt32 = xB t j := by decide +kernel
theorem xB_nar : ∀ t, t < 25 → ∀ j, j < xLen.getD t 0 → 0 ≤ xB t j ∧ xB t j < 128 := by decide +kernel
theorem xLen_lt : ∀ t, t < 25 → xLen.getD t 0 ≤ 120 := by decide +kernel
theorem nar_char {x : Int32} (h : 0 ≤ x ∧ x < 128) : narrow .char (.int x) = .int x := by
  have h1 := (Int32.le_iff_toInt_le.mp h.1)
  have h2 := (Int32.lt_iff_toInt_lt.mp h.2)
  have e : x = nI x.toInt.toNat := by
    apply Int32.toInt_inj.mp
    have e0 : (0 : Int32).toInt = 0 := by decide
    have e1 : (128 : Int32).toInt = 128 := by decide
    rw [nI_toInt (by omega)]
    omega
  have e0 : (0 : Int32).toInt = 0 := by decide
  have e1 : (128 : Int32).toInt = 128 := by decide
  rw [e]
  exact (pk_charN (by omega)).1
theorem shr0 {n : Nat} (h : n ≤ 120) : nI n >>> ((0 : Int32) &&& 31) = nI n := by
  have := pk_shrN (n := n) (by omega) ((0 : Int32) &&& 31) 0 (by decide)
  rw [this, Nat.pow_zero, Nat.div_one]
set_option maxRecDepth 20000 in
set_option maxHeartbeats 1000000 in
theorem c_coder {E : EnvT} {d : Nat} {h : Hp} {t : Nat} (ht : t < 25) : Cn E mJ0_coder_7d493 d [.ref t] h (fun r h2 => r = some (.int 0) ∧ h2 = h) := by
  refine Cn.go (ls := [.ref t]) (by decide +kernel) rfl (Nat.le_of_ble_eq_true rfl) ?_
  refine r_sCompact (pc2 := 3) qJ0_38 dJ0_coder_7d493_0 rfl ?_
  refine r_if_eq (tgt := 13) (pc2 := 6) dJ0_coder_7d493_3 (by decide) rfl (fun b3 => ?_) (fun b3 => ?_)
  · exact absurd b3 (by decide)
  · skip
    refine r_aload_n (pc2 := 7) 0 dJ0_coder_7d493_6 rfl rfl rfl rfl ?_
    refine r_xcod (pc2 := 10) t ht qJ0_15 dJ0_coder_7d493_7 rfl ?_
    refine r_goto (pc2 := 14) dJ0_coder_7d493_10 (by decide) ?_
    exact r_zret (ty := .byte) rfl (by decide) dJ0_coder_7d493_14 ⟨rfl, rfl⟩
set_option maxRecDepth 20000 in
set_option maxHeartbeats 1000000 in
theorem c_isLatin1 {E : EnvT} {d : Nat} {h : Hp} {t : Nat} (ht : t < 25) : Cn E mJ0_isLatin1_aae02 d [.ref t] h (fun r h2 => r = some (.int 1) ∧ h2 = h) := by
  refine Cn.go (ls := [.ref t]) (by decide +kernel) rfl (Nat.le_of_ble_eq_true rfl) ?_
  refine r_sCompact (pc2 := 3) qJ0_38 dJ0_isLatin1_aae02_0 rfl ?_
  refine r_if_eq (tgt := 17) (pc2 := 6) dJ0_isLatin1_aae02_3 (by decide) rfl (fun b3 => ?_) (fun b3 => ?_)
  · exact absurd b3 (by decide)
  · skip
    refine r_aload_n (pc2 := 7) 0 dJ0_isLatin1_aae02_6 rfl rfl rfl rfl ?_
    refine r_xcod (pc2 := 10) t ht qJ0_15 dJ0_isLatin1_aae02_7 rfl ?_
    refine r_if_ne (tgt := 17) (pc2 := 13) dJ0_isLatin1_aae02_10 (by decide) rfl (fun b10 => ?_) (fun b10 => ?_)
    · exact absurd b10 (by decide)
    · skip
      refine r_iconst (pc2 := 14) (v := 1) dJ0_isLatin1_aae02_13 (by decide) rfl ?_
      refine r_goto (pc2 := 18) dJ0_isLatin1_aae02_14 (by decide) ?_
      exact r_zret (ty := .boolean) rfl (by decide) dJ0_isLatin1_aae02_18 ⟨rfl, rfl⟩
set_option maxRecDepth 20000 in
set_option maxHeartbeats 1000000 in
theorem c_length {E : EnvT} {d : Nat} {h : Hp} {t : Nat} (ht : t < 25) (hd : 1 ≤ d) : Cn E mJ0_length_8abf5 d [.ref t] h (fun r h2 => r = some (.int (nI (xLen.getD t 0))) ∧ h2 = h) := by
  refine Cn.go (ls := [.ref t]) (by decide +kernel) rfl (Nat.le_of_ble_eq_true rfl) ?_
  refine r_aload_n (pc2 := 1) 0 dJ0_length_8abf5_0 rfl rfl rfl rfl ?_
  refine r_xval (pc2 := 4) t ht qJ0_9 dJ0_length_8abf5_1 rfl ?_
  refine r_xblen (pc2 := 5) t ht dJ0_length_8abf5_4 rfl ?_
  refine r_aload_n (pc2 := 6) 0 dJ0_length_8abf5_5 rfl rfl rfl rfl ?_
  refine r_callX1 (pc2 := 9) (As := []) (st := [.int (nI (xLen.getD t 0))]) kJ0_335 rfl ht dJ0_length_8abf5_6 rfl rfl (Nat.le_of_ble_eq_true rfl) (by omega) (c_coder ht) rfl (fun h2 hq6 => ?_)
  subst hq6
  refine r_ishr (pc2 := 10) dJ0_length_8abf5_9 rfl ?_
  refine r_cast (nI (xLen.getD t 0)) (shr0 (xLen_lt t ht)) ?_
  exact r_iret rfl dJ0_length_8abf5_10 ⟨rfl, rfl⟩
set_option maxRecDepth 20000 in
set_option maxHeartbeats 1000000 in
theorem c_chk3 {E : EnvT} {d : Nat} {h : Hp} {j n : Nat} (hj : j < n) (hn : n < 2 ^ 31) : Cn E mJ3_checkIndex_8e157 d [.int (nI j), .int (nI n), .ref 63] h (fun r h2 => r = some (.int (nI j)) ∧ h2 = h) := by
  refine Cn.go (ls := [.int (nI j), .int (nI n), .ref 63]) (by decide +kernel) rfl (Nat.le_of_ble_eq_true rfl) ?_
  refine r_iload_n (pc2 := 1) 0 dJ3_checkIndex_8e157_0 rfl rfl rfl ?_
  refine r_if_lt (tgt := 9) (pc2 := 4) dJ3_checkIndex_8e157_1 (by decide) rfl (fun b1 => ?_) (fun b1 => ?_)
  · exact absurd b1 (Int32.not_lt.mpr (nI_le (a := 0) (Nat.zero_le _) (by omega)))
  · skip
    refine r_iload_n (pc2 := 5) 0 dJ3_checkIndex_8e157_4 rfl rfl rfl ?_
    refine r_iload_n (pc2 := 6) 1 dJ3_checkIndex_8e157_5 rfl rfl rfl ?_
    refine r_icmp_lt (tgt := 16) (pc2 := 9) dJ3_checkIndex_8e157_6 (by decide) rfl (fun b6 => ?_) (fun b6 => ?_)
    · skip
      refine r_iload_n (pc2 := 17) 0 dJ3_checkIndex_8e157_16 rfl rfl rfl ?_
      exact r_iret rfl dJ3_checkIndex_8e157_17 ⟨rfl, rfl⟩
    · exact absurd (nI_lt hj hn) b6
set_option maxRecDepth 20000 in
set_option maxHeartbeats 1000000 in
theorem c_chk0 {E : EnvT} {d : Nat} {h : Hp} {j n : Nat} (hj : j < n) (hn : n < 2 ^ 31) (hd : 1 ≤ d) : Cn E mJ0_checkIndex_df160 d [.int (nI j), .int (nI n)] h (fun r h2 => r = none ∧ h2 = h) := by
  refine Cn.go (ls := [.int (nI j), .int (nI n)]) (by decide +kernel) rfl (Nat.le_of_ble_eq_true rfl) ?_
  refine r_iload_n (pc2 := 1) 0 dJ0_checkIndex_df160_0 rfl rfl rfl ?_
  refine r_iload_n (pc2 := 2) 1 dJ0_checkIndex_df160_1 rfl rfl rfl ?_
  refine r_sFmt (pc2 := 5) qJ0_1053 dJ0_checkIndex_df160_2 rfl ?_
  refine r_callS1 (pc2 := 8) (As := [.int (nI j), .int (nI n), .ref 63]) (st := []) kJ0_1059 dJ0_checkIndex_df160_5 rfl rfl (Nat.le_of_ble_eq_true rfl) (by omega) (c_chk3 hj hn) rfl (fun h2 hq5 => ?_)
  subst hq5
  refine r_pop (pc2 := 9) dJ0_checkIndex_df160_8 rfl rfl ?_
  exact r_vret rfl dJ0_checkIndex_df160_9 ⟨rfl, rfl⟩
set_option maxRecDepth 20000 in
set_option maxHeartbeats 1000000 in
theorem c_char1 {E : EnvT} {d : Nat} {h : Hp} {t j : Nat} (ht : t < 25) (hj : j < xLen.getD t 0) (hd : 2 ≤ d) : Cn E mJ1_charAt_3b067 d [.ref (32 + t), .int (nI j)] h (fun r h2 => r = some (.int (xB t j)) ∧ h2 = h) := by
  refine Cn.go (ls := [.ref (32 + t), .int (nI j)]) (by decide +kernel) rfl (Nat.le_of_ble_eq_true rfl) ?_
  refine r_iload_n (pc2 := 1) 1 dJ1_charAt_3b067_0 rfl rfl rfl ?_
  refine r_aload_n (pc2 := 2) 0 dJ1_charAt_3b067_1 rfl rfl rfl rfl ?_
  refine r_xblen (pc2 := 3) t ht dJ1_charAt_3b067_2 rfl ?_
  refine r_callS0 (pc2 := 6) (As := [.int (nI j), .int (nI (xLen.getD t 0))]) (st := []) kJ1_9 dJ1_charAt_3b067_3 rfl rfl (Nat.le_of_ble_eq_true rfl) (by omega) (c_chk0 hj (by have := xLen_lt t ht; omega) (by omega)) rfl (fun h2 hq3 => ?_)
  subst hq3
  refine r_aload_n (pc2 := 7) 0 dJ1_charAt_3b067_6 rfl rfl rfl rfl ?_
  refine r_iload_n (pc2 := 8) 1 dJ1_charAt_3b067_7 rfl rfl rfl ?_
  refine r_xbld (pc2 := 9) t ht dJ1_charAt_3b067_8 (nI_vp rfl hj (by have := xLen_lt t ht; omega)).1 rfl ?_
  refine r_cast (xB t j) (by rw [nI_clamp (by have := xLen_lt t ht; omega)]; rfl) ?_
  refine r_sipush (pc2 := 12) (v := 255) dJ1_charAt_3b067_9 (by decide) rfl ?_
  refine r_iand (pc2 := 13) dJ1_charAt_3b067_12 rfl ?_
  refine r_i2c (pc2 := 14) dJ1_charAt_3b067_13 rfl ?_
  refine r_cast (xB t j) (xB_char t ht j hj) ?_
  exact r_zret (ty := .char) rfl (nar_char (xB_nar t ht j hj)) dJ1_charAt_3b067_14 ⟨rfl, rfl⟩
set_option maxRecDepth 20000 in
set_option maxHeartbeats 1000000 in
theorem c_charAt {E : EnvT} {d : Nat} {h : Hp} {t j : Nat} (ht : t < 25) (hj : j < xLen.getD t 0) (hd : 3 ≤ d) : Cn E mJ0_charAt_5068e d [.ref t, .int (nI j)] h (fun r h2 => r = some (.int (xB t j)) ∧ h2 = h) := by
  refine Cn.go (ls := [.ref t, .int (nI j)]) (by decide +kernel) rfl (Nat.le_of_ble_eq_true rfl) ?_
  refine r_aload_n (pc2 := 1) 0 dJ0_charAt_5068e_0 rfl rfl rfl rfl ?_
  refine r_callX1 (pc2 := 4) (As := []) (st := []) kJ0_492 rfl ht dJ0_charAt_5068e_1 rfl rfl (Nat.le_of_ble_eq_true rfl) (by omega) (c_isLatin1 ht) rfl (fun h2 hq1 => ?_)
  subst hq1
  refine r_if_eq (tgt := 16) (pc2 := 7) dJ0_charAt_5068e_4 (by decide) rfl (fun b4 => ?_) (fun b4 => ?_)
  · exact absurd b4 (by decide)
  · skip
    refine r_aload_n (pc2 := 8) 0 dJ0_charAt_5068e_7 rfl rfl rfl rfl ?_
    refine r_xval (pc2 := 11) t ht qJ0_9 dJ0_charAt_5068e_8 rfl ?_
    refine r_iload_n (pc2 := 12) 1 dJ0_charAt_5068e_11 rfl rfl rfl ?_
    refine r_callS1 (pc2 := 15) (As := [.ref (32 + t), .int (nI j)]) (st := []) kJ0_495 dJ0_charAt_5068e_12 rfl rfl (Nat.le_of_ble_eq_true rfl) (by omega) (c_char1 ht hj (by omega)) rfl (fun h2 hq12 => ?_)
    subst hq12
    exact r_zret (ty := .char) rfl (nar_char (xB_nar t ht j hj)) dJ0_charAt_5068e_15 ⟨rfl, rfl⟩
