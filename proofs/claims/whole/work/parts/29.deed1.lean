theorem c_whyF {E : EnvT} {d : Nat} {h0 : Hp} {v : Nat → Int32} {a : Nat → Nat} {x : Int64} (c117 : h0.1 117 = some (mO v)) (c118 : h0.1 118 = some (aI 3531 (nA a))) (hA : AIN a) (hd : 2 ≤ d) : Cn E mX10_whyBy d [.ref 117, .int (nI (packS a)), .long x] h0 (fun r h2 => r = some (.int (nI (whyF a x))) ∧ h2 = h0) := by
  by_cases hv : vS (a 3) x
  · obtain ⟨n, hn, rfl⟩ := vS_of hA.G hv
    rw [whyF_of hA hn]
    exact c_whyBy c117 c118 hA (by have := hA.plt; omega) hn hd
  · have e : whyF a x = 1 := by unfold whyF; rw [if_neg hv]
    rw [e]
    exact c_whyBy1 c117 c118 hA hv hd
def tw (a : Nat → Nat) (p q : Nat) : Prop := p < a 4 ∧ q < a 4 ∧ p ≠ q
theorem tw1 {P p : Nat} (hP : P ≤ 8) (hp : p < 2 ^ 31) : (0 ≤ lN p ∧ lN p ≤ (nI P - 1).toInt64) ↔ p < P := by
  have h0 : (0 : Int64) ≤ lN p := (pk_lLE (a := 0) (by decide) (by omega)).mpr (Nat.zero_le _)
  rcases Nat.eq_zero_or_pos P with rfl | h
  · refine ⟨fun q => ?_, fun q => by omega⟩
    have e : (nI 0 - 1).toInt64 = -1 := by decide
    rw [e] at q
    have : (0 : Int64) ≤ -1 := Int64.le_trans q.1 q.2
    exact absurd this (by decide)
  · rw [pm1 h, nI_l (by omega), pk_lLE (by omega) (by omega)]
    exact ⟨fun q => by omega, fun q => ⟨h0, by omega⟩⟩
theorem c_areTwoN {E : EnvT} {d : Nat} {h0 : Hp} {v : Nat → Int32} {a : Nat → Nat} {p q : Nat} (c117 : h0.1 117 = some (mO v)) (c118 : h0.1 118 = some (aI 3531 (nA a))) (hP : a 4 ≤ 8) (hp : p < 2 ^ 31) (hq : q < 2 ^ 31) (hd : 1 ≤ d) : Cn E mX10_areTwo d [.ref 117, .long (lN p), .long (lN q)] h0 (fun r h2 => r = some (.int (if p < a 4 ∧ q < a 4 ∧ p ≠ q then (1 : Int32) else 0)) ∧ h2 = h0) := by
  refine (c_areTwo (p := lN p) (q := lN q) c117 c118 hd).mono ?_
  rintro r h2 ⟨q1, q2⟩
  refine ⟨?_, q2⟩
  have : lN p ≠ lN q ↔ p ≠ q := not_congr (pk_lEQ (by omega) (by omega))
  rw [q1]
  simp only [tw1 hP hp, tw1 hP hq, this]
abbrev lR (l h : Nat) (x : Int64) : Prop := lN l ≤ x ∧ x ≤ lN h
theorem lR_of {l h : Nat} {x : Int64} (hh : h < 2 ^ 31) (hl : l ≤ h) (q : lR l h x) : ∃ k, l ≤ k ∧ k ≤ h ∧ x = lN k := by
  have h0 : ¬ x < 0 := by
    intro z
    have : lN l < lN 0 := Int64.lt_of_le_of_lt q.1 z
    rw [pk_lLT (by omega) (by decide)] at this
    omega
  obtain ⟨k, hk, rfl⟩ := pk_lOf h0
  have h2 := (pk_lLE hk (by omega)).mp q.2
  exact ⟨k, (pk_lLE (by omega) hk).mp q.1, h2, rfl⟩
theorem lR_lN {l h k : Nat} (hh : h < 2 ^ 31) (h1 : l ≤ k) (h2 : k ≤ h) : lR l h (lN k) := ⟨(pk_lLE (by omega) (by omega)).mpr h1, (pk_lLE (by omega) (by omega)).mpr h2⟩
theorem lR_no {l h k : Nat} (hh : h < 2 ^ 31) (hk : k < 2 ^ 31) (hl : l < 2 ^ 31) (q : ¬ (l ≤ k ∧ k ≤ h)) : ¬ lR l h (lN k) := fun z => q ⟨(pk_lLE (by omega) (by omega)).mp z.1, (pk_lLE (by omega) (by omega)).mp z.2⟩
def whyD (a : Nat → Nat) (x : Int64) : Nat := if lR 0 15 x then whyF a x else if lR 100 109 x then 0 else if lR 200 399 x then (if x.toNatClampNeg % 100 / 10 < a 4 ∧ x.toNatClampNeg % 10 < a 4 ∧ x.toNatClampNeg % 100 / 10 ≠ x.toNatClampNeg % 10 then 0 else 1) else 1
def doesN (a : Nat → Nat) (k : Nat) : Nat → Nat := if k < 16 then goesN a k else if k < 200 then va_up a 27 (k - 100) else hintN a (k % 100 / 10) (k % 10) (if k < 300 then 1 else 0)
set_option maxRecDepth 20000 in
set_option maxHeartbeats 1000000 in
theorem c_whyNot {E : EnvT} {d : Nat} {h0 : Hp} {v : Nat → Int32} {a : Nat → Nat} {x : Int64} (c117 : h0.1 117 = some (mO v)) (c118 : h0.1 118 = some (aI 3531 (nA a))) (hA : AIN a) (hd : 3 ≤ d) : Cn E mX10_whyNot d [.ref 117, .long x] h0 (fun r h2 => r = some (.int (nI (whyD a x))) ∧ h2 = h0) := by
  by_cases g1 : lR 0 15 x
  · skip
    refine Cn.go (ls := [.ref 117, .long x, .float 0]) (by decide +kernel) rfl (Nat.le_of_ble_eq_true rfl) ?_
    refine r_lload_n (pc2 := 1) 1 dX10_whyNot_0 rfl rfl rfl ?_
    refine r_lconst (pc2 := 2) (v := 0) dX10_whyNot_1 (by decide) rfl ?_
    refine r_ldc2 (pc2 := 5) (v := 15) qX10_301 dX10_whyNot_2 rfl ?_
    refine r_callS1 (pc2 := 8) (As := [.long x, .long 0, .long 15]) (st := []) kX10_152 dX10_whyNot_5 rfl rfl (Nat.le_of_ble_eq_true rfl) (by omega) (c_within x 0 15) rfl (fun h2 hq5 => ?_)
    subst hq5
    refine r_if_eq (tgt := 21) (pc2 := 11) dX10_whyNot_8 (by decide) rfl (fun b8 => ?_) (fun b8 => ?_)
    · exact absurd b8 (if1 g1)
    · skip
      refine r_aload_n (pc2 := 12) 0 dX10_whyNot_11 rfl rfl rfl rfl ?_
      refine r_aload_n (pc2 := 13) 0 dX10_whyNot_12 rfl rfl rfl rfl ?_
      refine r_callV1 (pc2 := 16) (As := []) (st := [.ref 117]) kX10_266 rfl rfl dX10_whyNot_13 c117 (by decide) rfl rfl (Nat.le_of_ble_eq_true rfl) (by omega) (c_standNow c117 c118 hA.G hA.c7 hA.dp) rfl (fun h2 hq13 => ?_)
      subst hq13
      refine r_lload_n (pc2 := 17) 1 dX10_whyNot_16 rfl rfl rfl ?_
      refine r_callV1 (pc2 := 20) (As := [.int (nI (packS a)), .long x]) (st := []) kX10_269 rfl rfl dX10_whyNot_17 c117 (by decide) rfl rfl (Nat.le_of_ble_eq_true rfl) (by omega) (c_whyF c117 c118 hA (by omega)) rfl (fun h2 hq17 => ?_)
      subst hq17
      exact r_iret rfl dX10_whyNot_20 ⟨by rw [whyD, if_pos g1], rfl⟩
  by_cases g2 : lR 100 109 x
  · skip
    refine Cn.go (ls := [.ref 117, .long x, .float 0]) (by decide +kernel) rfl (Nat.le_of_ble_eq_true rfl) ?_
    refine r_lload_n (pc2 := 1) 1 dX10_whyNot_0 rfl rfl rfl ?_
    refine r_lconst (pc2 := 2) (v := 0) dX10_whyNot_1 (by decide) rfl ?_
    refine r_ldc2 (pc2 := 5) (v := 15) qX10_301 dX10_whyNot_2 rfl ?_
    refine r_callS1 (pc2 := 8) (As := [.long x, .long 0, .long 15]) (st := []) kX10_152 dX10_whyNot_5 rfl rfl (Nat.le_of_ble_eq_true rfl) (by omega) (c_within x 0 15) rfl (fun h2 hq5 => ?_)
    subst hq5
    refine r_if_eq (tgt := 21) (pc2 := 11) dX10_whyNot_8 (by decide) rfl (fun b8 => ?_) (fun b8 => ?_)
    · skip
      refine r_lload_n (pc2 := 22) 1 dX10_whyNot_21 rfl rfl rfl ?_
      refine r_ldc2 (pc2 := 25) (v := 100) qX10_303 dX10_whyNot_22 rfl ?_
      refine r_ldc2 (pc2 := 28) (v := 109) qX10_305 dX10_whyNot_25 rfl ?_
      refine r_callS1 (pc2 := 31) (As := [.long x, .long 100, .long 109]) (st := []) kX10_152 dX10_whyNot_28 rfl rfl (Nat.le_of_ble_eq_true rfl) (by omega) (c_within x 100 109) rfl (fun h2 hq28 => ?_)
      subst hq28
      refine r_if_eq (tgt := 36) (pc2 := 34) dX10_whyNot_31 (by decide) rfl (fun b31 => ?_) (fun b31 => ?_)
      · exact absurd b31 (if1 g2)
      · skip
        refine r_iconst (pc2 := 35) (v := 0) dX10_whyNot_34 (by decide) rfl ?_
        exact r_iret rfl dX10_whyNot_35 ⟨by rw [whyD, if_neg g1, if_pos g2]; rfl, rfl⟩
    · exact absurd (if0 g1) b8
  by_cases g3 : lR 200 399 x
  · obtain ⟨k, k1, k2, rfl⟩ := lR_of (by decide) (by decide) g3
    refine Cn.go (ls := [.ref 117, .long (lN k), .float 0]) (by decide +kernel) rfl (Nat.le_of_ble_eq_true rfl) ?_
    refine r_lload_n (pc2 := 1) 1 dX10_whyNot_0 rfl rfl rfl ?_
    refine r_lconst (pc2 := 2) (v := 0) dX10_whyNot_1 (by decide) rfl ?_
    refine r_ldc2 (pc2 := 5) (v := 15) qX10_301 dX10_whyNot_2 rfl ?_
    refine r_callS1 (pc2 := 8) (As := [.long (lN k), .long 0, .long 15]) (st := []) kX10_152 dX10_whyNot_5 rfl rfl (Nat.le_of_ble_eq_true rfl) (by omega) (c_within (lN k) 0 15) rfl (fun h2 hq5 => ?_)
    subst hq5
    refine r_if_eq (tgt := 21) (pc2 := 11) dX10_whyNot_8 (by decide) rfl (fun b8 => ?_) (fun b8 => ?_)
    · skip
      refine r_lload_n (pc2 := 22) 1 dX10_whyNot_21 rfl rfl rfl ?_
      refine r_ldc2 (pc2 := 25) (v := 100) qX10_303 dX10_whyNot_22 rfl ?_
      refine r_ldc2 (pc2 := 28) (v := 109) qX10_305 dX10_whyNot_25 rfl ?_
      refine r_callS1 (pc2 := 31) (As := [.long (lN k), .long 100, .long 109]) (st := []) kX10_152 dX10_whyNot_28 rfl rfl (Nat.le_of_ble_eq_true rfl) (by omega) (c_within (lN k) 100 109) rfl (fun h2 hq28 => ?_)
      subst hq28
      refine r_if_eq (tgt := 36) (pc2 := 34) dX10_whyNot_31 (by decide) rfl (fun b31 => ?_) (fun b31 => ?_)
      · skip
        refine r_lload_n (pc2 := 37) 1 dX10_whyNot_36 rfl rfl rfl ?_
        refine r_ldc2 (pc2 := 40) (v := 200) qX10_307 dX10_whyNot_37 rfl ?_
        refine r_ldc2 (pc2 := 43) (v := 399) qX10_309 dX10_whyNot_40 rfl ?_
        refine r_callS1 (pc2 := 46) (As := [.long (lN k), .long 200, .long 399]) (st := []) kX10_152 dX10_whyNot_43 rfl rfl (Nat.le_of_ble_eq_true rfl) (by omega) (c_within (lN k) 200 399) rfl (fun h2 hq43 => ?_)
        subst hq43
        refine r_if_eq (tgt := 74) (pc2 := 49) dX10_whyNot_46 (by decide) rfl (fun b46 => ?_) (fun b46 => ?_)
        · exact absurd b46 (if1 g3)
        · skip
          refine r_aload_n (pc2 := 50) 0 dX10_whyNot_49 rfl rfl rfl rfl ?_
          refine r_lload_n (pc2 := 51) 1 dX10_whyNot_50 rfl rfl rfl ?_
          refine r_ldc2 (pc2 := 54) (v := 100) qX10_303 dX10_whyNot_51 rfl ?_
          refine r_lrem (pc2 := 55) dX10_whyNot_54 (by decide) rfl ?_
          refine r_castl (lN (k % 100)) (pk_lRem (b := 100) (by omega) (by decide) (by decide)) ?_
          refine r_ldc2 (pc2 := 58) (v := 10) qX10_299 dX10_whyNot_55 rfl ?_
          refine r_ldiv (pc2 := 59) dX10_whyNot_58 (by decide) rfl ?_
          refine r_castl (lN (k % 100 / 10)) (pk_lDiv (b := 10) (by omega) (by decide) (by decide)) ?_
          refine r_lload_n (pc2 := 60) 1 dX10_whyNot_59 rfl rfl rfl ?_
          refine r_ldc2 (pc2 := 63) (v := 10) qX10_299 dX10_whyNot_60 rfl ?_
          refine r_lrem (pc2 := 64) dX10_whyNot_63 (by decide) rfl ?_
          refine r_castl (lN (k % 10)) (pk_lRem (b := 10) (by omega) (by decide) (by decide)) ?_
          refine r_callV1 (pc2 := 67) (As := [.long (lN (k % 100 / 10)), .long (lN (k % 10))]) (st := []) kX10_290 rfl rfl dX10_whyNot_64 c117 (by decide) rfl rfl (Nat.le_of_ble_eq_true rfl) (by omega) (c_areTwoN (p := (k % 100 / 10)) (q := (k % 10)) c117 c118 hA.P (by omega) (by omega) (by omega)) rfl (fun h2 hq64 => ?_)
          subst hq64
          refine r_if_eq (tgt := 74) (pc2 := 70) dX10_whyNot_67 (by decide) rfl (fun b67 => ?_) (fun b67 => ?_)
          · skip
            refine r_iconst (pc2 := 75) (v := 1) dX10_whyNot_74 (by decide) rfl ?_
            exact r_iret rfl dX10_whyNot_75 ⟨by rw [whyD, if_neg g1, if_neg g2, if_pos g3, lN_clamp (by omega), if_neg (fun z => if1 z b67)]; rfl, rfl⟩
          · skip
            refine r_iconst (pc2 := 71) (v := 0) dX10_whyNot_70 (by decide) rfl ?_
            refine r_goto (pc2 := 75) dX10_whyNot_71 (by decide) ?_
            exact r_iret rfl dX10_whyNot_75 ⟨by rw [whyD, if_neg g1, if_neg g2, if_pos g3, lN_clamp (by omega), if_pos (by by_cases z : (k % 100 / 10 < a 4 ∧ k % 10 < a 4 ∧ k % 100 / 10 ≠ k % 10); exact z; exact absurd (if0 z) b67)]; rfl, rfl⟩
      · exact absurd (if0 g2) b31
    · exact absurd (if0 g1) b8
  · skip
    refine Cn.go (ls := [.ref 117, .long x, .float 0]) (by decide +kernel) rfl (Nat.le_of_ble_eq_true rfl) ?_
    refine r_lload_n (pc2 := 1) 1 dX10_whyNot_0 rfl rfl rfl ?_
    refine r_lconst (pc2 := 2) (v := 0) dX10_whyNot_1 (by decide) rfl ?_
    refine r_ldc2 (pc2 := 5) (v := 15) qX10_301 dX10_whyNot_2 rfl ?_
    refine r_callS1 (pc2 := 8) (As := [.long x, .long 0, .long 15]) (st := []) kX10_152 dX10_whyNot_5 rfl rfl (Nat.le_of_ble_eq_true rfl) (by omega) (c_within x 0 15) rfl (fun h2 hq5 => ?_)
    subst hq5
    refine r_if_eq (tgt := 21) (pc2 := 11) dX10_whyNot_8 (by decide) rfl (fun b8 => ?_) (fun b8 => ?_)
    · skip
      refine r_lload_n (pc2 := 22) 1 dX10_whyNot_21 rfl rfl rfl ?_
      refine r_ldc2 (pc2 := 25) (v := 100) qX10_303 dX10_whyNot_22 rfl ?_
      refine r_ldc2 (pc2 := 28) (v := 109) qX10_305 dX10_whyNot_25 rfl ?_
      refine r_callS1 (pc2 := 31) (As := [.long x, .long 100, .long 109]) (st := []) kX10_152 dX10_whyNot_28 rfl rfl (Nat.le_of_ble_eq_true rfl) (by omega) (c_within x 100 109) rfl (fun h2 hq28 => ?_)
      subst hq28
      refine r_if_eq (tgt := 36) (pc2 := 34) dX10_whyNot_31 (by decide) rfl (fun b31 => ?_) (fun b31 => ?_)
      · skip
        refine r_lload_n (pc2 := 37) 1 dX10_whyNot_36 rfl rfl rfl ?_
        refine r_ldc2 (pc2 := 40) (v := 200) qX10_307 dX10_whyNot_37 rfl ?_
        refine r_ldc2 (pc2 := 43) (v := 399) qX10_309 dX10_whyNot_40 rfl ?_
        refine r_callS1 (pc2 := 46) (As := [.long x, .long 200, .long 399]) (st := []) kX10_152 dX10_whyNot_43 rfl rfl (Nat.le_of_ble_eq_true rfl) (by omega) (c_within x 200 399) rfl (fun h2 hq43 => ?_)
        subst hq43
        refine r_if_eq (tgt := 74) (pc2 := 49) dX10_whyNot_46 (by decide) rfl (fun b46 => ?_) (fun b46 => ?_)
        · skip
          refine r_iconst (pc2 := 75) (v := 1) dX10_whyNot_74 (by decide) rfl ?_
          exact r_iret rfl dX10_whyNot_75 ⟨by rw [whyD, if_neg g1, if_neg g2, if_neg g3]; rfl, rfl⟩
        · exact absurd (if0 g3) b46
      · exact absurd (if0 g2) b31
    · exact absurd (if0 g1) b8
theorem whyD_ok {a : Nat → Nat} {x : Int64} (hA : AIN a) (h : whyD a x = 0) : ∃ k, k < 400 ∧ x = lN k ∧ ((k < 16 ∧ k < 2 ^ (a 3) ∧ stepOk a k ∧ a 26 ≠ 0) ∨ (100 ≤ k ∧ k ≤ 109) ∨ (200 ≤ k ∧ k ≤ 399 ∧ k % 100 / 10 < a 4 ∧ k % 10 < a 4 ∧ k % 100 / 10 ≠ k % 10)) := by
  unfold whyD at h
  by_cases h1 : lR 0 15 x
  · rw [if_pos h1] at h
    by_cases hv : vS (a 3) x
    · obtain ⟨n, hn, rfl⟩ := vS_of hA.G hv
      rw [whyF_of hA hn] at h
      have hb : 2 ^ (a 3) ≤ 16 := Nat.pow_le_pow_right (n := 2) (by decide) hA.G
      have := why2_0 hA h
      exact ⟨n, by omega, rfl, Or.inl ⟨by omega, hn, this.1, this.2⟩⟩
    · unfold whyF at h
      rw [if_neg hv] at h
      omega
  · rw [if_neg h1] at h
    by_cases h2 : lR 100 109 x
    · obtain ⟨k, k1, k2, rfl⟩ := lR_of (by decide) (by decide) h2
      exact ⟨k, by omega, rfl, Or.inr (Or.inl ⟨k1, k2⟩)⟩
    · rw [if_neg h2] at h
      by_cases h3 : lR 200 399 x
      · obtain ⟨k, k1, k2, rfl⟩ := lR_of (by decide) (by decide) h3
        rw [if_pos h3, lN_clamp (by omega)] at h
        by_cases h4 : k % 100 / 10 < a 4 ∧ k % 10 < a 4 ∧ k % 100 / 10 ≠ k % 10
        · exact ⟨k, by omega, rfl, Or.inr (Or.inr ⟨k1, k2, h4⟩)⟩
        · rw [if_neg h4] at h; omega
      · rw [if_neg h3] at h; omega
theorem hintN_out {a : Nat → Nat} {p q i k : Nat} (hp : p < 8) (hq : q < 8) (hk : k < 29 ∨ 45 ≤ k) : hintN a p q i k = a k := by
  unfold hintN
  rw [va_up_ne _ _ (by omega), va_up_ne _ _ (by omega), va_up_ne _ _ (by omega), va_up_ne _ _ (by omega)]
theorem hintN_lt {a : Nat → Nat} {p q i k : Nat} (hp : p < 8) (hq : q < 8) (hb : ∀ p, p < 8 → a (29 + p) < 256) (hu : ∀ p, p < 8 → a (37 + p) < 256) (hk : a k < 256) : hintN a p q i k < 256 := by
  unfold hintN va_up
  have b1 := setB_lt _ (hb p hp) q hq
  have b2 := setB_lt _ (hb q hq) p hp
  have b3 := setB_lt _ (hu p hp) q hq
  have b4 := setB_lt _ (hu q hq) p hp
  have c1 := clrB_lt _ q (hb p hp)
  have c2 := clrB_lt _ p (hb q hq)
  have c3 := clrB_lt _ q (hu p hp)
  have c4 := clrB_lt _ p (hu q hq)
  repeat' split
  all_goals assumption
theorem AIN.hint {a : Nat → Nat} {p q i : Nat} (hA : AIN a) (hp : p < 8) (hq : q < 8) : AIN (hintN a p q i) := by
  have e : ∀ k, k < 29 ∨ 45 ≤ k → hintN a p q i k = a k := fun k hk => hintN_out hp hq hk
  refine ⟨hA.1.of (fun k hk => e k (by omega)), ?_, ?_⟩
  · refine SOK.of (a := a) ⟨fun g hg => ?_, fun g hg hg2 => ?_, ?_, ?_, fun r hr => ?_, fun r hr => ?_⟩ (e 1 (by omega)) (e 3 (by omega))
    · show hintN a p q i (22 + g) ≤ a 1
      rw [e _ (by omega)]; exact hA.cl g hg
    · show hintN a p q i (22 + g) = 0
      rw [e _ (by omega)]; exact hA.c0 g hg hg2
    · show hintN a p q i 26 ≤ 9
      rw [e _ (by omega)]; exact hA.dp
    · show hintN a p q i 27 ≤ 9
      rw [e _ (by omega)]; exact hA.dr
    · show hintN a p q i (22 + (7 + r)) < 256
      rw [show 22 + (7 + r) = 29 + r by omega]; exact hintN_lt hp hq hA.bd hA.ub (hA.bd r hr)
    · show hintN a p q i (22 + (15 + r)) < 256
      rw [show 22 + (15 + r) = 37 + r by omega]; exact hintN_lt hp hq hA.bd hA.ub (hA.ub r hr)
  · refine ⟨by rw [e 45 (by omega)]; exact hA.nd, fun j hj => ?_⟩
    rw [e 45 (by omega)] at hj
    exact ((hA.2.2.2 j hj).ext (fun k hk => e _ (by omega))).of (e 1 (by omega)) (e 3 (by omega))
theorem AIN.dra {a : Nat → Nat} {n : Nat} (hA : AIN a) (hn : n ≤ 9) : AIN (va_up a 27 n) := by
  have e : ∀ k, k ≠ 27 → va_up a 27 n k = a k := fun k hk => va_up_ne _ _ hk
  refine ⟨hA.1.of (fun k hk => e k (by omega)), ?_, ?_⟩
  · refine SOK.of (a := a) ⟨fun g hg => ?_, fun g hg hg2 => ?_, ?_, ?_, fun r hr => ?_, fun r hr => ?_⟩ (e 1 (by omega)) (e 3 (by omega))
    · show va_up a 27 n (22 + g) ≤ a 1
      rw [e _ (by omega)]; exact hA.cl g hg
    · show va_up a 27 n (22 + g) = 0
      rw [e _ (by omega)]; exact hA.c0 g hg hg2
    · show va_up a 27 n 26 ≤ 9
      rw [e _ (by omega)]; exact hA.dp
    · show va_up a 27 n 27 ≤ 9
      rw [va_up_self]; exact hn
    · show va_up a 27 n (22 + (7 + r)) < 256
      rw [e _ (by omega), show 22 + (7 + r) = 29 + r by omega]; exact hA.bd r hr
    · show va_up a 27 n (22 + (15 + r)) < 256
      rw [e _ (by omega), show 22 + (15 + r) = 37 + r by omega]; exact hA.ub r hr
  · refine ⟨by rw [e 45 (by omega)]; exact hA.nd, fun j hj => ?_⟩
    rw [e 45 (by omega)] at hj
    exact ((hA.2.2.2 j hj).ext (fun k hk => e _ (by omega))).of (e 1 (by omega)) (e 3 (by omega))
theorem AIN.does {a : Nat → Nat} {k : Nat} (hA : AIN a) (h : whyD a (lN k) = 0) (hk : k < 400) : AIN (doesN a k) := by
  obtain ⟨k2, hk2, e, h⟩ := whyD_ok hA h
  rw [pk_lEQ (by omega) (by omega)] at e
  subst e
  have := hA.P
  unfold doesN
  rcases h with ⟨h1, h2, h3, h4⟩ | ⟨h1, h2⟩ | ⟨h1, h2, h3, h4, h5⟩
  · rw [if_pos h1]; exact hA.goes h3
  · rw [if_neg (by omega), if_pos (by omega)]; exact hA.dra (by omega)
  · rw [if_neg (by omega), if_neg (by omega)]; exact hA.hint (by omega) (by omega)
set_option maxRecDepth 20000 in
set_option maxHeartbeats 1000000 in
theorem c_does {E : EnvT} {d : Nat} {h0 : Hp} {v : Nat → Int32} {a : Nat → Nat} {f w : Nat → Int32} {k : Nat} (c117 : h0.1 117 = some (mO v)) (c118 : h0.1 118 = some (aI 3531 (nA a))) (c122 : h0.1 122 = some (aI 900 f)) (c123 : h0.1 123 = some (aI 9 w)) (hA : AIN a) (hk : k < 400) (hw : whyD a (lN k) = 0) (hd : 5 ≤ d) : Cn E mX10_does d [.ref 117, .int (nI k)] h0 (fun r h2 => r = none ∧ Ex [118, 122, 123] h0 h2 ∧ h2.1 118 = some (aI 3531 (nA (doesN a k))) ∧ (∃ f2, h2.1 122 = some (aI 900 f2)) ∧ ∃ w2, h2.1 123 = some (aI 9 w2)) := by
  have hx : Ex [118, 122, 123] h0 h0 := Ex.rf
  have hP := hA.P
  obtain ⟨k2, hk2, e, hh⟩ := whyD_ok hA hw
  rw [pk_lEQ (by omega) (by omega)] at e
  subst e
  rcases hh with ⟨g1, g2, hok, g4⟩ | ⟨g1, g2⟩ | ⟨g1, g2, g3, g4, g5⟩
  · skip
    refine Cn.go (ls := [.ref 117, .int (nI k)]) (by decide +kernel) rfl (Nat.le_of_ble_eq_true rfl) ?_
    refine r_iload_n (pc2 := 1) 1 dX10_does_0 rfl rfl rfl ?_
    refine r_bipush (pc2 := 3) (v := 16) dX10_does_1 (by decide) rfl ?_
    refine r_icmp_ge (tgt := 14) (pc2 := 6) dX10_does_3 (by decide) rfl (fun b3 => ?_) (fun b3 => ?_)
    · exact absurd b3 (nI_ge (b := 16) (by omega) (by decide))
    · skip
      refine r_aload_n (pc2 := 7) 0 dX10_does_6 rfl rfl rfl rfl ?_
      refine r_iload_n (pc2 := 8) 1 dX10_does_7 rfl rfl rfl ?_
      refine r_callV0 (pc2 := 11) (As := [.int (nI k)]) (st := []) kX10_282 rfl rfl dX10_does_8 c117 (by decide) rfl rfl (Nat.le_of_ble_eq_true rfl) (by omega) (c_goesHour (sn := k) c117 c118 c122 c123 hA (by omega) hok (by omega)) rfl (fun h hq8 => ?_)
      obtain ⟨hxg, c118, ⟨f2, c122⟩, ⟨w2, c123⟩⟩ := hq8
      have c117 := hxg.get (by decide) c117
      have hx := hx.trans hxg (by decide)
      refine r_goto (pc2 := 65) dX10_does_11 (by decide) ?_
      exact r_vret rfl dX10_does_65 ⟨rfl, hx, by rw [doesN, if_pos g1]; exact c118, ⟨_, c122⟩, ⟨_, c123⟩⟩
  · skip
    refine Cn.go (ls := [.ref 117, .int (nI k)]) (by decide +kernel) rfl (Nat.le_of_ble_eq_true rfl) ?_
    refine r_iload_n (pc2 := 1) 1 dX10_does_0 rfl rfl rfl ?_
    refine r_bipush (pc2 := 3) (v := 16) dX10_does_1 (by decide) rfl ?_
    refine r_icmp_ge (tgt := 14) (pc2 := 6) dX10_does_3 (by decide) rfl (fun b3 => ?_) (fun b3 => ?_)
    · skip
      refine r_iload_n (pc2 := 15) 1 dX10_does_14 rfl rfl rfl ?_
      refine r_sipush (pc2 := 18) (v := 200) dX10_does_15 (by decide) rfl ?_
      refine r_icmp_ge (tgt := 35) (pc2 := 21) dX10_does_18 (by decide) rfl (fun b18 => ?_) (fun b18 => ?_)
      · exact absurd b18 (nI_ge (b := 200) (by omega) (by decide))
      · skip
        refine r_aload_n (pc2 := 22) 0 dX10_does_21 rfl rfl rfl rfl ?_
        refine r_getf (pc2 := 25) (v := .ref 118) fX10_13 dX10_does_22 c117 (by decide) rfl rfl ?_
        refine r_bipush (pc2 := 27) (v := 27) dX10_does_25 (by decide) rfl ?_
        refine r_iload_n (pc2 := 28) 1 dX10_does_27 rfl rfl rfl ?_
        refine r_bipush (pc2 := 30) (v := 100) dX10_does_28 (by decide) rfl ?_
        refine r_isub (pc2 := 31) dX10_does_30 rfl ?_
        refine r_cast (nI (k - 100)) (pk_sub (b := 100) (by omega)) ?_
        refine r_iastN (pc2 := 32) 27 dX10_does_31 c118 (by decide) rfl (by decide) (by decide) rfl (fun h z31 o31 c118 => ?_)
        rw [upd_nA] at c118
        have c117 := (o31 117 (by decide)).trans c117
        have c122 := (o31 122 (by decide)).trans c122
        have c123 := (o31 123 (by decide)).trans c123
        have hx := hx.step (a := 118) (by decide) z31 o31
        refine r_goto (pc2 := 65) dX10_does_32 (by decide) ?_
        exact r_vret rfl dX10_does_65 ⟨rfl, hx, by rw [doesN, if_neg (by omega), if_pos (by omega)]; exact c118, ⟨_, c122⟩, ⟨_, c123⟩⟩
    · exact absurd (nI_le (a := 16) (by omega) (by omega)) b3
  · by_cases g6 : k < 300
    · skip
      refine Cn.go (ls := [.ref 117, .int (nI k)]) (by decide +kernel) rfl (Nat.le_of_ble_eq_true rfl) ?_
      refine r_iload_n (pc2 := 1) 1 dX10_does_0 rfl rfl rfl ?_
      refine r_bipush (pc2 := 3) (v := 16) dX10_does_1 (by decide) rfl ?_
      refine r_icmp_ge (tgt := 14) (pc2 := 6) dX10_does_3 (by decide) rfl (fun b3 => ?_) (fun b3 => ?_)
      · skip
        refine r_iload_n (pc2 := 15) 1 dX10_does_14 rfl rfl rfl ?_
        refine r_sipush (pc2 := 18) (v := 200) dX10_does_15 (by decide) rfl ?_
        refine r_icmp_ge (tgt := 35) (pc2 := 21) dX10_does_18 (by decide) rfl (fun b18 => ?_) (fun b18 => ?_)
        · skip
          refine r_aload_n (pc2 := 36) 0 dX10_does_35 rfl rfl rfl rfl ?_
          refine r_getf (pc2 := 39) (v := .ref 118) fX10_13 dX10_does_36 c117 (by decide) rfl rfl ?_
          refine r_iload_n (pc2 := 40) 1 dX10_does_39 rfl rfl rfl ?_
          refine r_bipush (pc2 := 42) (v := 100) dX10_does_40 (by decide) rfl ?_
          refine r_irem (pc2 := 43) dX10_does_42 (by decide) rfl ?_
          refine r_cast (nI (k % 100)) (pk_rem (d := 100) (by omega) (by decide) (by decide)) ?_
          refine r_bipush (pc2 := 45) (v := 10) dX10_does_43 (by decide) rfl ?_
          refine r_idiv (pc2 := 46) dX10_does_45 (by decide) rfl ?_
          refine r_cast (nI (k % 100 / 10)) (pk_div (d := 10) (by omega) (by decide) (by decide)) ?_
          refine r_iload_n (pc2 := 47) 1 dX10_does_46 rfl rfl rfl ?_
          refine r_bipush (pc2 := 49) (v := 10) dX10_does_47 (by decide) rfl ?_
          refine r_irem (pc2 := 50) dX10_does_49 (by decide) rfl ?_
          refine r_cast (nI (k % 10)) (pk_rem (d := 10) (by omega) (by decide) (by decide)) ?_
          refine r_iload_n (pc2 := 51) 1 dX10_does_50 rfl rfl rfl ?_
          refine r_sipush (pc2 := 54) (v := 300) dX10_does_51 (by decide) rfl ?_
          refine r_icmp_ge (tgt := 61) (pc2 := 57) dX10_does_54 (by decide) rfl (fun b54 => ?_) (fun b54 => ?_)
          · exact absurd b54 (nI_ge (b := 300) (by omega) (by decide))
          · skip
            refine r_iconst (pc2 := 58) (v := 1) dX10_does_57 (by decide) rfl ?_
            refine r_goto (pc2 := 62) dX10_does_58 (by decide) ?_
            refine r_callS0 (pc2 := 65) (As := [.ref 118, .int (nI (k % 100 / 10)), .int (nI (k % 10)), .int 1]) (st := []) kX10_199 dX10_does_62 rfl rfl (Nat.le_of_ble_eq_true rfl) (by omega) (c_hint118_1 (p := k % 100 / 10) (q := k % 10) c118 (by omega) (by omega) g5 hA.bd hA.ub) rfl (fun h hq62 => ?_)
            obtain ⟨hx3, c118⟩ := hq62
            have c117 := hx3.get (by decide) c117
            have c122 := hx3.get (by decide) c122
            have c123 := hx3.get (by decide) c123
            have hx := hx.trans hx3 (by decide)
            exact r_vret rfl dX10_does_65 ⟨rfl, hx, by rw [doesN, if_neg (by omega), if_neg (by omega), if_pos g6]; exact c118, ⟨_, c122⟩, ⟨_, c123⟩⟩
        · exact absurd (nI_le (a := 200) (by omega) (by omega)) b18
      · exact absurd (nI_le (a := 16) (by omega) (by omega)) b3
    · skip
      refine Cn.go (ls := [.ref 117, .int (nI k)]) (by decide +kernel) rfl (Nat.le_of_ble_eq_true rfl) ?_
      refine r_iload_n (pc2 := 1) 1 dX10_does_0 rfl rfl rfl ?_
      refine r_bipush (pc2 := 3) (v := 16) dX10_does_1 (by decide) rfl ?_
      refine r_icmp_ge (tgt := 14) (pc2 := 6) dX10_does_3 (by decide) rfl (fun b3 => ?_) (fun b3 => ?_)
      · skip
        refine r_iload_n (pc2 := 15) 1 dX10_does_14 rfl rfl rfl ?_
        refine r_sipush (pc2 := 18) (v := 200) dX10_does_15 (by decide) rfl ?_
        refine r_icmp_ge (tgt := 35) (pc2 := 21) dX10_does_18 (by decide) rfl (fun b18 => ?_) (fun b18 => ?_)
        · skip
          refine r_aload_n (pc2 := 36) 0 dX10_does_35 rfl rfl rfl rfl ?_
          refine r_getf (pc2 := 39) (v := .ref 118) fX10_13 dX10_does_36 c117 (by decide) rfl rfl ?_
          refine r_iload_n (pc2 := 40) 1 dX10_does_39 rfl rfl rfl ?_
          refine r_bipush (pc2 := 42) (v := 100) dX10_does_40 (by decide) rfl ?_
          refine r_irem (pc2 := 43) dX10_does_42 (by decide) rfl ?_
          refine r_cast (nI (k % 100)) (pk_rem (d := 100) (by omega) (by decide) (by decide)) ?_
          refine r_bipush (pc2 := 45) (v := 10) dX10_does_43 (by decide) rfl ?_
          refine r_idiv (pc2 := 46) dX10_does_45 (by decide) rfl ?_
          refine r_cast (nI (k % 100 / 10)) (pk_div (d := 10) (by omega) (by decide) (by decide)) ?_
          refine r_iload_n (pc2 := 47) 1 dX10_does_46 rfl rfl rfl ?_
          refine r_bipush (pc2 := 49) (v := 10) dX10_does_47 (by decide) rfl ?_
          refine r_irem (pc2 := 50) dX10_does_49 (by decide) rfl ?_
          refine r_cast (nI (k % 10)) (pk_rem (d := 10) (by omega) (by decide) (by decide)) ?_
          refine r_iload_n (pc2 := 51) 1 dX10_does_50 rfl rfl rfl ?_
          refine r_sipush (pc2 := 54) (v := 300) dX10_does_51 (by decide) rfl ?_
          refine r_icmp_ge (tgt := 61) (pc2 := 57) dX10_does_54 (by decide) rfl (fun b54 => ?_) (fun b54 => ?_)
          · skip
            refine r_iconst (pc2 := 62) (v := 0) dX10_does_61 (by decide) rfl ?_
            refine r_callS0 (pc2 := 65) (As := [.ref 118, .int (nI (k % 100 / 10)), .int (nI (k % 10)), .int 0]) (st := []) kX10_199 dX10_does_62 rfl rfl (Nat.le_of_ble_eq_true rfl) (by omega) (c_hint118_0 (p := k % 100 / 10) (q := k % 10) c118 (by omega) (by omega) g5 hA.bd hA.ub) rfl (fun h hq62 => ?_)
            obtain ⟨hx3, c118⟩ := hq62
            have c117 := hx3.get (by decide) c117
            have c122 := hx3.get (by decide) c122
            have c123 := hx3.get (by decide) c123
            have hx := hx.trans hx3 (by decide)
            exact r_vret rfl dX10_does_65 ⟨rfl, hx, by rw [doesN, if_neg (by omega), if_neg (by omega), if_neg g6]; exact c118, ⟨_, c122⟩, ⟨_, c123⟩⟩
          · exact absurd (nI_le (a := 300) (by omega) (by omega)) b54
        · exact absurd (nI_le (a := 200) (by omega) (by omega)) b18
      · exact absurd (nI_le (a := 16) (by omega) (by omega)) b3
