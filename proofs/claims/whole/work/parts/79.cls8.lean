/-! the class: hints, draughts, told deeds -/
theorem dra_sd (a : FR) (n : Nat) : sdL (keepV (va_up a 27 n)) = [.int (nI (tow (keepV a))), .int (nI (a 26)), .long (bL (keepV a) 7), .long (bL (keepV a) 15), .int (nI n), .int (nI (a 28))] := by
  have e : ∀ k, k ≠ 5 → keepV (va_up a 27 n) k = keepV a k := fun k hk => va_up_ne _ _ (by omega)
  have cb : ∀ o, 7 ≤ o → bL (keepV (va_up a 27 n)) o = bL (keepV a) o := fun o h1 => by
    unfold bL
    rw [e o (by omega), e _ (by omega), e _ (by omega), e _ (by omega), e _ (by omega), e _ (by omega), e _ (by omega), e _ (by omega)]
  have t : tow (keepV (va_up a 27 n)) = tow (keepV a) := by
    unfold tow
    rw [e 0 (by omega), e 1 (by omega), e 2 (by omega), e 3 (by omega)]
  unfold sdL
  rw [cb 7 (by omega), cb 15 (by omega), t, e 4 (by omega), e 6 (by omega), show keepV (va_up a 27 n) 5 = n from va_up_self _ _ _]
  rfl
theorem inR_iff {l h : Nat} (hl : l < 2 ^ 31) (hh : h < 2 ^ 31) (x : Int32) : inR l h x ↔ nI l ≤ x ∧ x ≤ nI h := by
  unfold inR
  rw [← nI_l hl, ← nI_l hh, i2l_le, i2l_le]
theorem lN_i32 {k : Nat} (h : k < 2 ^ 31) : (lN k).toInt32 = nI k := by
  apply Int32.toInt_inj.mp
  rw [Int64.toInt_toInt32, lN_toInt h, nI_toInt h, q_bm32 (by omega) (by omega)]
set_option maxRecDepth 20000 in
set_option maxHeartbeats 1000000 in
theorem c_addHint0 {E : EnvT} {d : Nat} {h0 : Hp} {a : FR} {p x y : Nat} (cp : h0.1 p = some (.inr (5, sdL (keepV a)))) (hp : p = 76 ∨ p = 77) (hA : AIN a) (hx8 : x < 8) (hy8 : y < 8) (hxy : x ≠ y) : Cn E mX5_addHint d [.ref p, .int (nI x), .int (nI y), .int 0] h0 (fun r h2 => r = none ∧ Ex [p] h0 h2 ∧ h2.1 p = some (.inr (5, sdL (keepV (hintN a x y 0))))) := by
  have hx : Ex [p] h0 h0 := Ex.rf
  refine Cn.go (ls := [.ref p, .int (nI x), .int (nI y), .int 0, .float 0, .float 0]) (by decide +kernel) rfl (Nat.le_of_ble_eq_true rfl) ?_
  refine r_lconst (pc2 := 1) (v := 1) dX5_addHint_0 (by decide) rfl ?_
  refine r_bipush (pc2 := 3) (v := 8) dX5_addHint_1 (by decide) rfl ?_
  refine r_iload_n (pc2 := 4) 1 dX5_addHint_3 rfl rfl rfl ?_
  refine r_imul (pc2 := 5) dX5_addHint_4 rfl ?_
  refine r_cast (nI (8 * x)) (pk_mul 8 x) ?_
  refine r_iload_n (pc2 := 6) 2 dX5_addHint_5 rfl rfl rfl ?_
  refine r_iadd (pc2 := 7) dX5_addHint_6 rfl ?_
  refine r_cast (nI (8 * x + y)) (nI_add _ _) ?_
  refine r_lshl (pc2 := 8) dX5_addHint_7 rfl ?_
  refine r_castl (lN (2 ^ (8 * x + y))) (shl64 _ (by omega)) ?_
  refine r_lconst (pc2 := 9) (v := 1) dX5_addHint_8 (by decide) rfl ?_
  refine r_bipush (pc2 := 11) (v := 8) dX5_addHint_9 (by decide) rfl ?_
  refine r_iload_n (pc2 := 12) 2 dX5_addHint_11 rfl rfl rfl ?_
  refine r_imul (pc2 := 13) dX5_addHint_12 rfl ?_
  refine r_cast (nI (8 * y)) (pk_mul 8 y) ?_
  refine r_iload_n (pc2 := 14) 1 dX5_addHint_13 rfl rfl rfl ?_
  refine r_iadd (pc2 := 15) dX5_addHint_14 rfl ?_
  refine r_cast (nI (8 * y + x)) (nI_add _ _) ?_
  refine r_lshl (pc2 := 16) dX5_addHint_15 rfl ?_
  refine r_castl (lN (2 ^ (8 * y + x))) (shl64 _ (by omega)) ?_
  refine r_lor (pc2 := 17) dX5_addHint_16 rfl ?_
  refine r_castl (pairL x y) (lN_or _ _) ?_
  refine r_topl (fun x17 e17 => ?_)
  refine r_lstore (pc2 := 19) (ls2 := [.ref p, .int (nI x), .int (nI y), .int 0, .long x17, .float 0]) 4 dX5_addHint_17 (by decide) rfl rfl rfl ?_
  refine r_aload_n (pc2 := 20) 0 dX5_addHint_19 rfl rfl rfl rfl ?_
  refine r_iload_n (pc2 := 21) 3 dX5_addHint_20 rfl rfl rfl ?_
  refine r_if_eq (tgt := 34) (pc2 := 24) dX5_addHint_21 (by decide) rfl (fun b21 => ?_) (fun b21 => ?_)
  · skip
    refine r_aload_n (pc2 := 35) 0 dX5_addHint_34 rfl rfl rfl rfl ?_
    refine r_getf (pc2 := 38) (v := .long (bL (keepV a) 7)) fX5_16 dX5_addHint_35 cp (by omega) rfl rfl ?_
    refine r_lload (pc2 := 40) 4 dX5_addHint_38 rfl rfl ?_
    refine r_ldc2 (pc2 := 43) (v := -1) qX5_29 dX5_addHint_40 rfl ?_
    refine r_lxor (pc2 := 44) dX5_addHint_43 rfl ?_
    refine r_land (pc2 := 45) dX5_addHint_44 rfl ?_
    refine r_topl (fun y45 ey45 => ?_)
    refine r_putfX (pc2 := 48) [.int (nI (tow (keepV a))), .int (nI (a 26)), .long y45, .long (bL (keepV a) 15), .int (nI (a 27)), .int (nI (a 28))] fX5_16 dX5_addHint_45 cp (by omega) (Nat.le_of_ble_eq_true rfl) rfl rfl rfl (fun h z45 o45 cp => ?_)
    have hx := hx.step (a := p) (by simp) z45 o45
    refine r_aload_n (pc2 := 49) 0 dX5_addHint_48 rfl rfl rfl rfl ?_
    refine r_iload_n (pc2 := 50) 3 dX5_addHint_49 rfl rfl rfl ?_
    refine r_if_eq (tgt := 67) (pc2 := 53) dX5_addHint_50 (by decide) rfl (fun b50 => ?_) (fun b50 => ?_)
    · skip
      refine r_aload_n (pc2 := 68) 0 dX5_addHint_67 rfl rfl rfl rfl ?_
      refine r_getf (pc2 := 71) (v := .long (bL (keepV a) 15)) fX5_20 dX5_addHint_68 cp (by omega) rfl rfl ?_
      refine r_lload (pc2 := 73) 4 dX5_addHint_71 rfl rfl ?_
      refine r_lor (pc2 := 74) dX5_addHint_73 rfl ?_
      refine r_topl (fun y74 ey74 => ?_)
      refine r_putfX (pc2 := 77) [.int (nI (tow (keepV a))), .int (nI (a 26)), .long y45, .long y74, .int (nI (a 27)), .int (nI (a 28))] fX5_20 dX5_addHint_74 cp (by omega) (Nat.le_of_ble_eq_true rfl) rfl rfl rfl (fun h z74 o74 cp => ?_)
      have hx := hx.step (a := p) (by simp) z74 o74
      exact r_vret rfl dX5_addHint_77 ⟨rfl, hx, by rw [hint_sd hA hx8 hy8 hxy (by decide), if_neg (by decide), if_neg (by decide), ← e17, ← ey45, ← ey74]; exact cp⟩
    · exact absurd b50 (by decide)
  · exact absurd b21 (by decide)
set_option maxRecDepth 20000 in
set_option maxHeartbeats 1000000 in
theorem c_addHint1 {E : EnvT} {d : Nat} {h0 : Hp} {a : FR} {p x y : Nat} (cp : h0.1 p = some (.inr (5, sdL (keepV a)))) (hp : p = 76 ∨ p = 77) (hA : AIN a) (hx8 : x < 8) (hy8 : y < 8) (hxy : x ≠ y) : Cn E mX5_addHint d [.ref p, .int (nI x), .int (nI y), .int 1] h0 (fun r h2 => r = none ∧ Ex [p] h0 h2 ∧ h2.1 p = some (.inr (5, sdL (keepV (hintN a x y 1))))) := by
  have hx : Ex [p] h0 h0 := Ex.rf
  refine Cn.go (ls := [.ref p, .int (nI x), .int (nI y), .int 1, .float 0, .float 0]) (by decide +kernel) rfl (Nat.le_of_ble_eq_true rfl) ?_
  refine r_lconst (pc2 := 1) (v := 1) dX5_addHint_0 (by decide) rfl ?_
  refine r_bipush (pc2 := 3) (v := 8) dX5_addHint_1 (by decide) rfl ?_
  refine r_iload_n (pc2 := 4) 1 dX5_addHint_3 rfl rfl rfl ?_
  refine r_imul (pc2 := 5) dX5_addHint_4 rfl ?_
  refine r_cast (nI (8 * x)) (pk_mul 8 x) ?_
  refine r_iload_n (pc2 := 6) 2 dX5_addHint_5 rfl rfl rfl ?_
  refine r_iadd (pc2 := 7) dX5_addHint_6 rfl ?_
  refine r_cast (nI (8 * x + y)) (nI_add _ _) ?_
  refine r_lshl (pc2 := 8) dX5_addHint_7 rfl ?_
  refine r_castl (lN (2 ^ (8 * x + y))) (shl64 _ (by omega)) ?_
  refine r_lconst (pc2 := 9) (v := 1) dX5_addHint_8 (by decide) rfl ?_
  refine r_bipush (pc2 := 11) (v := 8) dX5_addHint_9 (by decide) rfl ?_
  refine r_iload_n (pc2 := 12) 2 dX5_addHint_11 rfl rfl rfl ?_
  refine r_imul (pc2 := 13) dX5_addHint_12 rfl ?_
  refine r_cast (nI (8 * y)) (pk_mul 8 y) ?_
  refine r_iload_n (pc2 := 14) 1 dX5_addHint_13 rfl rfl rfl ?_
  refine r_iadd (pc2 := 15) dX5_addHint_14 rfl ?_
  refine r_cast (nI (8 * y + x)) (nI_add _ _) ?_
  refine r_lshl (pc2 := 16) dX5_addHint_15 rfl ?_
  refine r_castl (lN (2 ^ (8 * y + x))) (shl64 _ (by omega)) ?_
  refine r_lor (pc2 := 17) dX5_addHint_16 rfl ?_
  refine r_castl (pairL x y) (lN_or _ _) ?_
  refine r_topl (fun x17 e17 => ?_)
  refine r_lstore (pc2 := 19) (ls2 := [.ref p, .int (nI x), .int (nI y), .int 1, .long x17, .float 0]) 4 dX5_addHint_17 (by decide) rfl rfl rfl ?_
  refine r_aload_n (pc2 := 20) 0 dX5_addHint_19 rfl rfl rfl rfl ?_
  refine r_iload_n (pc2 := 21) 3 dX5_addHint_20 rfl rfl rfl ?_
  refine r_if_eq (tgt := 34) (pc2 := 24) dX5_addHint_21 (by decide) rfl (fun b21 => ?_) (fun b21 => ?_)
  · exact absurd b21 (by decide)
  · skip
    refine r_aload_n (pc2 := 25) 0 dX5_addHint_24 rfl rfl rfl rfl ?_
    refine r_getf (pc2 := 28) (v := .long (bL (keepV a) 7)) fX5_16 dX5_addHint_25 cp (by omega) rfl rfl ?_
    refine r_lload (pc2 := 30) 4 dX5_addHint_28 rfl rfl ?_
    refine r_lor (pc2 := 31) dX5_addHint_30 rfl ?_
    refine r_goto (pc2 := 45) dX5_addHint_31 (by decide) ?_
    refine r_topl (fun y45 ey45 => ?_)
    refine r_putfX (pc2 := 48) [.int (nI (tow (keepV a))), .int (nI (a 26)), .long y45, .long (bL (keepV a) 15), .int (nI (a 27)), .int (nI (a 28))] fX5_16 dX5_addHint_45 cp (by omega) (Nat.le_of_ble_eq_true rfl) rfl rfl rfl (fun h z45 o45 cp => ?_)
    have hx := hx.step (a := p) (by simp) z45 o45
    refine r_aload_n (pc2 := 49) 0 dX5_addHint_48 rfl rfl rfl rfl ?_
    refine r_iload_n (pc2 := 50) 3 dX5_addHint_49 rfl rfl rfl ?_
    refine r_if_eq (tgt := 67) (pc2 := 53) dX5_addHint_50 (by decide) rfl (fun b50 => ?_) (fun b50 => ?_)
    · exact absurd b50 (by decide)
    · skip
      refine r_aload_n (pc2 := 54) 0 dX5_addHint_53 rfl rfl rfl rfl ?_
      refine r_getf (pc2 := 57) (v := .long (bL (keepV a) 15)) fX5_20 dX5_addHint_54 cp (by omega) rfl rfl ?_
      refine r_lload (pc2 := 59) 4 dX5_addHint_57 rfl rfl ?_
      refine r_ldc2 (pc2 := 62) (v := -1) qX5_29 dX5_addHint_59 rfl ?_
      refine r_lxor (pc2 := 63) dX5_addHint_62 rfl ?_
      refine r_land (pc2 := 64) dX5_addHint_63 rfl ?_
      refine r_goto (pc2 := 74) dX5_addHint_64 (by decide) ?_
      refine r_topl (fun y74 ey74 => ?_)
      refine r_putfX (pc2 := 77) [.int (nI (tow (keepV a))), .int (nI (a 26)), .long y45, .long y74, .int (nI (a 27)), .int (nI (a 28))] fX5_20 dX5_addHint_74 cp (by omega) (Nat.le_of_ble_eq_true rfl) rfl rfl rfl (fun h z74 o74 cp => ?_)
      have hx := hx.step (a := p) (by simp) z74 o74
      exact r_vret rfl dX5_addHint_77 ⟨rfl, hx, by rw [hint_sd hA hx8 hy8 hxy (by decide), if_pos rfl, if_pos rfl, ← e17, ← ey45, ← ey74]; exact cp⟩
set_option maxRecDepth 20000 in
set_option maxHeartbeats 1000000 in
theorem c_changeDraught {E : EnvT} {d : Nat} {h0 : Hp} {a : FR} {p : Nat} {x : Int32} (cp : h0.1 p = some (.inr (5, sdL (keepV a)))) (hp : p = 76 ∨ p = 77) : Cn E mX9_changeDraught d [.ref 64, .ref p, .int x] h0 (fun r h2 => r = some (.int (if inR 0 9 x then (0 : Int32) else 1)) ∧ Ex [p] h0 h2 ∧ h2.1 p = some (.inr (5, sdL (keepV (if inR 0 9 x then va_up a 27 x.toNatClampNeg else a))))) := by
  have hx : Ex [p] h0 h0 := Ex.rf
  by_cases hr : inR 0 9 x
  · obtain ⟨n, _, h9, rfl⟩ := inR_of (by decide) (by decide) hr
    refine Cn.go (ls := [.ref 64, .ref p, .int (nI n)]) (by decide +kernel) rfl (Nat.le_of_ble_eq_true rfl) ?_
    refine r_iload_n (pc2 := 1) 2 dX9_changeDraught_0 rfl rfl rfl ?_
    refine r_if_lt (tgt := 10) (pc2 := 4) dX9_changeDraught_1 (by decide) rfl (fun b1 => ?_) (fun b1 => ?_)
    · exact absurd b1 (nI_pos (by omega))
    · skip
      refine r_iload_n (pc2 := 5) 2 dX9_changeDraught_4 rfl rfl rfl ?_
      refine r_bipush (pc2 := 7) (v := 9) dX9_changeDraught_5 (by decide) rfl ?_
      refine r_icmp_le (tgt := 12) (pc2 := 10) dX9_changeDraught_7 (by decide) rfl (fun b7 => ?_) (fun b7 => ?_)
      · skip
        refine r_aload_n (pc2 := 13) 1 dX9_changeDraught_12 rfl rfl rfl rfl ?_
        refine r_iload_n (pc2 := 14) 2 dX9_changeDraught_13 rfl rfl rfl ?_
        refine r_putfX (pc2 := 17) [.int (nI (tow (keepV a))), .int (nI (a 26)), .long (bL (keepV a) 7), .long (bL (keepV a) 15), .int (nI n), .int (nI (a 28))] fX9_127 dX9_changeDraught_14 cp (by omega) (Nat.le_of_ble_eq_true rfl) rfl rfl rfl (fun h z14 o14 cp => ?_)
        have hx := hx.step (a := p) (by simp) z14 o14
        refine r_iconst (pc2 := 18) (v := 0) dX9_changeDraught_17 (by decide) rfl ?_
        exact r_iret rfl dX9_changeDraught_18 ⟨by rw [if_pos hr], hx, by rw [if_pos hr, nI_clamp (by omega), dra_sd]; exact cp⟩
      · exact absurd (nI_le (b := 9) h9 (by decide)) b7
  · skip
    refine Cn.go (ls := [.ref 64, .ref p, .int x]) (by decide +kernel) rfl (Nat.le_of_ble_eq_true rfl) ?_
    refine r_iload_n (pc2 := 1) 2 dX9_changeDraught_0 rfl rfl rfl ?_
    refine r_if_lt (tgt := 10) (pc2 := 4) dX9_changeDraught_1 (by decide) rfl (fun b1 => ?_) (fun b1 => ?_)
    · skip
      refine r_iconst (pc2 := 11) (v := 1) dX9_changeDraught_10 (by decide) rfl ?_
      exact r_iret rfl dX9_changeDraught_11 ⟨by rw [if_neg hr], Ex.rf, by rw [if_neg hr]; exact cp⟩
    · skip
      refine r_iload_n (pc2 := 5) 2 dX9_changeDraught_4 rfl rfl rfl ?_
      refine r_bipush (pc2 := 7) (v := 9) dX9_changeDraught_5 (by decide) rfl ?_
      refine r_icmp_le (tgt := 12) (pc2 := 10) dX9_changeDraught_7 (by decide) rfl (fun b7 => ?_) (fun b7 => ?_)
      · exact absurd ((inR_iff (l := 0) (h := 9) (by decide) (by decide) x).mpr ⟨Int32.not_lt.mp b1, b7⟩) hr
      · skip
        refine r_iconst (pc2 := 11) (v := 1) dX9_changeDraught_10 (by decide) rfl ?_
        exact r_iret rfl dX9_changeDraught_11 ⟨by rw [if_neg hr], Ex.rf, by rw [if_neg hr]; exact cp⟩
set_option maxRecDepth 20000 in
set_option maxHeartbeats 1000000 in
theorem c_tellHint0 {E : EnvT} {d : Nat} {h0 : Hp} {ns s un w1 w2 : Nat} {wk dt : Value} {sg lo so sa : Nat} {nl sl : Value} {b : FR} {a : FR} {p : Nat} {x y : Int32} (c64 : h0.1 64 = some (.inr (9, coL s ns un w1 w2 wk dt))) (cs : h0.1 s = some (.inr (6, stL sg b lo so sa nl sl))) (hs64 : 64 ≤ s) (cp : h0.1 p = some (.inr (5, sdL (keepV a)))) (hp : p = 76 ∨ p = 77) (hP : b 4 ≤ 8) (hA : AIN a) (hd : 1 ≤ d) : Cn E mX9_tellHint d [.ref 64, .ref p, .int x, .int y, .int 0] h0 (fun r h2 => r = some (.int (if ((inP (b 4) x ∧ inP (b 4) y) ∧ x ≠ y) then (0 : Int32) else 1)) ∧ Ex [p] h0 h2 ∧ h2.1 p = some (.inr (5, sdL (keepV (if ((inP (b 4) x ∧ inP (b 4) y) ∧ x ≠ y) then hintN a x.toNatClampNeg y.toNatClampNeg 0 else a))))) := by
  have hx : Ex [p] h0 h0 := Ex.rf
  by_cases hc : ((inP (b 4) x ∧ inP (b 4) y) ∧ x ≠ y)
  · obtain ⟨⟨hy1, hy2⟩, h3⟩ := id hc
    obtain ⟨m1, q1, rfl⟩ := inP_of (by omega) hy1
    obtain ⟨m2, q2, rfl⟩ := inP_of (by omega) hy2
    have hm : m1 ≠ m2 := fun z => h3 (by rw [z])
    refine Cn.go (ls := [.ref 64, .ref p, .int (nI m1), .int (nI m2), .int 0]) (by decide +kernel) rfl (Nat.le_of_ble_eq_true rfl) ?_
    refine r_aload_n (pc2 := 1) 0 dX9_tellHint_0 rfl rfl rfl rfl ?_
    refine r_iload_n (pc2 := 2) 2 dX9_tellHint_1 rfl rfl rfl ?_
    refine r_callV1 (pc2 := 5) (As := [.int (nI m1)]) (st := []) kX9_169 rfl rfl dX9_tellHint_2 c64 (by decide) rfl rfl (Nat.le_of_ble_eq_true rfl) (by omega) ((c_isPersonC c64 cs hs64 hP).mono fun r h2 q => ⟨q.1.trans (by rw [if_pos hy1]), q.2⟩) rfl (fun h2 hq2 => ?_)
    subst hq2
    refine r_if_eq (tgt := 21) (pc2 := 8) dX9_tellHint_5 (by decide) rfl (fun b5 => ?_) (fun b5 => ?_)
    · exact absurd b5 (by decide)
    · skip
      refine r_aload_n (pc2 := 9) 0 dX9_tellHint_8 rfl rfl rfl rfl ?_
      refine r_iload_n (pc2 := 10) 3 dX9_tellHint_9 rfl rfl rfl ?_
      refine r_callV1 (pc2 := 13) (As := [.int (nI m2)]) (st := []) kX9_169 rfl rfl dX9_tellHint_10 c64 (by decide) rfl rfl (Nat.le_of_ble_eq_true rfl) (by omega) ((c_isPersonC c64 cs hs64 hP).mono fun r h2 q => ⟨q.1.trans (by rw [if_pos hy2]), q.2⟩) rfl (fun h2 hq10 => ?_)
      subst hq10
      refine r_if_eq (tgt := 21) (pc2 := 16) dX9_tellHint_13 (by decide) rfl (fun b13 => ?_) (fun b13 => ?_)
      · exact absurd b13 (by decide)
      · skip
        refine r_iload_n (pc2 := 17) 2 dX9_tellHint_16 rfl rfl rfl ?_
        refine r_iload_n (pc2 := 18) 3 dX9_tellHint_17 rfl rfl rfl ?_
        refine r_icmp_ne (tgt := 23) (pc2 := 21) dX9_tellHint_18 (by decide) rfl (fun b18 => ?_) (fun b18 => ?_)
        · skip
          refine r_aload_n (pc2 := 24) 1 dX9_tellHint_23 rfl rfl rfl rfl ?_
          refine r_iload_n (pc2 := 25) 2 dX9_tellHint_24 rfl rfl rfl ?_
          refine r_iload_n (pc2 := 26) 3 dX9_tellHint_25 rfl rfl rfl ?_
          refine r_iload (pc2 := 28) 4 dX9_tellHint_26 rfl rfl ?_
          refine r_callV0 (pc2 := 31) (As := [.int (nI m1), .int (nI m2), .int 0]) (st := []) kX9_173 rfl rfl dX9_tellHint_28 cp (by omega) rfl rfl (Nat.le_of_ble_eq_true rfl) (by omega) (c_addHint0 cp hp hA (by omega) (by omega) hm) rfl (fun h hq28 => ?_)
          obtain ⟨hxc, cp⟩ := hq28
          have hx := hx.trans hxc (by simp)
          refine r_iconst (pc2 := 32) (v := 0) dX9_tellHint_31 (by decide) rfl ?_
          exact r_iret rfl dX9_tellHint_32 ⟨by rw [if_pos hc], hx, by rw [if_pos hc, nI_clamp (by omega), nI_clamp (by omega)]; exact cp⟩
        · exact absurd b18 hc.2
  · by_cases hy1 : inP (b 4) x
    · by_cases hy2 : inP (b 4) y
      · skip
        refine Cn.go (ls := [.ref 64, .ref p, .int x, .int y, .int 0]) (by decide +kernel) rfl (Nat.le_of_ble_eq_true rfl) ?_
        refine r_aload_n (pc2 := 1) 0 dX9_tellHint_0 rfl rfl rfl rfl ?_
        refine r_iload_n (pc2 := 2) 2 dX9_tellHint_1 rfl rfl rfl ?_
        refine r_callV1 (pc2 := 5) (As := [.int x]) (st := []) kX9_169 rfl rfl dX9_tellHint_2 c64 (by decide) rfl rfl (Nat.le_of_ble_eq_true rfl) (by omega) ((c_isPersonC c64 cs hs64 hP).mono fun r h2 q => ⟨q.1.trans (by rw [if_pos hy1]), q.2⟩) rfl (fun h2 hq2 => ?_)
        subst hq2
        refine r_if_eq (tgt := 21) (pc2 := 8) dX9_tellHint_5 (by decide) rfl (fun b5 => ?_) (fun b5 => ?_)
        · exact absurd b5 (by decide)
        · skip
          refine r_aload_n (pc2 := 9) 0 dX9_tellHint_8 rfl rfl rfl rfl ?_
          refine r_iload_n (pc2 := 10) 3 dX9_tellHint_9 rfl rfl rfl ?_
          refine r_callV1 (pc2 := 13) (As := [.int y]) (st := []) kX9_169 rfl rfl dX9_tellHint_10 c64 (by decide) rfl rfl (Nat.le_of_ble_eq_true rfl) (by omega) ((c_isPersonC c64 cs hs64 hP).mono fun r h2 q => ⟨q.1.trans (by rw [if_pos hy2]), q.2⟩) rfl (fun h2 hq10 => ?_)
          subst hq10
          refine r_if_eq (tgt := 21) (pc2 := 16) dX9_tellHint_13 (by decide) rfl (fun b13 => ?_) (fun b13 => ?_)
          · exact absurd b13 (by decide)
          · skip
            refine r_iload_n (pc2 := 17) 2 dX9_tellHint_16 rfl rfl rfl ?_
            refine r_iload_n (pc2 := 18) 3 dX9_tellHint_17 rfl rfl rfl ?_
            refine r_icmp_ne (tgt := 23) (pc2 := 21) dX9_tellHint_18 (by decide) rfl (fun b18 => ?_) (fun b18 => ?_)
            · exact absurd (Decidable.byContradiction (fun z => hc ⟨⟨hy1, hy2⟩, z⟩)) b18
            · skip
              refine r_iconst (pc2 := 22) (v := 1) dX9_tellHint_21 (by decide) rfl ?_
              exact r_iret rfl dX9_tellHint_22 ⟨by rw [if_neg (fun z => hc z)], Ex.rf, by rw [if_neg (fun z => hc z)]; exact cp⟩
      · skip
        refine Cn.go (ls := [.ref 64, .ref p, .int x, .int y, .int 0]) (by decide +kernel) rfl (Nat.le_of_ble_eq_true rfl) ?_
        refine r_aload_n (pc2 := 1) 0 dX9_tellHint_0 rfl rfl rfl rfl ?_
        refine r_iload_n (pc2 := 2) 2 dX9_tellHint_1 rfl rfl rfl ?_
        refine r_callV1 (pc2 := 5) (As := [.int x]) (st := []) kX9_169 rfl rfl dX9_tellHint_2 c64 (by decide) rfl rfl (Nat.le_of_ble_eq_true rfl) (by omega) ((c_isPersonC c64 cs hs64 hP).mono fun r h2 q => ⟨q.1.trans (by rw [if_pos hy1]), q.2⟩) rfl (fun h2 hq2 => ?_)
        subst hq2
        refine r_if_eq (tgt := 21) (pc2 := 8) dX9_tellHint_5 (by decide) rfl (fun b5 => ?_) (fun b5 => ?_)
        · exact absurd b5 (by decide)
        · skip
          refine r_aload_n (pc2 := 9) 0 dX9_tellHint_8 rfl rfl rfl rfl ?_
          refine r_iload_n (pc2 := 10) 3 dX9_tellHint_9 rfl rfl rfl ?_
          refine r_callV1 (pc2 := 13) (As := [.int y]) (st := []) kX9_169 rfl rfl dX9_tellHint_10 c64 (by decide) rfl rfl (Nat.le_of_ble_eq_true rfl) (by omega) ((c_isPersonC c64 cs hs64 hP).mono fun r h2 q => ⟨q.1.trans (by rw [if_neg hy2]), q.2⟩) rfl (fun h2 hq10 => ?_)
          subst hq10
          refine r_if_eq (tgt := 21) (pc2 := 16) dX9_tellHint_13 (by decide) rfl (fun b13 => ?_) (fun b13 => ?_)
          · skip
            refine r_iconst (pc2 := 22) (v := 1) dX9_tellHint_21 (by decide) rfl ?_
            exact r_iret rfl dX9_tellHint_22 ⟨by rw [if_neg (fun z => hc z)], Ex.rf, by rw [if_neg (fun z => hc z)]; exact cp⟩
          · exact absurd b13 (by decide)
    · skip
      refine Cn.go (ls := [.ref 64, .ref p, .int x, .int y, .int 0]) (by decide +kernel) rfl (Nat.le_of_ble_eq_true rfl) ?_
      refine r_aload_n (pc2 := 1) 0 dX9_tellHint_0 rfl rfl rfl rfl ?_
      refine r_iload_n (pc2 := 2) 2 dX9_tellHint_1 rfl rfl rfl ?_
      refine r_callV1 (pc2 := 5) (As := [.int x]) (st := []) kX9_169 rfl rfl dX9_tellHint_2 c64 (by decide) rfl rfl (Nat.le_of_ble_eq_true rfl) (by omega) ((c_isPersonC c64 cs hs64 hP).mono fun r h2 q => ⟨q.1.trans (by rw [if_neg hy1]), q.2⟩) rfl (fun h2 hq2 => ?_)
      subst hq2
      refine r_if_eq (tgt := 21) (pc2 := 8) dX9_tellHint_5 (by decide) rfl (fun b5 => ?_) (fun b5 => ?_)
      · skip
        refine r_iconst (pc2 := 22) (v := 1) dX9_tellHint_21 (by decide) rfl ?_
        exact r_iret rfl dX9_tellHint_22 ⟨by rw [if_neg (fun z => hc z)], Ex.rf, by rw [if_neg (fun z => hc z)]; exact cp⟩
      · exact absurd b5 (by decide)
set_option maxRecDepth 20000 in
set_option maxHeartbeats 1000000 in
theorem c_tellHint1 {E : EnvT} {d : Nat} {h0 : Hp} {ns s un w1 w2 : Nat} {wk dt : Value} {sg lo so sa : Nat} {nl sl : Value} {b : FR} {a : FR} {p : Nat} {x y : Int32} (c64 : h0.1 64 = some (.inr (9, coL s ns un w1 w2 wk dt))) (cs : h0.1 s = some (.inr (6, stL sg b lo so sa nl sl))) (hs64 : 64 ≤ s) (cp : h0.1 p = some (.inr (5, sdL (keepV a)))) (hp : p = 76 ∨ p = 77) (hP : b 4 ≤ 8) (hA : AIN a) (hd : 1 ≤ d) : Cn E mX9_tellHint d [.ref 64, .ref p, .int x, .int y, .int 1] h0 (fun r h2 => r = some (.int (if ((inP (b 4) x ∧ inP (b 4) y) ∧ x ≠ y) then (0 : Int32) else 1)) ∧ Ex [p] h0 h2 ∧ h2.1 p = some (.inr (5, sdL (keepV (if ((inP (b 4) x ∧ inP (b 4) y) ∧ x ≠ y) then hintN a x.toNatClampNeg y.toNatClampNeg 1 else a))))) := by
  have hx : Ex [p] h0 h0 := Ex.rf
  by_cases hc : ((inP (b 4) x ∧ inP (b 4) y) ∧ x ≠ y)
  · obtain ⟨⟨hy1, hy2⟩, h3⟩ := id hc
    obtain ⟨m1, q1, rfl⟩ := inP_of (by omega) hy1
    obtain ⟨m2, q2, rfl⟩ := inP_of (by omega) hy2
    have hm : m1 ≠ m2 := fun z => h3 (by rw [z])
    refine Cn.go (ls := [.ref 64, .ref p, .int (nI m1), .int (nI m2), .int 1]) (by decide +kernel) rfl (Nat.le_of_ble_eq_true rfl) ?_
    refine r_aload_n (pc2 := 1) 0 dX9_tellHint_0 rfl rfl rfl rfl ?_
    refine r_iload_n (pc2 := 2) 2 dX9_tellHint_1 rfl rfl rfl ?_
    refine r_callV1 (pc2 := 5) (As := [.int (nI m1)]) (st := []) kX9_169 rfl rfl dX9_tellHint_2 c64 (by decide) rfl rfl (Nat.le_of_ble_eq_true rfl) (by omega) ((c_isPersonC c64 cs hs64 hP).mono fun r h2 q => ⟨q.1.trans (by rw [if_pos hy1]), q.2⟩) rfl (fun h2 hq2 => ?_)
    subst hq2
    refine r_if_eq (tgt := 21) (pc2 := 8) dX9_tellHint_5 (by decide) rfl (fun b5 => ?_) (fun b5 => ?_)
    · exact absurd b5 (by decide)
    · skip
      refine r_aload_n (pc2 := 9) 0 dX9_tellHint_8 rfl rfl rfl rfl ?_
      refine r_iload_n (pc2 := 10) 3 dX9_tellHint_9 rfl rfl rfl ?_
      refine r_callV1 (pc2 := 13) (As := [.int (nI m2)]) (st := []) kX9_169 rfl rfl dX9_tellHint_10 c64 (by decide) rfl rfl (Nat.le_of_ble_eq_true rfl) (by omega) ((c_isPersonC c64 cs hs64 hP).mono fun r h2 q => ⟨q.1.trans (by rw [if_pos hy2]), q.2⟩) rfl (fun h2 hq10 => ?_)
      subst hq10
      refine r_if_eq (tgt := 21) (pc2 := 16) dX9_tellHint_13 (by decide) rfl (fun b13 => ?_) (fun b13 => ?_)
      · exact absurd b13 (by decide)
      · skip
        refine r_iload_n (pc2 := 17) 2 dX9_tellHint_16 rfl rfl rfl ?_
        refine r_iload_n (pc2 := 18) 3 dX9_tellHint_17 rfl rfl rfl ?_
        refine r_icmp_ne (tgt := 23) (pc2 := 21) dX9_tellHint_18 (by decide) rfl (fun b18 => ?_) (fun b18 => ?_)
        · skip
          refine r_aload_n (pc2 := 24) 1 dX9_tellHint_23 rfl rfl rfl rfl ?_
          refine r_iload_n (pc2 := 25) 2 dX9_tellHint_24 rfl rfl rfl ?_
          refine r_iload_n (pc2 := 26) 3 dX9_tellHint_25 rfl rfl rfl ?_
          refine r_iload (pc2 := 28) 4 dX9_tellHint_26 rfl rfl ?_
          refine r_callV0 (pc2 := 31) (As := [.int (nI m1), .int (nI m2), .int 1]) (st := []) kX9_173 rfl rfl dX9_tellHint_28 cp (by omega) rfl rfl (Nat.le_of_ble_eq_true rfl) (by omega) (c_addHint1 cp hp hA (by omega) (by omega) hm) rfl (fun h hq28 => ?_)
          obtain ⟨hxc, cp⟩ := hq28
          have hx := hx.trans hxc (by simp)
          refine r_iconst (pc2 := 32) (v := 0) dX9_tellHint_31 (by decide) rfl ?_
          exact r_iret rfl dX9_tellHint_32 ⟨by rw [if_pos hc], hx, by rw [if_pos hc, nI_clamp (by omega), nI_clamp (by omega)]; exact cp⟩
        · exact absurd b18 hc.2
  · by_cases hy1 : inP (b 4) x
    · by_cases hy2 : inP (b 4) y
      · skip
        refine Cn.go (ls := [.ref 64, .ref p, .int x, .int y, .int 1]) (by decide +kernel) rfl (Nat.le_of_ble_eq_true rfl) ?_
        refine r_aload_n (pc2 := 1) 0 dX9_tellHint_0 rfl rfl rfl rfl ?_
        refine r_iload_n (pc2 := 2) 2 dX9_tellHint_1 rfl rfl rfl ?_
        refine r_callV1 (pc2 := 5) (As := [.int x]) (st := []) kX9_169 rfl rfl dX9_tellHint_2 c64 (by decide) rfl rfl (Nat.le_of_ble_eq_true rfl) (by omega) ((c_isPersonC c64 cs hs64 hP).mono fun r h2 q => ⟨q.1.trans (by rw [if_pos hy1]), q.2⟩) rfl (fun h2 hq2 => ?_)
        subst hq2
        refine r_if_eq (tgt := 21) (pc2 := 8) dX9_tellHint_5 (by decide) rfl (fun b5 => ?_) (fun b5 => ?_)
        · exact absurd b5 (by decide)
        · skip
          refine r_aload_n (pc2 := 9) 0 dX9_tellHint_8 rfl rfl rfl rfl ?_
          refine r_iload_n (pc2 := 10) 3 dX9_tellHint_9 rfl rfl rfl ?_
          refine r_callV1 (pc2 := 13) (As := [.int y]) (st := []) kX9_169 rfl rfl dX9_tellHint_10 c64 (by decide) rfl rfl (Nat.le_of_ble_eq_true rfl) (by omega) ((c_isPersonC c64 cs hs64 hP).mono fun r h2 q => ⟨q.1.trans (by rw [if_pos hy2]), q.2⟩) rfl (fun h2 hq10 => ?_)
          subst hq10
          refine r_if_eq (tgt := 21) (pc2 := 16) dX9_tellHint_13 (by decide) rfl (fun b13 => ?_) (fun b13 => ?_)
          · exact absurd b13 (by decide)
          · skip
            refine r_iload_n (pc2 := 17) 2 dX9_tellHint_16 rfl rfl rfl ?_
            refine r_iload_n (pc2 := 18) 3 dX9_tellHint_17 rfl rfl rfl ?_
            refine r_icmp_ne (tgt := 23) (pc2 := 21) dX9_tellHint_18 (by decide) rfl (fun b18 => ?_) (fun b18 => ?_)
            · exact absurd (Decidable.byContradiction (fun z => hc ⟨⟨hy1, hy2⟩, z⟩)) b18
            · skip
              refine r_iconst (pc2 := 22) (v := 1) dX9_tellHint_21 (by decide) rfl ?_
              exact r_iret rfl dX9_tellHint_22 ⟨by rw [if_neg (fun z => hc z)], Ex.rf, by rw [if_neg (fun z => hc z)]; exact cp⟩
      · skip
        refine Cn.go (ls := [.ref 64, .ref p, .int x, .int y, .int 1]) (by decide +kernel) rfl (Nat.le_of_ble_eq_true rfl) ?_
        refine r_aload_n (pc2 := 1) 0 dX9_tellHint_0 rfl rfl rfl rfl ?_
        refine r_iload_n (pc2 := 2) 2 dX9_tellHint_1 rfl rfl rfl ?_
        refine r_callV1 (pc2 := 5) (As := [.int x]) (st := []) kX9_169 rfl rfl dX9_tellHint_2 c64 (by decide) rfl rfl (Nat.le_of_ble_eq_true rfl) (by omega) ((c_isPersonC c64 cs hs64 hP).mono fun r h2 q => ⟨q.1.trans (by rw [if_pos hy1]), q.2⟩) rfl (fun h2 hq2 => ?_)
        subst hq2
        refine r_if_eq (tgt := 21) (pc2 := 8) dX9_tellHint_5 (by decide) rfl (fun b5 => ?_) (fun b5 => ?_)
        · exact absurd b5 (by decide)
        · skip
          refine r_aload_n (pc2 := 9) 0 dX9_tellHint_8 rfl rfl rfl rfl ?_
          refine r_iload_n (pc2 := 10) 3 dX9_tellHint_9 rfl rfl rfl ?_
          refine r_callV1 (pc2 := 13) (As := [.int y]) (st := []) kX9_169 rfl rfl dX9_tellHint_10 c64 (by decide) rfl rfl (Nat.le_of_ble_eq_true rfl) (by omega) ((c_isPersonC c64 cs hs64 hP).mono fun r h2 q => ⟨q.1.trans (by rw [if_neg hy2]), q.2⟩) rfl (fun h2 hq10 => ?_)
          subst hq10
          refine r_if_eq (tgt := 21) (pc2 := 16) dX9_tellHint_13 (by decide) rfl (fun b13 => ?_) (fun b13 => ?_)
          · skip
            refine r_iconst (pc2 := 22) (v := 1) dX9_tellHint_21 (by decide) rfl ?_
            exact r_iret rfl dX9_tellHint_22 ⟨by rw [if_neg (fun z => hc z)], Ex.rf, by rw [if_neg (fun z => hc z)]; exact cp⟩
          · exact absurd b13 (by decide)
    · skip
      refine Cn.go (ls := [.ref 64, .ref p, .int x, .int y, .int 1]) (by decide +kernel) rfl (Nat.le_of_ble_eq_true rfl) ?_
      refine r_aload_n (pc2 := 1) 0 dX9_tellHint_0 rfl rfl rfl rfl ?_
      refine r_iload_n (pc2 := 2) 2 dX9_tellHint_1 rfl rfl rfl ?_
      refine r_callV1 (pc2 := 5) (As := [.int x]) (st := []) kX9_169 rfl rfl dX9_tellHint_2 c64 (by decide) rfl rfl (Nat.le_of_ble_eq_true rfl) (by omega) ((c_isPersonC c64 cs hs64 hP).mono fun r h2 q => ⟨q.1.trans (by rw [if_neg hy1]), q.2⟩) rfl (fun h2 hq2 => ?_)
      subst hq2
      refine r_if_eq (tgt := 21) (pc2 := 8) dX9_tellHint_5 (by decide) rfl (fun b5 => ?_) (fun b5 => ?_)
      · skip
        refine r_iconst (pc2 := 22) (v := 1) dX9_tellHint_21 (by decide) rfl ?_
        exact r_iret rfl dX9_tellHint_22 ⟨by rw [if_neg (fun z => hc z)], Ex.rf, by rw [if_neg (fun z => hc z)]; exact cp⟩
      · exact absurd b5 (by decide)
theorem inP_lN {n k : Nat} (hn : n ≤ 8) (hk : k < 2 ^ 31) : inP n (nI k) ↔ k < n := by
  rw [inP_iff hn, nI_ltI hk (by omega)]
  exact ⟨fun z => z.2, fun z => ⟨nI_pos' hk, z⟩⟩
theorem KQ.of {h h2 : Hp} {S : List Nat} {kd : Nat} (x : Ex S h h2) : KQ h h2 kd kd := Or.inl ⟨rfl, x.1⟩
theorem LWA.put2 {h h2 : Hp} {reg : Nat → FR} {ns kd p : Nat} (l : LWA h reg ns kd) (hp : p = 76 ∨ p = 77) (x : Ex [p] h h2) : LWA h2 reg ns kd := l.put hp (fun b hb => x.2 b (by simpa using hb))
theorem iteW {A B : Prop} [Decidable A] [Decidable B] (h : A ↔ B) : (some (Value.int (if A then (0 : Int32) else 1)) : Option Value) = some (.int (nI (if B then 0 else 1))) := by
  by_cases a : A
  · rw [if_pos a, if_pos (h.mp a)]; rfl
  · rw [if_neg a, if_neg (fun z => a (h.mpr z))]; rfl
theorem iteS {A B : Prop} [Decidable A] [Decidable B] (h : A ↔ B) {e : Option va_E} {f g : FR} (c : e = some (.inr (5, sdL (keepV (if A then f else g))))) : e = some (.inr (5, sdL (keepV (if (if B then 0 else 1) = 0 then f else g)))) := by
  by_cases a : A
  · rw [if_pos a] at c
    rw [if_pos (h.mp a), if_pos rfl]; exact c
  · rw [if_neg a] at c
    rw [if_neg (fun z => a (h.mpr z)), if_neg (by decide)]; exact c
set_option maxRecDepth 20000 in
set_option maxHeartbeats 1000000 in
theorem c_doDeed {E : EnvT} {d : Nat} {h0 : Hp} {ns s un w1 w2 : Nat} {wk dt : Value} {Z : Nat → Prop} {reg : Nat → FR} {sg kd p : Nat} {a b : FR} {v : Int64} (c64 : h0.1 64 = some (.inr (9, coL s ns un w1 w2 wk dt))) (cp : h0.1 p = some (.inr (5, sdL (keepV a)))) (hp : p = 76 ∨ p = 77) (hD : DV Z h0 reg ns s sg kd b) (hA : AIN a) (hst : Stat a b) (hd : 5 ≤ d) : Cn E mX9_doDeed d [.ref 64, .ref p, .long v] h0 (fun r h2 => r = some (.int (nI (whyD a v))) ∧ ∃ kd2, DP reg ns p h0 h2 kd kd2 (if whyD a v = 0 then doesN a v.toNatClampNeg else a)) := by
  obtain ⟨hL, hS, hZ, hb, hreg, hsg, hns, hn, zs⟩ := id hD
  have hs64 := (hZ.zl s zs).1
  obtain ⟨lo, so, sa, nl, sl, _, cs, _⟩ := id hS
  have st4 : a 4 = b 4 := hst 4 (by omega)
  have hP8 : b 4 ≤ 8 := hb.1.2.2.2.1
  by_cases r1 : lR 0 15 v
  · obtain ⟨k, _, hk, rfl⟩ := lR_of (by decide) (by decide) r1
    have eW : whyD a (lN k) = whyF a (lN k) := by unfold whyD; rw [if_pos r1]
    have eD : (if whyD a (lN k) = 0 then doesN a (lN k).toNatClampNeg else a) = (if whyF a (lN k) = 0 then goesN a (nI k).toNatClampNeg else a) := by rw [eW, lN_clamp (by omega), nI_clamp (by omega), show doesN a k = goesN a k from if_pos (by omega)]
    have hr : (0 : Int64) ≤ lN k ∧ lN k ≤ 15 := r1
    refine Cn.go (ls := [.ref 64, .ref p, .long (lN k), .float 0, .float 0]) (by decide +kernel) rfl (Nat.le_of_ble_eq_true rfl) ?_
    refine r_lload_n (pc2 := 1) 2 dX9_doDeed_0 rfl rfl rfl ?_
    refine r_lconst (pc2 := 2) (v := 0) dX9_doDeed_1 (by decide) rfl ?_
    refine r_lcmp (pc2 := 3) dX9_doDeed_2 rfl ?_
    refine r_if_lt (tgt := 22) (pc2 := 6) dX9_doDeed_3 (by decide) rfl (fun b3 => ?_) (fun b3 => ?_)
    · exact absurd hr.1 (fun z => absurd ((lgc_ge _ _).mpr z) (fun y => absurd b3 (Int32.not_lt.mpr y)))
    · skip
      refine r_lload_n (pc2 := 7) 2 dX9_doDeed_6 rfl rfl rfl ?_
      refine r_ldc2 (pc2 := 10) (v := 15) qX9_180 dX9_doDeed_7 rfl ?_
      refine r_lcmp (pc2 := 11) dX9_doDeed_10 rfl ?_
      refine r_if_gt (tgt := 22) (pc2 := 14) dX9_doDeed_11 (by decide) rfl (fun b11 => ?_) (fun b11 => ?_)
      · exact absurd hr.2 (fun z => absurd ((lgc_le _ _).mpr z) (fun y => absurd b11 (Int32.not_lt.mpr y)))
      · skip
        refine r_aload_n (pc2 := 15) 0 dX9_doDeed_14 rfl rfl rfl rfl ?_
        refine r_aload_n (pc2 := 16) 1 dX9_doDeed_15 rfl rfl rfl rfl ?_
        refine r_lload_n (pc2 := 17) 2 dX9_doDeed_16 rfl rfl rfl ?_
        refine r_l2i (pc2 := 18) dX9_doDeed_17 rfl ?_
        refine r_cast (nI k) (lN_i32 (by omega)) ?_
        refine r_callV1 (pc2 := 21) (As := [.ref p, .int (nI k)]) (st := []) kX9_182 rfl rfl dX9_doDeed_18 c64 (by decide) rfl rfl (Nat.le_of_ble_eq_true rfl) (by omega) (c_stepHour c64 cp hp hD hA hst (by omega)) rfl (fun h hq18 => ?_)
        obtain ⟨kd2, hDP⟩ := hq18
        exact r_iret rfl dX9_doDeed_21 ⟨by rw [eW, ← nI_l (by omega)], kd2, by rw [eD, ← nI_l (by omega)] ; exact hDP⟩
  · have n1 : ¬ ((0 : Int64) ≤ v ∧ v ≤ 15) := r1
    by_cases r2 : lR 100 109 v
    · obtain ⟨k, hk0, hk, rfl⟩ := lR_of (by decide) (by decide) r2
      have eW : whyD a (lN k) = 0 := by unfold whyD; rw [if_neg r1, if_pos r2]
      have eD : doesN a k = va_up a 27 (k - 100) := by unfold doesN; rw [if_neg (by omega), if_pos (by omega)]
      have hi9 : inR 0 9 (nI (k - 100)) := (inR_iff (by decide) (by decide) _).mpr ⟨nI_le (by omega) (by omega), nI_le (by omega) (by omega)⟩
      have hr : (100 : Int64) ≤ lN k ∧ lN k ≤ 109 := r2
      refine Cn.go (ls := [.ref 64, .ref p, .long (lN k), .float 0, .float 0]) (by decide +kernel) rfl (Nat.le_of_ble_eq_true rfl) ?_
      refine r_lload_n (pc2 := 1) 2 dX9_doDeed_0 rfl rfl rfl ?_
      refine r_lconst (pc2 := 2) (v := 0) dX9_doDeed_1 (by decide) rfl ?_
      refine r_lcmp (pc2 := 3) dX9_doDeed_2 rfl ?_
      refine r_if_lt (tgt := 22) (pc2 := 6) dX9_doDeed_3 (by decide) rfl (fun b3 => ?_) (fun b3 => ?_)
      · skip
        refine r_lload_n (pc2 := 23) 2 dX9_doDeed_22 rfl rfl rfl ?_
        refine r_ldc2 (pc2 := 26) (v := 100) qX9_185 dX9_doDeed_23 rfl ?_
        refine r_lcmp (pc2 := 27) dX9_doDeed_26 rfl ?_
        refine r_if_lt (tgt := 49) (pc2 := 30) dX9_doDeed_27 (by decide) rfl (fun b27 => ?_) (fun b27 => ?_)
        · exact absurd hr.1 (fun z => absurd ((lgc_ge _ _).mpr z) (fun y => absurd b27 (Int32.not_lt.mpr y)))
        · skip
          refine r_lload_n (pc2 := 31) 2 dX9_doDeed_30 rfl rfl rfl ?_
          refine r_ldc2 (pc2 := 34) (v := 109) qX9_187 dX9_doDeed_31 rfl ?_
          refine r_lcmp (pc2 := 35) dX9_doDeed_34 rfl ?_
          refine r_if_gt (tgt := 49) (pc2 := 38) dX9_doDeed_35 (by decide) rfl (fun b35 => ?_) (fun b35 => ?_)
          · exact absurd hr.2 (fun z => absurd ((lgc_le _ _).mpr z) (fun y => absurd b35 (Int32.not_lt.mpr y)))
          · skip
            refine r_aload_n (pc2 := 39) 0 dX9_doDeed_38 rfl rfl rfl rfl ?_
            refine r_aload_n (pc2 := 40) 1 dX9_doDeed_39 rfl rfl rfl rfl ?_
            refine r_lload_n (pc2 := 41) 2 dX9_doDeed_40 rfl rfl rfl ?_
            refine r_l2i (pc2 := 42) dX9_doDeed_41 rfl ?_
            refine r_cast (nI k) (lN_i32 (by omega)) ?_
            refine r_bipush (pc2 := 44) (v := 100) dX9_doDeed_42 (by decide) rfl ?_
            refine r_isub (pc2 := 45) dX9_doDeed_44 rfl ?_
            refine r_cast (nI (k - 100)) (pk_sub (b := 100) (by omega)) ?_
            refine r_callV1 (pc2 := 48) (As := [.ref p, .int (nI (k - 100))]) (st := []) kX9_189 rfl rfl dX9_doDeed_45 c64 (by decide) rfl rfl (Nat.le_of_ble_eq_true rfl) (by omega) (c_changeDraught cp hp) rfl (fun h hq45 => ?_)
            obtain ⟨hxc, cp⟩ := hq45
            exact r_iret rfl dX9_doDeed_48 ⟨by rw [if_pos hi9, eW]; rfl, kd, KQ.of hxc, hL.put2 hp hxc, hxc.gx.mono (by simp), by rw [if_pos hi9, nI_clamp (by omega)] at cp; rw [eW, if_pos rfl, lN_clamp (by omega), eD]; exact cp⟩
      · skip
        refine r_lload_n (pc2 := 7) 2 dX9_doDeed_6 rfl rfl rfl ?_
        refine r_ldc2 (pc2 := 10) (v := 15) qX9_180 dX9_doDeed_7 rfl ?_
        refine r_lcmp (pc2 := 11) dX9_doDeed_10 rfl ?_
        refine r_if_gt (tgt := 22) (pc2 := 14) dX9_doDeed_11 (by decide) rfl (fun b11 => ?_) (fun b11 => ?_)
        · skip
          refine r_lload_n (pc2 := 23) 2 dX9_doDeed_22 rfl rfl rfl ?_
          refine r_ldc2 (pc2 := 26) (v := 100) qX9_185 dX9_doDeed_23 rfl ?_
          refine r_lcmp (pc2 := 27) dX9_doDeed_26 rfl ?_
          refine r_if_lt (tgt := 49) (pc2 := 30) dX9_doDeed_27 (by decide) rfl (fun b27 => ?_) (fun b27 => ?_)
          · exact absurd hr.1 (fun z => absurd ((lgc_ge _ _).mpr z) (fun y => absurd b27 (Int32.not_lt.mpr y)))
          · skip
            refine r_lload_n (pc2 := 31) 2 dX9_doDeed_30 rfl rfl rfl ?_
            refine r_ldc2 (pc2 := 34) (v := 109) qX9_187 dX9_doDeed_31 rfl ?_
            refine r_lcmp (pc2 := 35) dX9_doDeed_34 rfl ?_
            refine r_if_gt (tgt := 49) (pc2 := 38) dX9_doDeed_35 (by decide) rfl (fun b35 => ?_) (fun b35 => ?_)
            · exact absurd hr.2 (fun z => absurd ((lgc_le _ _).mpr z) (fun y => absurd b35 (Int32.not_lt.mpr y)))
            · skip
              refine r_aload_n (pc2 := 39) 0 dX9_doDeed_38 rfl rfl rfl rfl ?_
              refine r_aload_n (pc2 := 40) 1 dX9_doDeed_39 rfl rfl rfl rfl ?_
              refine r_lload_n (pc2 := 41) 2 dX9_doDeed_40 rfl rfl rfl ?_
              refine r_l2i (pc2 := 42) dX9_doDeed_41 rfl ?_
              refine r_cast (nI k) (lN_i32 (by omega)) ?_
              refine r_bipush (pc2 := 44) (v := 100) dX9_doDeed_42 (by decide) rfl ?_
              refine r_isub (pc2 := 45) dX9_doDeed_44 rfl ?_
              refine r_cast (nI (k - 100)) (pk_sub (b := 100) (by omega)) ?_
              refine r_callV1 (pc2 := 48) (As := [.ref p, .int (nI (k - 100))]) (st := []) kX9_189 rfl rfl dX9_doDeed_45 c64 (by decide) rfl rfl (Nat.le_of_ble_eq_true rfl) (by omega) (c_changeDraught cp hp) rfl (fun h hq45 => ?_)
              obtain ⟨hxc, cp⟩ := hq45
              exact r_iret rfl dX9_doDeed_48 ⟨by rw [if_pos hi9, eW]; rfl, kd, KQ.of hxc, hL.put2 hp hxc, hxc.gx.mono (by simp), by rw [if_pos hi9, nI_clamp (by omega)] at cp; rw [eW, if_pos rfl, lN_clamp (by omega), eD]; exact cp⟩
        · exact absurd ⟨((lgc_ge _ _).mp (Int32.not_lt.mp b3)), ((lgc_le _ _).mp (Int32.not_lt.mp b11))⟩ n1
    · have n2 : ¬ ((100 : Int64) ≤ v ∧ v ≤ 109) := r2
      by_cases r3 : lR 200 399 v
      · obtain ⟨k, hk0, hk, rfl⟩ := lR_of (by decide) (by decide) r3
        have eW : whyD a (lN k) = (if k % 100 / 10 < a 4 ∧ k % 10 < a 4 ∧ k % 100 / 10 ≠ k % 10 then 0 else 1) := by unfold whyD; rw [if_neg r1, if_neg r2, if_pos r3, lN_clamp (by omega)]
        have e10 : k % 100 / 10 = k / 10 % 10 := by omega
        have hcc : ((inP (b 4) (nI (k / 10 % 10)) ∧ inP (b 4) (nI (k % 10))) ∧ nI (k / 10 % 10) ≠ nI (k % 10)) ↔ (k % 100 / 10 < a 4 ∧ k % 10 < a 4 ∧ k % 100 / 10 ≠ k % 10) := by
          rw [inP_lN hP8 (by omega), inP_lN hP8 (by omega), st4, e10]
          constructor
          · rintro ⟨⟨z1, z2⟩, z3⟩; exact ⟨z1, z2, fun y => z3 (by rw [y])⟩
          · rintro ⟨z1, z2, z3⟩; exact ⟨⟨z1, z2⟩, fun y => z3 ((nI_eq (by omega) (by omega)).mp y)⟩
        have hr : (200 : Int64) ≤ lN k ∧ lN k ≤ 399 := r3
        by_cases h3 : k < 300
        · have eD : doesN a k = hintN a (nI (k / 10 % 10)).toNatClampNeg (nI (k % 10)).toNatClampNeg 1 := by unfold doesN; rw [if_neg (by omega), if_neg (by omega), if_pos h3, e10, nI_clamp (by omega), nI_clamp (by omega)]
          refine Cn.go (ls := [.ref 64, .ref p, .long (lN k), .float 0, .float 0]) (by decide +kernel) rfl (Nat.le_of_ble_eq_true rfl) ?_
          refine r_lload_n (pc2 := 1) 2 dX9_doDeed_0 rfl rfl rfl ?_
          refine r_lconst (pc2 := 2) (v := 0) dX9_doDeed_1 (by decide) rfl ?_
          refine r_lcmp (pc2 := 3) dX9_doDeed_2 rfl ?_
          refine r_if_lt (tgt := 22) (pc2 := 6) dX9_doDeed_3 (by decide) rfl (fun b3 => ?_) (fun b3 => ?_)
          · skip
            refine r_lload_n (pc2 := 23) 2 dX9_doDeed_22 rfl rfl rfl ?_
            refine r_ldc2 (pc2 := 26) (v := 100) qX9_185 dX9_doDeed_23 rfl ?_
            refine r_lcmp (pc2 := 27) dX9_doDeed_26 rfl ?_
            refine r_if_lt (tgt := 49) (pc2 := 30) dX9_doDeed_27 (by decide) rfl (fun b27 => ?_) (fun b27 => ?_)
            · skip
              refine r_lload_n (pc2 := 50) 2 dX9_doDeed_49 rfl rfl rfl ?_
              refine r_ldc2 (pc2 := 53) (v := 200) qX9_192 dX9_doDeed_50 rfl ?_
              refine r_lcmp (pc2 := 54) dX9_doDeed_53 rfl ?_
              refine r_if_lt (tgt := 101) (pc2 := 57) dX9_doDeed_54 (by decide) rfl (fun b54 => ?_) (fun b54 => ?_)
              · exact absurd hr.1 (fun z => absurd ((lgc_ge _ _).mpr z) (fun y => absurd b54 (Int32.not_lt.mpr y)))
              · skip
                refine r_lload_n (pc2 := 58) 2 dX9_doDeed_57 rfl rfl rfl ?_
                refine r_ldc2 (pc2 := 61) (v := 399) qX9_194 dX9_doDeed_58 rfl ?_
                refine r_lcmp (pc2 := 62) dX9_doDeed_61 rfl ?_
                refine r_if_gt (tgt := 101) (pc2 := 65) dX9_doDeed_62 (by decide) rfl (fun b62 => ?_) (fun b62 => ?_)
                · exact absurd hr.2 (fun z => absurd ((lgc_le _ _).mpr z) (fun y => absurd b62 (Int32.not_lt.mpr y)))
                · skip
                  refine r_lload_n (pc2 := 66) 2 dX9_doDeed_65 rfl rfl rfl ?_
                  refine r_l2i (pc2 := 67) dX9_doDeed_66 rfl ?_
                  refine r_cast (nI k) (lN_i32 (by omega)) ?_
                  refine r_istore (pc2 := 69) (ls2 := [.ref 64, .ref p, .long (lN k), .float 0, .int (nI k)]) 4 dX9_doDeed_67 (by decide) rfl rfl rfl ?_
                  refine r_aload_n (pc2 := 70) 0 dX9_doDeed_69 rfl rfl rfl rfl ?_
                  refine r_aload_n (pc2 := 71) 1 dX9_doDeed_70 rfl rfl rfl rfl ?_
                  refine r_iload (pc2 := 73) 4 dX9_doDeed_71 rfl rfl ?_
                  refine r_bipush (pc2 := 75) (v := 10) dX9_doDeed_73 (by decide) rfl ?_
                  refine r_idiv (pc2 := 76) dX9_doDeed_75 (by decide) rfl ?_
                  refine r_cast (nI (k / 10)) (pk_div (d := 10) (by omega) (by decide) (by decide)) ?_
                  refine r_bipush (pc2 := 78) (v := 10) dX9_doDeed_76 (by decide) rfl ?_
                  refine r_irem (pc2 := 79) dX9_doDeed_78 (by decide) rfl ?_
                  refine r_cast (nI (k / 10 % 10)) (pk_rem (d := 10) (by omega) (by decide) (by decide)) ?_
                  refine r_iload (pc2 := 81) 4 dX9_doDeed_79 rfl rfl ?_
                  refine r_bipush (pc2 := 83) (v := 10) dX9_doDeed_81 (by decide) rfl ?_
                  refine r_irem (pc2 := 84) dX9_doDeed_83 (by decide) rfl ?_
                  refine r_cast (nI (k % 10)) (pk_rem (d := 10) (by omega) (by decide) (by decide)) ?_
                  refine r_iload (pc2 := 86) 4 dX9_doDeed_84 rfl rfl ?_
                  refine r_sipush (pc2 := 89) (v := 300) dX9_doDeed_86 (by decide) rfl ?_
                  refine r_icmp_ge (tgt := 96) (pc2 := 92) dX9_doDeed_89 (by decide) rfl (fun b89 => ?_) (fun b89 => ?_)
                  · exact absurd b89 (Int32.not_le.mpr (nI_lt (b := 300) (by omega) (by decide)))
                  · skip
                    refine r_iconst (pc2 := 93) (v := 1) dX9_doDeed_92 (by decide) rfl ?_
                    refine r_goto (pc2 := 97) dX9_doDeed_93 (by decide) ?_
                    refine r_callV1 (pc2 := 100) (As := [.ref p, .int (nI (k / 10 % 10)), .int (nI (k % 10)), .int 1]) (st := []) kX9_196 rfl rfl dX9_doDeed_97 c64 (by decide) rfl rfl (Nat.le_of_ble_eq_true rfl) (by omega) (c_tellHint1 c64 cs hs64 cp hp hb.1.2.2.2.1 hA (by omega)) rfl (fun h hq97 => ?_)
                    obtain ⟨hxc, cp⟩ := hq97
                    exact r_iret rfl dX9_doDeed_100 ⟨by rw [eW]; exact iteW hcc, kd, KQ.of hxc, hL.put2 hp hxc, hxc.gx.mono (by simp), by rw [eW, lN_clamp (by omega), eD]; exact iteS hcc cp⟩
            · skip
              refine r_lload_n (pc2 := 31) 2 dX9_doDeed_30 rfl rfl rfl ?_
              refine r_ldc2 (pc2 := 34) (v := 109) qX9_187 dX9_doDeed_31 rfl ?_
              refine r_lcmp (pc2 := 35) dX9_doDeed_34 rfl ?_
              refine r_if_gt (tgt := 49) (pc2 := 38) dX9_doDeed_35 (by decide) rfl (fun b35 => ?_) (fun b35 => ?_)
              · skip
                refine r_lload_n (pc2 := 50) 2 dX9_doDeed_49 rfl rfl rfl ?_
                refine r_ldc2 (pc2 := 53) (v := 200) qX9_192 dX9_doDeed_50 rfl ?_
                refine r_lcmp (pc2 := 54) dX9_doDeed_53 rfl ?_
                refine r_if_lt (tgt := 101) (pc2 := 57) dX9_doDeed_54 (by decide) rfl (fun b54 => ?_) (fun b54 => ?_)
                · exact absurd hr.1 (fun z => absurd ((lgc_ge _ _).mpr z) (fun y => absurd b54 (Int32.not_lt.mpr y)))
                · skip
                  refine r_lload_n (pc2 := 58) 2 dX9_doDeed_57 rfl rfl rfl ?_
                  refine r_ldc2 (pc2 := 61) (v := 399) qX9_194 dX9_doDeed_58 rfl ?_
                  refine r_lcmp (pc2 := 62) dX9_doDeed_61 rfl ?_
                  refine r_if_gt (tgt := 101) (pc2 := 65) dX9_doDeed_62 (by decide) rfl (fun b62 => ?_) (fun b62 => ?_)
                  · exact absurd hr.2 (fun z => absurd ((lgc_le _ _).mpr z) (fun y => absurd b62 (Int32.not_lt.mpr y)))
                  · skip
                    refine r_lload_n (pc2 := 66) 2 dX9_doDeed_65 rfl rfl rfl ?_
                    refine r_l2i (pc2 := 67) dX9_doDeed_66 rfl ?_
                    refine r_cast (nI k) (lN_i32 (by omega)) ?_
                    refine r_istore (pc2 := 69) (ls2 := [.ref 64, .ref p, .long (lN k), .float 0, .int (nI k)]) 4 dX9_doDeed_67 (by decide) rfl rfl rfl ?_
                    refine r_aload_n (pc2 := 70) 0 dX9_doDeed_69 rfl rfl rfl rfl ?_
                    refine r_aload_n (pc2 := 71) 1 dX9_doDeed_70 rfl rfl rfl rfl ?_
                    refine r_iload (pc2 := 73) 4 dX9_doDeed_71 rfl rfl ?_
                    refine r_bipush (pc2 := 75) (v := 10) dX9_doDeed_73 (by decide) rfl ?_
                    refine r_idiv (pc2 := 76) dX9_doDeed_75 (by decide) rfl ?_
                    refine r_cast (nI (k / 10)) (pk_div (d := 10) (by omega) (by decide) (by decide)) ?_
                    refine r_bipush (pc2 := 78) (v := 10) dX9_doDeed_76 (by decide) rfl ?_
                    refine r_irem (pc2 := 79) dX9_doDeed_78 (by decide) rfl ?_
                    refine r_cast (nI (k / 10 % 10)) (pk_rem (d := 10) (by omega) (by decide) (by decide)) ?_
                    refine r_iload (pc2 := 81) 4 dX9_doDeed_79 rfl rfl ?_
                    refine r_bipush (pc2 := 83) (v := 10) dX9_doDeed_81 (by decide) rfl ?_
                    refine r_irem (pc2 := 84) dX9_doDeed_83 (by decide) rfl ?_
                    refine r_cast (nI (k % 10)) (pk_rem (d := 10) (by omega) (by decide) (by decide)) ?_
                    refine r_iload (pc2 := 86) 4 dX9_doDeed_84 rfl rfl ?_
                    refine r_sipush (pc2 := 89) (v := 300) dX9_doDeed_86 (by decide) rfl ?_
                    refine r_icmp_ge (tgt := 96) (pc2 := 92) dX9_doDeed_89 (by decide) rfl (fun b89 => ?_) (fun b89 => ?_)
                    · exact absurd b89 (Int32.not_le.mpr (nI_lt (b := 300) (by omega) (by decide)))
                    · skip
                      refine r_iconst (pc2 := 93) (v := 1) dX9_doDeed_92 (by decide) rfl ?_
                      refine r_goto (pc2 := 97) dX9_doDeed_93 (by decide) ?_
                      refine r_callV1 (pc2 := 100) (As := [.ref p, .int (nI (k / 10 % 10)), .int (nI (k % 10)), .int 1]) (st := []) kX9_196 rfl rfl dX9_doDeed_97 c64 (by decide) rfl rfl (Nat.le_of_ble_eq_true rfl) (by omega) (c_tellHint1 c64 cs hs64 cp hp hb.1.2.2.2.1 hA (by omega)) rfl (fun h hq97 => ?_)
                      obtain ⟨hxc, cp⟩ := hq97
                      exact r_iret rfl dX9_doDeed_100 ⟨by rw [eW]; exact iteW hcc, kd, KQ.of hxc, hL.put2 hp hxc, hxc.gx.mono (by simp), by rw [eW, lN_clamp (by omega), eD]; exact iteS hcc cp⟩
              · exact absurd ⟨((lgc_ge _ _).mp (Int32.not_lt.mp b27)), ((lgc_le _ _).mp (Int32.not_lt.mp b35))⟩ n2
          · skip
            refine r_lload_n (pc2 := 7) 2 dX9_doDeed_6 rfl rfl rfl ?_
            refine r_ldc2 (pc2 := 10) (v := 15) qX9_180 dX9_doDeed_7 rfl ?_
            refine r_lcmp (pc2 := 11) dX9_doDeed_10 rfl ?_
            refine r_if_gt (tgt := 22) (pc2 := 14) dX9_doDeed_11 (by decide) rfl (fun b11 => ?_) (fun b11 => ?_)
            · skip
              refine r_lload_n (pc2 := 23) 2 dX9_doDeed_22 rfl rfl rfl ?_
              refine r_ldc2 (pc2 := 26) (v := 100) qX9_185 dX9_doDeed_23 rfl ?_
              refine r_lcmp (pc2 := 27) dX9_doDeed_26 rfl ?_
              refine r_if_lt (tgt := 49) (pc2 := 30) dX9_doDeed_27 (by decide) rfl (fun b27 => ?_) (fun b27 => ?_)
              · skip
                refine r_lload_n (pc2 := 50) 2 dX9_doDeed_49 rfl rfl rfl ?_
                refine r_ldc2 (pc2 := 53) (v := 200) qX9_192 dX9_doDeed_50 rfl ?_
                refine r_lcmp (pc2 := 54) dX9_doDeed_53 rfl ?_
                refine r_if_lt (tgt := 101) (pc2 := 57) dX9_doDeed_54 (by decide) rfl (fun b54 => ?_) (fun b54 => ?_)
                · exact absurd hr.1 (fun z => absurd ((lgc_ge _ _).mpr z) (fun y => absurd b54 (Int32.not_lt.mpr y)))
                · skip
                  refine r_lload_n (pc2 := 58) 2 dX9_doDeed_57 rfl rfl rfl ?_
                  refine r_ldc2 (pc2 := 61) (v := 399) qX9_194 dX9_doDeed_58 rfl ?_
                  refine r_lcmp (pc2 := 62) dX9_doDeed_61 rfl ?_
                  refine r_if_gt (tgt := 101) (pc2 := 65) dX9_doDeed_62 (by decide) rfl (fun b62 => ?_) (fun b62 => ?_)
                  · exact absurd hr.2 (fun z => absurd ((lgc_le _ _).mpr z) (fun y => absurd b62 (Int32.not_lt.mpr y)))
                  · skip
                    refine r_lload_n (pc2 := 66) 2 dX9_doDeed_65 rfl rfl rfl ?_
                    refine r_l2i (pc2 := 67) dX9_doDeed_66 rfl ?_
                    refine r_cast (nI k) (lN_i32 (by omega)) ?_
                    refine r_istore (pc2 := 69) (ls2 := [.ref 64, .ref p, .long (lN k), .float 0, .int (nI k)]) 4 dX9_doDeed_67 (by decide) rfl rfl rfl ?_
                    refine r_aload_n (pc2 := 70) 0 dX9_doDeed_69 rfl rfl rfl rfl ?_
                    refine r_aload_n (pc2 := 71) 1 dX9_doDeed_70 rfl rfl rfl rfl ?_
                    refine r_iload (pc2 := 73) 4 dX9_doDeed_71 rfl rfl ?_
                    refine r_bipush (pc2 := 75) (v := 10) dX9_doDeed_73 (by decide) rfl ?_
                    refine r_idiv (pc2 := 76) dX9_doDeed_75 (by decide) rfl ?_
                    refine r_cast (nI (k / 10)) (pk_div (d := 10) (by omega) (by decide) (by decide)) ?_
                    refine r_bipush (pc2 := 78) (v := 10) dX9_doDeed_76 (by decide) rfl ?_
                    refine r_irem (pc2 := 79) dX9_doDeed_78 (by decide) rfl ?_
                    refine r_cast (nI (k / 10 % 10)) (pk_rem (d := 10) (by omega) (by decide) (by decide)) ?_
                    refine r_iload (pc2 := 81) 4 dX9_doDeed_79 rfl rfl ?_
                    refine r_bipush (pc2 := 83) (v := 10) dX9_doDeed_81 (by decide) rfl ?_
                    refine r_irem (pc2 := 84) dX9_doDeed_83 (by decide) rfl ?_
                    refine r_cast (nI (k % 10)) (pk_rem (d := 10) (by omega) (by decide) (by decide)) ?_
                    refine r_iload (pc2 := 86) 4 dX9_doDeed_84 rfl rfl ?_
                    refine r_sipush (pc2 := 89) (v := 300) dX9_doDeed_86 (by decide) rfl ?_
                    refine r_icmp_ge (tgt := 96) (pc2 := 92) dX9_doDeed_89 (by decide) rfl (fun b89 => ?_) (fun b89 => ?_)
                    · exact absurd b89 (Int32.not_le.mpr (nI_lt (b := 300) (by omega) (by decide)))
                    · skip
                      refine r_iconst (pc2 := 93) (v := 1) dX9_doDeed_92 (by decide) rfl ?_
                      refine r_goto (pc2 := 97) dX9_doDeed_93 (by decide) ?_
                      refine r_callV1 (pc2 := 100) (As := [.ref p, .int (nI (k / 10 % 10)), .int (nI (k % 10)), .int 1]) (st := []) kX9_196 rfl rfl dX9_doDeed_97 c64 (by decide) rfl rfl (Nat.le_of_ble_eq_true rfl) (by omega) (c_tellHint1 c64 cs hs64 cp hp hb.1.2.2.2.1 hA (by omega)) rfl (fun h hq97 => ?_)
                      obtain ⟨hxc, cp⟩ := hq97
                      exact r_iret rfl dX9_doDeed_100 ⟨by rw [eW]; exact iteW hcc, kd, KQ.of hxc, hL.put2 hp hxc, hxc.gx.mono (by simp), by rw [eW, lN_clamp (by omega), eD]; exact iteS hcc cp⟩
              · skip
                refine r_lload_n (pc2 := 31) 2 dX9_doDeed_30 rfl rfl rfl ?_
                refine r_ldc2 (pc2 := 34) (v := 109) qX9_187 dX9_doDeed_31 rfl ?_
                refine r_lcmp (pc2 := 35) dX9_doDeed_34 rfl ?_
                refine r_if_gt (tgt := 49) (pc2 := 38) dX9_doDeed_35 (by decide) rfl (fun b35 => ?_) (fun b35 => ?_)
                · skip
                  refine r_lload_n (pc2 := 50) 2 dX9_doDeed_49 rfl rfl rfl ?_
                  refine r_ldc2 (pc2 := 53) (v := 200) qX9_192 dX9_doDeed_50 rfl ?_
                  refine r_lcmp (pc2 := 54) dX9_doDeed_53 rfl ?_
                  refine r_if_lt (tgt := 101) (pc2 := 57) dX9_doDeed_54 (by decide) rfl (fun b54 => ?_) (fun b54 => ?_)
                  · exact absurd hr.1 (fun z => absurd ((lgc_ge _ _).mpr z) (fun y => absurd b54 (Int32.not_lt.mpr y)))
                  · skip
                    refine r_lload_n (pc2 := 58) 2 dX9_doDeed_57 rfl rfl rfl ?_
                    refine r_ldc2 (pc2 := 61) (v := 399) qX9_194 dX9_doDeed_58 rfl ?_
                    refine r_lcmp (pc2 := 62) dX9_doDeed_61 rfl ?_
                    refine r_if_gt (tgt := 101) (pc2 := 65) dX9_doDeed_62 (by decide) rfl (fun b62 => ?_) (fun b62 => ?_)
                    · exact absurd hr.2 (fun z => absurd ((lgc_le _ _).mpr z) (fun y => absurd b62 (Int32.not_lt.mpr y)))
                    · skip
                      refine r_lload_n (pc2 := 66) 2 dX9_doDeed_65 rfl rfl rfl ?_
                      refine r_l2i (pc2 := 67) dX9_doDeed_66 rfl ?_
                      refine r_cast (nI k) (lN_i32 (by omega)) ?_
                      refine r_istore (pc2 := 69) (ls2 := [.ref 64, .ref p, .long (lN k), .float 0, .int (nI k)]) 4 dX9_doDeed_67 (by decide) rfl rfl rfl ?_
                      refine r_aload_n (pc2 := 70) 0 dX9_doDeed_69 rfl rfl rfl rfl ?_
                      refine r_aload_n (pc2 := 71) 1 dX9_doDeed_70 rfl rfl rfl rfl ?_
                      refine r_iload (pc2 := 73) 4 dX9_doDeed_71 rfl rfl ?_
                      refine r_bipush (pc2 := 75) (v := 10) dX9_doDeed_73 (by decide) rfl ?_
                      refine r_idiv (pc2 := 76) dX9_doDeed_75 (by decide) rfl ?_
                      refine r_cast (nI (k / 10)) (pk_div (d := 10) (by omega) (by decide) (by decide)) ?_
                      refine r_bipush (pc2 := 78) (v := 10) dX9_doDeed_76 (by decide) rfl ?_
                      refine r_irem (pc2 := 79) dX9_doDeed_78 (by decide) rfl ?_
                      refine r_cast (nI (k / 10 % 10)) (pk_rem (d := 10) (by omega) (by decide) (by decide)) ?_
                      refine r_iload (pc2 := 81) 4 dX9_doDeed_79 rfl rfl ?_
                      refine r_bipush (pc2 := 83) (v := 10) dX9_doDeed_81 (by decide) rfl ?_
                      refine r_irem (pc2 := 84) dX9_doDeed_83 (by decide) rfl ?_
                      refine r_cast (nI (k % 10)) (pk_rem (d := 10) (by omega) (by decide) (by decide)) ?_
                      refine r_iload (pc2 := 86) 4 dX9_doDeed_84 rfl rfl ?_
                      refine r_sipush (pc2 := 89) (v := 300) dX9_doDeed_86 (by decide) rfl ?_
                      refine r_icmp_ge (tgt := 96) (pc2 := 92) dX9_doDeed_89 (by decide) rfl (fun b89 => ?_) (fun b89 => ?_)
                      · exact absurd b89 (Int32.not_le.mpr (nI_lt (b := 300) (by omega) (by decide)))
                      · skip
                        refine r_iconst (pc2 := 93) (v := 1) dX9_doDeed_92 (by decide) rfl ?_
                        refine r_goto (pc2 := 97) dX9_doDeed_93 (by decide) ?_
                        refine r_callV1 (pc2 := 100) (As := [.ref p, .int (nI (k / 10 % 10)), .int (nI (k % 10)), .int 1]) (st := []) kX9_196 rfl rfl dX9_doDeed_97 c64 (by decide) rfl rfl (Nat.le_of_ble_eq_true rfl) (by omega) (c_tellHint1 c64 cs hs64 cp hp hb.1.2.2.2.1 hA (by omega)) rfl (fun h hq97 => ?_)
                        obtain ⟨hxc, cp⟩ := hq97
                        exact r_iret rfl dX9_doDeed_100 ⟨by rw [eW]; exact iteW hcc, kd, KQ.of hxc, hL.put2 hp hxc, hxc.gx.mono (by simp), by rw [eW, lN_clamp (by omega), eD]; exact iteS hcc cp⟩
                · exact absurd ⟨((lgc_ge _ _).mp (Int32.not_lt.mp b27)), ((lgc_le _ _).mp (Int32.not_lt.mp b35))⟩ n2
            · exact absurd ⟨((lgc_ge _ _).mp (Int32.not_lt.mp b3)), ((lgc_le _ _).mp (Int32.not_lt.mp b11))⟩ n1
        · have eD : doesN a k = hintN a (nI (k / 10 % 10)).toNatClampNeg (nI (k % 10)).toNatClampNeg 0 := by unfold doesN; rw [if_neg (by omega), if_neg (by omega), if_neg h3, e10, nI_clamp (by omega), nI_clamp (by omega)]
          refine Cn.go (ls := [.ref 64, .ref p, .long (lN k), .float 0, .float 0]) (by decide +kernel) rfl (Nat.le_of_ble_eq_true rfl) ?_
          refine r_lload_n (pc2 := 1) 2 dX9_doDeed_0 rfl rfl rfl ?_
          refine r_lconst (pc2 := 2) (v := 0) dX9_doDeed_1 (by decide) rfl ?_
          refine r_lcmp (pc2 := 3) dX9_doDeed_2 rfl ?_
          refine r_if_lt (tgt := 22) (pc2 := 6) dX9_doDeed_3 (by decide) rfl (fun b3 => ?_) (fun b3 => ?_)
          · skip
            refine r_lload_n (pc2 := 23) 2 dX9_doDeed_22 rfl rfl rfl ?_
            refine r_ldc2 (pc2 := 26) (v := 100) qX9_185 dX9_doDeed_23 rfl ?_
            refine r_lcmp (pc2 := 27) dX9_doDeed_26 rfl ?_
            refine r_if_lt (tgt := 49) (pc2 := 30) dX9_doDeed_27 (by decide) rfl (fun b27 => ?_) (fun b27 => ?_)
            · skip
              refine r_lload_n (pc2 := 50) 2 dX9_doDeed_49 rfl rfl rfl ?_
              refine r_ldc2 (pc2 := 53) (v := 200) qX9_192 dX9_doDeed_50 rfl ?_
              refine r_lcmp (pc2 := 54) dX9_doDeed_53 rfl ?_
              refine r_if_lt (tgt := 101) (pc2 := 57) dX9_doDeed_54 (by decide) rfl (fun b54 => ?_) (fun b54 => ?_)
              · exact absurd hr.1 (fun z => absurd ((lgc_ge _ _).mpr z) (fun y => absurd b54 (Int32.not_lt.mpr y)))
              · skip
                refine r_lload_n (pc2 := 58) 2 dX9_doDeed_57 rfl rfl rfl ?_
                refine r_ldc2 (pc2 := 61) (v := 399) qX9_194 dX9_doDeed_58 rfl ?_
                refine r_lcmp (pc2 := 62) dX9_doDeed_61 rfl ?_
                refine r_if_gt (tgt := 101) (pc2 := 65) dX9_doDeed_62 (by decide) rfl (fun b62 => ?_) (fun b62 => ?_)
                · exact absurd hr.2 (fun z => absurd ((lgc_le _ _).mpr z) (fun y => absurd b62 (Int32.not_lt.mpr y)))
                · skip
                  refine r_lload_n (pc2 := 66) 2 dX9_doDeed_65 rfl rfl rfl ?_
                  refine r_l2i (pc2 := 67) dX9_doDeed_66 rfl ?_
                  refine r_cast (nI k) (lN_i32 (by omega)) ?_
                  refine r_istore (pc2 := 69) (ls2 := [.ref 64, .ref p, .long (lN k), .float 0, .int (nI k)]) 4 dX9_doDeed_67 (by decide) rfl rfl rfl ?_
                  refine r_aload_n (pc2 := 70) 0 dX9_doDeed_69 rfl rfl rfl rfl ?_
                  refine r_aload_n (pc2 := 71) 1 dX9_doDeed_70 rfl rfl rfl rfl ?_
                  refine r_iload (pc2 := 73) 4 dX9_doDeed_71 rfl rfl ?_
                  refine r_bipush (pc2 := 75) (v := 10) dX9_doDeed_73 (by decide) rfl ?_
                  refine r_idiv (pc2 := 76) dX9_doDeed_75 (by decide) rfl ?_
                  refine r_cast (nI (k / 10)) (pk_div (d := 10) (by omega) (by decide) (by decide)) ?_
                  refine r_bipush (pc2 := 78) (v := 10) dX9_doDeed_76 (by decide) rfl ?_
                  refine r_irem (pc2 := 79) dX9_doDeed_78 (by decide) rfl ?_
                  refine r_cast (nI (k / 10 % 10)) (pk_rem (d := 10) (by omega) (by decide) (by decide)) ?_
                  refine r_iload (pc2 := 81) 4 dX9_doDeed_79 rfl rfl ?_
                  refine r_bipush (pc2 := 83) (v := 10) dX9_doDeed_81 (by decide) rfl ?_
                  refine r_irem (pc2 := 84) dX9_doDeed_83 (by decide) rfl ?_
                  refine r_cast (nI (k % 10)) (pk_rem (d := 10) (by omega) (by decide) (by decide)) ?_
                  refine r_iload (pc2 := 86) 4 dX9_doDeed_84 rfl rfl ?_
                  refine r_sipush (pc2 := 89) (v := 300) dX9_doDeed_86 (by decide) rfl ?_
                  refine r_icmp_ge (tgt := 96) (pc2 := 92) dX9_doDeed_89 (by decide) rfl (fun b89 => ?_) (fun b89 => ?_)
                  · skip
                    refine r_iconst (pc2 := 97) (v := 0) dX9_doDeed_96 (by decide) rfl ?_
                    refine r_callV1 (pc2 := 100) (As := [.ref p, .int (nI (k / 10 % 10)), .int (nI (k % 10)), .int 0]) (st := []) kX9_196 rfl rfl dX9_doDeed_97 c64 (by decide) rfl rfl (Nat.le_of_ble_eq_true rfl) (by omega) (c_tellHint0 c64 cs hs64 cp hp hb.1.2.2.2.1 hA (by omega)) rfl (fun h hq97 => ?_)
                    obtain ⟨hxc, cp⟩ := hq97
                    exact r_iret rfl dX9_doDeed_100 ⟨by rw [eW]; exact iteW hcc, kd, KQ.of hxc, hL.put2 hp hxc, hxc.gx.mono (by simp), by rw [eW, lN_clamp (by omega), eD]; exact iteS hcc cp⟩
                  · exact absurd (nI_le (a := 300) (by omega) (by omega)) b89
            · skip
              refine r_lload_n (pc2 := 31) 2 dX9_doDeed_30 rfl rfl rfl ?_
              refine r_ldc2 (pc2 := 34) (v := 109) qX9_187 dX9_doDeed_31 rfl ?_
              refine r_lcmp (pc2 := 35) dX9_doDeed_34 rfl ?_
              refine r_if_gt (tgt := 49) (pc2 := 38) dX9_doDeed_35 (by decide) rfl (fun b35 => ?_) (fun b35 => ?_)
              · skip
                refine r_lload_n (pc2 := 50) 2 dX9_doDeed_49 rfl rfl rfl ?_
                refine r_ldc2 (pc2 := 53) (v := 200) qX9_192 dX9_doDeed_50 rfl ?_
                refine r_lcmp (pc2 := 54) dX9_doDeed_53 rfl ?_
                refine r_if_lt (tgt := 101) (pc2 := 57) dX9_doDeed_54 (by decide) rfl (fun b54 => ?_) (fun b54 => ?_)
                · exact absurd hr.1 (fun z => absurd ((lgc_ge _ _).mpr z) (fun y => absurd b54 (Int32.not_lt.mpr y)))
                · skip
                  refine r_lload_n (pc2 := 58) 2 dX9_doDeed_57 rfl rfl rfl ?_
                  refine r_ldc2 (pc2 := 61) (v := 399) qX9_194 dX9_doDeed_58 rfl ?_
                  refine r_lcmp (pc2 := 62) dX9_doDeed_61 rfl ?_
                  refine r_if_gt (tgt := 101) (pc2 := 65) dX9_doDeed_62 (by decide) rfl (fun b62 => ?_) (fun b62 => ?_)
                  · exact absurd hr.2 (fun z => absurd ((lgc_le _ _).mpr z) (fun y => absurd b62 (Int32.not_lt.mpr y)))
                  · skip
                    refine r_lload_n (pc2 := 66) 2 dX9_doDeed_65 rfl rfl rfl ?_
                    refine r_l2i (pc2 := 67) dX9_doDeed_66 rfl ?_
                    refine r_cast (nI k) (lN_i32 (by omega)) ?_
                    refine r_istore (pc2 := 69) (ls2 := [.ref 64, .ref p, .long (lN k), .float 0, .int (nI k)]) 4 dX9_doDeed_67 (by decide) rfl rfl rfl ?_
                    refine r_aload_n (pc2 := 70) 0 dX9_doDeed_69 rfl rfl rfl rfl ?_
                    refine r_aload_n (pc2 := 71) 1 dX9_doDeed_70 rfl rfl rfl rfl ?_
                    refine r_iload (pc2 := 73) 4 dX9_doDeed_71 rfl rfl ?_
                    refine r_bipush (pc2 := 75) (v := 10) dX9_doDeed_73 (by decide) rfl ?_
                    refine r_idiv (pc2 := 76) dX9_doDeed_75 (by decide) rfl ?_
                    refine r_cast (nI (k / 10)) (pk_div (d := 10) (by omega) (by decide) (by decide)) ?_
                    refine r_bipush (pc2 := 78) (v := 10) dX9_doDeed_76 (by decide) rfl ?_
                    refine r_irem (pc2 := 79) dX9_doDeed_78 (by decide) rfl ?_
                    refine r_cast (nI (k / 10 % 10)) (pk_rem (d := 10) (by omega) (by decide) (by decide)) ?_
                    refine r_iload (pc2 := 81) 4 dX9_doDeed_79 rfl rfl ?_
                    refine r_bipush (pc2 := 83) (v := 10) dX9_doDeed_81 (by decide) rfl ?_
                    refine r_irem (pc2 := 84) dX9_doDeed_83 (by decide) rfl ?_
                    refine r_cast (nI (k % 10)) (pk_rem (d := 10) (by omega) (by decide) (by decide)) ?_
                    refine r_iload (pc2 := 86) 4 dX9_doDeed_84 rfl rfl ?_
                    refine r_sipush (pc2 := 89) (v := 300) dX9_doDeed_86 (by decide) rfl ?_
                    refine r_icmp_ge (tgt := 96) (pc2 := 92) dX9_doDeed_89 (by decide) rfl (fun b89 => ?_) (fun b89 => ?_)
                    · skip
                      refine r_iconst (pc2 := 97) (v := 0) dX9_doDeed_96 (by decide) rfl ?_
                      refine r_callV1 (pc2 := 100) (As := [.ref p, .int (nI (k / 10 % 10)), .int (nI (k % 10)), .int 0]) (st := []) kX9_196 rfl rfl dX9_doDeed_97 c64 (by decide) rfl rfl (Nat.le_of_ble_eq_true rfl) (by omega) (c_tellHint0 c64 cs hs64 cp hp hb.1.2.2.2.1 hA (by omega)) rfl (fun h hq97 => ?_)
                      obtain ⟨hxc, cp⟩ := hq97
                      exact r_iret rfl dX9_doDeed_100 ⟨by rw [eW]; exact iteW hcc, kd, KQ.of hxc, hL.put2 hp hxc, hxc.gx.mono (by simp), by rw [eW, lN_clamp (by omega), eD]; exact iteS hcc cp⟩
                    · exact absurd (nI_le (a := 300) (by omega) (by omega)) b89
              · exact absurd ⟨((lgc_ge _ _).mp (Int32.not_lt.mp b27)), ((lgc_le _ _).mp (Int32.not_lt.mp b35))⟩ n2
          · skip
            refine r_lload_n (pc2 := 7) 2 dX9_doDeed_6 rfl rfl rfl ?_
            refine r_ldc2 (pc2 := 10) (v := 15) qX9_180 dX9_doDeed_7 rfl ?_
            refine r_lcmp (pc2 := 11) dX9_doDeed_10 rfl ?_
            refine r_if_gt (tgt := 22) (pc2 := 14) dX9_doDeed_11 (by decide) rfl (fun b11 => ?_) (fun b11 => ?_)
            · skip
              refine r_lload_n (pc2 := 23) 2 dX9_doDeed_22 rfl rfl rfl ?_
              refine r_ldc2 (pc2 := 26) (v := 100) qX9_185 dX9_doDeed_23 rfl ?_
              refine r_lcmp (pc2 := 27) dX9_doDeed_26 rfl ?_
              refine r_if_lt (tgt := 49) (pc2 := 30) dX9_doDeed_27 (by decide) rfl (fun b27 => ?_) (fun b27 => ?_)
              · skip
                refine r_lload_n (pc2 := 50) 2 dX9_doDeed_49 rfl rfl rfl ?_
                refine r_ldc2 (pc2 := 53) (v := 200) qX9_192 dX9_doDeed_50 rfl ?_
                refine r_lcmp (pc2 := 54) dX9_doDeed_53 rfl ?_
                refine r_if_lt (tgt := 101) (pc2 := 57) dX9_doDeed_54 (by decide) rfl (fun b54 => ?_) (fun b54 => ?_)
                · exact absurd hr.1 (fun z => absurd ((lgc_ge _ _).mpr z) (fun y => absurd b54 (Int32.not_lt.mpr y)))
                · skip
                  refine r_lload_n (pc2 := 58) 2 dX9_doDeed_57 rfl rfl rfl ?_
                  refine r_ldc2 (pc2 := 61) (v := 399) qX9_194 dX9_doDeed_58 rfl ?_
                  refine r_lcmp (pc2 := 62) dX9_doDeed_61 rfl ?_
                  refine r_if_gt (tgt := 101) (pc2 := 65) dX9_doDeed_62 (by decide) rfl (fun b62 => ?_) (fun b62 => ?_)
                  · exact absurd hr.2 (fun z => absurd ((lgc_le _ _).mpr z) (fun y => absurd b62 (Int32.not_lt.mpr y)))
                  · skip
                    refine r_lload_n (pc2 := 66) 2 dX9_doDeed_65 rfl rfl rfl ?_
                    refine r_l2i (pc2 := 67) dX9_doDeed_66 rfl ?_
                    refine r_cast (nI k) (lN_i32 (by omega)) ?_
                    refine r_istore (pc2 := 69) (ls2 := [.ref 64, .ref p, .long (lN k), .float 0, .int (nI k)]) 4 dX9_doDeed_67 (by decide) rfl rfl rfl ?_
                    refine r_aload_n (pc2 := 70) 0 dX9_doDeed_69 rfl rfl rfl rfl ?_
                    refine r_aload_n (pc2 := 71) 1 dX9_doDeed_70 rfl rfl rfl rfl ?_
                    refine r_iload (pc2 := 73) 4 dX9_doDeed_71 rfl rfl ?_
                    refine r_bipush (pc2 := 75) (v := 10) dX9_doDeed_73 (by decide) rfl ?_
                    refine r_idiv (pc2 := 76) dX9_doDeed_75 (by decide) rfl ?_
                    refine r_cast (nI (k / 10)) (pk_div (d := 10) (by omega) (by decide) (by decide)) ?_
                    refine r_bipush (pc2 := 78) (v := 10) dX9_doDeed_76 (by decide) rfl ?_
                    refine r_irem (pc2 := 79) dX9_doDeed_78 (by decide) rfl ?_
                    refine r_cast (nI (k / 10 % 10)) (pk_rem (d := 10) (by omega) (by decide) (by decide)) ?_
                    refine r_iload (pc2 := 81) 4 dX9_doDeed_79 rfl rfl ?_
                    refine r_bipush (pc2 := 83) (v := 10) dX9_doDeed_81 (by decide) rfl ?_
                    refine r_irem (pc2 := 84) dX9_doDeed_83 (by decide) rfl ?_
                    refine r_cast (nI (k % 10)) (pk_rem (d := 10) (by omega) (by decide) (by decide)) ?_
                    refine r_iload (pc2 := 86) 4 dX9_doDeed_84 rfl rfl ?_
                    refine r_sipush (pc2 := 89) (v := 300) dX9_doDeed_86 (by decide) rfl ?_
                    refine r_icmp_ge (tgt := 96) (pc2 := 92) dX9_doDeed_89 (by decide) rfl (fun b89 => ?_) (fun b89 => ?_)
                    · skip
                      refine r_iconst (pc2 := 97) (v := 0) dX9_doDeed_96 (by decide) rfl ?_
                      refine r_callV1 (pc2 := 100) (As := [.ref p, .int (nI (k / 10 % 10)), .int (nI (k % 10)), .int 0]) (st := []) kX9_196 rfl rfl dX9_doDeed_97 c64 (by decide) rfl rfl (Nat.le_of_ble_eq_true rfl) (by omega) (c_tellHint0 c64 cs hs64 cp hp hb.1.2.2.2.1 hA (by omega)) rfl (fun h hq97 => ?_)
                      obtain ⟨hxc, cp⟩ := hq97
                      exact r_iret rfl dX9_doDeed_100 ⟨by rw [eW]; exact iteW hcc, kd, KQ.of hxc, hL.put2 hp hxc, hxc.gx.mono (by simp), by rw [eW, lN_clamp (by omega), eD]; exact iteS hcc cp⟩
                    · exact absurd (nI_le (a := 300) (by omega) (by omega)) b89
              · skip
                refine r_lload_n (pc2 := 31) 2 dX9_doDeed_30 rfl rfl rfl ?_
                refine r_ldc2 (pc2 := 34) (v := 109) qX9_187 dX9_doDeed_31 rfl ?_
                refine r_lcmp (pc2 := 35) dX9_doDeed_34 rfl ?_
                refine r_if_gt (tgt := 49) (pc2 := 38) dX9_doDeed_35 (by decide) rfl (fun b35 => ?_) (fun b35 => ?_)
                · skip
                  refine r_lload_n (pc2 := 50) 2 dX9_doDeed_49 rfl rfl rfl ?_
                  refine r_ldc2 (pc2 := 53) (v := 200) qX9_192 dX9_doDeed_50 rfl ?_
                  refine r_lcmp (pc2 := 54) dX9_doDeed_53 rfl ?_
                  refine r_if_lt (tgt := 101) (pc2 := 57) dX9_doDeed_54 (by decide) rfl (fun b54 => ?_) (fun b54 => ?_)
                  · exact absurd hr.1 (fun z => absurd ((lgc_ge _ _).mpr z) (fun y => absurd b54 (Int32.not_lt.mpr y)))
                  · skip
                    refine r_lload_n (pc2 := 58) 2 dX9_doDeed_57 rfl rfl rfl ?_
                    refine r_ldc2 (pc2 := 61) (v := 399) qX9_194 dX9_doDeed_58 rfl ?_
                    refine r_lcmp (pc2 := 62) dX9_doDeed_61 rfl ?_
                    refine r_if_gt (tgt := 101) (pc2 := 65) dX9_doDeed_62 (by decide) rfl (fun b62 => ?_) (fun b62 => ?_)
                    · exact absurd hr.2 (fun z => absurd ((lgc_le _ _).mpr z) (fun y => absurd b62 (Int32.not_lt.mpr y)))
                    · skip
                      refine r_lload_n (pc2 := 66) 2 dX9_doDeed_65 rfl rfl rfl ?_
                      refine r_l2i (pc2 := 67) dX9_doDeed_66 rfl ?_
                      refine r_cast (nI k) (lN_i32 (by omega)) ?_
                      refine r_istore (pc2 := 69) (ls2 := [.ref 64, .ref p, .long (lN k), .float 0, .int (nI k)]) 4 dX9_doDeed_67 (by decide) rfl rfl rfl ?_
                      refine r_aload_n (pc2 := 70) 0 dX9_doDeed_69 rfl rfl rfl rfl ?_
                      refine r_aload_n (pc2 := 71) 1 dX9_doDeed_70 rfl rfl rfl rfl ?_
                      refine r_iload (pc2 := 73) 4 dX9_doDeed_71 rfl rfl ?_
                      refine r_bipush (pc2 := 75) (v := 10) dX9_doDeed_73 (by decide) rfl ?_
                      refine r_idiv (pc2 := 76) dX9_doDeed_75 (by decide) rfl ?_
                      refine r_cast (nI (k / 10)) (pk_div (d := 10) (by omega) (by decide) (by decide)) ?_
                      refine r_bipush (pc2 := 78) (v := 10) dX9_doDeed_76 (by decide) rfl ?_
                      refine r_irem (pc2 := 79) dX9_doDeed_78 (by decide) rfl ?_
                      refine r_cast (nI (k / 10 % 10)) (pk_rem (d := 10) (by omega) (by decide) (by decide)) ?_
                      refine r_iload (pc2 := 81) 4 dX9_doDeed_79 rfl rfl ?_
                      refine r_bipush (pc2 := 83) (v := 10) dX9_doDeed_81 (by decide) rfl ?_
                      refine r_irem (pc2 := 84) dX9_doDeed_83 (by decide) rfl ?_
                      refine r_cast (nI (k % 10)) (pk_rem (d := 10) (by omega) (by decide) (by decide)) ?_
                      refine r_iload (pc2 := 86) 4 dX9_doDeed_84 rfl rfl ?_
                      refine r_sipush (pc2 := 89) (v := 300) dX9_doDeed_86 (by decide) rfl ?_
                      refine r_icmp_ge (tgt := 96) (pc2 := 92) dX9_doDeed_89 (by decide) rfl (fun b89 => ?_) (fun b89 => ?_)
                      · skip
                        refine r_iconst (pc2 := 97) (v := 0) dX9_doDeed_96 (by decide) rfl ?_
                        refine r_callV1 (pc2 := 100) (As := [.ref p, .int (nI (k / 10 % 10)), .int (nI (k % 10)), .int 0]) (st := []) kX9_196 rfl rfl dX9_doDeed_97 c64 (by decide) rfl rfl (Nat.le_of_ble_eq_true rfl) (by omega) (c_tellHint0 c64 cs hs64 cp hp hb.1.2.2.2.1 hA (by omega)) rfl (fun h hq97 => ?_)
                        obtain ⟨hxc, cp⟩ := hq97
                        exact r_iret rfl dX9_doDeed_100 ⟨by rw [eW]; exact iteW hcc, kd, KQ.of hxc, hL.put2 hp hxc, hxc.gx.mono (by simp), by rw [eW, lN_clamp (by omega), eD]; exact iteS hcc cp⟩
                      · exact absurd (nI_le (a := 300) (by omega) (by omega)) b89
                · exact absurd ⟨((lgc_ge _ _).mp (Int32.not_lt.mp b27)), ((lgc_le _ _).mp (Int32.not_lt.mp b35))⟩ n2
            · exact absurd ⟨((lgc_ge _ _).mp (Int32.not_lt.mp b3)), ((lgc_le _ _).mp (Int32.not_lt.mp b11))⟩ n1
      · have n3 : ¬ ((200 : Int64) ≤ v ∧ v ≤ 399) := r3
        have eW : whyD a v = 1 := by unfold whyD; rw [if_neg r1, if_neg r2, if_neg r3]
        refine Cn.go (ls := [.ref 64, .ref p, .long v, .float 0, .float 0]) (by decide +kernel) rfl (Nat.le_of_ble_eq_true rfl) ?_
        refine r_lload_n (pc2 := 1) 2 dX9_doDeed_0 rfl rfl rfl ?_
        refine r_lconst (pc2 := 2) (v := 0) dX9_doDeed_1 (by decide) rfl ?_
        refine r_lcmp (pc2 := 3) dX9_doDeed_2 rfl ?_
        refine r_if_lt (tgt := 22) (pc2 := 6) dX9_doDeed_3 (by decide) rfl (fun b3 => ?_) (fun b3 => ?_)
        · skip
          refine r_lload_n (pc2 := 23) 2 dX9_doDeed_22 rfl rfl rfl ?_
          refine r_ldc2 (pc2 := 26) (v := 100) qX9_185 dX9_doDeed_23 rfl ?_
          refine r_lcmp (pc2 := 27) dX9_doDeed_26 rfl ?_
          refine r_if_lt (tgt := 49) (pc2 := 30) dX9_doDeed_27 (by decide) rfl (fun b27 => ?_) (fun b27 => ?_)
          · skip
            refine r_lload_n (pc2 := 50) 2 dX9_doDeed_49 rfl rfl rfl ?_
            refine r_ldc2 (pc2 := 53) (v := 200) qX9_192 dX9_doDeed_50 rfl ?_
            refine r_lcmp (pc2 := 54) dX9_doDeed_53 rfl ?_
            refine r_if_lt (tgt := 101) (pc2 := 57) dX9_doDeed_54 (by decide) rfl (fun b54 => ?_) (fun b54 => ?_)
            · skip
              refine r_iconst (pc2 := 102) (v := 1) dX9_doDeed_101 (by decide) rfl ?_
              exact r_iret rfl dX9_doDeed_102 ⟨by rw [eW]; rfl, kd, KQ.rf, hL, Gx.rf, by rw [eW, if_neg (by decide)]; exact cp⟩
            · skip
              refine r_lload_n (pc2 := 58) 2 dX9_doDeed_57 rfl rfl rfl ?_
              refine r_ldc2 (pc2 := 61) (v := 399) qX9_194 dX9_doDeed_58 rfl ?_
              refine r_lcmp (pc2 := 62) dX9_doDeed_61 rfl ?_
              refine r_if_gt (tgt := 101) (pc2 := 65) dX9_doDeed_62 (by decide) rfl (fun b62 => ?_) (fun b62 => ?_)
              · skip
                refine r_iconst (pc2 := 102) (v := 1) dX9_doDeed_101 (by decide) rfl ?_
                exact r_iret rfl dX9_doDeed_102 ⟨by rw [eW]; rfl, kd, KQ.rf, hL, Gx.rf, by rw [eW, if_neg (by decide)]; exact cp⟩
              · exact absurd ⟨((lgc_ge _ _).mp (Int32.not_lt.mp b54)), ((lgc_le _ _).mp (Int32.not_lt.mp b62))⟩ n3
          · skip
            refine r_lload_n (pc2 := 31) 2 dX9_doDeed_30 rfl rfl rfl ?_
            refine r_ldc2 (pc2 := 34) (v := 109) qX9_187 dX9_doDeed_31 rfl ?_
            refine r_lcmp (pc2 := 35) dX9_doDeed_34 rfl ?_
            refine r_if_gt (tgt := 49) (pc2 := 38) dX9_doDeed_35 (by decide) rfl (fun b35 => ?_) (fun b35 => ?_)
            · skip
              refine r_lload_n (pc2 := 50) 2 dX9_doDeed_49 rfl rfl rfl ?_
              refine r_ldc2 (pc2 := 53) (v := 200) qX9_192 dX9_doDeed_50 rfl ?_
              refine r_lcmp (pc2 := 54) dX9_doDeed_53 rfl ?_
              refine r_if_lt (tgt := 101) (pc2 := 57) dX9_doDeed_54 (by decide) rfl (fun b54 => ?_) (fun b54 => ?_)
              · skip
                refine r_iconst (pc2 := 102) (v := 1) dX9_doDeed_101 (by decide) rfl ?_
                exact r_iret rfl dX9_doDeed_102 ⟨by rw [eW]; rfl, kd, KQ.rf, hL, Gx.rf, by rw [eW, if_neg (by decide)]; exact cp⟩
              · skip
                refine r_lload_n (pc2 := 58) 2 dX9_doDeed_57 rfl rfl rfl ?_
                refine r_ldc2 (pc2 := 61) (v := 399) qX9_194 dX9_doDeed_58 rfl ?_
                refine r_lcmp (pc2 := 62) dX9_doDeed_61 rfl ?_
                refine r_if_gt (tgt := 101) (pc2 := 65) dX9_doDeed_62 (by decide) rfl (fun b62 => ?_) (fun b62 => ?_)
                · skip
                  refine r_iconst (pc2 := 102) (v := 1) dX9_doDeed_101 (by decide) rfl ?_
                  exact r_iret rfl dX9_doDeed_102 ⟨by rw [eW]; rfl, kd, KQ.rf, hL, Gx.rf, by rw [eW, if_neg (by decide)]; exact cp⟩
                · exact absurd ⟨((lgc_ge _ _).mp (Int32.not_lt.mp b54)), ((lgc_le _ _).mp (Int32.not_lt.mp b62))⟩ n3
            · exact absurd ⟨((lgc_ge _ _).mp (Int32.not_lt.mp b27)), ((lgc_le _ _).mp (Int32.not_lt.mp b35))⟩ n2
        · skip
          refine r_lload_n (pc2 := 7) 2 dX9_doDeed_6 rfl rfl rfl ?_
          refine r_ldc2 (pc2 := 10) (v := 15) qX9_180 dX9_doDeed_7 rfl ?_
          refine r_lcmp (pc2 := 11) dX9_doDeed_10 rfl ?_
          refine r_if_gt (tgt := 22) (pc2 := 14) dX9_doDeed_11 (by decide) rfl (fun b11 => ?_) (fun b11 => ?_)
          · skip
            refine r_lload_n (pc2 := 23) 2 dX9_doDeed_22 rfl rfl rfl ?_
            refine r_ldc2 (pc2 := 26) (v := 100) qX9_185 dX9_doDeed_23 rfl ?_
            refine r_lcmp (pc2 := 27) dX9_doDeed_26 rfl ?_
            refine r_if_lt (tgt := 49) (pc2 := 30) dX9_doDeed_27 (by decide) rfl (fun b27 => ?_) (fun b27 => ?_)
            · skip
              refine r_lload_n (pc2 := 50) 2 dX9_doDeed_49 rfl rfl rfl ?_
              refine r_ldc2 (pc2 := 53) (v := 200) qX9_192 dX9_doDeed_50 rfl ?_
              refine r_lcmp (pc2 := 54) dX9_doDeed_53 rfl ?_
              refine r_if_lt (tgt := 101) (pc2 := 57) dX9_doDeed_54 (by decide) rfl (fun b54 => ?_) (fun b54 => ?_)
              · skip
                refine r_iconst (pc2 := 102) (v := 1) dX9_doDeed_101 (by decide) rfl ?_
                exact r_iret rfl dX9_doDeed_102 ⟨by rw [eW]; rfl, kd, KQ.rf, hL, Gx.rf, by rw [eW, if_neg (by decide)]; exact cp⟩
              · skip
                refine r_lload_n (pc2 := 58) 2 dX9_doDeed_57 rfl rfl rfl ?_
                refine r_ldc2 (pc2 := 61) (v := 399) qX9_194 dX9_doDeed_58 rfl ?_
                refine r_lcmp (pc2 := 62) dX9_doDeed_61 rfl ?_
                refine r_if_gt (tgt := 101) (pc2 := 65) dX9_doDeed_62 (by decide) rfl (fun b62 => ?_) (fun b62 => ?_)
                · skip
                  refine r_iconst (pc2 := 102) (v := 1) dX9_doDeed_101 (by decide) rfl ?_
                  exact r_iret rfl dX9_doDeed_102 ⟨by rw [eW]; rfl, kd, KQ.rf, hL, Gx.rf, by rw [eW, if_neg (by decide)]; exact cp⟩
                · exact absurd ⟨((lgc_ge _ _).mp (Int32.not_lt.mp b54)), ((lgc_le _ _).mp (Int32.not_lt.mp b62))⟩ n3
            · skip
              refine r_lload_n (pc2 := 31) 2 dX9_doDeed_30 rfl rfl rfl ?_
              refine r_ldc2 (pc2 := 34) (v := 109) qX9_187 dX9_doDeed_31 rfl ?_
              refine r_lcmp (pc2 := 35) dX9_doDeed_34 rfl ?_
              refine r_if_gt (tgt := 49) (pc2 := 38) dX9_doDeed_35 (by decide) rfl (fun b35 => ?_) (fun b35 => ?_)
              · skip
                refine r_lload_n (pc2 := 50) 2 dX9_doDeed_49 rfl rfl rfl ?_
                refine r_ldc2 (pc2 := 53) (v := 200) qX9_192 dX9_doDeed_50 rfl ?_
                refine r_lcmp (pc2 := 54) dX9_doDeed_53 rfl ?_
                refine r_if_lt (tgt := 101) (pc2 := 57) dX9_doDeed_54 (by decide) rfl (fun b54 => ?_) (fun b54 => ?_)
                · skip
                  refine r_iconst (pc2 := 102) (v := 1) dX9_doDeed_101 (by decide) rfl ?_
                  exact r_iret rfl dX9_doDeed_102 ⟨by rw [eW]; rfl, kd, KQ.rf, hL, Gx.rf, by rw [eW, if_neg (by decide)]; exact cp⟩
                · skip
                  refine r_lload_n (pc2 := 58) 2 dX9_doDeed_57 rfl rfl rfl ?_
                  refine r_ldc2 (pc2 := 61) (v := 399) qX9_194 dX9_doDeed_58 rfl ?_
                  refine r_lcmp (pc2 := 62) dX9_doDeed_61 rfl ?_
                  refine r_if_gt (tgt := 101) (pc2 := 65) dX9_doDeed_62 (by decide) rfl (fun b62 => ?_) (fun b62 => ?_)
                  · skip
                    refine r_iconst (pc2 := 102) (v := 1) dX9_doDeed_101 (by decide) rfl ?_
                    exact r_iret rfl dX9_doDeed_102 ⟨by rw [eW]; rfl, kd, KQ.rf, hL, Gx.rf, by rw [eW, if_neg (by decide)]; exact cp⟩
                  · exact absurd ⟨((lgc_ge _ _).mp (Int32.not_lt.mp b54)), ((lgc_le _ _).mp (Int32.not_lt.mp b62))⟩ n3
              · exact absurd ⟨((lgc_ge _ _).mp (Int32.not_lt.mp b27)), ((lgc_le _ _).mp (Int32.not_lt.mp b35))⟩ n2
          · exact absurd ⟨((lgc_ge _ _).mp (Int32.not_lt.mp b3)), ((lgc_le _ _).mp (Int32.not_lt.mp b11))⟩ n1
