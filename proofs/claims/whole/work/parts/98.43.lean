/-! hints of a street that is still read -/
theorem hint_sdW {a : FR} {p q i : Nat} (hA : (∀ r, r < 8 → a (29 + r) < 256) ∧ ∀ r, r < 8 → a (37 + r) < 256) (hp : p < 8) (hq : q < 8) (hpq : p ≠ q) (hi : i < 2) : sdL (keepV (hintN a p q i)) = [.int (nI (tow (keepV a))), .int (nI (a 26)), .long (if i = 1 then bL (keepV a) 7 ||| pairL p q else bL (keepV a) 7 &&& (pairL p q ^^^ -1)), .long (if i = 1 then bL (keepV a) 15 &&& (pairL p q ^^^ -1) else bL (keepV a) 15 ||| pairL p q), .int (nI (a 27)), .int (nI (a 28))] := by
  have o : ∀ k, k < 29 → hintN a p q i k = a k := fun k hk => hintN_out hp hq (Or.inl hk)
  have hb7 : ∀ r, r < 8 → keepV a (7 + r) < 256 := fun r hr => by show a (22 + (7 + r)) < 256; rw [show 22 + (7 + r) = 29 + r by omega]; exact hA.1 r hr
  have hb15 : ∀ r, r < 8 → keepV a (15 + r) < 256 := fun r hr => by show a (22 + (15 + r)) < 256; rw [show 22 + (15 + r) = 37 + r by omega]; exact hA.2 r hr
  have k7 : ∀ r, r < 8 → keepV (hintN a p q i) (7 + r) = (if i = 1 then hOr (fun r => keepV a (7 + r)) p q r else hCl (fun r => keepV a (7 + r)) p q r) := fun r hr => by
    show hintN a p q i (22 + (7 + r)) = _
    rw [show 22 + (7 + r) = 29 + r by omega]
    have e : ∀ r, keepV a (7 + r) = a (29 + r) := fun r => by show a (22 + (7 + r)) = _; rw [show 22 + (7 + r) = 29 + r by omega]
    unfold hOr hCl hintN
    simp only [e]
    by_cases e1 : r = p
    · subst e1
      rw [va_up_ne _ _ (by omega), va_up_ne _ _ (by omega), va_up_ne _ _ (by omega), va_up_self, if_pos rfl, if_pos rfl]
    · by_cases e2 : r = q
      · subst e2
        rw [va_up_ne _ _ (by omega), va_up_self, if_neg e1, if_neg e1, if_pos rfl, if_pos rfl]
      · rw [va_up_ne _ _ (by omega), va_up_ne _ _ (by omega), va_up_ne _ _ (by omega), va_up_ne _ _ (by omega), if_neg e1, if_neg e1, if_neg e2, if_neg e2, ite_self]
  have k15 : ∀ r, r < 8 → keepV (hintN a p q i) (15 + r) = (if i = 1 then hCl (fun r => keepV a (15 + r)) p q r else hOr (fun r => keepV a (15 + r)) p q r) := fun r hr => by
    show hintN a p q i (22 + (15 + r)) = _
    rw [show 22 + (15 + r) = 37 + r by omega]
    have e : ∀ r, keepV a (15 + r) = a (37 + r) := fun r => by show a (22 + (15 + r)) = _; rw [show 22 + (15 + r) = 37 + r by omega]
    unfold hOr hCl hintN
    simp only [e]
    by_cases e1 : r = p
    · subst e1
      rw [va_up_ne _ _ (by omega), va_up_ne _ _ (by omega), va_up_self, if_pos rfl, if_pos rfl]
    · by_cases e2 : r = q
      · subst e2
        rw [va_up_self, if_neg e1, if_neg e1, if_pos rfl, if_pos rfl]
      · rw [va_up_ne _ _ (by omega), va_up_ne _ _ (by omega), va_up_ne _ _ (by omega), va_up_ne _ _ (by omega), if_neg e1, if_neg e1, if_neg e2, if_neg e2, ite_self]
  have t : tow (keepV (hintN a p q i)) = tow (keepV a) := by
    show hintN a p q i 22 + 7 * hintN a p q i 23 + 49 * hintN a p q i 24 + 343 * hintN a p q i 25 = _
    rw [o 22 (by omega), o 23 (by omega), o 24 (by omega), o 25 (by omega)]
    rfl
  have e4 : keepV (hintN a p q i) 4 = a 26 := o 26 (by omega)
  have e5 : keepV (hintN a p q i) 5 = a 27 := o 27 (by omega)
  have e6 : keepV (hintN a p q i) 6 = a 28 := o 28 (by omega)
  unfold sdL
  rw [t, e4, e5, e6, bL_eq (keepV (hintN a p q i)), bL_eq (keepV (hintN a p q i)), L8_congr k7, L8_congr k15, bL_eq, bL_eq, lN_m1, lN_xor, lN_and, lN_and, lN_or, lN_or, or_pair hb7 hp hq hpq, or_pair hb15 hp hq hpq, cl_pair hb7 hp hq hpq, cl_pair hb15 hp hq hpq]
  by_cases h1 : i = 1
  · simp only [if_pos h1]
  · simp only [if_neg h1]
set_option maxRecDepth 20000 in
set_option maxHeartbeats 1000000 in
theorem c_addHintW0 {E : EnvT} {d : Nat} {h0 : Hp} {a : FR} {p x y : Nat} (cp : h0.1 p = some (.inr (5, sdL (keepV a)))) (hp : 64 ≤ p) (hA : (∀ r, r < 8 → a (29 + r) < 256) ∧ ∀ r, r < 8 → a (37 + r) < 256) (hx8 : x < 8) (hy8 : y < 8) (hxy : x ≠ y) : Cn E mX5_addHint d [.ref p, .int (nI x), .int (nI y), .int 0] h0 (fun r h2 => r = none ∧ Ex [p] h0 h2 ∧ h2.1 p = some (.inr (5, sdL (keepV (hintN a x y 0))))) := by
  have hx : Ex [p] h0 h0 := Ex.rf
  refine Cn.go (ls := [.ref p, .int (nI x), .int (nI y), .int 0, .float 0, .float 0]) (by decide +kernel) rfl (Nat.le_of_ble_eq_true rfl) ?_
  refine r_lconst (pc2 := 1) (v := 1) dX5_addHint_0 (by decide) rfl ?_
  refine r_bipush (pc2 := 3) (v := 8) dX5_addHint_1 (by decide) rfl ?_
  refine r_iload_n (pc2 := 4) 1 dX5_addHint_3 rfl rfl rfl ?_
  refine r_imul (pc2 := 5) dX5_addHint_4 rfl ?_
  refine r_cast (nI (8 * x)) (pk_mul 8 x) ?_
  refine r_iload_n (pc2 := 6) 2 dX5_addHint_5 rfl rfl rfl ?_
  refine r_iadd (pc2 := 7) dX5_addHint_6 rfl ?_
  refine r_cast (nI (8 * x + y)) (nI_add _ _) ?_
  refine r_lshl (pc2 := 8) dX5_addHint_7 rfl ?_
  refine r_castl (lN (2 ^ (8 * x + y))) (shl64 _ (by omega)) ?_
  refine r_lconst (pc2 := 9) (v := 1) dX5_addHint_8 (by decide) rfl ?_
  refine r_bipush (pc2 := 11) (v := 8) dX5_addHint_9 (by decide) rfl ?_
  refine r_iload_n (pc2 := 12) 2 dX5_addHint_11 rfl rfl rfl ?_
  refine r_imul (pc2 := 13) dX5_addHint_12 rfl ?_
  refine r_cast (nI (8 * y)) (pk_mul 8 y) ?_
  refine r_iload_n (pc2 := 14) 1 dX5_addHint_13 rfl rfl rfl ?_
  refine r_iadd (pc2 := 15) dX5_addHint_14 rfl ?_
  refine r_cast (nI (8 * y + x)) (nI_add _ _) ?_
  refine r_lshl (pc2 := 16) dX5_addHint_15 rfl ?_
  refine r_castl (lN (2 ^ (8 * y + x))) (shl64 _ (by omega)) ?_
  refine r_lor (pc2 := 17) dX5_addHint_16 rfl ?_
  refine r_castl (pairL x y) (lN_or _ _) ?_
  refine r_topl (fun x17 e17 => ?_)
  refine r_lstore (pc2 := 19) (ls2 := [.ref p, .int (nI x), .int (nI y), .int 0, .long x17, .float 0]) 4 dX5_addHint_17 (by decide) rfl rfl rfl ?_
  refine r_aload_n (pc2 := 20) 0 dX5_addHint_19 rfl rfl rfl rfl ?_
  refine r_iload_n (pc2 := 21) 3 dX5_addHint_20 rfl rfl rfl ?_
  refine r_if_eq (tgt := 34) (pc2 := 24) dX5_addHint_21 (by decide) rfl (fun b21 => ?_) (fun b21 => ?_)
  · skip
    refine r_aload_n (pc2 := 35) 0 dX5_addHint_34 rfl rfl rfl rfl ?_
    refine r_getf (pc2 := 38) (v := .long (bL (keepV a) 7)) fX5_16 dX5_addHint_35 cp hp rfl rfl ?_
    refine r_lload (pc2 := 40) 4 dX5_addHint_38 rfl rfl ?_
    refine r_ldc2 (pc2 := 43) (v := -1) qX5_29 dX5_addHint_40 rfl ?_
    refine r_lxor (pc2 := 44) dX5_addHint_43 rfl ?_
    refine r_land (pc2 := 45) dX5_addHint_44 rfl ?_
    refine r_topl (fun y45 ey45 => ?_)
    refine r_putfX (pc2 := 48) [.int (nI (tow (keepV a))), .int (nI (a 26)), .long y45, .long (bL (keepV a) 15), .int (nI (a 27)), .int (nI (a 28))] fX5_16 dX5_addHint_45 cp hp (Nat.le_of_ble_eq_true rfl) rfl rfl rfl (fun h z45 o45 cp => ?_)
    have hx := hx.step (a := p) (by simp) z45 o45
    refine r_aload_n (pc2 := 49) 0 dX5_addHint_48 rfl rfl rfl rfl ?_
    refine r_iload_n (pc2 := 50) 3 dX5_addHint_49 rfl rfl rfl ?_
    refine r_if_eq (tgt := 67) (pc2 := 53) dX5_addHint_50 (by decide) rfl (fun b50 => ?_) (fun b50 => ?_)
    · skip
      refine r_aload_n (pc2 := 68) 0 dX5_addHint_67 rfl rfl rfl rfl ?_
      refine r_getf (pc2 := 71) (v := .long (bL (keepV a) 15)) fX5_20 dX5_addHint_68 cp hp rfl rfl ?_
      refine r_lload (pc2 := 73) 4 dX5_addHint_71 rfl rfl ?_
      refine r_lor (pc2 := 74) dX5_addHint_73 rfl ?_
      refine r_topl (fun y74 ey74 => ?_)
      refine r_putfX (pc2 := 77) [.int (nI (tow (keepV a))), .int (nI (a 26)), .long y45, .long y74, .int (nI (a 27)), .int (nI (a 28))] fX5_20 dX5_addHint_74 cp hp (Nat.le_of_ble_eq_true rfl) rfl rfl rfl (fun h z74 o74 cp => ?_)
      have hx := hx.step (a := p) (by simp) z74 o74
      exact r_vret rfl dX5_addHint_77 ⟨rfl, hx, by rw [hint_sdW hA hx8 hy8 hxy (by decide), if_neg (by decide), if_neg (by decide), ← e17, ← ey45, ← ey74]; exact cp⟩
    · exact absurd b50 (by decide)
  · exact absurd b21 (by decide)
set_option maxRecDepth 20000 in
set_option maxHeartbeats 1000000 in
theorem c_addHintW1 {E : EnvT} {d : Nat} {h0 : Hp} {a : FR} {p x y : Nat} (cp : h0.1 p = some (.inr (5, sdL (keepV a)))) (hp : 64 ≤ p) (hA : (∀ r, r < 8 → a (29 + r) < 256) ∧ ∀ r, r < 8 → a (37 + r) < 256) (hx8 : x < 8) (hy8 : y < 8) (hxy : x ≠ y) : Cn E mX5_addHint d [.ref p, .int (nI x), .int (nI y), .int 1] h0 (fun r h2 => r = none ∧ Ex [p] h0 h2 ∧ h2.1 p = some (.inr (5, sdL (keepV (hintN a x y 1))))) := by
  have hx : Ex [p] h0 h0 := Ex.rf
  refine Cn.go (ls := [.ref p, .int (nI x), .int (nI y), .int 1, .float 0, .float 0]) (by decide +kernel) rfl (Nat.le_of_ble_eq_true rfl) ?_
  refine r_lconst (pc2 := 1) (v := 1) dX5_addHint_0 (by decide) rfl ?_
  refine r_bipush (pc2 := 3) (v := 8) dX5_addHint_1 (by decide) rfl ?_
  refine r_iload_n (pc2 := 4) 1 dX5_addHint_3 rfl rfl rfl ?_
  refine r_imul (pc2 := 5) dX5_addHint_4 rfl ?_
  refine r_cast (nI (8 * x)) (pk_mul 8 x) ?_
  refine r_iload_n (pc2 := 6) 2 dX5_addHint_5 rfl rfl rfl ?_
  refine r_iadd (pc2 := 7) dX5_addHint_6 rfl ?_
  refine r_cast (nI (8 * x + y)) (nI_add _ _) ?_
  refine r_lshl (pc2 := 8) dX5_addHint_7 rfl ?_
  refine r_castl (lN (2 ^ (8 * x + y))) (shl64 _ (by omega)) ?_
  refine r_lconst (pc2 := 9) (v := 1) dX5_addHint_8 (by decide) rfl ?_
  refine r_bipush (pc2 := 11) (v := 8) dX5_addHint_9 (by decide) rfl ?_
  refine r_iload_n (pc2 := 12) 2 dX5_addHint_11 rfl rfl rfl ?_
  refine r_imul (pc2 := 13) dX5_addHint_12 rfl ?_
  refine r_cast (nI (8 * y)) (pk_mul 8 y) ?_
  refine r_iload_n (pc2 := 14) 1 dX5_addHint_13 rfl rfl rfl ?_
  refine r_iadd (pc2 := 15) dX5_addHint_14 rfl ?_
  refine r_cast (nI (8 * y + x)) (nI_add _ _) ?_
  refine r_lshl (pc2 := 16) dX5_addHint_15 rfl ?_
  refine r_castl (lN (2 ^ (8 * y + x))) (shl64 _ (by omega)) ?_
  refine r_lor (pc2 := 17) dX5_addHint_16 rfl ?_
  refine r_castl (pairL x y) (lN_or _ _) ?_
  refine r_topl (fun x17 e17 => ?_)
  refine r_lstore (pc2 := 19) (ls2 := [.ref p, .int (nI x), .int (nI y), .int 1, .long x17, .float 0]) 4 dX5_addHint_17 (by decide) rfl rfl rfl ?_
  refine r_aload_n (pc2 := 20) 0 dX5_addHint_19 rfl rfl rfl rfl ?_
  refine r_iload_n (pc2 := 21) 3 dX5_addHint_20 rfl rfl rfl ?_
  refine r_if_eq (tgt := 34) (pc2 := 24) dX5_addHint_21 (by decide) rfl (fun b21 => ?_) (fun b21 => ?_)
  · exact absurd b21 (by decide)
  · skip
    refine r_aload_n (pc2 := 25) 0 dX5_addHint_24 rfl rfl rfl rfl ?_
    refine r_getf (pc2 := 28) (v := .long (bL (keepV a) 7)) fX5_16 dX5_addHint_25 cp hp rfl rfl ?_
    refine r_lload (pc2 := 30) 4 dX5_addHint_28 rfl rfl ?_
    refine r_lor (pc2 := 31) dX5_addHint_30 rfl ?_
    refine r_goto (pc2 := 45) dX5_addHint_31 (by decide) ?_
    refine r_topl (fun y45 ey45 => ?_)
    refine r_putfX (pc2 := 48) [.int (nI (tow (keepV a))), .int (nI (a 26)), .long y45, .long (bL (keepV a) 15), .int (nI (a 27)), .int (nI (a 28))] fX5_16 dX5_addHint_45 cp hp (Nat.le_of_ble_eq_true rfl) rfl rfl rfl (fun h z45 o45 cp => ?_)
    have hx := hx.step (a := p) (by simp) z45 o45
    refine r_aload_n (pc2 := 49) 0 dX5_addHint_48 rfl rfl rfl rfl ?_
    refine r_iload_n (pc2 := 50) 3 dX5_addHint_49 rfl rfl rfl ?_
    refine r_if_eq (tgt := 67) (pc2 := 53) dX5_addHint_50 (by decide) rfl (fun b50 => ?_) (fun b50 => ?_)
    · exact absurd b50 (by decide)
    · skip
      refine r_aload_n (pc2 := 54) 0 dX5_addHint_53 rfl rfl rfl rfl ?_
      refine r_getf (pc2 := 57) (v := .long (bL (keepV a) 15)) fX5_20 dX5_addHint_54 cp hp rfl rfl ?_
      refine r_lload (pc2 := 59) 4 dX5_addHint_57 rfl rfl ?_
      refine r_ldc2 (pc2 := 62) (v := -1) qX5_29 dX5_addHint_59 rfl ?_
      refine r_lxor (pc2 := 63) dX5_addHint_62 rfl ?_
      refine r_land (pc2 := 64) dX5_addHint_63 rfl ?_
      refine r_goto (pc2 := 74) dX5_addHint_64 (by decide) ?_
      refine r_topl (fun y74 ey74 => ?_)
      refine r_putfX (pc2 := 77) [.int (nI (tow (keepV a))), .int (nI (a 26)), .long y45, .long y74, .int (nI (a 27)), .int (nI (a 28))] fX5_20 dX5_addHint_74 cp hp (Nat.le_of_ble_eq_true rfl) rfl rfl rfl (fun h z74 o74 cp => ?_)
      have hx := hx.step (a := p) (by simp) z74 o74
      exact r_vret rfl dX5_addHint_77 ⟨rfl, hx, by rw [hint_sdW hA hx8 hy8 hxy (by decide), if_pos rfl, if_pos rfl, ← e17, ← ey45, ← ey74]; exact cp⟩
