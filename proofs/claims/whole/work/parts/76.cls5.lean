/-! the class: its stands, and deeds upon them -/
def Stat (a b : FR) : Prop := ∀ k, (k < 22 ∨ (276 ≤ k ∧ k < 1177)) → a k = b k
theorem stk_cf {w : Nat → Int32} {cf cf2 : Nat → Nat} {n : Nat} (e : ∀ k, k < n → cf2 k = cf k) : ∀ k, k ≤ n → stk w cf2 k = stk w cf k := by
  intro k
  induction k with
  | zero => intro _; rfl
  | succ k ih => intro hk; rw [stk, stk, ih (by omega), e k (by omega)]
theorem lawV_stat {a b : FR} {lw : Nat} (hs : Stat a b) (hlw : lw < 2) (hb : LWok b lw) (h1 : b (8 + lw) ≠ 0) (w : Nat → Int32) (mx : Nat) : lawV a lw w mx = lawV b lw w mx := by
  rcases hb with hb | hb
  · exact absurd hb h1
  · unfold lawV
    rw [hs (12 + lw) (by omega), stk_cf (fun k hk => ?_) _ (Nat.le_refl _)]
    unfold lawF
    rw [hs (10 + lw) (by omega)]
    have := hb.2.1
    exact hs _ (Or.inr ⟨by omega, by omega⟩)
theorem noiseN_stat {a b : FR} (hs : Stat a b) (hb : AOK b) {g : Nat} (hg : g < 4) (to dp dr : Nat) : noiseN a g to dp dr = noiseN b g to dp dr := by
  have ef : farN a to = farN b to := by unfold farN; rw [hs 2 (by omega)]
  unfold noiseN
  rw [hs 8 (by omega), hs (14 + g) (by omega), hs (18 + g) (by omega), ef]
  by_cases h8 : b 8 = 0
  · rw [if_pos h8, if_pos h8]
  · rw [if_neg h8, if_neg h8, lawV_stat hs (by decide) hb.2.2.2.2.2.2.2.1 h8]
theorem hNz_stat {a b : FR} (hs : Stat a b) (hb : AOK b) (s sn o dr : Nat) : ∀ k, k ≤ 4 → hNz a s sn o dr k = hNz b s sn o dr k
  | 0, _ => rfl
  | k + 1, hk => by
    unfold hNz
    rw [hNz_stat hs hb s sn o dr k (by omega), noiseN_stat hs hb (by omega)]
theorem dpN_stat {a b : FR} (hs : Stat a b) (hb : AOK b) (dp nz cs sn dr : Nat) : dpN a dp nz cs sn dr = dpN b dp nz cs sn dr := by
  unfold dpN
  rw [hs 9 (by omega), hs 1 (by omega), hs 3 (by omega)]
  by_cases h9 : b 9 = 0
  · rw [if_pos h9, if_pos h9]
  · rw [if_neg h9, if_neg h9, lawV_stat hs (by decide) hb.2.2.2.2.2.2.2.2 h9]
theorem hourN_stat {a b : FR} (hs : Stat a b) (hb : AOK b) (s sn o dr : Nat) : hourN a s sn o dr = hourN b s sn o dr := by
  unfold hourN
  rw [hs 3 (by omega), hNz_stat hs hb s sn o dr (b 3) hb.2.2.1, dpN_stat hs hb]
theorem hourN_dep {a : FR} {s sn o dr : Nat} (hG : a 3 ≤ 4) (h7 : ∀ g, g < a 3 → sn.testBit g = true → s / 8 ^ g % 8 < 7) : hourN a s sn o dr / 4096 = dpN a (s / 4096) (hNz a s sn o dr (a 3)) (hCs s sn (a 3)) sn dr := by
  have := hCs_lt s sn (a 3) hG h7
  unfold hourN
  omega
theorem tow_tws {a : FR} (hA : AIN a) : tow (keepV a) = tws (packS a) := by
  have h0 := hA.pdig 0 (by decide)
  have h1 := hA.pdig 1 (by decide)
  have h2 := hA.pdig 2 (by decide)
  have h3 := hA.pdig 3 (by decide)
  simp only [Nat.reducePow, Nat.div_one] at h0 h1 h2 h3
  unfold tws
  rw [h0, h1, h2, h3]
  rfl
theorem dig_le {a : FR} (hA : AIN a) : ∀ g, g < 4 → packS a / 8 ^ g % 8 ≤ a 1 := fun g hg => by rw [hA.pdig g hg]; exact hA.cl g hg
def shK (sn : Nat) : Nat → Nat
  | 0 => 0
  | k + 1 => shK sn k + (if sn.testBit k = true then 7 ^ k else 0)
theorem shK_le (sn : Nat) : ∀ k, k ≤ 4 → shK sn k ≤ 2400
  | 0, _ => Nat.zero_le _
  | 1, _ => by unfold shK shK; split <;> omega
  | 2, _ => by unfold shK shK shK; (repeat' split) <;> omega
  | 3, _ => by unfold shK shK shK shK; (repeat' split) <;> omega
  | 4, _ => by unfold shK shK shK shK shK; (repeat' split) <;> omega
theorem xW7 : ∀ k, k < 4 → xW k = nI (7 ^ k) := by decide
theorem goes_sd {a : FR} {sn : Nat} (hA : AIN a) (h : stepOk a sn) (hsn : sn < 2 ^ (a 3)) : sdL (keepV (goesN a sn)) = [.int (nI (tow (keepV a) + shK sn 4)), .int (nI (goesN a sn 26)), .long (bL (keepV a) 7), .long (bL (keepV a) 15), .int (nI (a 27)), .int (nI (a 28 + 1))] := by
  have hG := hA.G
  have e : ∀ k, k < 22 ∨ (26 < k ∧ k ≠ 28) → goesN a sn k = a k := fun k hk => goesN_out hG hk
  have c : ∀ g, g < 4 → goesN a sn (22 + g) = a (22 + g) + (if sn.testBit g = true then 1 else 0) := fun g hg => by
    rcases Nat.lt_or_ge g (a 3) with q | q
    · exact goesN_cell hA h q
    · have hb : sn.testBit g = false := Nat.testBit_lt_two_pow (Nat.lt_of_lt_of_le hsn (Nat.pow_le_pow_right (by decide) q))
      rw [hb, if_neg (by decide), Nat.add_zero]
      unfold goesN standTo
      rw [va_up_ne _ _ (by omega), va_up_ne _ _ (by omega), fillN_out (by omega)]
  have ct : tow (keepV (goesN a sn)) = tow (keepV a) + shK sn 4 := by
    have c0 : goesN a sn 22 = a 22 + (if sn.testBit 0 = true then 1 else 0) := c 0 (by decide)
    have c1 : goesN a sn 23 = a 23 + (if sn.testBit 1 = true then 1 else 0) := c 1 (by decide)
    have c2 : goesN a sn 24 = a 24 + (if sn.testBit 2 = true then 1 else 0) := c 2 (by decide)
    have c3 : goesN a sn 25 = a 25 + (if sn.testBit 3 = true then 1 else 0) := c 3 (by decide)
    show goesN a sn 22 + 7 * goesN a sn 23 + 49 * goesN a sn 24 + 343 * goesN a sn 25 = a 22 + 7 * a 23 + 49 * a 24 + 343 * a 25 + shK sn 4
    rw [c0, c1, c2, c3]
    unfold shK shK shK shK shK
    (repeat' split) <;> omega
  have cb : ∀ o, 7 ≤ o → o ≤ 15 → bL (keepV (goesN a sn)) o = bL (keepV a) o := fun o h1 h2 => by
    have k : ∀ j, j < 8 → keepV (goesN a sn) (o + j) = keepV a (o + j) := fun j hj => e _ (by omega)
    unfold bL
    rw [show keepV (goesN a sn) o = keepV a o from k 0 (by decide), k 1 (by decide), k 2 (by decide), k 3 (by decide), k 4 (by decide), k 5 (by decide), k 6 (by decide), k 7 (by decide)]
  unfold sdL
  rw [ct, cb 7 (by omega) (by omega), cb 15 (by omega) (by omega)]
  have e5 : keepV (goesN a sn) 5 = a 27 := e 27 (by omega)
  have e6 : keepV (goesN a sn) 6 = a 28 + 1 := goesN_28
  rw [e5, e6]
  rfl
set_option maxRecDepth 20000 in
set_option maxHeartbeats 1000000 in
theorem c_become {E : EnvT} {d : Nat} {h0 : Hp} {p q : Nat} {y0 y1 y2 y3 y4 y5 : Value} {x0 x1 x4 x5 : Int32} {x2 x3 : Int64} (cp : h0.1 p = some (.inr (5, [y0, y1, y2, y3, y4, y5]))) (cq : h0.1 q = some (.inr (5, [.int x0, .int x1, .long x2, .long x3, .int x4, .int x5]))) (hp : 64 ≤ p) (hq : 64 ≤ q) (hpq : q ≠ p) : Cn E mX5_become d [.ref p, .ref q] h0 (fun r h2 => r = none ∧ Ex [p] h0 h2 ∧ h2.1 p = some (.inr (5, [.int x0, .int x1, .long x2, .long x3, .int x4, .int x5]))) := by
  have hx : Ex [p] h0 h0 := Ex.rf
  refine Cn.go (ls := [.ref p, .ref q]) (by decide +kernel) rfl (Nat.le_of_ble_eq_true rfl) ?_
  refine r_aload_n (pc2 := 1) 0 dX5_become_0 rfl rfl rfl rfl ?_
  refine r_aload_n (pc2 := 2) 1 dX5_become_1 rfl rfl rfl rfl ?_
  refine r_getf (pc2 := 5) (v := .int x0) fX5_7 dX5_become_2 cq hq rfl rfl ?_
  refine r_putfX (pc2 := 8) [.int x0, y1, y2, y3, y4, y5] fX5_7 dX5_become_5 cp hp (Nat.le_of_ble_eq_true rfl) rfl rfl rfl (fun h z5 o5 cp => ?_)
  have cq := (o5 q hpq).trans cq
  have hx := hx.step (a := p) (by simp) z5 o5
  refine r_aload_n (pc2 := 9) 0 dX5_become_8 rfl rfl rfl rfl ?_
  refine r_aload_n (pc2 := 10) 1 dX5_become_9 rfl rfl rfl rfl ?_
  refine r_getf (pc2 := 13) (v := .int x1) fX5_13 dX5_become_10 cq hq rfl rfl ?_
  refine r_putfX (pc2 := 16) [.int x0, .int x1, y2, y3, y4, y5] fX5_13 dX5_become_13 cp hp (Nat.le_of_ble_eq_true rfl) rfl rfl rfl (fun h z13 o13 cp => ?_)
  have cq := (o13 q hpq).trans cq
  have hx := hx.step (a := p) (by simp) z13 o13
  refine r_aload_n (pc2 := 17) 0 dX5_become_16 rfl rfl rfl rfl ?_
  refine r_aload_n (pc2 := 18) 1 dX5_become_17 rfl rfl rfl rfl ?_
  refine r_getf (pc2 := 21) (v := .long x2) fX5_16 dX5_become_18 cq hq rfl rfl ?_
  refine r_putfX (pc2 := 24) [.int x0, .int x1, .long x2, y3, y4, y5] fX5_16 dX5_become_21 cp hp (Nat.le_of_ble_eq_true rfl) rfl rfl rfl (fun h z21 o21 cp => ?_)
  have cq := (o21 q hpq).trans cq
  have hx := hx.step (a := p) (by simp) z21 o21
  refine r_aload_n (pc2 := 25) 0 dX5_become_24 rfl rfl rfl rfl ?_
  refine r_aload_n (pc2 := 26) 1 dX5_become_25 rfl rfl rfl rfl ?_
  refine r_getf (pc2 := 29) (v := .long x3) fX5_20 dX5_become_26 cq hq rfl rfl ?_
  refine r_putfX (pc2 := 32) [.int x0, .int x1, .long x2, .long x3, y4, y5] fX5_20 dX5_become_29 cp hp (Nat.le_of_ble_eq_true rfl) rfl rfl rfl (fun h z29 o29 cp => ?_)
  have cq := (o29 q hpq).trans cq
  have hx := hx.step (a := p) (by simp) z29 o29
  refine r_aload_n (pc2 := 33) 0 dX5_become_32 rfl rfl rfl rfl ?_
  refine r_aload_n (pc2 := 34) 1 dX5_become_33 rfl rfl rfl rfl ?_
  refine r_getf (pc2 := 37) (v := .int x4) fX5_23 dX5_become_34 cq hq rfl rfl ?_
  refine r_putfX (pc2 := 40) [.int x0, .int x1, .long x2, .long x3, .int x4, y5] fX5_23 dX5_become_37 cp hp (Nat.le_of_ble_eq_true rfl) rfl rfl rfl (fun h z37 o37 cp => ?_)
  have cq := (o37 q hpq).trans cq
  have hx := hx.step (a := p) (by simp) z37 o37
  refine r_aload_n (pc2 := 41) 0 dX5_become_40 rfl rfl rfl rfl ?_
  refine r_aload_n (pc2 := 42) 1 dX5_become_41 rfl rfl rfl rfl ?_
  refine r_getf (pc2 := 45) (v := .int x5) fX5_26 dX5_become_42 cq hq rfl rfl ?_
  refine r_putfX (pc2 := 48) [.int x0, .int x1, .long x2, .long x3, .int x4, .int x5] fX5_26 dX5_become_45 cp hp (Nat.le_of_ble_eq_true rfl) rfl rfl rfl (fun h z45 o45 cp => ?_)
  have cq := (o45 q hpq).trans cq
  have hx := hx.step (a := p) (by simp) z45 o45
  exact r_vret rfl dX5_become_48 ⟨rfl, hx, cp⟩
/-- any stand's fields -/
def aSt (h : Hp) (p : Nat) : Prop := ∃ y0 y1 y2 y3 y4 y5 : Value, h.1 p = some (.inr (5, [y0, y1, y2, y3, y4, y5]))
theorem c_becomeK {E : EnvT} {d : Nat} {h0 : Hp} {p q : Nat} {k : Nat → Nat} (cp : aSt h0 p) (cq : h0.1 q = some (.inr (5, sdL k))) (hp : 64 ≤ p) (hq : 64 ≤ q) (hpq : q ≠ p) : Cn E mX5_become d [.ref p, .ref q] h0 (fun r h2 => r = none ∧ Ex [p] h0 h2 ∧ h2.1 p = some (.inr (5, sdL k))) := by
  obtain ⟨y0, y1, y2, y3, y4, y5, cp⟩ := cp
  exact c_become cp cq hp hq hpq
theorem aSt.of {h : Hp} {p : Nat} {k : Nat → Nat} (c : h.1 p = some (.inr (5, sdL k))) : aSt h p := ⟨_, _, _, _, _, _, c⟩
set_option maxRecDepth 20000 in
set_option maxHeartbeats 1000000 in
theorem c_shiftOf {E : EnvT} {d : Nat} {h0 : Hp} {sn : Nat} (hsn : sn < 16) : Cn E mX9_shiftOf d [.int (nI sn)] h0 (fun r h2 => r = some (.int (nI (shK sn 4))) ∧ h2 = h0) := by
  have loop : ∀ (m k : Nat), k + m = 4 → Fr E mX9_shiftOf d 4 [.int (nI sn), .int (nI (shK sn k)), .int (nI k)] [] h0 (fun r h2 => r = some (.int (nI (shK sn 4))) ∧ h2 = h0) := by
    intro m
    induction m with
    | zero =>
      intro k hk
      obtain rfl : k = 4 := by omega
      refine r_iload_n (pc2 := 5) 2 dX9_shiftOf_4 rfl rfl rfl ?_
      refine r_iconst (pc2 := 6) (v := 4) dX9_shiftOf_5 (by decide) rfl ?_
      refine r_icmp_ge (tgt := 32) (pc2 := 9) dX9_shiftOf_6 (by decide) rfl (fun b6 => ?_) (fun b6 => ?_)
      · skip
        refine r_iload_n (pc2 := 33) 1 dX9_shiftOf_32 rfl rfl rfl ?_
        exact r_iret rfl dX9_shiftOf_33 ⟨rfl, rfl⟩
      · exact absurd (nI_le (b := 4) (Nat.le_refl _) (by decide)) b6
    | succ m ih =>
      intro k hk
      by_cases hbit : sn.testBit k = true
      · skip
        refine r_iload_n (pc2 := 5) 2 dX9_shiftOf_4 rfl rfl rfl ?_
        refine r_iconst (pc2 := 6) (v := 4) dX9_shiftOf_5 (by decide) rfl ?_
        refine r_icmp_ge (tgt := 32) (pc2 := 9) dX9_shiftOf_6 (by decide) rfl (fun b6 => ?_) (fun b6 => ?_)
        · exact absurd b6 (nI_ge (b := 4) (by omega) (by decide))
        · skip
          refine r_iload_n (pc2 := 10) 0 dX9_shiftOf_9 rfl rfl rfl ?_
          refine r_iload_n (pc2 := 11) 2 dX9_shiftOf_10 rfl rfl rfl ?_
          refine r_ishr (pc2 := 12) dX9_shiftOf_11 rfl ?_
          refine r_iconst (pc2 := 13) (v := 1) dX9_shiftOf_12 (by decide) rfl ?_
          refine r_iand (pc2 := 14) dX9_shiftOf_13 rfl ?_
          refine r_iconst (pc2 := 15) (v := 1) dX9_shiftOf_14 (by decide) rfl ?_
          refine r_icmp_ne (tgt := 26) (pc2 := 18) dX9_shiftOf_15 (by decide) rfl (fun b15 => ?_) (fun b15 => ?_)
          · exact absurd ((bit16 sn hsn k (by omega)).mpr hbit) b15
          · skip
            refine r_iload_n (pc2 := 19) 1 dX9_shiftOf_18 rfl rfl rfl ?_
            refine r_sWt (pc2 := 22) (Or.inl qX9_166) dX9_shiftOf_19 rfl ?_
            refine r_iload_n (pc2 := 23) 2 dX9_shiftOf_22 rfl rfl rfl ?_
            refine r_wldN (pc2 := 24) k dX9_shiftOf_23 rfl (by omega) rfl ?_
            refine r_cast (nI (7 ^ k)) (xW7 k (by omega)) ?_
            refine r_iadd (pc2 := 25) dX9_shiftOf_24 rfl ?_
            refine r_cast (nI (shK sn (k + 1))) (by rw [nI_add, show shK sn (k + 1) = shK sn k + 7 ^ k by rw [shK, if_pos hbit]]) ?_
            refine r_istore_n (pc2 := 26) (ls2 := [.int (nI sn), .int (nI (shK sn (k + 1))), .int (nI k)]) 1 dX9_shiftOf_25 rfl (by decide) rfl rfl rfl ?_
            obtain ⟨x26, e26⟩ : ∃ z : Int32, z = (nI k) + (1) := ⟨_, rfl⟩
            refine r_iinc (pc2 := 29) (ls2 := [.int (nI sn), .int (nI (shK sn (k + 1))), .int x26]) (v := x26) 2 dX9_shiftOf_26 rfl (by rw [e26]; rfl) rfl rfl rfl ?_
            refine r_goto (pc2 := 4) dX9_shiftOf_29 (by decide) ?_
            rw [e26, nI_1]
            exact ih (k + 1) (by omega)
      · skip
        refine r_iload_n (pc2 := 5) 2 dX9_shiftOf_4 rfl rfl rfl ?_
        refine r_iconst (pc2 := 6) (v := 4) dX9_shiftOf_5 (by decide) rfl ?_
        refine r_icmp_ge (tgt := 32) (pc2 := 9) dX9_shiftOf_6 (by decide) rfl (fun b6 => ?_) (fun b6 => ?_)
        · exact absurd b6 (nI_ge (b := 4) (by omega) (by decide))
        · skip
          refine r_iload_n (pc2 := 10) 0 dX9_shiftOf_9 rfl rfl rfl ?_
          refine r_iload_n (pc2 := 11) 2 dX9_shiftOf_10 rfl rfl rfl ?_
          refine r_ishr (pc2 := 12) dX9_shiftOf_11 rfl ?_
          refine r_iconst (pc2 := 13) (v := 1) dX9_shiftOf_12 (by decide) rfl ?_
          refine r_iand (pc2 := 14) dX9_shiftOf_13 rfl ?_
          refine r_iconst (pc2 := 15) (v := 1) dX9_shiftOf_14 (by decide) rfl ?_
          refine r_icmp_ne (tgt := 26) (pc2 := 18) dX9_shiftOf_15 (by decide) rfl (fun b15 => ?_) (fun b15 => ?_)
          · skip
            obtain ⟨x26, e26⟩ : ∃ z : Int32, z = (nI k) + (1) := ⟨_, rfl⟩
            refine r_iinc (pc2 := 29) (ls2 := [.int (nI sn), .int (nI (shK sn k)), .int x26]) (v := x26) 2 dX9_shiftOf_26 rfl (by rw [e26]; rfl) rfl rfl rfl ?_
            refine r_goto (pc2 := 4) dX9_shiftOf_29 (by decide) ?_
            rw [e26, nI_1]
            rw [show shK sn k = shK sn (k + 1) by rw [shK, if_neg hbit, Nat.add_zero]]
            exact ih (k + 1) (by omega)
          · exact absurd ((bit16 sn hsn k (by omega)).mp b15) hbit
  refine Cn.go (ls := [.int (nI sn), .float 0, .float 0]) (by decide +kernel) rfl (Nat.le_of_ble_eq_true rfl) ?_
  refine r_iconst (pc2 := 1) (v := 0) dX9_shiftOf_0 (by decide) rfl ?_
  refine r_cast (nI (shK sn 0)) (rfl) ?_
  refine r_istore_n (pc2 := 2) (ls2 := [.int (nI sn), .int (nI (shK sn 0)), .float 0]) 1 dX9_shiftOf_1 rfl (by decide) rfl rfl rfl ?_
  refine r_iconst (pc2 := 3) (v := 0) dX9_shiftOf_2 (by decide) rfl ?_
  refine r_cast (nI 0) (rfl) ?_
  refine r_istore_n (pc2 := 4) (ls2 := [.int (nI sn), .int (nI (shK sn 0)), .int (nI 0)]) 2 dX9_shiftOf_3 rfl (by decide) rfl rfl rfl ?_
  exact loop 4 0 (by omega)
set_option maxRecDepth 20000 in
set_option maxHeartbeats 1000000 in
theorem c_cellOf {E : EnvT} {d : Nat} {h0 : Hp} {w g : Nat} (hw : w < 2401) (hg : g < 4) : Cn E mX9_cellOf d [.int (nI w), .int (nI g)] h0 (fun r h2 => r = some (.int (nI (w / 7 ^ g % 7))) ∧ h2 = h0) := by
  have loop : ∀ (m k : Nat), k + m = g → Fr E mX9_cellOf d 4 [.int (nI w), .int (nI g), .int (nI (w / 7 ^ k)), .int (nI k)] [] h0 (fun r h2 => r = some (.int (nI (w / 7 ^ g % 7))) ∧ h2 = h0) := by
    intro m
    induction m with
    | zero =>
      intro k hk
      obtain rfl : k = g := by omega
      have hdl : w / 7 ^ k < 2401 := Nat.lt_of_le_of_lt (Nat.div_le_self _ _) hw
      refine r_iload_n (pc2 := 5) 3 dX9_cellOf_4 rfl rfl rfl ?_
      refine r_iload_n (pc2 := 6) 1 dX9_cellOf_5 rfl rfl rfl ?_
      refine r_icmp_ge (tgt := 25) (pc2 := 9) dX9_cellOf_6 (by decide) rfl (fun b6 => ?_) (fun b6 => ?_)
      · skip
        refine r_iload_n (pc2 := 26) 2 dX9_cellOf_25 rfl rfl rfl ?_
        refine r_bipush (pc2 := 28) (v := 7) dX9_cellOf_26 (by decide) rfl ?_
        refine r_irem (pc2 := 29) dX9_cellOf_28 (by decide) rfl ?_
        refine r_cast (nI (w / 7 ^ k % 7)) (rem7 (by omega)) ?_
        exact r_iret rfl dX9_cellOf_29 ⟨rfl, rfl⟩
      · exact absurd (nI_le (Nat.le_refl _) (by omega)) b6
    | succ m ih =>
      intro k hk
      have hlt : k < g := by omega
      have hdl : w / 7 ^ k < 2401 := Nat.lt_of_le_of_lt (Nat.div_le_self _ _) hw
      refine r_iload_n (pc2 := 5) 3 dX9_cellOf_4 rfl rfl rfl ?_
      refine r_iload_n (pc2 := 6) 1 dX9_cellOf_5 rfl rfl rfl ?_
      refine r_icmp_ge (tgt := 25) (pc2 := 9) dX9_cellOf_6 (by decide) rfl (fun b6 => ?_) (fun b6 => ?_)
      · exact absurd b6 (nI_ge hlt (by omega))
      · skip
        refine r_iload_n (pc2 := 10) 3 dX9_cellOf_9 rfl rfl rfl ?_
        refine r_iconst (pc2 := 11) (v := 4) dX9_cellOf_10 (by decide) rfl ?_
        refine r_icmp_ge (tgt := 25) (pc2 := 14) dX9_cellOf_11 (by decide) rfl (fun b11 => ?_) (fun b11 => ?_)
        · exact absurd b11 (nI_ge (b := 4) (by omega) (by decide))
        · skip
          refine r_iload_n (pc2 := 15) 2 dX9_cellOf_14 rfl rfl rfl ?_
          refine r_bipush (pc2 := 17) (v := 7) dX9_cellOf_15 (by decide) rfl ?_
          refine r_idiv (pc2 := 18) dX9_cellOf_17 (by decide) rfl ?_
          refine r_cast (nI (w / 7 ^ (k + 1))) (by rw [div7 (by omega), Nat.div_div_eq_div_mul, ← Nat.pow_succ]) ?_
          refine r_istore_n (pc2 := 19) (ls2 := [.int (nI w), .int (nI g), .int (nI (w / 7 ^ (k + 1))), .int (nI k)]) 2 dX9_cellOf_18 rfl (by decide) rfl rfl rfl ?_
          obtain ⟨x19, e19⟩ : ∃ z : Int32, z = (nI k) + (1) := ⟨_, rfl⟩
          refine r_iinc (pc2 := 22) (ls2 := [.int (nI w), .int (nI g), .int (nI (w / 7 ^ (k + 1))), .int x19]) (v := x19) 3 dX9_cellOf_19 rfl (by rw [e19]; rfl) rfl rfl rfl ?_
          refine r_goto (pc2 := 4) dX9_cellOf_22 (by decide) ?_
          rw [e19, nI_1]
          exact ih (k + 1) (by omega)
  refine Cn.go (ls := [.int (nI w), .int (nI g), .float 0, .float 0]) (by decide +kernel) rfl (Nat.le_of_ble_eq_true rfl) ?_
  refine r_iload_n (pc2 := 1) 0 dX9_cellOf_0 rfl rfl rfl ?_
  refine r_cast (nI (w / 7 ^ 0)) (by rw [Nat.pow_zero, Nat.div_one]) ?_
  refine r_istore_n (pc2 := 2) (ls2 := [.int (nI w), .int (nI g), .int (nI (w / 7 ^ 0)), .float 0]) 2 dX9_cellOf_1 rfl (by decide) rfl rfl rfl ?_
  refine r_iconst (pc2 := 3) (v := 0) dX9_cellOf_2 (by decide) rfl ?_
  refine r_cast (nI 0) (rfl) ?_
  refine r_istore_n (pc2 := 4) (ls2 := [.int (nI w), .int (nI g), .int (nI (w / 7 ^ 0)), .int (nI 0)]) 3 dX9_cellOf_3 rfl (by decide) rfl rfl rfl ?_
  exact loop g 0 (by omega)
