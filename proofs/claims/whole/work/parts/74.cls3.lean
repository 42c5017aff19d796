/-! the class: an hour -/
def tws (s : Nat) : Nat := s % 8 + 7 * (s / 8 % 8) + 49 * (s / 64 % 8) + 343 * (s / 512 % 8)
theorem dig7 {d0 d1 d2 d3 : Nat} (h0 : d0 ≤ 6) (h1 : d1 ≤ 6) (h2 : d2 ≤ 6) (h3 : d3 ≤ 6) : (d0 + 7 * d1 + 49 * d2 + 343 * d3) % 7 = d0 ∧ (d0 + 7 * d1 + 49 * d2 + 343 * d3) / 7 % 7 = d1 ∧ (d0 + 7 * d1 + 49 * d2 + 343 * d3) / 49 % 7 = d2 ∧ (d0 + 7 * d1 + 49 * d2 + 343 * d3) / 343 % 7 = d3 := by
  refine ⟨?_, ?_, ?_, ?_⟩ <;> omega
theorem rem7 {n : Nat} (h : n < 2 ^ 31) : nI n - nI n / 7 * 7 = nI (n % 7) := pk_rem (d := 7) h (by decide) (by decide)
theorem div7 {n : Nat} (h : n < 2 ^ 31) : nI n / 7 = nI (n / 7) := pk_div (d := 7) h (by decide) (by decide)
theorem tws_dig {s C : Nat} (h : ∀ g, g < 4 → s / 8 ^ g % 8 ≤ C) (hC : C ≤ 6) (g : Nat) (hg : g < 4) : tws s / 7 ^ g % 7 = s / 8 ^ g % 8 := by
  have h0 := h 0 (by decide)
  have h1 := h 1 (by decide)
  have h2 := h 2 (by decide)
  have h3 := h 3 (by decide)
  simp only [Nat.reducePow, Nat.div_one] at h0 h1 h2 h3
  have d := dig7 (Nat.le_trans h0 hC) (Nat.le_trans h1 hC) (Nat.le_trans h2 hC) (Nat.le_trans h3 hC)
  unfold tws
  match g, hg with
  | 0, _ => simp only [Nat.reducePow, Nat.div_one]; exact d.1
  | 1, _ => simp only [Nat.reducePow]; exact d.2.1
  | 2, _ => simp only [Nat.reducePow]; exact d.2.2.1
  | 3, _ => simp only [Nat.reducePow]; exact d.2.2.2
theorem tws_lt {s C : Nat} (h : ∀ g, g < 4 → s / 8 ^ g % 8 ≤ C) (hC : C ≤ 6) : tws s < 2401 := by
  have h0 := h 0 (by decide)
  have h1 := h 1 (by decide)
  have h2 := h 2 (by decide)
  have h3 := h 3 (by decide)
  simp only [Nat.reducePow, Nat.div_one] at h0 h1 h2 h3
  unfold tws
  omega
theorem bit16 : ∀ sn, sn < 16 → ∀ k, k < 4 → (((nI sn >>> (nI k &&& 31)) &&& 1) = 1 ↔ sn.testBit k = true) := by decide +kernel
theorem StO.ex {Z : Nat → Prop} {h h2 : Hp} {s sg : Nat} {b : FR} {S : List Nat} (o : StO Z h s sg b) (x : Ex S h h2) (hn : ∀ q, Z q → q ∉ S) : StO Z h2 s sg b := o.mono (fun q z => x.2 q (hn q z))
theorem ZL.n3 {Z : Nat → Prop} {kd : Nat} (h : ZL Z kd) : ∀ q, Z q → q ∉ [87, 88, 89] := fun q z => by
  have := h q z
  simp
  exact ⟨this.2.2.1, this.2.2.2.1, this.2.2.2.2.1⟩
theorem ZL.n4 {Z : Nat → Prop} {kd : Nat} (h : ZL Z kd) : ∀ q, Z q → q ∉ [87, 88, 89, kd] := fun q z => by
  have := h q z
  simp
  exact ⟨this.2.2.1, this.2.2.2.1, this.2.2.2.2.1, this.2.2.2.2.2⟩
def pcN (C s sn : Nat) : Nat → Nat
  | 0 => 0
  | g + 1 => pcN C s sn g + (if C ≤ s / 8 ^ g % 8 + (if sn.testBit g = true then 1 else 0) then 1 else 0)
theorem pcN_le (C s sn : Nat) : ∀ g, pcN C s sn g ≤ g
  | 0 => Nat.le_refl _
  | g + 1 => by have := pcN_le C s sn g; unfold pcN; (repeat' split) <;> omega
def pcC (C st : Nat) : Nat → Nat
  | 0 => 0
  | g + 1 => pcC C st g + (if st / 8 ^ g % 8 = C then 1 else 0)
theorem popN_past (C st : Nat) : ∀ G, G ≤ 4 → popN (pastN C st G) = pcC C st G := by
  intro G hG
  match G, hG with
  | 0, _ => unfold pcC pastN; decide
  | 1, _ => unfold pcC pastN pcC pastN; split <;> decide
  | 2, _ => unfold pcC pastN pcC pastN pcC pastN; (repeat' split) <;> decide
  | 3, _ => unfold pcC pastN pcC pastN pcC pastN pcC pastN; (repeat' split) <;> decide
  | 4, _ => unfold pcC pastN pcC pastN pcC pastN pcC pastN pcC pastN; (repeat' split) <;> decide
/-- the digits that a set that can step brings -/
theorem pcN_pc {C s sn G : Nat} (hG : G ≤ 4) (hC : C ≤ 6) (hs : ∀ g, g < 4 → s / 8 ^ g % 8 ≤ C) (hsn : ∀ g, g < G → sn.testBit g = true → s / 8 ^ g % 8 < C) : pcN C s sn G = popN (pastN C (hCs s sn G) G) := by
  rw [popN_past C _ G hG]
  have key : ∀ k, k ≤ G → pcN C s sn k = pcC C (hCs s sn G) k := by
    intro k
    induction k with
    | zero => intro _; rfl
    | succ k ih =>
      intro hk
      unfold pcN pcC
      rw [ih (by omega), hCs_dig G hG (fun g hg q => by have := hsn g hg q; omega) k (by omega)]
      congr 1
      by_cases q : sn.testBit k = true
      · rw [if_pos q, if_pos (⟨by omega, q⟩ : k < G ∧ sn.testBit k = true)]
        have := hsn k (by omega) q
        by_cases z : C ≤ s / 8 ^ k % 8 + 1
        · rw [if_pos z, if_pos (by omega)]
        · rw [if_neg z, if_neg (by omega)]
      · rw [if_neg q, if_neg (show ¬ (k < G ∧ sn.testBit k = true) from fun z => q z.2)]
        have := hs k (by omega)
        by_cases z : C ≤ s / 8 ^ k % 8 + 0
        · rw [if_pos z, if_pos (by omega)]
        · rw [if_neg z, if_neg (by omega)]
  exact key G (Nat.le_refl _)
def bcF (x : Int32) : Int32 := let x9 := (x - ((Int32.toUInt32 x >>> (Int32.toUInt32 1 &&& Int32.toUInt32 31)).toInt32 &&& 1431655765)); let x23 := ((x9 &&& 858993459) + ((Int32.toUInt32 x9 >>> (Int32.toUInt32 2 &&& Int32.toUInt32 31)).toInt32 &&& 858993459)); let x33 := ((x23 + (Int32.toUInt32 x23 >>> (Int32.toUInt32 4 &&& Int32.toUInt32 31)).toInt32) &&& 252645135); let x40 := (x33 + (Int32.toUInt32 x33 >>> (Int32.toUInt32 8 &&& Int32.toUInt32 31)).toInt32); let x47 := (x40 + (Int32.toUInt32 x40 >>> (Int32.toUInt32 16 &&& Int32.toUInt32 31)).toInt32); (x47 &&& 63)
theorem bc16 : ∀ s, s < 16 → bcF (nI s) = nI (popN s) := by decide +kernel
set_option maxRecDepth 20000 in
set_option maxHeartbeats 1000000 in
theorem c_bitCount {E : EnvT} {d : Nat} {h : Hp} {s : Nat} (hs : s < 16) : Cn E mJ6_bitCount_0f7a4 d [.int (nI s)] h (fun r h2 => r = some (.int (nI (popN s))) ∧ h2 = h) := by
  refine Cn.go (ls := [.int (nI s)]) (by decide +kernel) rfl (Nat.le_of_ble_eq_true rfl) ?_
  refine r_iload_n (pc2 := 1) 0 dJ6_bitCount_0f7a4_0 rfl rfl rfl ?_
  refine r_iload_n (pc2 := 2) 0 dJ6_bitCount_0f7a4_1 rfl rfl rfl ?_
  refine r_iconst (pc2 := 3) (v := 1) dJ6_bitCount_0f7a4_2 (by decide) rfl ?_
  refine r_iushr (pc2 := 4) dJ6_bitCount_0f7a4_3 rfl ?_
  refine r_ldcw (pc2 := 7) (v := 1431655765) qJ6_265 dJ6_bitCount_0f7a4_4 rfl ?_
  refine r_iand (pc2 := 8) dJ6_bitCount_0f7a4_7 rfl ?_
  refine r_isub (pc2 := 9) dJ6_bitCount_0f7a4_8 rfl ?_
  refine r_topi (fun x9 e9 => ?_)
  refine r_istore_n (pc2 := 10) (ls2 := [.int x9]) 0 dJ6_bitCount_0f7a4_9 rfl (by decide) rfl rfl rfl ?_
  refine r_iload_n (pc2 := 11) 0 dJ6_bitCount_0f7a4_10 rfl rfl rfl ?_
  refine r_ldcw (pc2 := 14) (v := 858993459) qJ6_266 dJ6_bitCount_0f7a4_11 rfl ?_
  refine r_iand (pc2 := 15) dJ6_bitCount_0f7a4_14 rfl ?_
  refine r_iload_n (pc2 := 16) 0 dJ6_bitCount_0f7a4_15 rfl rfl rfl ?_
  refine r_iconst (pc2 := 17) (v := 2) dJ6_bitCount_0f7a4_16 (by decide) rfl ?_
  refine r_iushr (pc2 := 18) dJ6_bitCount_0f7a4_17 rfl ?_
  refine r_ldcw (pc2 := 21) (v := 858993459) qJ6_266 dJ6_bitCount_0f7a4_18 rfl ?_
  refine r_iand (pc2 := 22) dJ6_bitCount_0f7a4_21 rfl ?_
  refine r_iadd (pc2 := 23) dJ6_bitCount_0f7a4_22 rfl ?_
  refine r_topi (fun x23 e23 => ?_)
  refine r_istore_n (pc2 := 24) (ls2 := [.int x23]) 0 dJ6_bitCount_0f7a4_23 rfl (by decide) rfl rfl rfl ?_
  refine r_iload_n (pc2 := 25) 0 dJ6_bitCount_0f7a4_24 rfl rfl rfl ?_
  refine r_iload_n (pc2 := 26) 0 dJ6_bitCount_0f7a4_25 rfl rfl rfl ?_
  refine r_iconst (pc2 := 27) (v := 4) dJ6_bitCount_0f7a4_26 (by decide) rfl ?_
  refine r_iushr (pc2 := 28) dJ6_bitCount_0f7a4_27 rfl ?_
  refine r_iadd (pc2 := 29) dJ6_bitCount_0f7a4_28 rfl ?_
  refine r_ldcw (pc2 := 32) (v := 252645135) qJ6_267 dJ6_bitCount_0f7a4_29 rfl ?_
  refine r_iand (pc2 := 33) dJ6_bitCount_0f7a4_32 rfl ?_
  refine r_topi (fun x33 e33 => ?_)
  refine r_istore_n (pc2 := 34) (ls2 := [.int x33]) 0 dJ6_bitCount_0f7a4_33 rfl (by decide) rfl rfl rfl ?_
  refine r_iload_n (pc2 := 35) 0 dJ6_bitCount_0f7a4_34 rfl rfl rfl ?_
  refine r_iload_n (pc2 := 36) 0 dJ6_bitCount_0f7a4_35 rfl rfl rfl ?_
  refine r_bipush (pc2 := 38) (v := 8) dJ6_bitCount_0f7a4_36 (by decide) rfl ?_
  refine r_iushr (pc2 := 39) dJ6_bitCount_0f7a4_38 rfl ?_
  refine r_iadd (pc2 := 40) dJ6_bitCount_0f7a4_39 rfl ?_
  refine r_topi (fun x40 e40 => ?_)
  refine r_istore_n (pc2 := 41) (ls2 := [.int x40]) 0 dJ6_bitCount_0f7a4_40 rfl (by decide) rfl rfl rfl ?_
  refine r_iload_n (pc2 := 42) 0 dJ6_bitCount_0f7a4_41 rfl rfl rfl ?_
  refine r_iload_n (pc2 := 43) 0 dJ6_bitCount_0f7a4_42 rfl rfl rfl ?_
  refine r_bipush (pc2 := 45) (v := 16) dJ6_bitCount_0f7a4_43 (by decide) rfl ?_
  refine r_iushr (pc2 := 46) dJ6_bitCount_0f7a4_45 rfl ?_
  refine r_iadd (pc2 := 47) dJ6_bitCount_0f7a4_46 rfl ?_
  refine r_topi (fun x47 e47 => ?_)
  refine r_istore_n (pc2 := 48) (ls2 := [.int x47]) 0 dJ6_bitCount_0f7a4_47 rfl (by decide) rfl rfl rfl ?_
  refine r_iload_n (pc2 := 49) 0 dJ6_bitCount_0f7a4_48 rfl rfl rfl ?_
  refine r_bipush (pc2 := 51) (v := 63) dJ6_bitCount_0f7a4_49 (by decide) rfl ?_
  refine r_iand (pc2 := 52) dJ6_bitCount_0f7a4_51 rfl ?_
  exact r_iret rfl dJ6_bitCount_0f7a4_52 ⟨by subst e9; subst e23; subst e33; subst e40; subst e47; exact congrArg (fun z => some (Value.int z)) (bc16 s hs), rfl⟩
set_option maxRecDepth 20000 in
set_option maxHeartbeats 1000000 in
theorem c_pastAt {E : EnvT} {d : Nat} {h0 : Hp} {q sg lo so sa s : Nat} {nl sl : Value} {b : FR} (cs : h0.1 q = some (.inr (6, stL sg b lo so sa nl sl))) (hq : 64 ≤ q) (hC : b 1 ≤ 6) (hG : b 3 ≤ 4) (hs : ∀ g, g < 4 → s / 8 ^ g % 8 ≤ b 1) : Cn E mX6_pastAt d [.ref q, .int (nI (tws s))] h0 (fun r h2 => r = some (.int (nI (pastN (b 1) s (b 3)))) ∧ h2 = h0) := by
  have htl := tws_lt hs hC
  have loop : ∀ (m k : Nat), k + m = b 3 → Fr E mX6_pastAt d 7 [.ref q, .int (nI (tws s)), .int (nI (pastN (b 1) s k)), .int (nI (tws s / 7 ^ k)), .int (nI k)] [] h0 (fun r h2 => r = some (.int (nI (pastN (b 1) s (b 3)))) ∧ h2 = h0) := by
    intro m
    induction m with
    | zero =>
      intro k hk
      obtain rfl : k = b 3 := by omega
      refine r_iload (pc2 := 9) 4 dX6_pastAt_7 rfl rfl ?_
      refine r_aload_n (pc2 := 10) 0 dX6_pastAt_9 rfl rfl rfl rfl ?_
      refine r_getf (pc2 := 13) (v := .int (nI (b 3))) fX6_35 dX6_pastAt_10 cs hq rfl rfl ?_
      refine r_icmp_ge (tgt := 45) (pc2 := 16) dX6_pastAt_13 (by decide) rfl (fun b13 => ?_) (fun b13 => ?_)
      · skip
        refine r_iload_n (pc2 := 46) 2 dX6_pastAt_45 rfl rfl rfl ?_
        exact r_iret rfl dX6_pastAt_46 ⟨rfl, rfl⟩
      · exact absurd (nI_le (Nat.le_refl _) (by omega)) b13
    | succ m ih =>
      intro k hk
      have hlt : k < b 3 := by omega
      have hdl : tws s / 7 ^ k < 2401 := Nat.lt_of_le_of_lt (Nat.div_le_self _ _) htl
      have hsk := hs k (by omega)
      by_cases hbit : s / 8 ^ k % 8 = b 1
      · skip
        refine r_iload (pc2 := 9) 4 dX6_pastAt_7 rfl rfl ?_
        refine r_aload_n (pc2 := 10) 0 dX6_pastAt_9 rfl rfl rfl rfl ?_
        refine r_getf (pc2 := 13) (v := .int (nI (b 3))) fX6_35 dX6_pastAt_10 cs hq rfl rfl ?_
        refine r_icmp_ge (tgt := 45) (pc2 := 16) dX6_pastAt_13 (by decide) rfl (fun b13 => ?_) (fun b13 => ?_)
        · exact absurd b13 (nI_ge hlt (by omega))
        · skip
          refine r_iload_n (pc2 := 17) 3 dX6_pastAt_16 rfl rfl rfl ?_
          refine r_bipush (pc2 := 19) (v := 7) dX6_pastAt_17 (by decide) rfl ?_
          refine r_irem (pc2 := 20) dX6_pastAt_19 (by decide) rfl ?_
          refine r_cast (nI (s / 8 ^ k % 8)) (by rw [rem7 (by omega), tws_dig hs hC k (by omega)]) ?_
          refine r_aload_n (pc2 := 21) 0 dX6_pastAt_20 rfl rfl rfl rfl ?_
          refine r_getf (pc2 := 24) (v := .int (nI (b 1))) fX6_9 dX6_pastAt_21 cs hq rfl rfl ?_
          refine r_icmp_lt (tgt := 34) (pc2 := 27) dX6_pastAt_24 (by decide) rfl (fun b24 => ?_) (fun b24 => ?_)
          · exact absurd b24 (nI_nlt (by omega) (by omega))
          · skip
            refine r_iload_n (pc2 := 28) 2 dX6_pastAt_27 rfl rfl rfl ?_
            refine r_iconst (pc2 := 29) (v := 1) dX6_pastAt_28 (by decide) rfl ?_
            refine r_iload (pc2 := 31) 4 dX6_pastAt_29 rfl rfl ?_
            refine r_ishl (pc2 := 32) dX6_pastAt_31 rfl ?_
            refine r_cast (nI (2 ^ k)) (shl1 k (by omega)) ?_
            refine r_ior (pc2 := 33) dX6_pastAt_32 rfl ?_
            refine r_cast (nI (pastN (b 1) s (k + 1))) (by rw [nI_or, pastN_or _ _ _ _ (if_pos hbit).symm]) ?_
            refine r_istore_n (pc2 := 34) (ls2 := [.ref q, .int (nI (tws s)), .int (nI (pastN (b 1) s (k + 1))), .int (nI (tws s / 7 ^ k)), .int (nI k)]) 2 dX6_pastAt_33 rfl (by decide) rfl rfl rfl ?_
            refine r_iload_n (pc2 := 35) 3 dX6_pastAt_34 rfl rfl rfl ?_
            refine r_bipush (pc2 := 37) (v := 7) dX6_pastAt_35 (by decide) rfl ?_
            refine r_idiv (pc2 := 38) dX6_pastAt_37 (by decide) rfl ?_
            refine r_cast (nI (tws s / 7 ^ (k + 1))) (by rw [div7 (by omega), Nat.div_div_eq_div_mul, ← Nat.pow_succ]) ?_
            refine r_istore_n (pc2 := 39) (ls2 := [.ref q, .int (nI (tws s)), .int (nI (pastN (b 1) s (k + 1))), .int (nI (tws s / 7 ^ (k + 1))), .int (nI k)]) 3 dX6_pastAt_38 rfl (by decide) rfl rfl rfl ?_
            obtain ⟨x39, e39⟩ : ∃ z : Int32, z = (nI k) + (1) := ⟨_, rfl⟩
            refine r_iinc (pc2 := 42) (ls2 := [.ref q, .int (nI (tws s)), .int (nI (pastN (b 1) s (k + 1))), .int (nI (tws s / 7 ^ (k + 1))), .int x39]) (v := x39) 4 dX6_pastAt_39 rfl (by rw [e39]; rfl) rfl rfl rfl ?_
            refine r_goto (pc2 := 7) dX6_pastAt_42 (by decide) ?_
            rw [e39, nI_1]
            exact ih (k + 1) (by omega)
      · skip
        refine r_iload (pc2 := 9) 4 dX6_pastAt_7 rfl rfl ?_
        refine r_aload_n (pc2 := 10) 0 dX6_pastAt_9 rfl rfl rfl rfl ?_
        refine r_getf (pc2 := 13) (v := .int (nI (b 3))) fX6_35 dX6_pastAt_10 cs hq rfl rfl ?_
        refine r_icmp_ge (tgt := 45) (pc2 := 16) dX6_pastAt_13 (by decide) rfl (fun b13 => ?_) (fun b13 => ?_)
        · exact absurd b13 (nI_ge hlt (by omega))
        · skip
          refine r_iload_n (pc2 := 17) 3 dX6_pastAt_16 rfl rfl rfl ?_
          refine r_bipush (pc2 := 19) (v := 7) dX6_pastAt_17 (by decide) rfl ?_
          refine r_irem (pc2 := 20) dX6_pastAt_19 (by decide) rfl ?_
          refine r_cast (nI (s / 8 ^ k % 8)) (by rw [rem7 (by omega), tws_dig hs hC k (by omega)]) ?_
          refine r_aload_n (pc2 := 21) 0 dX6_pastAt_20 rfl rfl rfl rfl ?_
          refine r_getf (pc2 := 24) (v := .int (nI (b 1))) fX6_9 dX6_pastAt_21 cs hq rfl rfl ?_
          refine r_icmp_lt (tgt := 34) (pc2 := 27) dX6_pastAt_24 (by decide) rfl (fun b24 => ?_) (fun b24 => ?_)
          · skip
            refine r_iload_n (pc2 := 35) 3 dX6_pastAt_34 rfl rfl rfl ?_
            refine r_bipush (pc2 := 37) (v := 7) dX6_pastAt_35 (by decide) rfl ?_
            refine r_idiv (pc2 := 38) dX6_pastAt_37 (by decide) rfl ?_
            refine r_cast (nI (tws s / 7 ^ (k + 1))) (by rw [div7 (by omega), Nat.div_div_eq_div_mul, ← Nat.pow_succ]) ?_
            refine r_istore_n (pc2 := 39) (ls2 := [.ref q, .int (nI (tws s)), .int (nI (pastN (b 1) s k)), .int (nI (tws s / 7 ^ (k + 1))), .int (nI k)]) 3 dX6_pastAt_38 rfl (by decide) rfl rfl rfl ?_
            obtain ⟨x39, e39⟩ : ∃ z : Int32, z = (nI k) + (1) := ⟨_, rfl⟩
            refine r_iinc (pc2 := 42) (ls2 := [.ref q, .int (nI (tws s)), .int (nI (pastN (b 1) s k)), .int (nI (tws s / 7 ^ (k + 1))), .int x39]) (v := x39) 4 dX6_pastAt_39 rfl (by rw [e39]; rfl) rfl rfl rfl ?_
            refine r_goto (pc2 := 7) dX6_pastAt_42 (by decide) ?_
            rw [e39, nI_1]
            rw [show pastN (b 1) s k = pastN (b 1) s (k + 1) by rw [← pastN_or _ _ _ _ (if_neg hbit).symm, Nat.or_zero]]
            exact ih (k + 1) (by omega)
          · exact absurd (nI_lt (by omega) (by omega)) b24
  refine Cn.go (ls := [.ref q, .int (nI (tws s)), .float 0, .float 0, .float 0]) (by decide +kernel) rfl (Nat.le_of_ble_eq_true rfl) ?_
  refine r_iconst (pc2 := 1) (v := 0) dX6_pastAt_0 (by decide) rfl ?_
  refine r_cast (nI (pastN (b 1) s 0)) (rfl) ?_
  refine r_istore_n (pc2 := 2) (ls2 := [.ref q, .int (nI (tws s)), .int (nI (pastN (b 1) s 0)), .float 0, .float 0]) 2 dX6_pastAt_1 rfl (by decide) rfl rfl rfl ?_
  refine r_iload_n (pc2 := 3) 1 dX6_pastAt_2 rfl rfl rfl ?_
  refine r_cast (nI (tws s / 7 ^ 0)) (by rw [Nat.pow_zero, Nat.div_one]) ?_
  refine r_istore_n (pc2 := 4) (ls2 := [.ref q, .int (nI (tws s)), .int (nI (pastN (b 1) s 0)), .int (nI (tws s / 7 ^ 0)), .float 0]) 3 dX6_pastAt_3 rfl (by decide) rfl rfl rfl ?_
  refine r_iconst (pc2 := 5) (v := 0) dX6_pastAt_4 (by decide) rfl ?_
  refine r_cast (nI 0) (rfl) ?_
  refine r_istore (pc2 := 7) (ls2 := [.ref q, .int (nI (tws s)), .int (nI (pastN (b 1) s 0)), .int (nI (tws s / 7 ^ 0)), .int (nI 0)]) 4 dX6_pastAt_5 (by decide) rfl rfl rfl ?_
  exact loop (b 3) 0 (by omega)
theorem pop4 : ∀ sn, sn < 16 → popN sn ≤ 4 := by decide
set_option maxRecDepth 20000 in
set_option maxHeartbeats 1000000 in
theorem c_depthAfter {E : EnvT} {d : Nat} {h0 : Hp} {Z : Nat → Prop} {reg : Nat → FR} {b : FR} {ns q sg dr kd s sn o dp : Nat} (hL : LWS h0 reg ns q sg dr kd) (hS : StO Z h0 q sg b) (hZ : ZL Z kd) (hb : LK b) (hreg : b = reg sg) (hsg : sg ≤ ns) (hns : ns ≤ 900) (hdr : dr ≤ 9) (hkd : b 9 = 1 → kd ≠ 0) (hs : ∀ g, g < 4 → s / 8 ^ g % 8 ≤ b 1) (hdp : dp ≤ 9) (edp : s / 4096 = dp) (hsn : sn < 16) (hstp : ∀ g, g < b 3 → sn.testBit g = true → s / 8 ^ g % 8 < b 1) (ho : o ≤ 9) (hd : 3 ≤ d) : Cn E mX2_depthAfter d [.ref 82, .int (nI (tws s)), .int (nI dp), .int (nI sn), .int (nI o)] h0 (fun r h2 => r = some (.int (nI (dpN b dp (hNz b s sn o dr (b 3)) (hCs s sn (b 3)) sn dr))) ∧ Ex [87, 88, 89, kd] h0 h2 ∧ LWS h2 reg ns q sg dr kd) := by
  have hA := hb.1
  have hC := hA.1.2
  have hG := hA.2.2.1
  have htl := tws_lt hs hC
  have loop : ∀ (m k : Nat) (u9 : Value) (h1 : Hp), k + m = b 3 → Ex [87, 88, 89, kd] h0 h1 → LWS h1 reg ns q sg dr kd → StO Z h1 q sg b → Fr E mX2_depthAfter d 13 [.ref 82, .int (nI (tws s)), .int (nI dp), .int (nI sn), .int (nI o), .int (nI (hNz b s sn o dr k)), .int (nI (pcN (b 1) s sn k)), .int (nI (tws s / 7 ^ k)), .int (nI k), u9] [] h1 (fun r h2 => r = some (.int (nI (dpN b dp (hNz b s sn o dr (b 3)) (hCs s sn (b 3)) sn dr))) ∧ Ex [87, 88, 89, kd] h0 h2 ∧ LWS h2 reg ns q sg dr kd) := by
    intro m
    induction m with
    | zero =>
      intro k u9 h hk hx hL hS
      obtain rfl : k = b 3 := by omega
      have hL2 := hL
      obtain ⟨c82, _⟩ := hL2
      have hS2 := hS
      obtain ⟨lo, so, sa, nl, sl, ⟨zq, _⟩, cs, _⟩ := hS2
      refine r_iload (pc2 := 15) 8 dX2_depthAfter_13 rfl rfl ?_
      refine r_aload_n (pc2 := 16) 0 dX2_depthAfter_15 rfl rfl rfl rfl ?_
      refine r_getf (pc2 := 19) (v := .ref q) fX2_14 dX2_depthAfter_16 c82 (by decide) rfl rfl ?_
      refine r_getf (pc2 := 22) (v := .int (nI (b 3))) fX2_46 dX2_depthAfter_19 cs (hZ q zq).1 rfl rfl ?_
      refine r_icmp_ge (tgt := 87) (pc2 := 25) dX2_depthAfter_22 (by decide) rfl (fun b22 => ?_) (fun b22 => ?_)
      · skip
        refine r_aload_n (pc2 := 88) 0 dX2_depthAfter_87 rfl rfl rfl rfl ?_
        refine r_iload_n (pc2 := 89) 2 dX2_depthAfter_88 rfl rfl rfl ?_
        refine r_iload (pc2 := 91) 5 dX2_depthAfter_89 rfl rfl ?_
        refine r_iload_n (pc2 := 92) 3 dX2_depthAfter_91 rfl rfl rfl ?_
        refine r_callS1 (pc2 := 95) (As := [.int (nI sn)]) (st := [.int (nI (hNz b s sn o dr (b 3))), .int (nI dp), .ref 82]) kX2_56 dX2_depthAfter_92 rfl rfl (Nat.le_of_ble_eq_true rfl) (by omega) (c_bitCount hsn) rfl (fun h2 hq92 => ?_)
        subst hq92
        refine r_iload (pc2 := 97) 6 dX2_depthAfter_95 rfl rfl ?_
        refine r_callV1 (pc2 := 100) (As := [.int (nI dp), .int (nI (hNz b s sn o dr (b 3))), .int (nI (popN sn)), .int (nI (pcN (b 1) s sn (b 3)))]) (st := []) kX2_62 rfl rfl dX2_depthAfter_97 c82 (by decide) rfl rfl (Nat.le_of_ble_eq_true rfl) (by omega) (c_depthThen (dp := dp) (nz := hNz b s sn o dr (b 3)) (st := popN sn) (pa := pcN (b 1) s sn (b 3)) hL hS hZ hb hreg hsg hns hdr hkd hdp (by have := hNz_le b s sn o dr (fun g hg => hA.2.2.2.2.2.1 g hg) (b 3) hG; omega) (pop4 sn hsn) (by have := pcN_le (b 1) s sn (b 3); omega) (by omega)) rfl (fun h hq97 => ?_)
        obtain ⟨hxn, hL⟩ := hq97
        have hx := hx.trans hxn (by simp)
        exact r_iret rfl dX2_depthAfter_100 ⟨by rw [pcN_pc hG hC hs hstp]; rfl, hx, hL⟩
      · exact absurd (nI_le (Nat.le_refl _) (by omega)) b22
    | succ m ih =>
      intro k u9 h hk hx hL hS
      have hlt : k < b 3 := by omega
      have hL2 := hL
      obtain ⟨c82, _⟩ := hL2
      have hS2 := hS
      obtain ⟨lo, so, sa, nl, sl, ⟨zq, _⟩, cs, _⟩ := hS2
      have hdl : tws s / 7 ^ k < 2401 := Nat.lt_of_le_of_lt (Nat.div_le_self _ _) htl
      have hsk := hs k (by omega)
      by_cases hbit : sn.testBit k = true
      · have hsp := hstp k hlt hbit
        have eNz : hNz b s sn o dr k + noiseN b k (s / 8 ^ k % 8 + 1) dp dr = hNz b s sn o dr (k + 1) := by rw [hNz, if_pos hbit, edp]
        by_cases hpp : b 1 ≤ s / 8 ^ k % 8 + 1
        · have ePc : pcN (b 1) s sn (k + 1) = pcN (b 1) s sn k + 1 := by rw [pcN, if_pos hbit, if_pos hpp]
          refine r_iload (pc2 := 15) 8 dX2_depthAfter_13 rfl rfl ?_
          refine r_aload_n (pc2 := 16) 0 dX2_depthAfter_15 rfl rfl rfl rfl ?_
          refine r_getf (pc2 := 19) (v := .ref q) fX2_14 dX2_depthAfter_16 c82 (by decide) rfl rfl ?_
          refine r_getf (pc2 := 22) (v := .int (nI (b 3))) fX2_46 dX2_depthAfter_19 cs (hZ q zq).1 rfl rfl ?_
          refine r_icmp_ge (tgt := 87) (pc2 := 25) dX2_depthAfter_22 (by decide) rfl (fun b22 => ?_) (fun b22 => ?_)
          · exact absurd b22 (nI_ge hlt (by omega))
          · skip
            refine r_iload (pc2 := 27) 7 dX2_depthAfter_25 rfl rfl ?_
            refine r_bipush (pc2 := 29) (v := 7) dX2_depthAfter_27 (by decide) rfl ?_
            refine r_irem (pc2 := 30) dX2_depthAfter_29 (by decide) rfl ?_
            refine r_cast (nI (s / 8 ^ k % 8)) (by rw [rem7 (by omega), tws_dig hs hC k (by omega)]) ?_
            refine r_istore (pc2 := 32) (ls2 := [.ref 82, .int (nI (tws s)), .int (nI dp), .int (nI sn), .int (nI o), .int (nI (hNz b s sn o dr k)), .int (nI (pcN (b 1) s sn k)), .int (nI (tws s / 7 ^ k)), .int (nI k), .int (nI (s / 8 ^ k % 8))]) 9 dX2_depthAfter_30 (by decide) rfl rfl rfl ?_
            refine r_iload (pc2 := 34) 7 dX2_depthAfter_32 rfl rfl ?_
            refine r_bipush (pc2 := 36) (v := 7) dX2_depthAfter_34 (by decide) rfl ?_
            refine r_idiv (pc2 := 37) dX2_depthAfter_36 (by decide) rfl ?_
            refine r_cast (nI (tws s / 7 ^ (k + 1))) (by rw [div7 (by omega), Nat.div_div_eq_div_mul, ← Nat.pow_succ]) ?_
            refine r_istore (pc2 := 39) (ls2 := [.ref 82, .int (nI (tws s)), .int (nI dp), .int (nI sn), .int (nI o), .int (nI (hNz b s sn o dr k)), .int (nI (pcN (b 1) s sn k)), .int (nI (tws s / 7 ^ (k + 1))), .int (nI k), .int (nI (s / 8 ^ k % 8))]) 7 dX2_depthAfter_37 (by decide) rfl rfl rfl ?_
            refine r_iload_n (pc2 := 40) 3 dX2_depthAfter_39 rfl rfl rfl ?_
            refine r_iload (pc2 := 42) 8 dX2_depthAfter_40 rfl rfl ?_
            refine r_ishr (pc2 := 43) dX2_depthAfter_42 rfl ?_
            refine r_iconst (pc2 := 44) (v := 1) dX2_depthAfter_43 (by decide) rfl ?_
            refine r_iand (pc2 := 45) dX2_depthAfter_44 rfl ?_
            refine r_iconst (pc2 := 46) (v := 1) dX2_depthAfter_45 (by decide) rfl ?_
            refine r_icmp_ne (tgt := 66) (pc2 := 49) dX2_depthAfter_46 (by decide) rfl (fun b46 => ?_) (fun b46 => ?_)
            · exact absurd ((bit16 sn hsn k (by omega)).mpr hbit) b46
            · skip
              obtain ⟨x49, e49⟩ : ∃ z : Int32, z = (nI (s / 8 ^ k % 8)) + (1) := ⟨_, rfl⟩
              refine r_iinc (pc2 := 52) (ls2 := [.ref 82, .int (nI (tws s)), .int (nI dp), .int (nI sn), .int (nI o), .int (nI (hNz b s sn o dr k)), .int (nI (pcN (b 1) s sn k)), .int (nI (tws s / 7 ^ (k + 1))), .int (nI k), .int x49]) (v := x49) 9 dX2_depthAfter_49 rfl (by rw [e49]; rfl) rfl rfl rfl ?_
              rw [nI_1] at e49
              subst e49
              refine r_iload (pc2 := 54) 5 dX2_depthAfter_52 rfl rfl ?_
              refine r_aload_n (pc2 := 55) 0 dX2_depthAfter_54 rfl rfl rfl rfl ?_
              refine r_iload (pc2 := 57) 8 dX2_depthAfter_55 rfl rfl ?_
              refine r_iload (pc2 := 59) 9 dX2_depthAfter_57 rfl rfl ?_
              refine r_iload_n (pc2 := 60) 2 dX2_depthAfter_59 rfl rfl rfl ?_
              refine r_callV1 (pc2 := 63) (As := [.int (nI k), .int (nI (s / 8 ^ k % 8 + 1)), .int (nI dp)]) (st := [.int (nI (hNz b s sn o dr k))]) kX2_49 rfl rfl dX2_depthAfter_60 c82 (by decide) rfl rfl (Nat.le_of_ble_eq_true rfl) (by omega) (c_noise (g := k) (to := s / 8 ^ k % 8 + 1) (dp := dp) hL hS hZ hb hreg hsg hns hdr (by omega) (by omega) hdp (by omega)) rfl (fun h hq60 => ?_)
              obtain ⟨hxn, hL⟩ := hq60
              have hx := hx.trans hxn (by simp)
              have hS := hS.ex hxn hZ.n3
              have hL2 := hL
              obtain ⟨c82, _⟩ := hL2
              have hS2 := hS
              obtain ⟨lo, so, sa, nl, sl, ⟨zq, _⟩, cs, _⟩ := hS2
              refine r_iadd (pc2 := 64) dX2_depthAfter_63 rfl ?_
              refine r_cast (nI (hNz b s sn o dr (k + 1))) (by rw [nI_add, eNz]) ?_
              refine r_istore (pc2 := 66) (ls2 := [.ref 82, .int (nI (tws s)), .int (nI dp), .int (nI sn), .int (nI o), .int (nI (hNz b s sn o dr (k + 1))), .int (nI (pcN (b 1) s sn k)), .int (nI (tws s / 7 ^ (k + 1))), .int (nI k), .int (nI (s / 8 ^ k % 8 + 1))]) 5 dX2_depthAfter_64 (by decide) rfl rfl rfl ?_
              refine r_iload (pc2 := 68) 9 dX2_depthAfter_66 rfl rfl ?_
              refine r_aload_n (pc2 := 69) 0 dX2_depthAfter_68 rfl rfl rfl rfl ?_
              refine r_getf (pc2 := 72) (v := .ref q) fX2_14 dX2_depthAfter_69 c82 (by decide) rfl rfl ?_
              refine r_getf (pc2 := 75) (v := .int (nI (b 1))) fX2_53 dX2_depthAfter_72 cs (hZ q zq).1 rfl rfl ?_
              refine r_icmp_lt (tgt := 81) (pc2 := 78) dX2_depthAfter_75 (by decide) rfl (fun b75 => ?_) (fun b75 => ?_)
              · exact absurd b75 (nI_nlt (by omega) (by omega))
              · skip
                obtain ⟨x78, e78⟩ : ∃ z : Int32, z = (nI (pcN (b 1) s sn k)) + (1) := ⟨_, rfl⟩
                refine r_iinc (pc2 := 81) (ls2 := [.ref 82, .int (nI (tws s)), .int (nI dp), .int (nI sn), .int (nI o), .int (nI (hNz b s sn o dr (k + 1))), .int x78, .int (nI (tws s / 7 ^ (k + 1))), .int (nI k), .int (nI (s / 8 ^ k % 8 + 1))]) (v := x78) 6 dX2_depthAfter_78 rfl (by rw [e78]; rfl) rfl rfl rfl ?_
                obtain ⟨x81, e81⟩ : ∃ z : Int32, z = (nI k) + (1) := ⟨_, rfl⟩
                refine r_iinc (pc2 := 84) (ls2 := [.ref 82, .int (nI (tws s)), .int (nI dp), .int (nI sn), .int (nI o), .int (nI (hNz b s sn o dr (k + 1))), .int x78, .int (nI (tws s / 7 ^ (k + 1))), .int x81, .int (nI (s / 8 ^ k % 8 + 1))]) (v := x81) 8 dX2_depthAfter_81 rfl (by rw [e81]; rfl) rfl rfl rfl ?_
                refine r_goto (pc2 := 13) dX2_depthAfter_84 (by decide) ?_
                rw [e81, nI_1]
                rw [e78, nI_1, ← ePc]
                exact ih (k + 1) _ _ (by omega) hx hL hS
        · have ePc : pcN (b 1) s sn (k + 1) = pcN (b 1) s sn k := by rw [pcN, if_pos hbit, if_neg hpp, Nat.add_zero]
          refine r_iload (pc2 := 15) 8 dX2_depthAfter_13 rfl rfl ?_
          refine r_aload_n (pc2 := 16) 0 dX2_depthAfter_15 rfl rfl rfl rfl ?_
          refine r_getf (pc2 := 19) (v := .ref q) fX2_14 dX2_depthAfter_16 c82 (by decide) rfl rfl ?_
          refine r_getf (pc2 := 22) (v := .int (nI (b 3))) fX2_46 dX2_depthAfter_19 cs (hZ q zq).1 rfl rfl ?_
          refine r_icmp_ge (tgt := 87) (pc2 := 25) dX2_depthAfter_22 (by decide) rfl (fun b22 => ?_) (fun b22 => ?_)
          · exact absurd b22 (nI_ge hlt (by omega))
          · skip
            refine r_iload (pc2 := 27) 7 dX2_depthAfter_25 rfl rfl ?_
            refine r_bipush (pc2 := 29) (v := 7) dX2_depthAfter_27 (by decide) rfl ?_
            refine r_irem (pc2 := 30) dX2_depthAfter_29 (by decide) rfl ?_
            refine r_cast (nI (s / 8 ^ k % 8)) (by rw [rem7 (by omega), tws_dig hs hC k (by omega)]) ?_
            refine r_istore (pc2 := 32) (ls2 := [.ref 82, .int (nI (tws s)), .int (nI dp), .int (nI sn), .int (nI o), .int (nI (hNz b s sn o dr k)), .int (nI (pcN (b 1) s sn k)), .int (nI (tws s / 7 ^ k)), .int (nI k), .int (nI (s / 8 ^ k % 8))]) 9 dX2_depthAfter_30 (by decide) rfl rfl rfl ?_
            refine r_iload (pc2 := 34) 7 dX2_depthAfter_32 rfl rfl ?_
            refine r_bipush (pc2 := 36) (v := 7) dX2_depthAfter_34 (by decide) rfl ?_
            refine r_idiv (pc2 := 37) dX2_depthAfter_36 (by decide) rfl ?_
            refine r_cast (nI (tws s / 7 ^ (k + 1))) (by rw [div7 (by omega), Nat.div_div_eq_div_mul, ← Nat.pow_succ]) ?_
            refine r_istore (pc2 := 39) (ls2 := [.ref 82, .int (nI (tws s)), .int (nI dp), .int (nI sn), .int (nI o), .int (nI (hNz b s sn o dr k)), .int (nI (pcN (b 1) s sn k)), .int (nI (tws s / 7 ^ (k + 1))), .int (nI k), .int (nI (s / 8 ^ k % 8))]) 7 dX2_depthAfter_37 (by decide) rfl rfl rfl ?_
            refine r_iload_n (pc2 := 40) 3 dX2_depthAfter_39 rfl rfl rfl ?_
            refine r_iload (pc2 := 42) 8 dX2_depthAfter_40 rfl rfl ?_
            refine r_ishr (pc2 := 43) dX2_depthAfter_42 rfl ?_
            refine r_iconst (pc2 := 44) (v := 1) dX2_depthAfter_43 (by decide) rfl ?_
            refine r_iand (pc2 := 45) dX2_depthAfter_44 rfl ?_
            refine r_iconst (pc2 := 46) (v := 1) dX2_depthAfter_45 (by decide) rfl ?_
            refine r_icmp_ne (tgt := 66) (pc2 := 49) dX2_depthAfter_46 (by decide) rfl (fun b46 => ?_) (fun b46 => ?_)
            · exact absurd ((bit16 sn hsn k (by omega)).mpr hbit) b46
            · skip
              obtain ⟨x49, e49⟩ : ∃ z : Int32, z = (nI (s / 8 ^ k % 8)) + (1) := ⟨_, rfl⟩
              refine r_iinc (pc2 := 52) (ls2 := [.ref 82, .int (nI (tws s)), .int (nI dp), .int (nI sn), .int (nI o), .int (nI (hNz b s sn o dr k)), .int (nI (pcN (b 1) s sn k)), .int (nI (tws s / 7 ^ (k + 1))), .int (nI k), .int x49]) (v := x49) 9 dX2_depthAfter_49 rfl (by rw [e49]; rfl) rfl rfl rfl ?_
              rw [nI_1] at e49
              subst e49
              refine r_iload (pc2 := 54) 5 dX2_depthAfter_52 rfl rfl ?_
              refine r_aload_n (pc2 := 55) 0 dX2_depthAfter_54 rfl rfl rfl rfl ?_
              refine r_iload (pc2 := 57) 8 dX2_depthAfter_55 rfl rfl ?_
              refine r_iload (pc2 := 59) 9 dX2_depthAfter_57 rfl rfl ?_
              refine r_iload_n (pc2 := 60) 2 dX2_depthAfter_59 rfl rfl rfl ?_
              refine r_callV1 (pc2 := 63) (As := [.int (nI k), .int (nI (s / 8 ^ k % 8 + 1)), .int (nI dp)]) (st := [.int (nI (hNz b s sn o dr k))]) kX2_49 rfl rfl dX2_depthAfter_60 c82 (by decide) rfl rfl (Nat.le_of_ble_eq_true rfl) (by omega) (c_noise (g := k) (to := s / 8 ^ k % 8 + 1) (dp := dp) hL hS hZ hb hreg hsg hns hdr (by omega) (by omega) hdp (by omega)) rfl (fun h hq60 => ?_)
              obtain ⟨hxn, hL⟩ := hq60
              have hx := hx.trans hxn (by simp)
              have hS := hS.ex hxn hZ.n3
              have hL2 := hL
              obtain ⟨c82, _⟩ := hL2
              have hS2 := hS
              obtain ⟨lo, so, sa, nl, sl, ⟨zq, _⟩, cs, _⟩ := hS2
              refine r_iadd (pc2 := 64) dX2_depthAfter_63 rfl ?_
              refine r_cast (nI (hNz b s sn o dr (k + 1))) (by rw [nI_add, eNz]) ?_
              refine r_istore (pc2 := 66) (ls2 := [.ref 82, .int (nI (tws s)), .int (nI dp), .int (nI sn), .int (nI o), .int (nI (hNz b s sn o dr (k + 1))), .int (nI (pcN (b 1) s sn k)), .int (nI (tws s / 7 ^ (k + 1))), .int (nI k), .int (nI (s / 8 ^ k % 8 + 1))]) 5 dX2_depthAfter_64 (by decide) rfl rfl rfl ?_
              refine r_iload (pc2 := 68) 9 dX2_depthAfter_66 rfl rfl ?_
              refine r_aload_n (pc2 := 69) 0 dX2_depthAfter_68 rfl rfl rfl rfl ?_
              refine r_getf (pc2 := 72) (v := .ref q) fX2_14 dX2_depthAfter_69 c82 (by decide) rfl rfl ?_
              refine r_getf (pc2 := 75) (v := .int (nI (b 1))) fX2_53 dX2_depthAfter_72 cs (hZ q zq).1 rfl rfl ?_
              refine r_icmp_lt (tgt := 81) (pc2 := 78) dX2_depthAfter_75 (by decide) rfl (fun b75 => ?_) (fun b75 => ?_)
              · skip
                obtain ⟨x81, e81⟩ : ∃ z : Int32, z = (nI k) + (1) := ⟨_, rfl⟩
                refine r_iinc (pc2 := 84) (ls2 := [.ref 82, .int (nI (tws s)), .int (nI dp), .int (nI sn), .int (nI o), .int (nI (hNz b s sn o dr (k + 1))), .int (nI (pcN (b 1) s sn k)), .int (nI (tws s / 7 ^ (k + 1))), .int x81, .int (nI (s / 8 ^ k % 8 + 1))]) (v := x81) 8 dX2_depthAfter_81 rfl (by rw [e81]; rfl) rfl rfl rfl ?_
                refine r_goto (pc2 := 13) dX2_depthAfter_84 (by decide) ?_
                rw [e81, nI_1]
                rw [← ePc]
                exact ih (k + 1) _ _ (by omega) hx hL hS
              · exact absurd (nI_lt (by omega) (by omega)) b75
      · have eNz : hNz b s sn o dr (k + 1) = hNz b s sn o dr k := by rw [hNz, if_neg hbit, Nat.add_zero]
        by_cases hpp : b 1 ≤ s / 8 ^ k % 8
        · have ePc : pcN (b 1) s sn (k + 1) = pcN (b 1) s sn k + 1 := by rw [pcN, if_neg hbit, if_pos (by omega)]
          refine r_iload (pc2 := 15) 8 dX2_depthAfter_13 rfl rfl ?_
          refine r_aload_n (pc2 := 16) 0 dX2_depthAfter_15 rfl rfl rfl rfl ?_
          refine r_getf (pc2 := 19) (v := .ref q) fX2_14 dX2_depthAfter_16 c82 (by decide) rfl rfl ?_
          refine r_getf (pc2 := 22) (v := .int (nI (b 3))) fX2_46 dX2_depthAfter_19 cs (hZ q zq).1 rfl rfl ?_
          refine r_icmp_ge (tgt := 87) (pc2 := 25) dX2_depthAfter_22 (by decide) rfl (fun b22 => ?_) (fun b22 => ?_)
          · exact absurd b22 (nI_ge hlt (by omega))
          · skip
            refine r_iload (pc2 := 27) 7 dX2_depthAfter_25 rfl rfl ?_
            refine r_bipush (pc2 := 29) (v := 7) dX2_depthAfter_27 (by decide) rfl ?_
            refine r_irem (pc2 := 30) dX2_depthAfter_29 (by decide) rfl ?_
            refine r_cast (nI (s / 8 ^ k % 8)) (by rw [rem7 (by omega), tws_dig hs hC k (by omega)]) ?_
            refine r_istore (pc2 := 32) (ls2 := [.ref 82, .int (nI (tws s)), .int (nI dp), .int (nI sn), .int (nI o), .int (nI (hNz b s sn o dr k)), .int (nI (pcN (b 1) s sn k)), .int (nI (tws s / 7 ^ k)), .int (nI k), .int (nI (s / 8 ^ k % 8))]) 9 dX2_depthAfter_30 (by decide) rfl rfl rfl ?_
            refine r_iload (pc2 := 34) 7 dX2_depthAfter_32 rfl rfl ?_
            refine r_bipush (pc2 := 36) (v := 7) dX2_depthAfter_34 (by decide) rfl ?_
            refine r_idiv (pc2 := 37) dX2_depthAfter_36 (by decide) rfl ?_
            refine r_cast (nI (tws s / 7 ^ (k + 1))) (by rw [div7 (by omega), Nat.div_div_eq_div_mul, ← Nat.pow_succ]) ?_
            refine r_istore (pc2 := 39) (ls2 := [.ref 82, .int (nI (tws s)), .int (nI dp), .int (nI sn), .int (nI o), .int (nI (hNz b s sn o dr k)), .int (nI (pcN (b 1) s sn k)), .int (nI (tws s / 7 ^ (k + 1))), .int (nI k), .int (nI (s / 8 ^ k % 8))]) 7 dX2_depthAfter_37 (by decide) rfl rfl rfl ?_
            refine r_iload_n (pc2 := 40) 3 dX2_depthAfter_39 rfl rfl rfl ?_
            refine r_iload (pc2 := 42) 8 dX2_depthAfter_40 rfl rfl ?_
            refine r_ishr (pc2 := 43) dX2_depthAfter_42 rfl ?_
            refine r_iconst (pc2 := 44) (v := 1) dX2_depthAfter_43 (by decide) rfl ?_
            refine r_iand (pc2 := 45) dX2_depthAfter_44 rfl ?_
            refine r_iconst (pc2 := 46) (v := 1) dX2_depthAfter_45 (by decide) rfl ?_
            refine r_icmp_ne (tgt := 66) (pc2 := 49) dX2_depthAfter_46 (by decide) rfl (fun b46 => ?_) (fun b46 => ?_)
            · skip
              refine r_iload (pc2 := 68) 9 dX2_depthAfter_66 rfl rfl ?_
              refine r_aload_n (pc2 := 69) 0 dX2_depthAfter_68 rfl rfl rfl rfl ?_
              refine r_getf (pc2 := 72) (v := .ref q) fX2_14 dX2_depthAfter_69 c82 (by decide) rfl rfl ?_
              refine r_getf (pc2 := 75) (v := .int (nI (b 1))) fX2_53 dX2_depthAfter_72 cs (hZ q zq).1 rfl rfl ?_
              refine r_icmp_lt (tgt := 81) (pc2 := 78) dX2_depthAfter_75 (by decide) rfl (fun b75 => ?_) (fun b75 => ?_)
              · exact absurd b75 (nI_nlt (by omega) (by omega))
              · skip
                obtain ⟨x78, e78⟩ : ∃ z : Int32, z = (nI (pcN (b 1) s sn k)) + (1) := ⟨_, rfl⟩
                refine r_iinc (pc2 := 81) (ls2 := [.ref 82, .int (nI (tws s)), .int (nI dp), .int (nI sn), .int (nI o), .int (nI (hNz b s sn o dr k)), .int x78, .int (nI (tws s / 7 ^ (k + 1))), .int (nI k), .int (nI (s / 8 ^ k % 8))]) (v := x78) 6 dX2_depthAfter_78 rfl (by rw [e78]; rfl) rfl rfl rfl ?_
                obtain ⟨x81, e81⟩ : ∃ z : Int32, z = (nI k) + (1) := ⟨_, rfl⟩
                refine r_iinc (pc2 := 84) (ls2 := [.ref 82, .int (nI (tws s)), .int (nI dp), .int (nI sn), .int (nI o), .int (nI (hNz b s sn o dr k)), .int x78, .int (nI (tws s / 7 ^ (k + 1))), .int x81, .int (nI (s / 8 ^ k % 8))]) (v := x81) 8 dX2_depthAfter_81 rfl (by rw [e81]; rfl) rfl rfl rfl ?_
                refine r_goto (pc2 := 13) dX2_depthAfter_84 (by decide) ?_
                rw [e81, nI_1]
                rw [← eNz]
                rw [e78, nI_1, ← ePc]
                exact ih (k + 1) _ _ (by omega) hx hL hS
            · exact absurd ((bit16 sn hsn k (by omega)).mp b46) hbit
        · have ePc : pcN (b 1) s sn (k + 1) = pcN (b 1) s sn k := by rw [pcN, if_neg hbit, if_neg (by omega), Nat.add_zero]
          refine r_iload (pc2 := 15) 8 dX2_depthAfter_13 rfl rfl ?_
          refine r_aload_n (pc2 := 16) 0 dX2_depthAfter_15 rfl rfl rfl rfl ?_
          refine r_getf (pc2 := 19) (v := .ref q) fX2_14 dX2_depthAfter_16 c82 (by decide) rfl rfl ?_
          refine r_getf (pc2 := 22) (v := .int (nI (b 3))) fX2_46 dX2_depthAfter_19 cs (hZ q zq).1 rfl rfl ?_
          refine r_icmp_ge (tgt := 87) (pc2 := 25) dX2_depthAfter_22 (by decide) rfl (fun b22 => ?_) (fun b22 => ?_)
          · exact absurd b22 (nI_ge hlt (by omega))
          · skip
            refine r_iload (pc2 := 27) 7 dX2_depthAfter_25 rfl rfl ?_
            refine r_bipush (pc2 := 29) (v := 7) dX2_depthAfter_27 (by decide) rfl ?_
            refine r_irem (pc2 := 30) dX2_depthAfter_29 (by decide) rfl ?_
            refine r_cast (nI (s / 8 ^ k % 8)) (by rw [rem7 (by omega), tws_dig hs hC k (by omega)]) ?_
            refine r_istore (pc2 := 32) (ls2 := [.ref 82, .int (nI (tws s)), .int (nI dp), .int (nI sn), .int (nI o), .int (nI (hNz b s sn o dr k)), .int (nI (pcN (b 1) s sn k)), .int (nI (tws s / 7 ^ k)), .int (nI k), .int (nI (s / 8 ^ k % 8))]) 9 dX2_depthAfter_30 (by decide) rfl rfl rfl ?_
            refine r_iload (pc2 := 34) 7 dX2_depthAfter_32 rfl rfl ?_
            refine r_bipush (pc2 := 36) (v := 7) dX2_depthAfter_34 (by decide) rfl ?_
            refine r_idiv (pc2 := 37) dX2_depthAfter_36 (by decide) rfl ?_
            refine r_cast (nI (tws s / 7 ^ (k + 1))) (by rw [div7 (by omega), Nat.div_div_eq_div_mul, ← Nat.pow_succ]) ?_
            refine r_istore (pc2 := 39) (ls2 := [.ref 82, .int (nI (tws s)), .int (nI dp), .int (nI sn), .int (nI o), .int (nI (hNz b s sn o dr k)), .int (nI (pcN (b 1) s sn k)), .int (nI (tws s / 7 ^ (k + 1))), .int (nI k), .int (nI (s / 8 ^ k % 8))]) 7 dX2_depthAfter_37 (by decide) rfl rfl rfl ?_
            refine r_iload_n (pc2 := 40) 3 dX2_depthAfter_39 rfl rfl rfl ?_
            refine r_iload (pc2 := 42) 8 dX2_depthAfter_40 rfl rfl ?_
            refine r_ishr (pc2 := 43) dX2_depthAfter_42 rfl ?_
            refine r_iconst (pc2 := 44) (v := 1) dX2_depthAfter_43 (by decide) rfl ?_
            refine r_iand (pc2 := 45) dX2_depthAfter_44 rfl ?_
            refine r_iconst (pc2 := 46) (v := 1) dX2_depthAfter_45 (by decide) rfl ?_
            refine r_icmp_ne (tgt := 66) (pc2 := 49) dX2_depthAfter_46 (by decide) rfl (fun b46 => ?_) (fun b46 => ?_)
            · skip
              refine r_iload (pc2 := 68) 9 dX2_depthAfter_66 rfl rfl ?_
              refine r_aload_n (pc2 := 69) 0 dX2_depthAfter_68 rfl rfl rfl rfl ?_
              refine r_getf (pc2 := 72) (v := .ref q) fX2_14 dX2_depthAfter_69 c82 (by decide) rfl rfl ?_
              refine r_getf (pc2 := 75) (v := .int (nI (b 1))) fX2_53 dX2_depthAfter_72 cs (hZ q zq).1 rfl rfl ?_
              refine r_icmp_lt (tgt := 81) (pc2 := 78) dX2_depthAfter_75 (by decide) rfl (fun b75 => ?_) (fun b75 => ?_)
              · skip
                obtain ⟨x81, e81⟩ : ∃ z : Int32, z = (nI k) + (1) := ⟨_, rfl⟩
                refine r_iinc (pc2 := 84) (ls2 := [.ref 82, .int (nI (tws s)), .int (nI dp), .int (nI sn), .int (nI o), .int (nI (hNz b s sn o dr k)), .int (nI (pcN (b 1) s sn k)), .int (nI (tws s / 7 ^ (k + 1))), .int x81, .int (nI (s / 8 ^ k % 8))]) (v := x81) 8 dX2_depthAfter_81 rfl (by rw [e81]; rfl) rfl rfl rfl ?_
                refine r_goto (pc2 := 13) dX2_depthAfter_84 (by decide) ?_
                rw [e81, nI_1]
                rw [← eNz]
                rw [← ePc]
                exact ih (k + 1) _ _ (by omega) hx hL hS
              · exact absurd (nI_lt (by omega) (by omega)) b75
            · exact absurd ((bit16 sn hsn k (by omega)).mp b46) hbit
  have hL2 := hL
  obtain ⟨c82, _⟩ := hL2
  have hS2 := hS
  obtain ⟨lo, so, sa, nl, sl, ⟨zq, _⟩, cs, _⟩ := hS2
  refine Cn.go (ls := [.ref 82, .int (nI (tws s)), .int (nI dp), .int (nI sn), .int (nI o), .float 0, .float 0, .float 0, .float 0, .float 0]) (by decide +kernel) rfl (Nat.le_of_ble_eq_true rfl) ?_
  refine r_iload (pc2 := 2) 4 dX2_depthAfter_0 rfl rfl ?_
  refine r_istore (pc2 := 4) (ls2 := [.ref 82, .int (nI (tws s)), .int (nI dp), .int (nI sn), .int (nI o), .int (nI o), .float 0, .float 0, .float 0, .float 0]) 5 dX2_depthAfter_2 (by decide) rfl rfl rfl ?_
  refine r_iconst (pc2 := 5) (v := 0) dX2_depthAfter_4 (by decide) rfl ?_
  refine r_cast (nI 0) (rfl) ?_
  refine r_istore (pc2 := 7) (ls2 := [.ref 82, .int (nI (tws s)), .int (nI dp), .int (nI sn), .int (nI o), .int (nI o), .int (nI 0), .float 0, .float 0, .float 0]) 6 dX2_depthAfter_5 (by decide) rfl rfl rfl ?_
  refine r_iload_n (pc2 := 8) 1 dX2_depthAfter_7 rfl rfl rfl ?_
  refine r_cast (nI (tws s / 7 ^ 0)) (by rw [Nat.pow_zero, Nat.div_one]) ?_
  refine r_istore (pc2 := 10) (ls2 := [.ref 82, .int (nI (tws s)), .int (nI dp), .int (nI sn), .int (nI o), .int (nI o), .int (nI 0), .int (nI (tws s / 7 ^ 0)), .float 0, .float 0]) 7 dX2_depthAfter_8 (by decide) rfl rfl rfl ?_
  refine r_iconst (pc2 := 11) (v := 0) dX2_depthAfter_10 (by decide) rfl ?_
  refine r_cast (nI 0) (rfl) ?_
  refine r_istore (pc2 := 13) (ls2 := [.ref 82, .int (nI (tws s)), .int (nI dp), .int (nI sn), .int (nI o), .int (nI o), .int (nI 0), .int (nI (tws s / 7 ^ 0)), .int (nI 0), .float 0]) 8 dX2_depthAfter_11 (by decide) rfl rfl rfl ?_
  exact loop (b 3) 0 _ _ (by omega) Ex.rf hL hS
