/-! the class: what it says, the leaves -/
theorem nI_andB (a b : Nat) : nI a &&& nI b = nI (a &&& b) := by
  apply Int32.toBitVec_inj.mp
  rw [Int32.toBitVec_and]
  show BitVec.ofNat 32 a &&& BitVec.ofNat 32 b = BitVec.ofNat 32 (a &&& b)
  apply BitVec.eq_of_getLsbD_eq
  intro i hi
  simp [hi]
theorem lN_ushr {x k : Nat} (hx : x < 2 ^ 64) (hk : k < 64) : (Int64.toUInt64 (lN x) >>> ((Int32.toInt64 (nI k)).toUInt64 &&& Int64.toUInt64 63)).toInt64 = lN (x / 2 ^ k) := by
  have e : ∀ k, k < 64 → ((Int32.toInt64 (nI k)).toUInt64 &&& Int64.toUInt64 63) = UInt64.ofNat k := by decide +kernel
  rw [e k hk]
  apply Int64.toBitVec_inj.mp
  show ((lN x).toUInt64 >>> UInt64.ofNat k).toBitVec = BitVec.ofNat 64 (x / 2 ^ k)
  rw [UInt64.toBitVec_shiftRight]
  show BitVec.ofNat 64 x >>> ((UInt64.ofNat k).toBitVec % 64#64) = _
  apply BitVec.eq_of_toNat_eq
  have e2 : ((UInt64.ofNat k).toBitVec % 64#64).toNat = k := by
    show ((BitVec.ofNat 64 k) % 64#64).toNat = k
    rw [BitVec.toNat_umod, BitVec.toNat_ofNat, BitVec.toNat_ofNat, Nat.mod_eq_of_lt (a := k) (by omega), Nat.mod_eq_of_lt (a := 64) (by decide), Nat.mod_eq_of_lt hk]
  rw [BitVec.ushiftRight_eq', e2, BitVec.toNat_ushiftRight, BitVec.toNat_ofNat, BitVec.toNat_ofNat, Nat.mod_eq_of_lt hx, Nat.shiftRight_eq_div_pow, Nat.mod_eq_of_lt (Nat.lt_of_le_of_lt (Nat.div_le_self _ _) hx)]
theorem lN_iB (y : Nat) : (lN y).toInt32 = nI y := by
  apply Int32.toBitVec_inj.mp
  show (BitVec.ofNat 64 y).signExtend 32 = BitVec.ofNat 32 y
  rw [BitVec.signExtend_eq_setWidth_of_le _ (by decide)]
  apply BitVec.eq_of_toNat_eq
  simp
theorem L8_byte {f : Nat → Nat} (h : ∀ p, p < 8 → f p < 256) {p : Nat} (hp : p < 8) : pkL (L8 f) / 2 ^ (8 * p) &&& 255 = f p := by
  apply Nat.eq_of_testBit_eq
  intro t
  rw [Nat.testBit_and, Nat.testBit_div_two_pow]
  by_cases ht : t < 8
  · rw [show t + 8 * p = 8 * p + t by omega, L8_bit h hp ht, show (255 : Nat) = 2 ^ 8 - 1 by decide, Nat.testBit_two_pow_sub_one]
    simp [ht]
  · rw [show (255 : Nat) = 2 ^ 8 - 1 by decide, Nat.testBit_two_pow_sub_one, Nat.testBit_lt_two_pow (Nat.lt_of_lt_of_le (h p hp) (Nat.pow_le_pow_right (n := 2) (i := 8) (by decide) (by omega)))]
    simp [ht]
theorem L8_one {f : Nat → Nat} (h : ∀ p, p < 8 → f p < 256) {p q : Nat} (hp : p < 8) (hq : q < 8) : pkL (L8 f) / 2 ^ (8 * p + q) &&& 1 = ((f p).testBit q).toNat := by
  rw [Nat.and_one_is_mod, ← L8_bit h hp hq, Nat.testBit_eq_decide_div_mod_eq]
  rcases Nat.mod_two_eq_zero_or_one (pkL (L8 f) / 2 ^ (8 * p + q)) with e | e <;> simp [e]
theorem clr8 : ∀ q, q < 8 → ∀ x, x < 256 → nI x &&& (nI (2 ^ q) ^^^ -1) = nI (clrB x q) := by decide +kernel
theorem bo_eq (a : FR) (o : Nat) : bL (keepV a) o = lN (pkL (L8 (fun r => a (22 + o + r)))) := by
  rw [bL_eq, L8_congr (f := fun r => keepV a (o + r)) (g := fun r => a (22 + o + r)) (fun r _ => congrArg a (by omega))]
set_option maxRecDepth 20000 in
set_option maxHeartbeats 1000000 in
theorem c_boundTo {E : EnvT} {d : Nat} {h0 : Hp} {n pe : Nat} {F G : Nat → Nat} {p : Nat} (c90 : h0.1 90 = some (.inr (4, [.int (nI n), .ref 91, .int (nI pe), .long (lN (pkL (L8 F))), .long (lN (pkL (L8 G))), .ref 92, .ref 93]))) (hF : ∀ p, p < 8 → F p < 256) (hp : p < 8) : Cn E mX4_boundTo d [.ref 90, .int (nI p)] h0 (fun r h2 => r = some (.int (nI (F p))) ∧ h2 = h0) := by
  refine Cn.go (ls := [.ref 90, .int (nI p)]) (by decide +kernel) rfl (Nat.le_of_ble_eq_true rfl) ?_
  refine r_aload_n (pc2 := 1) 0 dX4_boundTo_0 rfl rfl rfl rfl ?_
  refine r_getf (pc2 := 4) (v := .long (lN (pkL (L8 F)))) fX4_25 dX4_boundTo_1 c90 (by decide) rfl rfl ?_
  refine r_bipush (pc2 := 6) (v := 8) dX4_boundTo_4 (by decide) rfl ?_
  refine r_iload_n (pc2 := 7) 1 dX4_boundTo_6 rfl rfl rfl ?_
  refine r_imul (pc2 := 8) dX4_boundTo_7 rfl ?_
  refine r_cast (nI (8 * p)) (pk_mul 8 _) ?_
  refine r_lushr (pc2 := 9) dX4_boundTo_8 rfl ?_
  refine r_castl (lN (pkL (L8 F) / 2 ^ (8 * p))) (lN_ushr (L8_lt hF) (by omega)) ?_
  refine r_l2i (pc2 := 10) dX4_boundTo_9 rfl ?_
  refine r_sipush (pc2 := 13) (v := 255) dX4_boundTo_10 (by decide) rfl ?_
  refine r_iand (pc2 := 14) dX4_boundTo_13 rfl ?_
  refine r_cast (nI (F p)) (by rw [lN_iB, show (255 : Int32) = nI 255 from rfl, nI_andB, L8_byte hF hp]) ?_
  exact r_iret rfl dX4_boundTo_14 ⟨rfl, rfl⟩
set_option maxRecDepth 20000 in
set_option maxHeartbeats 1000000 in
theorem c_mayBindC {E : EnvT} {d : Nat} {h0 : Hp} {n pe : Nat} {F G : Nat → Nat} {p q : Nat} (c90 : h0.1 90 = some (.inr (4, [.int (nI n), .ref 91, .int (nI pe), .long (lN (pkL (L8 F))), .long (lN (pkL (L8 G))), .ref 92, .ref 93]))) (hF : ∀ p, p < 8 → F p < 256) (hG : ∀ p, p < 8 → G p < 256) (hp : p < 8) (hq : q < 8) (hd : 1 ≤ d) : Cn E mX4_mayBind d [.ref 90, .int (nI p), .int (nI q)] h0 (fun r h2 => r = some (.int (if (G p).testBit q = false ∧ clrB (F p) q = 0 ∧ clrB (F q) p = 0 then (1 : Int32) else 0)) ∧ h2 = h0) := by
  by_cases g1 : (G p).testBit q = true
  · have hm : ¬ ((G p).testBit q = false ∧ clrB (F p) q = 0 ∧ clrB (F q) p = 0) := fun z => by rw [g1] at z; exact absurd z.1 (by decide)
    refine Cn.go (ls := [.ref 90, .int (nI p), .int (nI q), .float 0]) (by decide +kernel) rfl (Nat.le_of_ble_eq_true rfl) ?_
    refine r_aload_n (pc2 := 1) 0 dX4_mayBind_0 rfl rfl rfl rfl ?_
    refine r_getf (pc2 := 4) (v := .long (lN (pkL (L8 G)))) fX4_29 dX4_mayBind_1 c90 (by decide) rfl rfl ?_
    refine r_bipush (pc2 := 6) (v := 8) dX4_mayBind_4 (by decide) rfl ?_
    refine r_iload_n (pc2 := 7) 1 dX4_mayBind_6 rfl rfl rfl ?_
    refine r_imul (pc2 := 8) dX4_mayBind_7 rfl ?_
    refine r_cast (nI (8 * p)) (pk_mul 8 _) ?_
    refine r_iload_n (pc2 := 9) 2 dX4_mayBind_8 rfl rfl rfl ?_
    refine r_iadd (pc2 := 10) dX4_mayBind_9 rfl ?_
    refine r_cast (nI (8 * p + q)) (nI_add _ _) ?_
    refine r_lushr (pc2 := 11) dX4_mayBind_10 rfl ?_
    refine r_castl (lN (pkL (L8 G) / 2 ^ (8 * p + q))) (lN_ushr (L8_lt hG) (by omega)) ?_
    refine r_lconst (pc2 := 12) (v := 1) dX4_mayBind_11 (by decide) rfl ?_
    refine r_land (pc2 := 13) dX4_mayBind_12 rfl ?_
    refine r_castl (lN ((G p).testBit q).toNat) (by rw [show (1 : Int64) = lN 1 from rfl, lN_and, L8_one hG hp hq]) ?_
    refine r_lconst (pc2 := 14) (v := 1) dX4_mayBind_13 (by decide) rfl ?_
    refine r_lcmp (pc2 := 15) dX4_mayBind_14 rfl ?_
    refine r_if_ne (tgt := 22) (pc2 := 18) dX4_mayBind_15 (by decide) rfl (fun b15 => ?_) (fun b15 => ?_)
    · exact absurd ((lgc_eq _ _).mpr (by rw [g1]; rfl)) b15
    · skip
      refine r_iconst (pc2 := 19) (v := 1) dX4_mayBind_18 (by decide) rfl ?_
      refine r_goto (pc2 := 23) dX4_mayBind_19 (by decide) ?_
      refine r_istore_n (pc2 := 24) (ls2 := [.ref 90, .int (nI p), .int (nI q), .int 1]) 3 dX4_mayBind_23 rfl (by decide) rfl rfl rfl ?_
      refine r_iload_n (pc2 := 25) 3 dX4_mayBind_24 rfl rfl rfl ?_
      refine r_if_ne (tgt := 60) (pc2 := 28) dX4_mayBind_25 (by decide) rfl (fun b25 => ?_) (fun b25 => ?_)
      · skip
        refine r_iconst (pc2 := 61) (v := 0) dX4_mayBind_60 (by decide) rfl ?_
        exact r_zret (ty := .boolean) rfl (by decide) dX4_mayBind_61 ⟨by rw [if_neg hm], rfl⟩
      · exact absurd b25 (by decide)
  · have g1 : (G p).testBit q = false := by simpa using g1
    by_cases g2 : clrB (F p) q = 0
    · by_cases g3 : clrB (F q) p = 0
      · have hm : ((G p).testBit q = false ∧ clrB (F p) q = 0 ∧ clrB (F q) p = 0) := ⟨g1, g2, g3⟩
        refine Cn.go (ls := [.ref 90, .int (nI p), .int (nI q), .float 0]) (by decide +kernel) rfl (Nat.le_of_ble_eq_true rfl) ?_
        refine r_aload_n (pc2 := 1) 0 dX4_mayBind_0 rfl rfl rfl rfl ?_
        refine r_getf (pc2 := 4) (v := .long (lN (pkL (L8 G)))) fX4_29 dX4_mayBind_1 c90 (by decide) rfl rfl ?_
        refine r_bipush (pc2 := 6) (v := 8) dX4_mayBind_4 (by decide) rfl ?_
        refine r_iload_n (pc2 := 7) 1 dX4_mayBind_6 rfl rfl rfl ?_
        refine r_imul (pc2 := 8) dX4_mayBind_7 rfl ?_
        refine r_cast (nI (8 * p)) (pk_mul 8 _) ?_
        refine r_iload_n (pc2 := 9) 2 dX4_mayBind_8 rfl rfl rfl ?_
        refine r_iadd (pc2 := 10) dX4_mayBind_9 rfl ?_
        refine r_cast (nI (8 * p + q)) (nI_add _ _) ?_
        refine r_lushr (pc2 := 11) dX4_mayBind_10 rfl ?_
        refine r_castl (lN (pkL (L8 G) / 2 ^ (8 * p + q))) (lN_ushr (L8_lt hG) (by omega)) ?_
        refine r_lconst (pc2 := 12) (v := 1) dX4_mayBind_11 (by decide) rfl ?_
        refine r_land (pc2 := 13) dX4_mayBind_12 rfl ?_
        refine r_castl (lN ((G p).testBit q).toNat) (by rw [show (1 : Int64) = lN 1 from rfl, lN_and, L8_one hG hp hq]) ?_
        refine r_lconst (pc2 := 14) (v := 1) dX4_mayBind_13 (by decide) rfl ?_
        refine r_lcmp (pc2 := 15) dX4_mayBind_14 rfl ?_
        refine r_if_ne (tgt := 22) (pc2 := 18) dX4_mayBind_15 (by decide) rfl (fun b15 => ?_) (fun b15 => ?_)
        · skip
          refine r_iconst (pc2 := 23) (v := 0) dX4_mayBind_22 (by decide) rfl ?_
          refine r_istore_n (pc2 := 24) (ls2 := [.ref 90, .int (nI p), .int (nI q), .int 0]) 3 dX4_mayBind_23 rfl (by decide) rfl rfl rfl ?_
          refine r_iload_n (pc2 := 25) 3 dX4_mayBind_24 rfl rfl rfl ?_
          refine r_if_ne (tgt := 60) (pc2 := 28) dX4_mayBind_25 (by decide) rfl (fun b25 => ?_) (fun b25 => ?_)
          · exact absurd b25 (by decide)
          · skip
            refine r_aload_n (pc2 := 29) 0 dX4_mayBind_28 rfl rfl rfl rfl ?_
            refine r_iload_n (pc2 := 30) 1 dX4_mayBind_29 rfl rfl rfl ?_
            refine r_callV1 (pc2 := 33) (As := [.int (nI p)]) (st := []) kX4_58 rfl rfl dX4_mayBind_30 c90 (by decide) rfl rfl (Nat.le_of_ble_eq_true rfl) (by omega) (c_boundTo (p := p) c90 hF (by omega)) rfl (fun h2 hq30 => ?_)
            subst hq30
            refine r_iconst (pc2 := 34) (v := 1) dX4_mayBind_33 (by decide) rfl ?_
            refine r_iload_n (pc2 := 35) 2 dX4_mayBind_34 rfl rfl rfl ?_
            refine r_ishl (pc2 := 36) dX4_mayBind_35 rfl ?_
            refine r_cast (nI (2 ^ q)) (shl1 _ (by omega)) ?_
            refine r_iconst (pc2 := 37) (v := -1) dX4_mayBind_36 (by decide) rfl ?_
            refine r_ixor (pc2 := 38) dX4_mayBind_37 rfl ?_
            refine r_iand (pc2 := 39) dX4_mayBind_38 rfl ?_
            refine r_cast (nI (clrB (F p) q)) (clr8 q hq _ (hF p hp)) ?_
            refine r_if_ne (tgt := 60) (pc2 := 42) dX4_mayBind_39 (by decide) rfl (fun b39 => ?_) (fun b39 => ?_)
            · exact absurd (by rw [g2]; rfl) b39
            · skip
              refine r_aload_n (pc2 := 43) 0 dX4_mayBind_42 rfl rfl rfl rfl ?_
              refine r_iload_n (pc2 := 44) 2 dX4_mayBind_43 rfl rfl rfl ?_
              refine r_callV1 (pc2 := 47) (As := [.int (nI q)]) (st := []) kX4_58 rfl rfl dX4_mayBind_44 c90 (by decide) rfl rfl (Nat.le_of_ble_eq_true rfl) (by omega) (c_boundTo (p := q) c90 hF (by omega)) rfl (fun h2 hq44 => ?_)
              subst hq44
              refine r_iconst (pc2 := 48) (v := 1) dX4_mayBind_47 (by decide) rfl ?_
              refine r_iload_n (pc2 := 49) 1 dX4_mayBind_48 rfl rfl rfl ?_
              refine r_ishl (pc2 := 50) dX4_mayBind_49 rfl ?_
              refine r_cast (nI (2 ^ p)) (shl1 _ (by omega)) ?_
              refine r_iconst (pc2 := 51) (v := -1) dX4_mayBind_50 (by decide) rfl ?_
              refine r_ixor (pc2 := 52) dX4_mayBind_51 rfl ?_
              refine r_iand (pc2 := 53) dX4_mayBind_52 rfl ?_
              refine r_cast (nI (clrB (F q) p)) (clr8 p hp _ (hF q hq)) ?_
              refine r_if_ne (tgt := 60) (pc2 := 56) dX4_mayBind_53 (by decide) rfl (fun b53 => ?_) (fun b53 => ?_)
              · exact absurd (by rw [g3]; rfl) b53
              · skip
                refine r_iconst (pc2 := 57) (v := 1) dX4_mayBind_56 (by decide) rfl ?_
                refine r_goto (pc2 := 61) dX4_mayBind_57 (by decide) ?_
                exact r_zret (ty := .boolean) rfl (by decide) dX4_mayBind_61 ⟨by rw [if_pos hm], rfl⟩
        · exact absurd ((lgc_eq _ _).mp b15) (by rw [g1]; decide)
      · have hm : ¬ ((G p).testBit q = false ∧ clrB (F p) q = 0 ∧ clrB (F q) p = 0) := fun z => g3 z.2.2
        refine Cn.go (ls := [.ref 90, .int (nI p), .int (nI q), .float 0]) (by decide +kernel) rfl (Nat.le_of_ble_eq_true rfl) ?_
        refine r_aload_n (pc2 := 1) 0 dX4_mayBind_0 rfl rfl rfl rfl ?_
        refine r_getf (pc2 := 4) (v := .long (lN (pkL (L8 G)))) fX4_29 dX4_mayBind_1 c90 (by decide) rfl rfl ?_
        refine r_bipush (pc2 := 6) (v := 8) dX4_mayBind_4 (by decide) rfl ?_
        refine r_iload_n (pc2 := 7) 1 dX4_mayBind_6 rfl rfl rfl ?_
        refine r_imul (pc2 := 8) dX4_mayBind_7 rfl ?_
        refine r_cast (nI (8 * p)) (pk_mul 8 _) ?_
        refine r_iload_n (pc2 := 9) 2 dX4_mayBind_8 rfl rfl rfl ?_
        refine r_iadd (pc2 := 10) dX4_mayBind_9 rfl ?_
        refine r_cast (nI (8 * p + q)) (nI_add _ _) ?_
        refine r_lushr (pc2 := 11) dX4_mayBind_10 rfl ?_
        refine r_castl (lN (pkL (L8 G) / 2 ^ (8 * p + q))) (lN_ushr (L8_lt hG) (by omega)) ?_
        refine r_lconst (pc2 := 12) (v := 1) dX4_mayBind_11 (by decide) rfl ?_
        refine r_land (pc2 := 13) dX4_mayBind_12 rfl ?_
        refine r_castl (lN ((G p).testBit q).toNat) (by rw [show (1 : Int64) = lN 1 from rfl, lN_and, L8_one hG hp hq]) ?_
        refine r_lconst (pc2 := 14) (v := 1) dX4_mayBind_13 (by decide) rfl ?_
        refine r_lcmp (pc2 := 15) dX4_mayBind_14 rfl ?_
        refine r_if_ne (tgt := 22) (pc2 := 18) dX4_mayBind_15 (by decide) rfl (fun b15 => ?_) (fun b15 => ?_)
        · skip
          refine r_iconst (pc2 := 23) (v := 0) dX4_mayBind_22 (by decide) rfl ?_
          refine r_istore_n (pc2 := 24) (ls2 := [.ref 90, .int (nI p), .int (nI q), .int 0]) 3 dX4_mayBind_23 rfl (by decide) rfl rfl rfl ?_
          refine r_iload_n (pc2 := 25) 3 dX4_mayBind_24 rfl rfl rfl ?_
          refine r_if_ne (tgt := 60) (pc2 := 28) dX4_mayBind_25 (by decide) rfl (fun b25 => ?_) (fun b25 => ?_)
          · exact absurd b25 (by decide)
          · skip
            refine r_aload_n (pc2 := 29) 0 dX4_mayBind_28 rfl rfl rfl rfl ?_
            refine r_iload_n (pc2 := 30) 1 dX4_mayBind_29 rfl rfl rfl ?_
            refine r_callV1 (pc2 := 33) (As := [.int (nI p)]) (st := []) kX4_58 rfl rfl dX4_mayBind_30 c90 (by decide) rfl rfl (Nat.le_of_ble_eq_true rfl) (by omega) (c_boundTo (p := p) c90 hF (by omega)) rfl (fun h2 hq30 => ?_)
            subst hq30
            refine r_iconst (pc2 := 34) (v := 1) dX4_mayBind_33 (by decide) rfl ?_
            refine r_iload_n (pc2 := 35) 2 dX4_mayBind_34 rfl rfl rfl ?_
            refine r_ishl (pc2 := 36) dX4_mayBind_35 rfl ?_
            refine r_cast (nI (2 ^ q)) (shl1 _ (by omega)) ?_
            refine r_iconst (pc2 := 37) (v := -1) dX4_mayBind_36 (by decide) rfl ?_
            refine r_ixor (pc2 := 38) dX4_mayBind_37 rfl ?_
            refine r_iand (pc2 := 39) dX4_mayBind_38 rfl ?_
            refine r_cast (nI (clrB (F p) q)) (clr8 q hq _ (hF p hp)) ?_
            refine r_if_ne (tgt := 60) (pc2 := 42) dX4_mayBind_39 (by decide) rfl (fun b39 => ?_) (fun b39 => ?_)
            · exact absurd (by rw [g2]; rfl) b39
            · skip
              refine r_aload_n (pc2 := 43) 0 dX4_mayBind_42 rfl rfl rfl rfl ?_
              refine r_iload_n (pc2 := 44) 2 dX4_mayBind_43 rfl rfl rfl ?_
              refine r_callV1 (pc2 := 47) (As := [.int (nI q)]) (st := []) kX4_58 rfl rfl dX4_mayBind_44 c90 (by decide) rfl rfl (Nat.le_of_ble_eq_true rfl) (by omega) (c_boundTo (p := q) c90 hF (by omega)) rfl (fun h2 hq44 => ?_)
              subst hq44
              refine r_iconst (pc2 := 48) (v := 1) dX4_mayBind_47 (by decide) rfl ?_
              refine r_iload_n (pc2 := 49) 1 dX4_mayBind_48 rfl rfl rfl ?_
              refine r_ishl (pc2 := 50) dX4_mayBind_49 rfl ?_
              refine r_cast (nI (2 ^ p)) (shl1 _ (by omega)) ?_
              refine r_iconst (pc2 := 51) (v := -1) dX4_mayBind_50 (by decide) rfl ?_
              refine r_ixor (pc2 := 52) dX4_mayBind_51 rfl ?_
              refine r_iand (pc2 := 53) dX4_mayBind_52 rfl ?_
              refine r_cast (nI (clrB (F q) p)) (clr8 p hp _ (hF q hq)) ?_
              refine r_if_ne (tgt := 60) (pc2 := 56) dX4_mayBind_53 (by decide) rfl (fun b53 => ?_) (fun b53 => ?_)
              · skip
                refine r_iconst (pc2 := 61) (v := 0) dX4_mayBind_60 (by decide) rfl ?_
                exact r_zret (ty := .boolean) rfl (by decide) dX4_mayBind_61 ⟨by rw [if_neg hm], rfl⟩
              · exact absurd ((nI_eq (b := 0) (by have := clrB_lt (F q) p (hF q (by omega)); omega) (by decide)).mp b53) g3
        · exact absurd ((lgc_eq _ _).mp b15) (by rw [g1]; decide)
    · have hm : ¬ ((G p).testBit q = false ∧ clrB (F p) q = 0 ∧ clrB (F q) p = 0) := fun z => g2 z.2.1
      refine Cn.go (ls := [.ref 90, .int (nI p), .int (nI q), .float 0]) (by decide +kernel) rfl (Nat.le_of_ble_eq_true rfl) ?_
      refine r_aload_n (pc2 := 1) 0 dX4_mayBind_0 rfl rfl rfl rfl ?_
      refine r_getf (pc2 := 4) (v := .long (lN (pkL (L8 G)))) fX4_29 dX4_mayBind_1 c90 (by decide) rfl rfl ?_
      refine r_bipush (pc2 := 6) (v := 8) dX4_mayBind_4 (by decide) rfl ?_
      refine r_iload_n (pc2 := 7) 1 dX4_mayBind_6 rfl rfl rfl ?_
      refine r_imul (pc2 := 8) dX4_mayBind_7 rfl ?_
      refine r_cast (nI (8 * p)) (pk_mul 8 _) ?_
      refine r_iload_n (pc2 := 9) 2 dX4_mayBind_8 rfl rfl rfl ?_
      refine r_iadd (pc2 := 10) dX4_mayBind_9 rfl ?_
      refine r_cast (nI (8 * p + q)) (nI_add _ _) ?_
      refine r_lushr (pc2 := 11) dX4_mayBind_10 rfl ?_
      refine r_castl (lN (pkL (L8 G) / 2 ^ (8 * p + q))) (lN_ushr (L8_lt hG) (by omega)) ?_
      refine r_lconst (pc2 := 12) (v := 1) dX4_mayBind_11 (by decide) rfl ?_
      refine r_land (pc2 := 13) dX4_mayBind_12 rfl ?_
      refine r_castl (lN ((G p).testBit q).toNat) (by rw [show (1 : Int64) = lN 1 from rfl, lN_and, L8_one hG hp hq]) ?_
      refine r_lconst (pc2 := 14) (v := 1) dX4_mayBind_13 (by decide) rfl ?_
      refine r_lcmp (pc2 := 15) dX4_mayBind_14 rfl ?_
      refine r_if_ne (tgt := 22) (pc2 := 18) dX4_mayBind_15 (by decide) rfl (fun b15 => ?_) (fun b15 => ?_)
      · skip
        refine r_iconst (pc2 := 23) (v := 0) dX4_mayBind_22 (by decide) rfl ?_
        refine r_istore_n (pc2 := 24) (ls2 := [.ref 90, .int (nI p), .int (nI q), .int 0]) 3 dX4_mayBind_23 rfl (by decide) rfl rfl rfl ?_
        refine r_iload_n (pc2 := 25) 3 dX4_mayBind_24 rfl rfl rfl ?_
        refine r_if_ne (tgt := 60) (pc2 := 28) dX4_mayBind_25 (by decide) rfl (fun b25 => ?_) (fun b25 => ?_)
        · exact absurd b25 (by decide)
        · skip
          refine r_aload_n (pc2 := 29) 0 dX4_mayBind_28 rfl rfl rfl rfl ?_
          refine r_iload_n (pc2 := 30) 1 dX4_mayBind_29 rfl rfl rfl ?_
          refine r_callV1 (pc2 := 33) (As := [.int (nI p)]) (st := []) kX4_58 rfl rfl dX4_mayBind_30 c90 (by decide) rfl rfl (Nat.le_of_ble_eq_true rfl) (by omega) (c_boundTo (p := p) c90 hF (by omega)) rfl (fun h2 hq30 => ?_)
          subst hq30
          refine r_iconst (pc2 := 34) (v := 1) dX4_mayBind_33 (by decide) rfl ?_
          refine r_iload_n (pc2 := 35) 2 dX4_mayBind_34 rfl rfl rfl ?_
          refine r_ishl (pc2 := 36) dX4_mayBind_35 rfl ?_
          refine r_cast (nI (2 ^ q)) (shl1 _ (by omega)) ?_
          refine r_iconst (pc2 := 37) (v := -1) dX4_mayBind_36 (by decide) rfl ?_
          refine r_ixor (pc2 := 38) dX4_mayBind_37 rfl ?_
          refine r_iand (pc2 := 39) dX4_mayBind_38 rfl ?_
          refine r_cast (nI (clrB (F p) q)) (clr8 q hq _ (hF p hp)) ?_
          refine r_if_ne (tgt := 60) (pc2 := 42) dX4_mayBind_39 (by decide) rfl (fun b39 => ?_) (fun b39 => ?_)
          · skip
            refine r_iconst (pc2 := 61) (v := 0) dX4_mayBind_60 (by decide) rfl ?_
            exact r_zret (ty := .boolean) rfl (by decide) dX4_mayBind_61 ⟨by rw [if_neg hm], rfl⟩
          · exact absurd ((nI_eq (b := 0) (by have := clrB_lt (F p) q (hF p (by omega)); omega) (by decide)).mp b39) g2
      · exact absurd ((lgc_eq _ _).mp b15) (by rw [g1]; decide)
set_option maxRecDepth 20000 in
set_option maxHeartbeats 1000000 in
theorem c_waysWith {E : EnvT} {d : Nat} {h0 : Hp} {n pe : Nat} {F G : Nat → Nat} {p q : Nat} {tg : Nat → Int32} (c90 : h0.1 90 = some (.inr (4, [.int (nI n), .ref 91, .int (nI pe), .long (lN (pkL (L8 F))), .long (lN (pkL (L8 G))), .ref 92, .ref 93]))) (c93 : h0.1 93 = some (aI 64 tg)) (hp : p < 8) (hq : q < 8) : Cn E mX4_waysWith d [.ref 90, .int (nI p), .int (nI q)] h0 (fun r h2 => r = some (.int (tg (8 * p + q))) ∧ h2 = h0) := by
  refine Cn.go (ls := [.ref 90, .int (nI p), .int (nI q), .float 0]) (by decide +kernel) rfl (Nat.le_of_ble_eq_true rfl) ?_
  refine r_bipush (pc2 := 2) (v := 8) dX4_waysWith_0 (by decide) rfl ?_
  refine r_iload_n (pc2 := 3) 1 dX4_waysWith_2 rfl rfl rfl ?_
  refine r_imul (pc2 := 4) dX4_waysWith_3 rfl ?_
  refine r_cast (nI (8 * p)) (pk_mul 8 _) ?_
  refine r_iload_n (pc2 := 5) 2 dX4_waysWith_4 rfl rfl rfl ?_
  refine r_iadd (pc2 := 6) dX4_waysWith_5 rfl ?_
  refine r_cast (nI (8 * p + q)) (nI_add _ _) ?_
  refine r_istore_n (pc2 := 7) (ls2 := [.ref 90, .int (nI p), .int (nI q), .int (nI (8 * p + q))]) 3 dX4_waysWith_6 rfl (by decide) rfl rfl rfl ?_
  refine r_iload_n (pc2 := 8) 3 dX4_waysWith_7 rfl rfl rfl ?_
  refine r_if_lt (tgt := 29) (pc2 := 11) dX4_waysWith_8 (by decide) rfl (fun b8 => ?_) (fun b8 => ?_)
  · exact absurd b8 (nI_pos (by omega))
  · skip
    refine r_iload_n (pc2 := 12) 3 dX4_waysWith_11 rfl rfl rfl ?_
    refine r_aload_n (pc2 := 13) 0 dX4_waysWith_12 rfl rfl rfl rfl ?_
    refine r_getf (pc2 := 16) (v := .ref 93) fX4_22 dX4_waysWith_13 c90 (by decide) rfl rfl ?_
    refine r_alen (pc2 := 17) dX4_waysWith_16 c93 (by decide) (by decide) rfl ?_
    refine r_icmp_ge (tgt := 29) (pc2 := 20) dX4_waysWith_17 (by decide) rfl (fun b17 => ?_) (fun b17 => ?_)
    · exact absurd b17 (nI_ge (b := 64) (by omega) (by decide))
    · skip
      refine r_aload_n (pc2 := 21) 0 dX4_waysWith_20 rfl rfl rfl rfl ?_
      refine r_getf (pc2 := 24) (v := .ref 93) fX4_22 dX4_waysWith_21 c90 (by decide) rfl rfl ?_
      refine r_iload_n (pc2 := 25) 3 dX4_waysWith_24 rfl rfl rfl ?_
      refine r_ialdN (pc2 := 26) (8 * p + q) dX4_waysWith_25 c93 (by decide) rfl (by omega) (by decide) rfl ?_
      refine r_goto (pc2 := 30) dX4_waysWith_26 (by decide) ?_
      exact r_iret rfl dX4_waysWith_30 ⟨rfl, rfl⟩
theorem nI_m1 {q : Nat} (h : q < 2 ^ 31) : ¬ (-1 : Int32) = nI q := fun e => by
  have := congrArg Int32.toInt e
  rw [nI_toInt h] at this
  have h1 : (-1 : Int32).toInt = -1 := by decide
  omega
set_option maxRecDepth 20000 in
set_option maxHeartbeats 1000000 in
theorem c_addWay {E : EnvT} {d : Nat} {h0 : Hp} {n pe : Nat} {F G : Nat → Nat} {f pa tg : Nat → Int32} (c90 : h0.1 90 = some (.inr (4, [.int (nI n), .ref 91, .int (nI pe), .long (lN (pkL (L8 F))), .long (lN (pkL (L8 G))), .ref 92, .ref 93]))) (c91 : h0.1 91 = some (aI 8 f)) (c92 : h0.1 92 = some (aI 8 pa)) (c93 : h0.1 93 = some (aI 64 tg)) (hpe : pe ≤ 8) (hn : n + 1 < 2 ^ 31) (hpa : ∀ p, p < pe → pa p = -1 ∨ ∃ r, r < 8 ∧ pa p = nI r) : Cn E mX4_addWay d [.ref 90] h0 (fun r h2 => r = none ∧ Ex [90, 91, 93] h0 h2 ∧ h2.1 90 = some (.inr (4, [.int (nI (n + 1)), .ref 91, .int (nI pe), .long (lN (pkL (L8 F))), .long (lN (pkL (L8 G))), .ref 92, .ref 93])) ∧ h2.1 92 = some (aI 8 pa) ∧ ∃ fk tk, h2.1 91 = some (aI 8 fk) ∧ h2.1 93 = some (aI 64 tk) ∧ (∀ p, fk p = if p < pe ∧ n = 0 then pa p else f p) ∧ (∀ p q, q < 8 → tk (8 * p + q) = tg (8 * p + q) + (if p < pe ∧ pa p = nI q then (1 : Int32) else 0))) := by
  have hx : Ex [90, 91, 93] h0 h0 := Ex.rf
  have loop : ∀ (m k : Nat) (h : Hp) (fk tk : Nat → Int32), k + m = pe → Ex [90, 91, 93] h0 h → h.1 90 = some (.inr (4, [.int (nI (n + 1)), .ref 91, .int (nI pe), .long (lN (pkL (L8 F))), .long (lN (pkL (L8 G))), .ref 92, .ref 93])) → h.1 92 = some (aI 8 pa) → h.1 91 = some (aI 8 fk) → h.1 93 = some (aI 64 tk) → (∀ p, fk p = if p < k ∧ n = 0 then pa p else f p) → (∀ p q, q < 8 → tk (8 * p + q) = tg (8 * p + q) + (if p < k ∧ pa p = nI q then (1 : Int32) else 0)) → Fr E mX4_addWay d 12 [.ref 90, .int (nI k)] [] h (fun r h2 => r = none ∧ Ex [90, 91, 93] h0 h2 ∧ h2.1 90 = some (.inr (4, [.int (nI (n + 1)), .ref 91, .int (nI pe), .long (lN (pkL (L8 F))), .long (lN (pkL (L8 G))), .ref 92, .ref 93])) ∧ h2.1 92 = some (aI 8 pa) ∧ ∃ fk tk, h2.1 91 = some (aI 8 fk) ∧ h2.1 93 = some (aI 64 tk) ∧ (∀ p, fk p = if p < pe ∧ n = 0 then pa p else f p) ∧ (∀ p q, q < 8 → tk (8 * p + q) = tg (8 * p + q) + (if p < pe ∧ pa p = nI q then (1 : Int32) else 0))) := by
    intro m
    induction m with
    | zero =>
      intro k h fk tk hk hx c90 c92 c91 c93 hfk htk
      obtain rfl : k = pe := by omega
      refine r_iload_n (pc2 := 13) 1 dX4_addWay_12 rfl rfl rfl ?_
      refine r_aload_n (pc2 := 14) 0 dX4_addWay_13 rfl rfl rfl rfl ?_
      refine r_getf (pc2 := 17) (v := .int (nI k)) fX4_15 dX4_addWay_14 c90 (by decide) rfl rfl ?_
      refine r_icmp_ge (tgt := 76) (pc2 := 20) dX4_addWay_17 (by decide) rfl (fun b17 => ?_) (fun b17 => ?_)
      · skip
        exact r_vret rfl dX4_addWay_76 ⟨rfl, hx, c90, c92, fk, tk, c91, c93, hfk, htk⟩
      · exact absurd (nI_le (Nat.le_refl _) (by omega)) b17
    | succ m ih =>
      intro k h fk tk hk hx c90 c92 c91 c93 hfk htk
      have hlt : k < pe := by omega
      by_cases hn0 : n = 0
      · rcases hpa k hlt with hpk | ⟨r, hr, hpk⟩
        · skip
          refine r_iload_n (pc2 := 13) 1 dX4_addWay_12 rfl rfl rfl ?_
          refine r_aload_n (pc2 := 14) 0 dX4_addWay_13 rfl rfl rfl rfl ?_
          refine r_getf (pc2 := 17) (v := .int (nI pe)) fX4_15 dX4_addWay_14 c90 (by decide) rfl rfl ?_
          refine r_icmp_ge (tgt := 76) (pc2 := 20) dX4_addWay_17 (by decide) rfl (fun b17 => ?_) (fun b17 => ?_)
          · exact absurd b17 (nI_ge hlt (by omega))
          · skip
            refine r_aload_n (pc2 := 21) 0 dX4_addWay_20 rfl rfl rfl rfl ?_
            refine r_getf (pc2 := 24) (v := .int (nI (n + 1))) fX4_38 dX4_addWay_21 c90 (by decide) rfl rfl ?_
            refine r_iconst (pc2 := 25) (v := 1) dX4_addWay_24 (by decide) rfl ?_
            refine r_icmp_ne (tgt := 40) (pc2 := 28) dX4_addWay_25 (by decide) rfl (fun b25 => ?_) (fun b25 => ?_)
            · exact absurd (by rw [hn0]; rfl) b25
            · skip
              refine r_aload_n (pc2 := 29) 0 dX4_addWay_28 rfl rfl rfl rfl ?_
              refine r_getf (pc2 := 32) (v := .ref 91) fX4_9 dX4_addWay_29 c90 (by decide) rfl rfl ?_
              refine r_iload_n (pc2 := 33) 1 dX4_addWay_32 rfl rfl rfl ?_
              refine r_aload_n (pc2 := 34) 0 dX4_addWay_33 rfl rfl rfl rfl ?_
              refine r_getf (pc2 := 37) (v := .ref 92) fX4_19 dX4_addWay_34 c90 (by decide) rfl rfl ?_
              refine r_iload_n (pc2 := 38) 1 dX4_addWay_37 rfl rfl rfl ?_
              refine r_ialdN (pc2 := 39) k dX4_addWay_38 c92 (by decide) rfl (by omega) (by decide) rfl ?_
              refine r_topi (fun y39 ey39 => ?_)
              refine r_iastN (pc2 := 40) k dX4_addWay_39 c91 (by decide) rfl (by omega) (by decide) rfl (fun h z39 o39 c91 => ?_)
              have c90 := (o39 90 (by decide)).trans c90
              have c92 := (o39 92 (by decide)).trans c92
              have c93 := (o39 93 (by decide)).trans c93
              have hx := hx.step (a := 91) (by simp) z39 o39
              refine r_aload_n (pc2 := 41) 0 dX4_addWay_40 rfl rfl rfl rfl ?_
              refine r_getf (pc2 := 44) (v := .ref 92) fX4_19 dX4_addWay_41 c90 (by decide) rfl rfl ?_
              refine r_iload_n (pc2 := 45) 1 dX4_addWay_44 rfl rfl rfl ?_
              refine r_ialdN (pc2 := 46) k dX4_addWay_45 c92 (by decide) rfl (by omega) (by decide) rfl ?_
              refine r_iconst (pc2 := 47) (v := -1) dX4_addWay_46 (by decide) rfl ?_
              refine r_icmp_eq (tgt := 70) (pc2 := 50) dX4_addWay_47 (by decide) rfl (fun b47 => ?_) (fun b47 => ?_)
              · skip
                obtain ⟨x70, e70⟩ : ∃ z : Int32, z = (nI k) + (1) := ⟨_, rfl⟩
                refine r_iinc (pc2 := 73) (ls2 := [.ref 90, .int x70]) (v := x70) 1 dX4_addWay_70 rfl (by rw [e70]; rfl) rfl rfl rfl ?_
                refine r_goto (pc2 := 12) dX4_addWay_73 (by decide) ?_
                rw [e70, nI_1]
                have hfk2 : (∀ p, upd fk k (pa k) p = if p < (k + 1) ∧ n = 0 then pa p else f p) := (fun p => by
                  rw [show upd fk k (pa k) p = (if p = k then pa k else fk p) from rfl, hfk p]
                  by_cases w : p = k
                  · rw [if_pos w, if_pos ⟨by omega, hn0⟩, w]
                  · rw [if_neg w]; by_cases v : p < k
                    · rw [if_pos ⟨v, hn0⟩, if_pos ⟨by omega, hn0⟩]
                    · rw [if_neg (fun z => v z.1), if_neg (fun z => absurd z.1 (by omega))])
                exact ih (k + 1) h _ _ (by omega) hx c90 c92 c91 c93 (by rw [ey39]; exact hfk2) (fun p q hq => by
                  rw [htk p q hq]
                  by_cases w : p = k
                  · subst w
                    rw [if_neg (fun z => absurd z.1 (by omega)), if_neg (fun z => absurd (hpk.symm.trans z.2) (nI_m1 (by omega)))]
                  · by_cases v : p < k
                    · by_cases u : pa p = nI q
                      · rw [if_pos ⟨v, u⟩, if_pos ⟨by omega, u⟩]
                      · rw [if_neg (fun z => u z.2), if_neg (fun z => u z.2)]
                    · rw [if_neg (fun z => v z.1), if_neg (fun z => absurd z.1 (by omega))])
              · exact absurd hpk b47
        · skip
          refine r_iload_n (pc2 := 13) 1 dX4_addWay_12 rfl rfl rfl ?_
          refine r_aload_n (pc2 := 14) 0 dX4_addWay_13 rfl rfl rfl rfl ?_
          refine r_getf (pc2 := 17) (v := .int (nI pe)) fX4_15 dX4_addWay_14 c90 (by decide) rfl rfl ?_
          refine r_icmp_ge (tgt := 76) (pc2 := 20) dX4_addWay_17 (by decide) rfl (fun b17 => ?_) (fun b17 => ?_)
          · exact absurd b17 (nI_ge hlt (by omega))
          · skip
            refine r_aload_n (pc2 := 21) 0 dX4_addWay_20 rfl rfl rfl rfl ?_
            refine r_getf (pc2 := 24) (v := .int (nI (n + 1))) fX4_38 dX4_addWay_21 c90 (by decide) rfl rfl ?_
            refine r_iconst (pc2 := 25) (v := 1) dX4_addWay_24 (by decide) rfl ?_
            refine r_icmp_ne (tgt := 40) (pc2 := 28) dX4_addWay_25 (by decide) rfl (fun b25 => ?_) (fun b25 => ?_)
            · exact absurd (by rw [hn0]; rfl) b25
            · skip
              refine r_aload_n (pc2 := 29) 0 dX4_addWay_28 rfl rfl rfl rfl ?_
              refine r_getf (pc2 := 32) (v := .ref 91) fX4_9 dX4_addWay_29 c90 (by decide) rfl rfl ?_
              refine r_iload_n (pc2 := 33) 1 dX4_addWay_32 rfl rfl rfl ?_
              refine r_aload_n (pc2 := 34) 0 dX4_addWay_33 rfl rfl rfl rfl ?_
              refine r_getf (pc2 := 37) (v := .ref 92) fX4_19 dX4_addWay_34 c90 (by decide) rfl rfl ?_
              refine r_iload_n (pc2 := 38) 1 dX4_addWay_37 rfl rfl rfl ?_
              refine r_ialdN (pc2 := 39) k dX4_addWay_38 c92 (by decide) rfl (by omega) (by decide) rfl ?_
              refine r_topi (fun y39 ey39 => ?_)
              refine r_iastN (pc2 := 40) k dX4_addWay_39 c91 (by decide) rfl (by omega) (by decide) rfl (fun h z39 o39 c91 => ?_)
              have c90 := (o39 90 (by decide)).trans c90
              have c92 := (o39 92 (by decide)).trans c92
              have c93 := (o39 93 (by decide)).trans c93
              have hx := hx.step (a := 91) (by simp) z39 o39
              refine r_aload_n (pc2 := 41) 0 dX4_addWay_40 rfl rfl rfl rfl ?_
              refine r_getf (pc2 := 44) (v := .ref 92) fX4_19 dX4_addWay_41 c90 (by decide) rfl rfl ?_
              refine r_iload_n (pc2 := 45) 1 dX4_addWay_44 rfl rfl rfl ?_
              refine r_ialdN (pc2 := 46) k dX4_addWay_45 c92 (by decide) rfl (by omega) (by decide) rfl ?_
              refine r_iconst (pc2 := 47) (v := -1) dX4_addWay_46 (by decide) rfl ?_
              refine r_icmp_eq (tgt := 70) (pc2 := 50) dX4_addWay_47 (by decide) rfl (fun b47 => ?_) (fun b47 => ?_)
              · exact absurd (hpk.symm.trans b47) (fun z => absurd z.symm (nI_m1 (by omega)))
              · skip
                refine r_aload_n (pc2 := 51) 0 dX4_addWay_50 rfl rfl rfl rfl ?_
                refine r_getf (pc2 := 54) (v := .ref 93) fX4_22 dX4_addWay_51 c90 (by decide) rfl rfl ?_
                refine r_bipush (pc2 := 56) (v := 8) dX4_addWay_54 (by decide) rfl ?_
                refine r_iload_n (pc2 := 57) 1 dX4_addWay_56 rfl rfl rfl ?_
                refine r_imul (pc2 := 58) dX4_addWay_57 rfl ?_
                refine r_cast (nI (8 * k)) (pk_mul 8 _) ?_
                refine r_aload_n (pc2 := 59) 0 dX4_addWay_58 rfl rfl rfl rfl ?_
                refine r_getf (pc2 := 62) (v := .ref 92) fX4_19 dX4_addWay_59 c90 (by decide) rfl rfl ?_
                refine r_iload_n (pc2 := 63) 1 dX4_addWay_62 rfl rfl rfl ?_
                refine r_ialdN (pc2 := 64) k dX4_addWay_63 c92 (by decide) rfl (by omega) (by decide) rfl ?_
                refine r_cast (nI r) (hpk) ?_
                refine r_iadd (pc2 := 65) dX4_addWay_64 rfl ?_
                refine r_cast (nI (8 * k + r)) (nI_add _ _) ?_
                refine r_dup2 (pc2 := 66) dX4_addWay_65 rfl rfl rfl ?_
                refine r_ialdN (pc2 := 67) (8 * k + r) dX4_addWay_66 c93 (by decide) rfl (by omega) (by decide) rfl ?_
                refine r_iconst (pc2 := 68) (v := 1) dX4_addWay_67 (by decide) rfl ?_
                refine r_iadd (pc2 := 69) dX4_addWay_68 rfl ?_
                refine r_topi (fun y69 ey69 => ?_)
                refine r_iastN (pc2 := 70) (8 * k + r) dX4_addWay_69 c93 (by decide) rfl (by omega) (by decide) rfl (fun h z69 o69 c93 => ?_)
                have c90 := (o69 90 (by decide)).trans c90
                have c91 := (o69 91 (by decide)).trans c91
                have c92 := (o69 92 (by decide)).trans c92
                have hx := hx.step (a := 93) (by simp) z69 o69
                obtain ⟨x70, e70⟩ : ∃ z : Int32, z = (nI k) + (1) := ⟨_, rfl⟩
                refine r_iinc (pc2 := 73) (ls2 := [.ref 90, .int x70]) (v := x70) 1 dX4_addWay_70 rfl (by rw [e70]; rfl) rfl rfl rfl ?_
                refine r_goto (pc2 := 12) dX4_addWay_73 (by decide) ?_
                rw [e70, nI_1]
                have hfk2 : (∀ p, upd fk k (pa k) p = if p < (k + 1) ∧ n = 0 then pa p else f p) := (fun p => by
                  rw [show upd fk k (pa k) p = (if p = k then pa k else fk p) from rfl, hfk p]
                  by_cases w : p = k
                  · rw [if_pos w, if_pos ⟨by omega, hn0⟩, w]
                  · rw [if_neg w]; by_cases v : p < k
                    · rw [if_pos ⟨v, hn0⟩, if_pos ⟨by omega, hn0⟩]
                    · rw [if_neg (fun z => v z.1), if_neg (fun z => absurd z.1 (by omega))])
                exact ih (k + 1) h _ _ (by omega) hx c90 c92 c91 c93 (by rw [ey39]; exact hfk2) (fun p q hq => by
                  show (if 8 * p + q = 8 * k + r then y69 else tk (8 * p + q)) = _
                  by_cases w : p = k
                  · subst w
                    by_cases u : q = r
                    · subst u
                      rw [if_pos rfl, ey69, htk p q hq, if_neg (fun z => absurd z.1 (by omega)), if_pos ⟨by omega, hpk⟩]
                      exact congrArg (fun z => z + (1 : Int32)) (Int32.add_zero _)
                    · rw [if_neg (by omega), htk p q hq, if_neg (fun z => absurd z.1 (by omega)), if_neg (fun z => u (((nI_eq (by omega) (by omega)).mp (hpk.symm.trans z.2)).symm))]
                  · rw [if_neg (by omega), htk p q hq]
                    by_cases v : p < k
                    · by_cases u : pa p = nI q
                      · rw [if_pos ⟨v, u⟩, if_pos ⟨by omega, u⟩]
                      · rw [if_neg (fun z => u z.2), if_neg (fun z => u z.2)]
                    · rw [if_neg (fun z => v z.1), if_neg (fun z => absurd z.1 (by omega))])
      · rcases hpa k hlt with hpk | ⟨r, hr, hpk⟩
        · skip
          refine r_iload_n (pc2 := 13) 1 dX4_addWay_12 rfl rfl rfl ?_
          refine r_aload_n (pc2 := 14) 0 dX4_addWay_13 rfl rfl rfl rfl ?_
          refine r_getf (pc2 := 17) (v := .int (nI pe)) fX4_15 dX4_addWay_14 c90 (by decide) rfl rfl ?_
          refine r_icmp_ge (tgt := 76) (pc2 := 20) dX4_addWay_17 (by decide) rfl (fun b17 => ?_) (fun b17 => ?_)
          · exact absurd b17 (nI_ge hlt (by omega))
          · skip
            refine r_aload_n (pc2 := 21) 0 dX4_addWay_20 rfl rfl rfl rfl ?_
            refine r_getf (pc2 := 24) (v := .int (nI (n + 1))) fX4_38 dX4_addWay_21 c90 (by decide) rfl rfl ?_
            refine r_iconst (pc2 := 25) (v := 1) dX4_addWay_24 (by decide) rfl ?_
            refine r_icmp_ne (tgt := 40) (pc2 := 28) dX4_addWay_25 (by decide) rfl (fun b25 => ?_) (fun b25 => ?_)
            · skip
              refine r_aload_n (pc2 := 41) 0 dX4_addWay_40 rfl rfl rfl rfl ?_
              refine r_getf (pc2 := 44) (v := .ref 92) fX4_19 dX4_addWay_41 c90 (by decide) rfl rfl ?_
              refine r_iload_n (pc2 := 45) 1 dX4_addWay_44 rfl rfl rfl ?_
              refine r_ialdN (pc2 := 46) k dX4_addWay_45 c92 (by decide) rfl (by omega) (by decide) rfl ?_
              refine r_iconst (pc2 := 47) (v := -1) dX4_addWay_46 (by decide) rfl ?_
              refine r_icmp_eq (tgt := 70) (pc2 := 50) dX4_addWay_47 (by decide) rfl (fun b47 => ?_) (fun b47 => ?_)
              · skip
                obtain ⟨x70, e70⟩ : ∃ z : Int32, z = (nI k) + (1) := ⟨_, rfl⟩
                refine r_iinc (pc2 := 73) (ls2 := [.ref 90, .int x70]) (v := x70) 1 dX4_addWay_70 rfl (by rw [e70]; rfl) rfl rfl rfl ?_
                refine r_goto (pc2 := 12) dX4_addWay_73 (by decide) ?_
                rw [e70, nI_1]
                have hfk2 : (∀ p, fk p = if p < (k + 1) ∧ n = 0 then pa p else f p) := (fun p => by
                  rw [hfk p, if_neg (fun z => hn0 z.2), if_neg (fun z => hn0 z.2)])
                exact ih (k + 1) h _ _ (by omega) hx c90 c92 c91 c93 hfk2 (fun p q hq => by
                  rw [htk p q hq]
                  by_cases w : p = k
                  · subst w
                    rw [if_neg (fun z => absurd z.1 (by omega)), if_neg (fun z => absurd (hpk.symm.trans z.2) (nI_m1 (by omega)))]
                  · by_cases v : p < k
                    · by_cases u : pa p = nI q
                      · rw [if_pos ⟨v, u⟩, if_pos ⟨by omega, u⟩]
                      · rw [if_neg (fun z => u z.2), if_neg (fun z => u z.2)]
                    · rw [if_neg (fun z => v z.1), if_neg (fun z => absurd z.1 (by omega))])
              · exact absurd hpk b47
            · exact absurd ((nI_eq (a := n + 1) (b := 1) (by omega) (by decide)).mp b25) (by omega)
        · skip
          refine r_iload_n (pc2 := 13) 1 dX4_addWay_12 rfl rfl rfl ?_
          refine r_aload_n (pc2 := 14) 0 dX4_addWay_13 rfl rfl rfl rfl ?_
          refine r_getf (pc2 := 17) (v := .int (nI pe)) fX4_15 dX4_addWay_14 c90 (by decide) rfl rfl ?_
          refine r_icmp_ge (tgt := 76) (pc2 := 20) dX4_addWay_17 (by decide) rfl (fun b17 => ?_) (fun b17 => ?_)
          · exact absurd b17 (nI_ge hlt (by omega))
          · skip
            refine r_aload_n (pc2 := 21) 0 dX4_addWay_20 rfl rfl rfl rfl ?_
            refine r_getf (pc2 := 24) (v := .int (nI (n + 1))) fX4_38 dX4_addWay_21 c90 (by decide) rfl rfl ?_
            refine r_iconst (pc2 := 25) (v := 1) dX4_addWay_24 (by decide) rfl ?_
            refine r_icmp_ne (tgt := 40) (pc2 := 28) dX4_addWay_25 (by decide) rfl (fun b25 => ?_) (fun b25 => ?_)
            · skip
              refine r_aload_n (pc2 := 41) 0 dX4_addWay_40 rfl rfl rfl rfl ?_
              refine r_getf (pc2 := 44) (v := .ref 92) fX4_19 dX4_addWay_41 c90 (by decide) rfl rfl ?_
              refine r_iload_n (pc2 := 45) 1 dX4_addWay_44 rfl rfl rfl ?_
              refine r_ialdN (pc2 := 46) k dX4_addWay_45 c92 (by decide) rfl (by omega) (by decide) rfl ?_
              refine r_iconst (pc2 := 47) (v := -1) dX4_addWay_46 (by decide) rfl ?_
              refine r_icmp_eq (tgt := 70) (pc2 := 50) dX4_addWay_47 (by decide) rfl (fun b47 => ?_) (fun b47 => ?_)
              · exact absurd (hpk.symm.trans b47) (fun z => absurd z.symm (nI_m1 (by omega)))
              · skip
                refine r_aload_n (pc2 := 51) 0 dX4_addWay_50 rfl rfl rfl rfl ?_
                refine r_getf (pc2 := 54) (v := .ref 93) fX4_22 dX4_addWay_51 c90 (by decide) rfl rfl ?_
                refine r_bipush (pc2 := 56) (v := 8) dX4_addWay_54 (by decide) rfl ?_
                refine r_iload_n (pc2 := 57) 1 dX4_addWay_56 rfl rfl rfl ?_
                refine r_imul (pc2 := 58) dX4_addWay_57 rfl ?_
                refine r_cast (nI (8 * k)) (pk_mul 8 _) ?_
                refine r_aload_n (pc2 := 59) 0 dX4_addWay_58 rfl rfl rfl rfl ?_
                refine r_getf (pc2 := 62) (v := .ref 92) fX4_19 dX4_addWay_59 c90 (by decide) rfl rfl ?_
                refine r_iload_n (pc2 := 63) 1 dX4_addWay_62 rfl rfl rfl ?_
                refine r_ialdN (pc2 := 64) k dX4_addWay_63 c92 (by decide) rfl (by omega) (by decide) rfl ?_
                refine r_cast (nI r) (hpk) ?_
                refine r_iadd (pc2 := 65) dX4_addWay_64 rfl ?_
                refine r_cast (nI (8 * k + r)) (nI_add _ _) ?_
                refine r_dup2 (pc2 := 66) dX4_addWay_65 rfl rfl rfl ?_
                refine r_ialdN (pc2 := 67) (8 * k + r) dX4_addWay_66 c93 (by decide) rfl (by omega) (by decide) rfl ?_
                refine r_iconst (pc2 := 68) (v := 1) dX4_addWay_67 (by decide) rfl ?_
                refine r_iadd (pc2 := 69) dX4_addWay_68 rfl ?_
                refine r_topi (fun y69 ey69 => ?_)
                refine r_iastN (pc2 := 70) (8 * k + r) dX4_addWay_69 c93 (by decide) rfl (by omega) (by decide) rfl (fun h z69 o69 c93 => ?_)
                have c90 := (o69 90 (by decide)).trans c90
                have c91 := (o69 91 (by decide)).trans c91
                have c92 := (o69 92 (by decide)).trans c92
                have hx := hx.step (a := 93) (by simp) z69 o69
                obtain ⟨x70, e70⟩ : ∃ z : Int32, z = (nI k) + (1) := ⟨_, rfl⟩
                refine r_iinc (pc2 := 73) (ls2 := [.ref 90, .int x70]) (v := x70) 1 dX4_addWay_70 rfl (by rw [e70]; rfl) rfl rfl rfl ?_
                refine r_goto (pc2 := 12) dX4_addWay_73 (by decide) ?_
                rw [e70, nI_1]
                have hfk2 : (∀ p, fk p = if p < (k + 1) ∧ n = 0 then pa p else f p) := (fun p => by
                  rw [hfk p, if_neg (fun z => hn0 z.2), if_neg (fun z => hn0 z.2)])
                exact ih (k + 1) h _ _ (by omega) hx c90 c92 c91 c93 hfk2 (fun p q hq => by
                  show (if 8 * p + q = 8 * k + r then y69 else tk (8 * p + q)) = _
                  by_cases w : p = k
                  · subst w
                    by_cases u : q = r
                    · subst u
                      rw [if_pos rfl, ey69, htk p q hq, if_neg (fun z => absurd z.1 (by omega)), if_pos ⟨by omega, hpk⟩]
                      exact congrArg (fun z => z + (1 : Int32)) (Int32.add_zero _)
                    · rw [if_neg (by omega), htk p q hq, if_neg (fun z => absurd z.1 (by omega)), if_neg (fun z => u (((nI_eq (by omega) (by omega)).mp (hpk.symm.trans z.2)).symm))]
                  · rw [if_neg (by omega), htk p q hq]
                    by_cases v : p < k
                    · by_cases u : pa p = nI q
                      · rw [if_pos ⟨v, u⟩, if_pos ⟨by omega, u⟩]
                      · rw [if_neg (fun z => u z.2), if_neg (fun z => u z.2)]
                    · rw [if_neg (fun z => v z.1), if_neg (fun z => absurd z.1 (by omega))])
            · exact absurd ((nI_eq (a := n + 1) (b := 1) (by omega) (by decide)).mp b25) (by omega)
  refine Cn.go (ls := [.ref 90, .float 0]) (by decide +kernel) rfl (Nat.le_of_ble_eq_true rfl) ?_
  refine r_aload_n (pc2 := 1) 0 dX4_addWay_0 rfl rfl rfl rfl ?_
  refine r_dup (pc2 := 2) dX4_addWay_1 rfl rfl ?_
  refine r_getf (pc2 := 5) (v := .int (nI n)) fX4_38 dX4_addWay_2 c90 (by decide) rfl rfl ?_
  refine r_iconst (pc2 := 6) (v := 1) dX4_addWay_5 (by decide) rfl ?_
  refine r_iadd (pc2 := 7) dX4_addWay_6 rfl ?_
  refine r_cast (nI (n + 1)) (nI_1 n) ?_
  refine r_putfX (pc2 := 10) [.int (nI (n + 1)), .ref 91, .int (nI pe), .long (lN (pkL (L8 F))), .long (lN (pkL (L8 G))), .ref 92, .ref 93] fX4_38 dX4_addWay_7 c90 (by decide) (Nat.le_of_ble_eq_true rfl) rfl rfl rfl (fun h z7 o7 c90 => ?_)
  have c91 := (o7 91 (by decide)).trans c91
  have c92 := (o7 92 (by decide)).trans c92
  have c93 := (o7 93 (by decide)).trans c93
  have hx := hx.step (a := 90) (by simp) z7 o7
  refine r_iconst (pc2 := 11) (v := 0) dX4_addWay_10 (by decide) rfl ?_
  refine r_cast (nI 0) (rfl) ?_
  refine r_istore_n (pc2 := 12) (ls2 := [.ref 90, .int (nI 0)]) 1 dX4_addWay_11 rfl (by decide) rfl rfl rfl ?_
  exact loop pe 0 h f tg (by omega) hx c90 c92 c91 c93 (fun p => by rw [if_neg (fun z => absurd z.1 (by omega))]) (fun p q hq => by rw [if_neg (fun z => absurd z.1 (by omega)), Int32.add_zero])
