/-! slept: draughts -/
abbrev okN (nu : Nat → Int64) (t n : Nat) : Prop := ∀ i, i < n → lR 0 9 (nu (40 * t + i))
def nsF (rs rm : Nat → Int32) (nu : Nat → Int64) (x : Int32) : Int32 := if noTrayF rs x ≠ 0 then noTrayF rs x else if inR 1 10 (rm x.toNatClampNeg) then (if okN nu x.toNatClampNeg (rowN rm x.toNatClampNeg) then 0 else -3) else -4
theorem nsF_0 {rs rm : Nat → Int32} {nu : Nat → Int64} {x : Int32} (hT : TOK rs rm) (h : nsF rs rm nu x = 0) : ∃ t, t < 4 ∧ x = nI t ∧ rm t = nI (rowN rm t) ∧ 1 ≤ rowN rm t ∧ rowN rm t ≤ 10 ∧ okN nu t (rowN rm t) := by
  unfold nsF at h
  by_cases h1 : noTrayF rs x = 0
  · rw [if_neg (fun z => z h1)] at h
    obtain ⟨t, ht, rfl, _⟩ := noTray_0 h1
    rw [nI_clamp (by omega)] at h
    obtain ⟨hrm, hr⟩ := hT t ht
    split at h
    · rename_i h2
      rw [hrm, inR_toNat (by decide) (by decide) (by omega)] at h2
      split at h
      · rename_i h3
        exact ⟨t, ht, rfl, hrm, h2.1, h2.2, h3⟩
      · exact absurd h (by decide)
    · exact absurd h (by decide)
  · rw [if_pos h1] at h; exact absurd h h1
/-- the stand behind i hours without steps, with a draught, as long as it sleeps -/
def slS (a : Nat → Nat) (dr : Nat) : Nat → Nat
  | 0 => packS a
  | i + 1 => if slS a dr i / 4096 = 0 then slS a dr i else hourN a (slS a dr i) 0 0 dr
theorem slS_lt {a : Nat → Nat} (hA : AIN a) (dr : Nat) : ∀ i, slS a dr i < 40960
  | 0 => hA.plt
  | i + 1 => by
    unfold slS
    have := slS_lt hA dr i
    split
    · exact this
    · exact hourN_lt hA.G hA.C (by omega) (fun g _ z => by rw [Nat.zero_testBit] at z; cases z)
abbrev isD (a : Nat → Nat) (nu : Nat → Int64) (t n dr : Nat) : Prop := ∀ i, i < n → lN (slS a dr (i + 1) / 4096) = nu (40 * t + i)
def drO (a : Nat → Nat) (nu : Nat → Int64) (t n : Nat) : Nat → Nat
  | 0 => 0
  | k + 1 => drO a nu t n k ||| (if isD a nu t n k then 2 ^ k else 0)
theorem drO_lt (a : Nat → Nat) (nu : Nat → Int64) (t n : Nat) : ∀ k, drO a nu t n k < 2 ^ k
  | 0 => Nat.zero_lt_one
  | k + 1 => by
    unfold drO
    have h1 := drO_lt a nu t n k
    apply Nat.or_lt_two_pow
    · rw [Nat.pow_succ]; omega
    · split
      · exact Nat.pow_lt_pow_right (by decide) (Nat.lt_succ_self _)
      · exact Nat.two_pow_pos _
def drF (a : Nat → Nat) (rs rm : Nat → Int32) (nu : Nat → Int64) (x : Int32) : Int32 := if nsF rs rm nu x ≠ 0 then nsF rs rm nu x else nI (drO a nu x.toNatClampNeg (rowN rm x.toNatClampNeg) 10)
set_option maxRecDepth 20000 in
set_option maxHeartbeats 1000000 in
theorem c_noSlept {E : EnvT} {d : Nat} {h0 : Hp} {v rs rm : Nat → Int32} {nu : Nat → Int64} {x : Int32} (c117 : h0.1 117 = some (mO v)) (c136 : h0.1 136 = some (aI 4 rs)) (c137 : h0.1 137 = some (aI 4 rm)) (c138 : h0.1 138 = some (aL 160 nu)) (hT : TOK rs rm) (hd : 2 ≤ d) : Cn E mX10_noSlept d [.ref 117, .int x] h0 (fun r h2 => r = some (.int (nsF rs rm nu x)) ∧ h2 = h0) := by
  by_cases h1 : noTrayF rs x = 0
  · obtain ⟨t, ht, rfl, _⟩ := noTray_0 h1
    obtain ⟨hrm, hr40⟩ := hT t ht
    by_cases h2x : inR 1 10 (rm t)
    · have loop : ∀ (m k : Nat) (u2 : Int32), k + m = rowN rm t → okN nu t k → Fr E mX10_noSlept d 34 [.ref 117, .int (nI t), .int u2, .int (nI k)] [] h0 (fun r h2 => r = some (.int (nsF rs rm nu (nI t))) ∧ h2 = h0) := by
        intro m
        induction m with
        | zero =>
          intro k u2 hk hi
          obtain rfl : k = rowN rm t := by omega
          refine r_iload_n (pc2 := 35) 3 dX10_noSlept_34 rfl rfl rfl ?_
          refine r_aload_n (pc2 := 36) 0 dX10_noSlept_35 rfl rfl rfl rfl ?_
          refine r_getf (pc2 := 39) (v := .ref 137) fX10_80 dX10_noSlept_36 c117 (by decide) rfl rfl ?_
          refine r_iload_n (pc2 := 40) 1 dX10_noSlept_39 rfl rfl rfl ?_
          refine r_ialdN (pc2 := 41) t dX10_noSlept_40 c137 (by decide) rfl (by omega) (by decide) rfl ?_
          refine r_cast (nI (rowN rm t)) (hrm) ?_
          refine r_icmp_ge (tgt := 74) (pc2 := 44) dX10_noSlept_41 (by decide) rfl (fun b41 => ?_) (fun b41 => ?_)
          · skip
            refine r_iconst (pc2 := 75) (v := 0) dX10_noSlept_74 (by decide) rfl ?_
            exact r_iret rfl dX10_noSlept_75 ⟨by rw [nsF, if_neg (fun z => z h1), nI_clamp (by omega), if_pos h2x, if_pos hi], rfl⟩
          · exact absurd (nI_le (Nat.le_refl _) (by omega)) b41
        | succ m ih =>
          intro k u2 hk hi
          have hlt : k < rowN rm t := by omega
          by_cases hk9 : lR 0 9 (nu (40 * t + k))
          · skip
            refine r_iload_n (pc2 := 35) 3 dX10_noSlept_34 rfl rfl rfl ?_
            refine r_aload_n (pc2 := 36) 0 dX10_noSlept_35 rfl rfl rfl rfl ?_
            refine r_getf (pc2 := 39) (v := .ref 137) fX10_80 dX10_noSlept_36 c117 (by decide) rfl rfl ?_
            refine r_iload_n (pc2 := 40) 1 dX10_noSlept_39 rfl rfl rfl ?_
            refine r_ialdN (pc2 := 41) t dX10_noSlept_40 c137 (by decide) rfl (by omega) (by decide) rfl ?_
            refine r_cast (nI (rowN rm t)) (hrm) ?_
            refine r_icmp_ge (tgt := 74) (pc2 := 44) dX10_noSlept_41 (by decide) rfl (fun b41 => ?_) (fun b41 => ?_)
            · exact absurd b41 (nI_ge hlt (by omega))
            · skip
              refine r_aload_n (pc2 := 45) 0 dX10_noSlept_44 rfl rfl rfl rfl ?_
              refine r_getf (pc2 := 48) (v := .ref 138) fX10_83 dX10_noSlept_45 c117 (by decide) rfl rfl ?_
              refine r_bipush (pc2 := 50) (v := 40) dX10_noSlept_48 (by decide) rfl ?_
              refine r_iload_n (pc2 := 51) 1 dX10_noSlept_50 rfl rfl rfl ?_
              refine r_imul (pc2 := 52) dX10_noSlept_51 rfl ?_
              refine r_cast (nI (40 * t)) (pk_mul 40 t) ?_
              refine r_iload_n (pc2 := 53) 3 dX10_noSlept_52 rfl rfl rfl ?_
              refine r_iadd (pc2 := 54) dX10_noSlept_53 rfl ?_
              refine r_cast (nI (40 * t + k)) (nI_add _ _) ?_
              refine r_laldN (pc2 := 55) (40 * t + k) dX10_noSlept_54 c138 (by decide) rfl (by omega) (by decide) rfl ?_
              refine r_lconst (pc2 := 56) (v := 0) dX10_noSlept_55 (by decide) rfl ?_
              refine r_ldc2 (pc2 := 59) (v := 9) qX10_297 dX10_noSlept_56 rfl ?_
              refine r_callS1 (pc2 := 62) (As := [.long (nu (40 * t + k)), .long 0, .long 9]) (st := []) kX10_152 dX10_noSlept_59 rfl rfl (Nat.le_of_ble_eq_true rfl) (by omega) (c_within (nu (40 * t + k)) 0 9) rfl (fun h2 hq59 => ?_)
              subst hq59
              refine r_if_ne (tgt := 68) (pc2 := 65) dX10_noSlept_62 (by decide) rfl (fun b62 => ?_) (fun b62 => ?_)
              · skip
                obtain ⟨x68, e68⟩ : ∃ z : Int32, z = (nI k) + (1) := ⟨_, rfl⟩
                refine r_iinc (pc2 := 71) (ls2 := [.ref 117, .int (nI t), .int u2, .int x68]) (v := x68) 3 dX10_noSlept_68 rfl (by rw [e68]; rfl) rfl rfl rfl ?_
                refine r_goto (pc2 := 34) dX10_noSlept_71 (by decide) ?_
                rw [e68, nI_1]
                exact ih (k + 1) _ (by omega) (fun i hi2 => by by_cases e : i = k; rw [e]; exact hk9; exact hi i (by omega))
              · exact absurd b62 (if1 hk9)
          · skip
            refine r_iload_n (pc2 := 35) 3 dX10_noSlept_34 rfl rfl rfl ?_
            refine r_aload_n (pc2 := 36) 0 dX10_noSlept_35 rfl rfl rfl rfl ?_
            refine r_getf (pc2 := 39) (v := .ref 137) fX10_80 dX10_noSlept_36 c117 (by decide) rfl rfl ?_
            refine r_iload_n (pc2 := 40) 1 dX10_noSlept_39 rfl rfl rfl ?_
            refine r_ialdN (pc2 := 41) t dX10_noSlept_40 c137 (by decide) rfl (by omega) (by decide) rfl ?_
            refine r_cast (nI (rowN rm t)) (hrm) ?_
            refine r_icmp_ge (tgt := 74) (pc2 := 44) dX10_noSlept_41 (by decide) rfl (fun b41 => ?_) (fun b41 => ?_)
            · exact absurd b41 (nI_ge hlt (by omega))
            · skip
              refine r_aload_n (pc2 := 45) 0 dX10_noSlept_44 rfl rfl rfl rfl ?_
              refine r_getf (pc2 := 48) (v := .ref 138) fX10_83 dX10_noSlept_45 c117 (by decide) rfl rfl ?_
              refine r_bipush (pc2 := 50) (v := 40) dX10_noSlept_48 (by decide) rfl ?_
              refine r_iload_n (pc2 := 51) 1 dX10_noSlept_50 rfl rfl rfl ?_
              refine r_imul (pc2 := 52) dX10_noSlept_51 rfl ?_
              refine r_cast (nI (40 * t)) (pk_mul 40 t) ?_
              refine r_iload_n (pc2 := 53) 3 dX10_noSlept_52 rfl rfl rfl ?_
              refine r_iadd (pc2 := 54) dX10_noSlept_53 rfl ?_
              refine r_cast (nI (40 * t + k)) (nI_add _ _) ?_
              refine r_laldN (pc2 := 55) (40 * t + k) dX10_noSlept_54 c138 (by decide) rfl (by omega) (by decide) rfl ?_
              refine r_lconst (pc2 := 56) (v := 0) dX10_noSlept_55 (by decide) rfl ?_
              refine r_ldc2 (pc2 := 59) (v := 9) qX10_297 dX10_noSlept_56 rfl ?_
              refine r_callS1 (pc2 := 62) (As := [.long (nu (40 * t + k)), .long 0, .long 9]) (st := []) kX10_152 dX10_noSlept_59 rfl rfl (Nat.le_of_ble_eq_true rfl) (by omega) (c_within (nu (40 * t + k)) 0 9) rfl (fun h2 hq59 => ?_)
              subst hq59
              refine r_if_ne (tgt := 68) (pc2 := 65) dX10_noSlept_62 (by decide) rfl (fun b62 => ?_) (fun b62 => ?_)
              · exact absurd (if0 hk9) b62
              · skip
                refine r_bipush (pc2 := 67) (v := -3) dX10_noSlept_65 (by decide) rfl ?_
                exact r_iret rfl dX10_noSlept_67 ⟨by rw [nsF, if_neg (fun z => z h1), nI_clamp (by omega), if_pos h2x, if_neg (fun z => hk9 (z k hlt))], rfl⟩
      refine Cn.go (ls := [.ref 117, .int (nI t), .float 0, .float 0]) (by decide +kernel) rfl (Nat.le_of_ble_eq_true rfl) ?_
      refine r_aload_n (pc2 := 1) 0 dX10_noSlept_0 rfl rfl rfl rfl ?_
      refine r_iload_n (pc2 := 2) 1 dX10_noSlept_1 rfl rfl rfl ?_
      refine r_callV1 (pc2 := 5) (As := [.int (nI t)]) (st := []) kX10_323 rfl rfl dX10_noSlept_2 c117 (by decide) rfl rfl (Nat.le_of_ble_eq_true rfl) (by omega) (c_noTray (x := (nI t)) c117 c136 (by omega)) rfl (fun h2 hq2 => ?_)
      subst hq2
      refine r_topi (fun x5 e5 => ?_)
      refine r_istore_n (pc2 := 6) (ls2 := [.ref 117, .int (nI t), .int x5, .float 0]) 2 dX10_noSlept_5 rfl (by decide) rfl rfl rfl ?_
      refine r_iload_n (pc2 := 7) 2 dX10_noSlept_6 rfl rfl rfl ?_
      refine r_if_eq (tgt := 12) (pc2 := 10) dX10_noSlept_7 (by decide) rfl (fun b7 => ?_) (fun b7 => ?_)
      · skip
        refine r_aload_n (pc2 := 13) 0 dX10_noSlept_12 rfl rfl rfl rfl ?_
        refine r_getf (pc2 := 16) (v := .ref 137) fX10_80 dX10_noSlept_13 c117 (by decide) rfl rfl ?_
        refine r_iload_n (pc2 := 17) 1 dX10_noSlept_16 rfl rfl rfl ?_
        refine r_ialdN (pc2 := 18) t dX10_noSlept_17 c137 (by decide) rfl (by omega) (by decide) rfl ?_
        refine r_i2l (pc2 := 19) dX10_noSlept_18 rfl ?_
        refine r_lconst (pc2 := 20) (v := 1) dX10_noSlept_19 (by decide) rfl ?_
        refine r_ldc2 (pc2 := 23) (v := 10) qX10_299 dX10_noSlept_20 rfl ?_
        refine r_callS1 (pc2 := 26) (As := [.long (Int32.toInt64 (rm t)), .long 1, .long 10]) (st := []) kX10_152 dX10_noSlept_23 rfl rfl (Nat.le_of_ble_eq_true rfl) (by omega) (c_within (Int32.toInt64 (rm t)) 1 10) rfl (fun h2 hq23 => ?_)
        subst hq23
        refine r_if_ne (tgt := 32) (pc2 := 29) dX10_noSlept_26 (by decide) rfl (fun b26 => ?_) (fun b26 => ?_)
        · skip
          refine r_iconst (pc2 := 33) (v := 0) dX10_noSlept_32 (by decide) rfl ?_
          refine r_istore_n (pc2 := 34) (ls2 := [.ref 117, .int (nI t), .int x5, .int 0]) 3 dX10_noSlept_33 rfl (by decide) rfl rfl rfl ?_
          exact loop (rowN rm t) 0 _ (by omega) (fun i hi => absurd hi (Nat.not_lt_zero _))
        · exact absurd b26 (if1 h2x)
      · exact absurd (e5.trans h1) b7
    · skip
      refine Cn.go (ls := [.ref 117, .int (nI t), .float 0, .float 0]) (by decide +kernel) rfl (Nat.le_of_ble_eq_true rfl) ?_
      refine r_aload_n (pc2 := 1) 0 dX10_noSlept_0 rfl rfl rfl rfl ?_
      refine r_iload_n (pc2 := 2) 1 dX10_noSlept_1 rfl rfl rfl ?_
      refine r_callV1 (pc2 := 5) (As := [.int (nI t)]) (st := []) kX10_323 rfl rfl dX10_noSlept_2 c117 (by decide) rfl rfl (Nat.le_of_ble_eq_true rfl) (by omega) (c_noTray (x := (nI t)) c117 c136 (by omega)) rfl (fun h2 hq2 => ?_)
      subst hq2
      refine r_topi (fun x5 e5 => ?_)
      refine r_istore_n (pc2 := 6) (ls2 := [.ref 117, .int (nI t), .int x5, .float 0]) 2 dX10_noSlept_5 rfl (by decide) rfl rfl rfl ?_
      refine r_iload_n (pc2 := 7) 2 dX10_noSlept_6 rfl rfl rfl ?_
      refine r_if_eq (tgt := 12) (pc2 := 10) dX10_noSlept_7 (by decide) rfl (fun b7 => ?_) (fun b7 => ?_)
      · skip
        refine r_aload_n (pc2 := 13) 0 dX10_noSlept_12 rfl rfl rfl rfl ?_
        refine r_getf (pc2 := 16) (v := .ref 137) fX10_80 dX10_noSlept_13 c117 (by decide) rfl rfl ?_
        refine r_iload_n (pc2 := 17) 1 dX10_noSlept_16 rfl rfl rfl ?_
        refine r_ialdN (pc2 := 18) t dX10_noSlept_17 c137 (by decide) rfl (by omega) (by decide) rfl ?_
        refine r_i2l (pc2 := 19) dX10_noSlept_18 rfl ?_
        refine r_lconst (pc2 := 20) (v := 1) dX10_noSlept_19 (by decide) rfl ?_
        refine r_ldc2 (pc2 := 23) (v := 10) qX10_299 dX10_noSlept_20 rfl ?_
        refine r_callS1 (pc2 := 26) (As := [.long (Int32.toInt64 (rm t)), .long 1, .long 10]) (st := []) kX10_152 dX10_noSlept_23 rfl rfl (Nat.le_of_ble_eq_true rfl) (by omega) (c_within (Int32.toInt64 (rm t)) 1 10) rfl (fun h2 hq23 => ?_)
        subst hq23
        refine r_if_ne (tgt := 32) (pc2 := 29) dX10_noSlept_26 (by decide) rfl (fun b26 => ?_) (fun b26 => ?_)
        · exact absurd (if0 h2x) b26
        · skip
          refine r_bipush (pc2 := 31) (v := -4) dX10_noSlept_29 (by decide) rfl ?_
          exact r_iret rfl dX10_noSlept_31 ⟨by rw [nsF, if_neg (fun z => z h1), nI_clamp (by omega), if_neg h2x], rfl⟩
      · exact absurd (e5.trans h1) b7
  · skip
    refine Cn.go (ls := [.ref 117, .int x, .float 0, .float 0]) (by decide +kernel) rfl (Nat.le_of_ble_eq_true rfl) ?_
    refine r_aload_n (pc2 := 1) 0 dX10_noSlept_0 rfl rfl rfl rfl ?_
    refine r_iload_n (pc2 := 2) 1 dX10_noSlept_1 rfl rfl rfl ?_
    refine r_callV1 (pc2 := 5) (As := [.int x]) (st := []) kX10_323 rfl rfl dX10_noSlept_2 c117 (by decide) rfl rfl (Nat.le_of_ble_eq_true rfl) (by omega) (c_noTray (x := x) c117 c136 (by omega)) rfl (fun h2 hq2 => ?_)
    subst hq2
    refine r_topi (fun x5 e5 => ?_)
    refine r_istore_n (pc2 := 6) (ls2 := [.ref 117, .int x, .int x5, .float 0]) 2 dX10_noSlept_5 rfl (by decide) rfl rfl rfl ?_
    refine r_iload_n (pc2 := 7) 2 dX10_noSlept_6 rfl rfl rfl ?_
    refine r_if_eq (tgt := 12) (pc2 := 10) dX10_noSlept_7 (by decide) rfl (fun b7 => ?_) (fun b7 => ?_)
    · exact absurd (e5.symm.trans b7) h1
    · skip
      refine r_iload_n (pc2 := 11) 2 dX10_noSlept_10 rfl rfl rfl ?_
      exact r_iret rfl dX10_noSlept_11 ⟨by rw [nsF, if_pos h1, e5], rfl⟩
theorem and_if {p q r : Prop} [Decidable p] [Decidable q] [Decidable r] (h : r ↔ p ∧ q) : (if p then (1 : Int32) else 0) &&& (if q then (1 : Int32) else 0) = if r then (1 : Int32) else 0 := by
  by_cases hp : p <;> by_cases hq : q
  · rw [if_pos hp, if_pos hq, if_pos (h.mpr ⟨hp, hq⟩)]; decide
  · rw [if_pos hp, if_neg hq, if_neg (fun z => hq (h.mp z).2)]; decide
  · rw [if_neg hp, if_pos hq, if_neg (fun z => hp (h.mp z).1)]; decide
  · rw [if_neg hp, if_neg hq, if_neg (fun z => hp (h.mp z).1)]; decide
theorem isD_s {a : Nat → Nat} {nu : Nat → Int64} {t i dr : Nat} : isD a nu t (i + 1) dr ↔ isD a nu t i dr ∧ lN (slS a dr (i + 1) / 4096) = nu (40 * t + i) :=
  ⟨fun h => ⟨fun j hj => h j (by omega), h i (Nat.lt_succ_self _)⟩, fun h j hj => by
    by_cases e : j = i
    · rw [e]; exact h.2
    · exact h.1 j (by omega)⟩
set_option maxRecDepth 20000 in
set_option maxHeartbeats 1000000 in
theorem c_draughtsOf {E : EnvT} {d : Nat} {h0 : Hp} {v rm f2 w2 : Nat → Int32} {nu : Nat → Int64} {a : Nat → Nat} {t : Nat} (c117 : h0.1 117 = some (mO v)) (c118 : h0.1 118 = some (aI 3531 (nA a))) (c122 : h0.1 122 = some (aI 900 f2)) (c123 : h0.1 123 = some (aI 9 w2)) (c137 : h0.1 137 = some (aI 4 rm)) (c138 : h0.1 138 = some (aL 160 nu)) (hA : AIN a) (ht : t < 4) (hrm : rm t = nI (rowN rm t)) (hr40 : rowN rm t ≤ 40) (hd : 4 ≤ d) : Cn E mX10_draughtsOf d [.ref 117, .int (nI t)] h0 (fun r h2 => r = some (.int (nI (drO a nu t (rowN rm t) 10))) ∧ Ex [122, 123] h0 h2 ∧ (∃ f, h2.1 122 = some (aI 900 f)) ∧ ∃ w, h2.1 123 = some (aI 9 w)) := by
  have hx : Ex [122, 123] h0 h0 := Ex.rf
  have loop : ∀ (m dr : Nat) (u4 u5 u6 : Value) (f2 w2 : Nat → Int32) (h1 : Hp), dr + m = 10 → Ex [122, 123] h0 h1 → h1.1 117 = some (mO v) → h1.1 118 = some (aI 3531 (nA a)) → h1.1 122 = some (aI 900 f2) → h1.1 123 = some (aI 9 w2) → h1.1 137 = some (aI 4 rm) → h1.1 138 = some (aL 160 nu) → Fr E mX10_draughtsOf d 4 [.ref 117, .int (nI t), .int (nI (drO a nu t (rowN rm t) dr)), .int (nI dr), u4, u5, u6] [] h1 (fun r h2 => r = some (.int (nI (drO a nu t (rowN rm t) 10))) ∧ Ex [122, 123] h0 h2 ∧ (∃ f, h2.1 122 = some (aI 900 f)) ∧ ∃ w, h2.1 123 = some (aI 9 w)) := by
    intro m
    induction m with
    | zero =>
      intro dr u4 u5 u6 f2 w2 h hdm hx c117 c118 c122 c123 c137 c138
      obtain rfl : dr = 10 := by omega
      refine r_iload_n (pc2 := 5) 3 dX10_draughtsOf_4 rfl rfl rfl ?_
      refine r_bipush (pc2 := 7) (v := 10) dX10_draughtsOf_5 (by decide) rfl ?_
      refine r_icmp_ge (tgt := 116) (pc2 := 10) dX10_draughtsOf_7 (by decide) rfl (fun b7 => ?_) (fun b7 => ?_)
      · skip
        refine r_iload_n (pc2 := 117) 2 dX10_draughtsOf_116 rfl rfl rfl ?_
        exact r_iret rfl dX10_draughtsOf_117 ⟨rfl, hx, ⟨_, c122⟩, ⟨_, c123⟩⟩
      · exact absurd (show nI 10 ≤ nI 10 from nI_le (Nat.le_refl _) (by decide)) b7
    | succ m iho =>
      intro dr u4 u5 u6 f2 w2 h hdm hx c117 c118 c122 c123 c137 c138
      have hdr : dr < 10 := by omega
      have inner : ∀ (m i : Nat) (f2 w2 : Nat → Int32) (h1 : Hp), i + m = rowN rm t → Ex [122, 123] h0 h1 → h1.1 117 = some (mO v) → h1.1 118 = some (aI 3531 (nA a)) → h1.1 122 = some (aI 900 f2) → h1.1 123 = some (aI 9 w2) → h1.1 137 = some (aI 4 rm) → h1.1 138 = some (aL 160 nu) → Fr E mX10_draughtsOf d 22 [.ref 117, .int (nI t), .int (nI (drO a nu t (rowN rm t) dr)), .int (nI dr), .int (nI (slS a dr i)), .int (if isD a nu t i dr then (1 : Int32) else 0), .int (nI i)] [] h1 (fun r h2 => r = some (.int (nI (drO a nu t (rowN rm t) 10))) ∧ Ex [122, 123] h0 h2 ∧ (∃ f, h2.1 122 = some (aI 900 f)) ∧ ∃ w, h2.1 123 = some (aI 9 w)) := by
        intro m
        induction m with
        | zero =>
          intro i f2 w2 h him hx c117 c118 c122 c123 c137 c138
          obtain rfl : i = rowN rm t := by omega
          by_cases hD : isD a nu t (rowN rm t) dr
          · skip
            refine r_iload (pc2 := 24) 6 dX10_draughtsOf_22 rfl rfl ?_
            refine r_aload_n (pc2 := 25) 0 dX10_draughtsOf_24 rfl rfl rfl rfl ?_
            refine r_getf (pc2 := 28) (v := .ref 137) fX10_80 dX10_draughtsOf_25 c117 (by decide) rfl rfl ?_
            refine r_iload_n (pc2 := 29) 1 dX10_draughtsOf_28 rfl rfl rfl ?_
            refine r_ialdN (pc2 := 30) t dX10_draughtsOf_29 c137 (by decide) rfl (by omega) (by decide) rfl ?_
            refine r_cast (nI (rowN rm t)) (hrm) ?_
            refine r_icmp_ge (tgt := 95) (pc2 := 33) dX10_draughtsOf_30 (by decide) rfl (fun b30 => ?_) (fun b30 => ?_)
            · skip
              refine r_iload_n (pc2 := 96) 2 dX10_draughtsOf_95 rfl rfl rfl ?_
              refine r_iload (pc2 := 98) 5 dX10_draughtsOf_96 rfl rfl ?_
              refine r_if_eq (tgt := 107) (pc2 := 101) dX10_draughtsOf_98 (by decide) rfl (fun b98 => ?_) (fun b98 => ?_)
              · exact absurd b98 (if1 hD)
              · skip
                refine r_iconst (pc2 := 102) (v := 1) dX10_draughtsOf_101 (by decide) rfl ?_
                refine r_iload_n (pc2 := 103) 3 dX10_draughtsOf_102 rfl rfl rfl ?_
                refine r_ishl (pc2 := 104) dX10_draughtsOf_103 rfl ?_
                refine r_goto (pc2 := 108) dX10_draughtsOf_104 (by decide) ?_
                refine r_cast (nI (if isD a nu t (rowN rm t) dr then 2 ^ dr else 0)) (by rw [if_pos hD]; exact shl1 dr (by omega)) ?_
                refine r_ior (pc2 := 109) dX10_draughtsOf_108 rfl ?_
                refine r_cast (nI (drO a nu t (rowN rm t) (dr + 1))) (nI_or _ _) ?_
                refine r_istore_n (pc2 := 110) (ls2 := [.ref 117, .int (nI t), .int (nI (drO a nu t (rowN rm t) (dr + 1))), .int (nI dr), .int (nI (slS a dr (rowN rm t))), .int (if isD a nu t (rowN rm t) dr then (1 : Int32) else 0), .int (nI (rowN rm t))]) 2 dX10_draughtsOf_109 rfl (by decide) rfl rfl rfl ?_
                obtain ⟨x110, e110⟩ : ∃ z : Int32, z = (nI dr) + (1) := ⟨_, rfl⟩
                refine r_iinc (pc2 := 113) (ls2 := [.ref 117, .int (nI t), .int (nI (drO a nu t (rowN rm t) (dr + 1))), .int x110, .int (nI (slS a dr (rowN rm t))), .int (if isD a nu t (rowN rm t) dr then (1 : Int32) else 0), .int (nI (rowN rm t))]) (v := x110) 3 dX10_draughtsOf_110 rfl (by rw [e110]; rfl) rfl rfl rfl ?_
                refine r_goto (pc2 := 4) dX10_draughtsOf_113 (by decide) ?_
                rw [e110, nI_1]
                exact iho (dr + 1) _ _ _ _ _ _ (by omega) hx c117 c118 c122 c123 c137 c138
            · exact absurd (nI_le (Nat.le_refl _) (by omega)) b30
          · skip
            refine r_iload (pc2 := 24) 6 dX10_draughtsOf_22 rfl rfl ?_
            refine r_aload_n (pc2 := 25) 0 dX10_draughtsOf_24 rfl rfl rfl rfl ?_
            refine r_getf (pc2 := 28) (v := .ref 137) fX10_80 dX10_draughtsOf_25 c117 (by decide) rfl rfl ?_
            refine r_iload_n (pc2 := 29) 1 dX10_draughtsOf_28 rfl rfl rfl ?_
            refine r_ialdN (pc2 := 30) t dX10_draughtsOf_29 c137 (by decide) rfl (by omega) (by decide) rfl ?_
            refine r_cast (nI (rowN rm t)) (hrm) ?_
            refine r_icmp_ge (tgt := 95) (pc2 := 33) dX10_draughtsOf_30 (by decide) rfl (fun b30 => ?_) (fun b30 => ?_)
            · skip
              refine r_iload_n (pc2 := 96) 2 dX10_draughtsOf_95 rfl rfl rfl ?_
              refine r_iload (pc2 := 98) 5 dX10_draughtsOf_96 rfl rfl ?_
              refine r_if_eq (tgt := 107) (pc2 := 101) dX10_draughtsOf_98 (by decide) rfl (fun b98 => ?_) (fun b98 => ?_)
              · skip
                refine r_iconst (pc2 := 108) (v := 0) dX10_draughtsOf_107 (by decide) rfl ?_
                refine r_cast (nI (if isD a nu t (rowN rm t) dr then 2 ^ dr else 0)) (by rw [if_neg hD]; rfl) ?_
                refine r_ior (pc2 := 109) dX10_draughtsOf_108 rfl ?_
                refine r_cast (nI (drO a nu t (rowN rm t) (dr + 1))) (nI_or _ _) ?_
                refine r_istore_n (pc2 := 110) (ls2 := [.ref 117, .int (nI t), .int (nI (drO a nu t (rowN rm t) (dr + 1))), .int (nI dr), .int (nI (slS a dr (rowN rm t))), .int (if isD a nu t (rowN rm t) dr then (1 : Int32) else 0), .int (nI (rowN rm t))]) 2 dX10_draughtsOf_109 rfl (by decide) rfl rfl rfl ?_
                obtain ⟨x110, e110⟩ : ∃ z : Int32, z = (nI dr) + (1) := ⟨_, rfl⟩
                refine r_iinc (pc2 := 113) (ls2 := [.ref 117, .int (nI t), .int (nI (drO a nu t (rowN rm t) (dr + 1))), .int x110, .int (nI (slS a dr (rowN rm t))), .int (if isD a nu t (rowN rm t) dr then (1 : Int32) else 0), .int (nI (rowN rm t))]) (v := x110) 3 dX10_draughtsOf_110 rfl (by rw [e110]; rfl) rfl rfl rfl ?_
                refine r_goto (pc2 := 4) dX10_draughtsOf_113 (by decide) ?_
                rw [e110, nI_1]
                exact iho (dr + 1) _ _ _ _ _ _ (by omega) hx c117 c118 c122 c123 c137 c138
              · exact absurd (if0 hD) b98
            · exact absurd (nI_le (Nat.le_refl _) (by omega)) b30
        | succ m ihi =>
          intro i f2 w2 h him hx c117 c118 c122 c123 c137 c138
          have hil : i < rowN rm t := by omega
          have hs1 := slS_lt hA dr i
          have hs2 := slS_lt hA dr (i + 1)
          by_cases hz : (slS a dr i) / 4096 = 0
          · by_cases heq : lN ((slS a dr (i + 1)) / 4096) = nu (40 * t + i)
            · skip
              refine r_iload (pc2 := 24) 6 dX10_draughtsOf_22 rfl rfl ?_
              refine r_aload_n (pc2 := 25) 0 dX10_draughtsOf_24 rfl rfl rfl rfl ?_
              refine r_getf (pc2 := 28) (v := .ref 137) fX10_80 dX10_draughtsOf_25 c117 (by decide) rfl rfl ?_
              refine r_iload_n (pc2 := 29) 1 dX10_draughtsOf_28 rfl rfl rfl ?_
              refine r_ialdN (pc2 := 30) t dX10_draughtsOf_29 c137 (by decide) rfl (by omega) (by decide) rfl ?_
              refine r_cast (nI (rowN rm t)) (hrm) ?_
              refine r_icmp_ge (tgt := 95) (pc2 := 33) dX10_draughtsOf_30 (by decide) rfl (fun b30 => ?_) (fun b30 => ?_)
              · exact absurd b30 (nI_ge hil (by omega))
              · skip
                refine r_iload (pc2 := 35) 4 dX10_draughtsOf_33 rfl rfl ?_
                refine r_callS1 (pc2 := 38) (As := [.int (nI (slS a dr i))]) (st := []) kX10_231 dX10_draughtsOf_35 rfl rfl (Nat.le_of_ble_eq_true rfl) (by omega) (c_depthIn (nI (slS a dr i))) rfl (fun h2 hq35 => ?_)
                subst hq35
                refine r_cast (nI ((slS a dr i) / 4096)) (depthN (by omega)) ?_
                refine r_if_ne (tgt := 46) (pc2 := 41) dX10_draughtsOf_38 (by decide) rfl (fun b38 => ?_) (fun b38 => ?_)
                · exact absurd (by rw [hz]; rfl) b38
                · skip
                  refine r_iload (pc2 := 43) 4 dX10_draughtsOf_41 rfl rfl ?_
                  refine r_goto (pc2 := 55) dX10_draughtsOf_43 (by decide) ?_
                  refine r_cast (nI (slS a dr (i + 1))) (by rw [slS, if_pos hz]) ?_
                  refine r_istore (pc2 := 57) (ls2 := [.ref 117, .int (nI t), .int (nI (drO a nu t (rowN rm t) dr)), .int (nI dr), .int (nI (slS a dr (i + 1))), .int (if isD a nu t i dr then (1 : Int32) else 0), .int (nI i)]) 4 dX10_draughtsOf_55 (by decide) rfl rfl rfl ?_
                  refine r_iload (pc2 := 59) 5 dX10_draughtsOf_57 rfl rfl ?_
                  refine r_iload (pc2 := 61) 4 dX10_draughtsOf_59 rfl rfl ?_
                  refine r_callS1 (pc2 := 64) (As := [.int (nI (slS a dr (i + 1)))]) (st := [.int (if isD a nu t i dr then (1 : Int32) else 0)]) kX10_231 dX10_draughtsOf_61 rfl rfl (Nat.le_of_ble_eq_true rfl) (by omega) (c_depthIn (nI (slS a dr (i + 1)))) rfl (fun h2 hq61 => ?_)
                  subst hq61
                  refine r_cast (nI ((slS a dr (i + 1)) / 4096)) (depthN (by omega)) ?_
                  refine r_i2l (pc2 := 65) dX10_draughtsOf_64 rfl ?_
                  refine r_castl (lN ((slS a dr (i + 1)) / 4096)) (nI_l (by omega)) ?_
                  refine r_aload_n (pc2 := 66) 0 dX10_draughtsOf_65 rfl rfl rfl rfl ?_
                  refine r_getf (pc2 := 69) (v := .ref 138) fX10_83 dX10_draughtsOf_66 c117 (by decide) rfl rfl ?_
                  refine r_bipush (pc2 := 71) (v := 40) dX10_draughtsOf_69 (by decide) rfl ?_
                  refine r_iload_n (pc2 := 72) 1 dX10_draughtsOf_71 rfl rfl rfl ?_
                  refine r_imul (pc2 := 73) dX10_draughtsOf_72 rfl ?_
                  refine r_cast (nI (40 * t)) (pk_mul 40 t) ?_
                  refine r_iload (pc2 := 75) 6 dX10_draughtsOf_73 rfl rfl ?_
                  refine r_iadd (pc2 := 76) dX10_draughtsOf_75 rfl ?_
                  refine r_cast (nI (40 * t + i)) (nI_add _ _) ?_
                  refine r_laldN (pc2 := 77) (40 * t + i) dX10_draughtsOf_76 c138 (by decide) rfl (by omega) (by decide) rfl ?_
                  refine r_lcmp (pc2 := 78) dX10_draughtsOf_77 rfl ?_
                  refine r_if_ne (tgt := 85) (pc2 := 81) dX10_draughtsOf_78 (by decide) rfl (fun b78 => ?_) (fun b78 => ?_)
                  · exact absurd ((lgc_eq _ _).mpr heq) b78
                  · skip
                    refine r_iconst (pc2 := 82) (v := 1) dX10_draughtsOf_81 (by decide) rfl ?_
                    refine r_goto (pc2 := 86) dX10_draughtsOf_82 (by decide) ?_
                    refine r_cast (if lN ((slS a dr (i + 1)) / 4096) = nu (40 * t + i) then (1 : Int32) else 0) (by rw [if_pos heq]) ?_
                    refine r_iand (pc2 := 87) dX10_draughtsOf_86 rfl ?_
                    refine r_cast (if isD a nu t (i + 1) dr then (1 : Int32) else 0) (and_if isD_s) ?_
                    refine r_topi (fun xb e87 => ?_)
                    refine r_istore (pc2 := 89) (ls2 := [.ref 117, .int (nI t), .int (nI (drO a nu t (rowN rm t) dr)), .int (nI dr), .int (nI (slS a dr (i + 1))), .int xb, .int (nI i)]) 5 dX10_draughtsOf_87 (by decide) rfl rfl rfl ?_
                    obtain ⟨x89, e89⟩ : ∃ z : Int32, z = (nI i) + (1) := ⟨_, rfl⟩
                    refine r_iinc (pc2 := 92) (ls2 := [.ref 117, .int (nI t), .int (nI (drO a nu t (rowN rm t) dr)), .int (nI dr), .int (nI (slS a dr (i + 1))), .int xb, .int x89]) (v := x89) 6 dX10_draughtsOf_89 rfl (by rw [e89]; rfl) rfl rfl rfl ?_
                    refine r_goto (pc2 := 22) dX10_draughtsOf_92 (by decide) ?_
                    rw [e89, nI_1, e87]
                    exact ihi (i + 1) _ _ _ (by omega) hx c117 c118 c122 c123 c137 c138
            · skip
              refine r_iload (pc2 := 24) 6 dX10_draughtsOf_22 rfl rfl ?_
              refine r_aload_n (pc2 := 25) 0 dX10_draughtsOf_24 rfl rfl rfl rfl ?_
              refine r_getf (pc2 := 28) (v := .ref 137) fX10_80 dX10_draughtsOf_25 c117 (by decide) rfl rfl ?_
              refine r_iload_n (pc2 := 29) 1 dX10_draughtsOf_28 rfl rfl rfl ?_
              refine r_ialdN (pc2 := 30) t dX10_draughtsOf_29 c137 (by decide) rfl (by omega) (by decide) rfl ?_
              refine r_cast (nI (rowN rm t)) (hrm) ?_
              refine r_icmp_ge (tgt := 95) (pc2 := 33) dX10_draughtsOf_30 (by decide) rfl (fun b30 => ?_) (fun b30 => ?_)
              · exact absurd b30 (nI_ge hil (by omega))
              · skip
                refine r_iload (pc2 := 35) 4 dX10_draughtsOf_33 rfl rfl ?_
                refine r_callS1 (pc2 := 38) (As := [.int (nI (slS a dr i))]) (st := []) kX10_231 dX10_draughtsOf_35 rfl rfl (Nat.le_of_ble_eq_true rfl) (by omega) (c_depthIn (nI (slS a dr i))) rfl (fun h2 hq35 => ?_)
                subst hq35
                refine r_cast (nI ((slS a dr i) / 4096)) (depthN (by omega)) ?_
                refine r_if_ne (tgt := 46) (pc2 := 41) dX10_draughtsOf_38 (by decide) rfl (fun b38 => ?_) (fun b38 => ?_)
                · exact absurd (by rw [hz]; rfl) b38
                · skip
                  refine r_iload (pc2 := 43) 4 dX10_draughtsOf_41 rfl rfl ?_
                  refine r_goto (pc2 := 55) dX10_draughtsOf_43 (by decide) ?_
                  refine r_cast (nI (slS a dr (i + 1))) (by rw [slS, if_pos hz]) ?_
                  refine r_istore (pc2 := 57) (ls2 := [.ref 117, .int (nI t), .int (nI (drO a nu t (rowN rm t) dr)), .int (nI dr), .int (nI (slS a dr (i + 1))), .int (if isD a nu t i dr then (1 : Int32) else 0), .int (nI i)]) 4 dX10_draughtsOf_55 (by decide) rfl rfl rfl ?_
                  refine r_iload (pc2 := 59) 5 dX10_draughtsOf_57 rfl rfl ?_
                  refine r_iload (pc2 := 61) 4 dX10_draughtsOf_59 rfl rfl ?_
                  refine r_callS1 (pc2 := 64) (As := [.int (nI (slS a dr (i + 1)))]) (st := [.int (if isD a nu t i dr then (1 : Int32) else 0)]) kX10_231 dX10_draughtsOf_61 rfl rfl (Nat.le_of_ble_eq_true rfl) (by omega) (c_depthIn (nI (slS a dr (i + 1)))) rfl (fun h2 hq61 => ?_)
                  subst hq61
                  refine r_cast (nI ((slS a dr (i + 1)) / 4096)) (depthN (by omega)) ?_
                  refine r_i2l (pc2 := 65) dX10_draughtsOf_64 rfl ?_
                  refine r_castl (lN ((slS a dr (i + 1)) / 4096)) (nI_l (by omega)) ?_
                  refine r_aload_n (pc2 := 66) 0 dX10_draughtsOf_65 rfl rfl rfl rfl ?_
                  refine r_getf (pc2 := 69) (v := .ref 138) fX10_83 dX10_draughtsOf_66 c117 (by decide) rfl rfl ?_
                  refine r_bipush (pc2 := 71) (v := 40) dX10_draughtsOf_69 (by decide) rfl ?_
                  refine r_iload_n (pc2 := 72) 1 dX10_draughtsOf_71 rfl rfl rfl ?_
                  refine r_imul (pc2 := 73) dX10_draughtsOf_72 rfl ?_
                  refine r_cast (nI (40 * t)) (pk_mul 40 t) ?_
                  refine r_iload (pc2 := 75) 6 dX10_draughtsOf_73 rfl rfl ?_
                  refine r_iadd (pc2 := 76) dX10_draughtsOf_75 rfl ?_
                  refine r_cast (nI (40 * t + i)) (nI_add _ _) ?_
                  refine r_laldN (pc2 := 77) (40 * t + i) dX10_draughtsOf_76 c138 (by decide) rfl (by omega) (by decide) rfl ?_
                  refine r_lcmp (pc2 := 78) dX10_draughtsOf_77 rfl ?_
                  refine r_if_ne (tgt := 85) (pc2 := 81) dX10_draughtsOf_78 (by decide) rfl (fun b78 => ?_) (fun b78 => ?_)
                  · skip
                    refine r_iconst (pc2 := 86) (v := 0) dX10_draughtsOf_85 (by decide) rfl ?_
                    refine r_cast (if lN ((slS a dr (i + 1)) / 4096) = nu (40 * t + i) then (1 : Int32) else 0) (by rw [if_neg heq]) ?_
                    refine r_iand (pc2 := 87) dX10_draughtsOf_86 rfl ?_
                    refine r_cast (if isD a nu t (i + 1) dr then (1 : Int32) else 0) (and_if isD_s) ?_
                    refine r_topi (fun xb e87 => ?_)
                    refine r_istore (pc2 := 89) (ls2 := [.ref 117, .int (nI t), .int (nI (drO a nu t (rowN rm t) dr)), .int (nI dr), .int (nI (slS a dr (i + 1))), .int xb, .int (nI i)]) 5 dX10_draughtsOf_87 (by decide) rfl rfl rfl ?_
                    obtain ⟨x89, e89⟩ : ∃ z : Int32, z = (nI i) + (1) := ⟨_, rfl⟩
                    refine r_iinc (pc2 := 92) (ls2 := [.ref 117, .int (nI t), .int (nI (drO a nu t (rowN rm t) dr)), .int (nI dr), .int (nI (slS a dr (i + 1))), .int xb, .int x89]) (v := x89) 6 dX10_draughtsOf_89 rfl (by rw [e89]; rfl) rfl rfl rfl ?_
                    refine r_goto (pc2 := 22) dX10_draughtsOf_92 (by decide) ?_
                    rw [e89, nI_1, e87]
                    exact ihi (i + 1) _ _ _ (by omega) hx c117 c118 c122 c123 c137 c138
                  · exact absurd ((lgc_eq _ _).mp b78) heq
          · by_cases heq : lN ((slS a dr (i + 1)) / 4096) = nu (40 * t + i)
            · skip
              refine r_iload (pc2 := 24) 6 dX10_draughtsOf_22 rfl rfl ?_
              refine r_aload_n (pc2 := 25) 0 dX10_draughtsOf_24 rfl rfl rfl rfl ?_
              refine r_getf (pc2 := 28) (v := .ref 137) fX10_80 dX10_draughtsOf_25 c117 (by decide) rfl rfl ?_
              refine r_iload_n (pc2 := 29) 1 dX10_draughtsOf_28 rfl rfl rfl ?_
              refine r_ialdN (pc2 := 30) t dX10_draughtsOf_29 c137 (by decide) rfl (by omega) (by decide) rfl ?_
              refine r_cast (nI (rowN rm t)) (hrm) ?_
              refine r_icmp_ge (tgt := 95) (pc2 := 33) dX10_draughtsOf_30 (by decide) rfl (fun b30 => ?_) (fun b30 => ?_)
              · exact absurd b30 (nI_ge hil (by omega))
              · skip
                refine r_iload (pc2 := 35) 4 dX10_draughtsOf_33 rfl rfl ?_
                refine r_callS1 (pc2 := 38) (As := [.int (nI (slS a dr i))]) (st := []) kX10_231 dX10_draughtsOf_35 rfl rfl (Nat.le_of_ble_eq_true rfl) (by omega) (c_depthIn (nI (slS a dr i))) rfl (fun h2 hq35 => ?_)
                subst hq35
                refine r_cast (nI ((slS a dr i) / 4096)) (depthN (by omega)) ?_
                refine r_if_ne (tgt := 46) (pc2 := 41) dX10_draughtsOf_38 (by decide) rfl (fun b38 => ?_) (fun b38 => ?_)
                · skip
                  refine r_aload_n (pc2 := 47) 0 dX10_draughtsOf_46 rfl rfl rfl rfl ?_
                  refine r_iload (pc2 := 49) 4 dX10_draughtsOf_47 rfl rfl ?_
                  refine r_iconst (pc2 := 50) (v := 0) dX10_draughtsOf_49 (by decide) rfl ?_
                  refine r_iconst (pc2 := 51) (v := 0) dX10_draughtsOf_50 (by decide) rfl ?_
                  refine r_iload_n (pc2 := 52) 3 dX10_draughtsOf_51 rfl rfl rfl ?_
                  refine r_callV1 (pc2 := 55) (As := [.int (nI (slS a dr i)), .int 0, .int 0, .int (nI dr)]) (st := []) kX10_273 rfl rfl dX10_draughtsOf_52 c117 (by decide) rfl rfl (Nat.le_of_ble_eq_true rfl) (by omega) (c_hourTo (st := (slS a dr i)) (sn := 0) (b := 0) (dr := dr) c117 c118 c122 c123 (by omega) (by decide) (by omega) (by decide) (fun g _ z => by rw [Nat.zero_testBit] at z; cases z) hA.G hA.C hA.h2 hA.lo hA.w0 hA.w1 (by omega)) rfl (fun h hq52 => ?_)
                  obtain ⟨hx2, ⟨f2b, c122⟩, ⟨w2b, c123⟩⟩ := hq52
                  have c117 := hx2.get (by decide) c117
                  have c118 := hx2.get (by decide) c118
                  have c137 := hx2.get (by decide) c137
                  have c138 := hx2.get (by decide) c138
                  have hx := hx.trans hx2 (by decide)
                  refine r_cast (nI (slS a dr (i + 1))) (by rw [slS, if_neg hz]) ?_
                  refine r_istore (pc2 := 57) (ls2 := [.ref 117, .int (nI t), .int (nI (drO a nu t (rowN rm t) dr)), .int (nI dr), .int (nI (slS a dr (i + 1))), .int (if isD a nu t i dr then (1 : Int32) else 0), .int (nI i)]) 4 dX10_draughtsOf_55 (by decide) rfl rfl rfl ?_
                  refine r_iload (pc2 := 59) 5 dX10_draughtsOf_57 rfl rfl ?_
                  refine r_iload (pc2 := 61) 4 dX10_draughtsOf_59 rfl rfl ?_
                  refine r_callS1 (pc2 := 64) (As := [.int (nI (slS a dr (i + 1)))]) (st := [.int (if isD a nu t i dr then (1 : Int32) else 0)]) kX10_231 dX10_draughtsOf_61 rfl rfl (Nat.le_of_ble_eq_true rfl) (by omega) (c_depthIn (nI (slS a dr (i + 1)))) rfl (fun h2 hq61 => ?_)
                  subst hq61
                  refine r_cast (nI ((slS a dr (i + 1)) / 4096)) (depthN (by omega)) ?_
                  refine r_i2l (pc2 := 65) dX10_draughtsOf_64 rfl ?_
                  refine r_castl (lN ((slS a dr (i + 1)) / 4096)) (nI_l (by omega)) ?_
                  refine r_aload_n (pc2 := 66) 0 dX10_draughtsOf_65 rfl rfl rfl rfl ?_
                  refine r_getf (pc2 := 69) (v := .ref 138) fX10_83 dX10_draughtsOf_66 c117 (by decide) rfl rfl ?_
                  refine r_bipush (pc2 := 71) (v := 40) dX10_draughtsOf_69 (by decide) rfl ?_
                  refine r_iload_n (pc2 := 72) 1 dX10_draughtsOf_71 rfl rfl rfl ?_
                  refine r_imul (pc2 := 73) dX10_draughtsOf_72 rfl ?_
                  refine r_cast (nI (40 * t)) (pk_mul 40 t) ?_
                  refine r_iload (pc2 := 75) 6 dX10_draughtsOf_73 rfl rfl ?_
                  refine r_iadd (pc2 := 76) dX10_draughtsOf_75 rfl ?_
                  refine r_cast (nI (40 * t + i)) (nI_add _ _) ?_
                  refine r_laldN (pc2 := 77) (40 * t + i) dX10_draughtsOf_76 c138 (by decide) rfl (by omega) (by decide) rfl ?_
                  refine r_lcmp (pc2 := 78) dX10_draughtsOf_77 rfl ?_
                  refine r_if_ne (tgt := 85) (pc2 := 81) dX10_draughtsOf_78 (by decide) rfl (fun b78 => ?_) (fun b78 => ?_)
                  · exact absurd ((lgc_eq _ _).mpr heq) b78
                  · skip
                    refine r_iconst (pc2 := 82) (v := 1) dX10_draughtsOf_81 (by decide) rfl ?_
                    refine r_goto (pc2 := 86) dX10_draughtsOf_82 (by decide) ?_
                    refine r_cast (if lN ((slS a dr (i + 1)) / 4096) = nu (40 * t + i) then (1 : Int32) else 0) (by rw [if_pos heq]) ?_
                    refine r_iand (pc2 := 87) dX10_draughtsOf_86 rfl ?_
                    refine r_cast (if isD a nu t (i + 1) dr then (1 : Int32) else 0) (and_if isD_s) ?_
                    refine r_topi (fun xb e87 => ?_)
                    refine r_istore (pc2 := 89) (ls2 := [.ref 117, .int (nI t), .int (nI (drO a nu t (rowN rm t) dr)), .int (nI dr), .int (nI (slS a dr (i + 1))), .int xb, .int (nI i)]) 5 dX10_draughtsOf_87 (by decide) rfl rfl rfl ?_
                    obtain ⟨x89, e89⟩ : ∃ z : Int32, z = (nI i) + (1) := ⟨_, rfl⟩
                    refine r_iinc (pc2 := 92) (ls2 := [.ref 117, .int (nI t), .int (nI (drO a nu t (rowN rm t) dr)), .int (nI dr), .int (nI (slS a dr (i + 1))), .int xb, .int x89]) (v := x89) 6 dX10_draughtsOf_89 rfl (by rw [e89]; rfl) rfl rfl rfl ?_
                    refine r_goto (pc2 := 22) dX10_draughtsOf_92 (by decide) ?_
                    rw [e89, nI_1, e87]
                    exact ihi (i + 1) _ _ _ (by omega) hx c117 c118 c122 c123 c137 c138
                · exact absurd (nI_z0 (by omega) b38) hz
            · skip
              refine r_iload (pc2 := 24) 6 dX10_draughtsOf_22 rfl rfl ?_
              refine r_aload_n (pc2 := 25) 0 dX10_draughtsOf_24 rfl rfl rfl rfl ?_
              refine r_getf (pc2 := 28) (v := .ref 137) fX10_80 dX10_draughtsOf_25 c117 (by decide) rfl rfl ?_
              refine r_iload_n (pc2 := 29) 1 dX10_draughtsOf_28 rfl rfl rfl ?_
              refine r_ialdN (pc2 := 30) t dX10_draughtsOf_29 c137 (by decide) rfl (by omega) (by decide) rfl ?_
              refine r_cast (nI (rowN rm t)) (hrm) ?_
              refine r_icmp_ge (tgt := 95) (pc2 := 33) dX10_draughtsOf_30 (by decide) rfl (fun b30 => ?_) (fun b30 => ?_)
              · exact absurd b30 (nI_ge hil (by omega))
              · skip
                refine r_iload (pc2 := 35) 4 dX10_draughtsOf_33 rfl rfl ?_
                refine r_callS1 (pc2 := 38) (As := [.int (nI (slS a dr i))]) (st := []) kX10_231 dX10_draughtsOf_35 rfl rfl (Nat.le_of_ble_eq_true rfl) (by omega) (c_depthIn (nI (slS a dr i))) rfl (fun h2 hq35 => ?_)
                subst hq35
                refine r_cast (nI ((slS a dr i) / 4096)) (depthN (by omega)) ?_
                refine r_if_ne (tgt := 46) (pc2 := 41) dX10_draughtsOf_38 (by decide) rfl (fun b38 => ?_) (fun b38 => ?_)
                · skip
                  refine r_aload_n (pc2 := 47) 0 dX10_draughtsOf_46 rfl rfl rfl rfl ?_
                  refine r_iload (pc2 := 49) 4 dX10_draughtsOf_47 rfl rfl ?_
                  refine r_iconst (pc2 := 50) (v := 0) dX10_draughtsOf_49 (by decide) rfl ?_
                  refine r_iconst (pc2 := 51) (v := 0) dX10_draughtsOf_50 (by decide) rfl ?_
                  refine r_iload_n (pc2 := 52) 3 dX10_draughtsOf_51 rfl rfl rfl ?_
                  refine r_callV1 (pc2 := 55) (As := [.int (nI (slS a dr i)), .int 0, .int 0, .int (nI dr)]) (st := []) kX10_273 rfl rfl dX10_draughtsOf_52 c117 (by decide) rfl rfl (Nat.le_of_ble_eq_true rfl) (by omega) (c_hourTo (st := (slS a dr i)) (sn := 0) (b := 0) (dr := dr) c117 c118 c122 c123 (by omega) (by decide) (by omega) (by decide) (fun g _ z => by rw [Nat.zero_testBit] at z; cases z) hA.G hA.C hA.h2 hA.lo hA.w0 hA.w1 (by omega)) rfl (fun h hq52 => ?_)
                  obtain ⟨hx2, ⟨f2b, c122⟩, ⟨w2b, c123⟩⟩ := hq52
                  have c117 := hx2.get (by decide) c117
                  have c118 := hx2.get (by decide) c118
                  have c137 := hx2.get (by decide) c137
                  have c138 := hx2.get (by decide) c138
                  have hx := hx.trans hx2 (by decide)
                  refine r_cast (nI (slS a dr (i + 1))) (by rw [slS, if_neg hz]) ?_
                  refine r_istore (pc2 := 57) (ls2 := [.ref 117, .int (nI t), .int (nI (drO a nu t (rowN rm t) dr)), .int (nI dr), .int (nI (slS a dr (i + 1))), .int (if isD a nu t i dr then (1 : Int32) else 0), .int (nI i)]) 4 dX10_draughtsOf_55 (by decide) rfl rfl rfl ?_
                  refine r_iload (pc2 := 59) 5 dX10_draughtsOf_57 rfl rfl ?_
                  refine r_iload (pc2 := 61) 4 dX10_draughtsOf_59 rfl rfl ?_
                  refine r_callS1 (pc2 := 64) (As := [.int (nI (slS a dr (i + 1)))]) (st := [.int (if isD a nu t i dr then (1 : Int32) else 0)]) kX10_231 dX10_draughtsOf_61 rfl rfl (Nat.le_of_ble_eq_true rfl) (by omega) (c_depthIn (nI (slS a dr (i + 1)))) rfl (fun h2 hq61 => ?_)
                  subst hq61
                  refine r_cast (nI ((slS a dr (i + 1)) / 4096)) (depthN (by omega)) ?_
                  refine r_i2l (pc2 := 65) dX10_draughtsOf_64 rfl ?_
                  refine r_castl (lN ((slS a dr (i + 1)) / 4096)) (nI_l (by omega)) ?_
                  refine r_aload_n (pc2 := 66) 0 dX10_draughtsOf_65 rfl rfl rfl rfl ?_
                  refine r_getf (pc2 := 69) (v := .ref 138) fX10_83 dX10_draughtsOf_66 c117 (by decide) rfl rfl ?_
                  refine r_bipush (pc2 := 71) (v := 40) dX10_draughtsOf_69 (by decide) rfl ?_
                  refine r_iload_n (pc2 := 72) 1 dX10_draughtsOf_71 rfl rfl rfl ?_
                  refine r_imul (pc2 := 73) dX10_draughtsOf_72 rfl ?_
                  refine r_cast (nI (40 * t)) (pk_mul 40 t) ?_
                  refine r_iload (pc2 := 75) 6 dX10_draughtsOf_73 rfl rfl ?_
                  refine r_iadd (pc2 := 76) dX10_draughtsOf_75 rfl ?_
                  refine r_cast (nI (40 * t + i)) (nI_add _ _) ?_
                  refine r_laldN (pc2 := 77) (40 * t + i) dX10_draughtsOf_76 c138 (by decide) rfl (by omega) (by decide) rfl ?_
                  refine r_lcmp (pc2 := 78) dX10_draughtsOf_77 rfl ?_
                  refine r_if_ne (tgt := 85) (pc2 := 81) dX10_draughtsOf_78 (by decide) rfl (fun b78 => ?_) (fun b78 => ?_)
                  · skip
                    refine r_iconst (pc2 := 86) (v := 0) dX10_draughtsOf_85 (by decide) rfl ?_
                    refine r_cast (if lN ((slS a dr (i + 1)) / 4096) = nu (40 * t + i) then (1 : Int32) else 0) (by rw [if_neg heq]) ?_
                    refine r_iand (pc2 := 87) dX10_draughtsOf_86 rfl ?_
                    refine r_cast (if isD a nu t (i + 1) dr then (1 : Int32) else 0) (and_if isD_s) ?_
                    refine r_topi (fun xb e87 => ?_)
                    refine r_istore (pc2 := 89) (ls2 := [.ref 117, .int (nI t), .int (nI (drO a nu t (rowN rm t) dr)), .int (nI dr), .int (nI (slS a dr (i + 1))), .int xb, .int (nI i)]) 5 dX10_draughtsOf_87 (by decide) rfl rfl rfl ?_
                    obtain ⟨x89, e89⟩ : ∃ z : Int32, z = (nI i) + (1) := ⟨_, rfl⟩
                    refine r_iinc (pc2 := 92) (ls2 := [.ref 117, .int (nI t), .int (nI (drO a nu t (rowN rm t) dr)), .int (nI dr), .int (nI (slS a dr (i + 1))), .int xb, .int x89]) (v := x89) 6 dX10_draughtsOf_89 rfl (by rw [e89]; rfl) rfl rfl rfl ?_
                    refine r_goto (pc2 := 22) dX10_draughtsOf_92 (by decide) ?_
                    rw [e89, nI_1, e87]
                    exact ihi (i + 1) _ _ _ (by omega) hx c117 c118 c122 c123 c137 c138
                  · exact absurd ((lgc_eq _ _).mp b78) heq
                · exact absurd (nI_z0 (by omega) b38) hz
      refine r_iload_n (pc2 := 5) 3 dX10_draughtsOf_4 rfl rfl rfl ?_
      refine r_bipush (pc2 := 7) (v := 10) dX10_draughtsOf_5 (by decide) rfl ?_
      refine r_icmp_ge (tgt := 116) (pc2 := 10) dX10_draughtsOf_7 (by decide) rfl (fun b7 => ?_) (fun b7 => ?_)
      · exact absurd b7 (nI_ge (b := 10) hdr (by decide))
      · skip
        refine r_aload_n (pc2 := 11) 0 dX10_draughtsOf_10 rfl rfl rfl rfl ?_
        refine r_callV1 (pc2 := 14) (As := []) (st := []) kX10_266 rfl rfl dX10_draughtsOf_11 c117 (by decide) rfl rfl (Nat.le_of_ble_eq_true rfl) (by omega) (c_standNow c117 c118 hA.G hA.c7 hA.dp) rfl (fun h2 hq11 => ?_)
        subst hq11
        refine r_istore (pc2 := 16) (ls2 := [.ref 117, .int (nI t), .int (nI (drO a nu t (rowN rm t) dr)), .int (nI dr), .int (nI (packS a)), u5, u6]) 4 dX10_draughtsOf_14 (by decide) rfl rfl rfl ?_
        refine r_iconst (pc2 := 17) (v := 1) dX10_draughtsOf_16 (by decide) rfl ?_
        refine r_istore (pc2 := 19) (ls2 := [.ref 117, .int (nI t), .int (nI (drO a nu t (rowN rm t) dr)), .int (nI dr), .int (nI (packS a)), .int 1, u6]) 5 dX10_draughtsOf_17 (by decide) rfl rfl rfl ?_
        refine r_iconst (pc2 := 20) (v := 0) dX10_draughtsOf_19 (by decide) rfl ?_
        refine r_istore (pc2 := 22) (ls2 := [.ref 117, .int (nI t), .int (nI (drO a nu t (rowN rm t) dr)), .int (nI dr), .int (nI (packS a)), .int 1, .int 0]) 6 dX10_draughtsOf_20 (by decide) rfl rfl rfl ?_
        have e1 : (1 : Int32) = if isD a nu t 0 dr then (1 : Int32) else 0 := (if_pos (fun i hi => absurd hi (Nat.not_lt_zero _))).symm
        rw [e1]
        exact inner (rowN rm t) 0 _ _ _ (by omega) hx c117 c118 c122 c123 c137 c138
  refine Cn.go (ls := [.ref 117, .int (nI t), .float 0, .float 0, .float 0, .float 0, .float 0]) (by decide +kernel) rfl (Nat.le_of_ble_eq_true rfl) ?_
  refine r_iconst (pc2 := 1) (v := 0) dX10_draughtsOf_0 (by decide) rfl ?_
  refine r_istore_n (pc2 := 2) (ls2 := [.ref 117, .int (nI t), .int 0, .float 0, .float 0, .float 0, .float 0]) 2 dX10_draughtsOf_1 rfl (by decide) rfl rfl rfl ?_
  refine r_iconst (pc2 := 3) (v := 0) dX10_draughtsOf_2 (by decide) rfl ?_
  refine r_istore_n (pc2 := 4) (ls2 := [.ref 117, .int (nI t), .int 0, .int 0, .float 0, .float 0, .float 0]) 3 dX10_draughtsOf_3 rfl (by decide) rfl rfl rfl ?_
  exact loop 10 0 _ _ _ _ _ _ (by omega) hx c117 c118 c122 c123 c137 c138
set_option maxRecDepth 20000 in
set_option maxHeartbeats 1000000 in
theorem ref_draughts {E : EnvT} {d : Nat} {h0 : Hp} {v : Nat → Int32} {a : Nat → Nat} {hi : Nat → Int32} {tp : Nat → Nat} {rs rm : Nat → Int32} {nu : Nat → Int64} {x : Int32} (hR : RS h0 v a hi tp rs rm nu) (hA : AIN a) (hT : TOK rs rm) (hd : 5 ≤ d) : Cn E mX10_draughts d [.ref 117, .int x] h0 (RP (.int (drF a rs rm nu x)) h0 v a hi tp rs rm nu) := by
  obtain ⟨k117, k118, k119, k120, ⟨f121, k121⟩, ⟨f122, k122⟩, ⟨f123, k123⟩, ⟨f124, k124⟩, ⟨f125, k125⟩, ⟨f126, k126⟩, ⟨f127, k127⟩, ⟨f128, k128⟩, ⟨f129, k129⟩, ⟨f130, k130⟩, ⟨f131, k131⟩, ⟨f132, k132⟩, ⟨f133, k133⟩, ⟨f134, k134⟩, ⟨f135, k135⟩, k136, k137, k138⟩ := hR
  have c117 := k117
  have c118 := k118
  have c122 := k122
  have c123 := k123
  have c136 := k136
  have c137 := k137
  have c138 := k138
  have hx : Ex [117, 118, 122, 123, 136, 137, 138] h0 h0 := Ex.rf
  by_cases h0n : nsF rs rm nu x = 0
  · obtain ⟨t, ht, rfl, hrm, hr1, hr10, hok⟩ := nsF_0 hT h0n
    refine Cn.go (ls := [.ref 117, .int (nI t), .float 0]) (by decide +kernel) rfl (Nat.le_of_ble_eq_true rfl) ?_
    refine r_aload_n (pc2 := 1) 0 dX10_draughts_0 rfl rfl rfl rfl ?_
    refine r_iconst (pc2 := 2) (v := 0) dX10_draughts_1 (by decide) rfl ?_
    refine r_putfX (pc2 := 5) (moL (upd v 0 0)) fX10_1 dX10_draughts_2 c117 (by decide) (Nat.le_of_ble_eq_true rfl) rfl rfl rfl (fun h z2 o2 c117 => ?_)
    have c118 := (o2 118 (by decide)).trans c118
    have c122 := (o2 122 (by decide)).trans c122
    have c123 := (o2 123 (by decide)).trans c123
    have c136 := (o2 136 (by decide)).trans c136
    have c137 := (o2 137 (by decide)).trans c137
    have c138 := (o2 138 (by decide)).trans c138
    have hx := hx.step (a := 117) (by decide) z2 o2
    refine r_aload_n (pc2 := 6) 0 dX10_draughts_5 rfl rfl rfl rfl ?_
    refine r_iload_n (pc2 := 7) 1 dX10_draughts_6 rfl rfl rfl ?_
    refine r_callV1 (pc2 := 10) (As := [.int (nI t)]) (st := []) kX10_408 rfl rfl dX10_draughts_7 c117 (by decide) rfl rfl (Nat.le_of_ble_eq_true rfl) (by omega) (c_noSlept c117 c136 c137 c138 hT (by omega)) rfl (fun h2 hq7 => ?_)
    subst hq7
    refine r_topi (fun x10 e10 => ?_)
    refine r_istore_n (pc2 := 11) (ls2 := [.ref 117, .int (nI t), .int x10]) 2 dX10_draughts_10 rfl (by decide) rfl rfl rfl ?_
    refine r_iload_n (pc2 := 12) 2 dX10_draughts_11 rfl rfl rfl ?_
    refine r_if_eq (tgt := 19) (pc2 := 15) dX10_draughts_12 (by decide) rfl (fun b12 => ?_) (fun b12 => ?_)
    · skip
      refine r_aload_n (pc2 := 20) 0 dX10_draughts_19 rfl rfl rfl rfl ?_
      refine r_iload_n (pc2 := 21) 1 dX10_draughts_20 rfl rfl rfl ?_
      refine r_callV1 (pc2 := 24) (As := [.int (nI t)]) (st := []) kX10_411 rfl rfl dX10_draughts_21 c117 (by decide) rfl rfl (Nat.le_of_ble_eq_true rfl) (by omega) (c_draughtsOf c117 c118 c122 c123 c137 c138 hA ht hrm (by omega) (by omega)) rfl (fun h hq21 => ?_)
      obtain ⟨hxd, ⟨f2, c122⟩, ⟨w2, c123⟩⟩ := hq21
      have c117 := hxd.get (by decide) c117
      have c118 := hxd.get (by decide) c118
      have c136 := hxd.get (by decide) c136
      have c137 := hxd.get (by decide) c137
      have c138 := hxd.get (by decide) c138
      have hx := hx.trans hxd (by decide)
      exact r_iret rfl dX10_draughts_24 ⟨by rw [drF, if_neg (fun z => z h0n), nI_clamp (by omega)], (upd v 0 0), ⟨rfl, rfl, rfl⟩, ⟨c117, c118, hx.get (by decide) k119, hx.get (by decide) k120, ⟨_, hx.get (by decide) k121⟩, ⟨_, c122⟩, ⟨_, c123⟩, ⟨_, hx.get (by decide) k124⟩, ⟨_, hx.get (by decide) k125⟩, ⟨_, hx.get (by decide) k126⟩, ⟨_, hx.get (by decide) k127⟩, ⟨_, hx.get (by decide) k128⟩, ⟨_, hx.get (by decide) k129⟩, ⟨_, hx.get (by decide) k130⟩, ⟨_, hx.get (by decide) k131⟩, ⟨_, hx.get (by decide) k132⟩, ⟨_, hx.get (by decide) k133⟩, ⟨_, hx.get (by decide) k134⟩, ⟨_, hx.get (by decide) k135⟩, c136, c137, c138⟩, hx.mono (by decide)⟩
    · exact absurd (e10.trans h0n) b12
  · skip
    refine Cn.go (ls := [.ref 117, .int x, .float 0]) (by decide +kernel) rfl (Nat.le_of_ble_eq_true rfl) ?_
    refine r_aload_n (pc2 := 1) 0 dX10_draughts_0 rfl rfl rfl rfl ?_
    refine r_iconst (pc2 := 2) (v := 0) dX10_draughts_1 (by decide) rfl ?_
    refine r_putfX (pc2 := 5) (moL (upd v 0 0)) fX10_1 dX10_draughts_2 c117 (by decide) (Nat.le_of_ble_eq_true rfl) rfl rfl rfl (fun h z2 o2 c117 => ?_)
    have c118 := (o2 118 (by decide)).trans c118
    have c122 := (o2 122 (by decide)).trans c122
    have c123 := (o2 123 (by decide)).trans c123
    have c136 := (o2 136 (by decide)).trans c136
    have c137 := (o2 137 (by decide)).trans c137
    have c138 := (o2 138 (by decide)).trans c138
    have hx := hx.step (a := 117) (by decide) z2 o2
    refine r_aload_n (pc2 := 6) 0 dX10_draughts_5 rfl rfl rfl rfl ?_
    refine r_iload_n (pc2 := 7) 1 dX10_draughts_6 rfl rfl rfl ?_
    refine r_callV1 (pc2 := 10) (As := [.int x]) (st := []) kX10_408 rfl rfl dX10_draughts_7 c117 (by decide) rfl rfl (Nat.le_of_ble_eq_true rfl) (by omega) (c_noSlept c117 c136 c137 c138 hT (by omega)) rfl (fun h2 hq7 => ?_)
    subst hq7
    refine r_topi (fun x10 e10 => ?_)
    refine r_istore_n (pc2 := 11) (ls2 := [.ref 117, .int x, .int x10]) 2 dX10_draughts_10 rfl (by decide) rfl rfl rfl ?_
    refine r_iload_n (pc2 := 12) 2 dX10_draughts_11 rfl rfl rfl ?_
    refine r_if_eq (tgt := 19) (pc2 := 15) dX10_draughts_12 (by decide) rfl (fun b12 => ?_) (fun b12 => ?_)
    · exact absurd (e10.symm.trans b12) h0n
    · skip
      refine r_iload_n (pc2 := 16) 2 dX10_draughts_15 rfl rfl rfl ?_
      refine r_goto (pc2 := 24) dX10_draughts_16 (by decide) ?_
      exact r_iret rfl dX10_draughts_24 ⟨by rw [drF, if_pos h0n, e10], (upd v 0 0), ⟨rfl, rfl, rfl⟩, ⟨c117, c118, hx.get (by decide) k119, hx.get (by decide) k120, ⟨_, hx.get (by decide) k121⟩, ⟨_, c122⟩, ⟨_, c123⟩, ⟨_, hx.get (by decide) k124⟩, ⟨_, hx.get (by decide) k125⟩, ⟨_, hx.get (by decide) k126⟩, ⟨_, hx.get (by decide) k127⟩, ⟨_, hx.get (by decide) k128⟩, ⟨_, hx.get (by decide) k129⟩, ⟨_, hx.get (by decide) k130⟩, ⟨_, hx.get (by decide) k131⟩, ⟨_, hx.get (by decide) k132⟩, ⟨_, hx.get (by decide) k133⟩, ⟨_, hx.get (by decide) k134⟩, ⟨_, hx.get (by decide) k135⟩, c136, c137, c138⟩, hx.mono (by decide)⟩
