/-! the class: Long.bitCount, hints -/
set_option maxRecDepth 20000 in
set_option maxHeartbeats 1000000 in
theorem c_bitCountL {E : EnvT} {d : Nat} {h0 : Hp} {f : Nat → Nat} (hf : ∀ p, p < 8 → f p < 256) : Cn E mJ13_bitCount_95d88 d [.long (lN (pkL (L8 f)))] h0 (fun r h2 => r = some (.int (nI (hSum f 8))) ∧ h2 = h0) := by
  have h1 : ∀ p, p < 8 → (fun p => c1 (f p)) p < 256 := fun p hp => (c_byte _ (hf p hp)).2.1
  have h2 : ∀ p, p < 8 → (fun p => c2 (f p)) p < 256 := fun p hp => (c_byte _ (hf p hp)).2.2.1
  have h9 : ∀ p, p < 8 → (fun p => pop8 (f p)) p ≤ 8 := fun p hp => pop8_le _
  have h3 : ∀ p, p < 8 → (fun p => pop8 (f p)) p < 256 := fun p hp => Nat.lt_of_le_of_lt (pop8_le _) (by decide)
  obtain ⟨x4, h4⟩ : ∃ x, x = (pkL (L8 (fun p => pop8 (f p)))) + (pkL (L8 (fun p => pop8 (f p)))) / 2 ^ 8 := ⟨_, rfl⟩
  obtain ⟨x5, h5⟩ : ∃ x, x = x4 + x4 / 2 ^ 16 := ⟨_, rfl⟩
  obtain ⟨x6, h6⟩ : ∃ x, x = x5 + x5 / 2 ^ 32 := ⟨_, rfl⟩
  have hl := fold8 (e := fun p => pop8 (f p)) h9 h4 h5 h6
  have hs : x6 % 2 ^ 7 = hSum f 8 := by
    refine hl.2.2.2.trans ?_
    clear hl h4 h5 h6 h9 h3 h2 h1
    simp only [hSum]
    omega
  refine Cn.go (ls := [.long (lN (pkL (L8 f))), .float 0]) (by decide +kernel) rfl (Nat.le_of_ble_eq_true rfl) ?_
  refine r_lload_n (pc2 := 1) 0 dJ13_bitCount_95d88_0 rfl rfl rfl ?_
  refine r_lload_n (pc2 := 2) 0 dJ13_bitCount_95d88_1 rfl rfl rfl ?_
  refine r_iconst (pc2 := 3) (v := 1) dJ13_bitCount_95d88_2 (by decide) rfl ?_
  refine r_lushr (pc2 := 4) dJ13_bitCount_95d88_3 rfl ?_
  refine r_castl (lN ((pkL (L8 f)) / 2 ^ 1)) (lN_ushr (k := 1) (L8_lt hf) (by decide)) ?_
  refine r_ldc2 (pc2 := 7) (v := 6148914691236517205) qJ13_314 dJ13_bitCount_95d88_4 rfl ?_
  refine r_land (pc2 := 8) dJ13_bitCount_95d88_7 rfl ?_
  refine r_castl (lN (pkL (L8 (fun p => f p / 2 ^ 1 &&& 85)))) (by rw [k85, lN_and, L8_mask hf (by decide) m85]) ?_
  refine r_lsub (pc2 := 9) dJ13_bitCount_95d88_8 rfl ?_
  refine r_castl (lN (pkL (L8 (fun p => c1 (f p))))) (st1 hf) ?_
  refine r_lstore_n (pc2 := 10) (ls2 := [.long (lN (pkL (L8 (fun p => c1 (f p))))), .float 0]) 0 dJ13_bitCount_95d88_9 rfl (by decide) rfl rfl rfl ?_
  refine r_lload_n (pc2 := 11) 0 dJ13_bitCount_95d88_10 rfl rfl rfl ?_
  refine r_ldc2 (pc2 := 14) (v := 3689348814741910323) qJ13_316 dJ13_bitCount_95d88_11 rfl ?_
  refine r_land (pc2 := 15) dJ13_bitCount_95d88_14 rfl ?_
  refine r_castl (lN (pkL (L8 (fun p => c1 (f p) / 2 ^ 0 &&& 51)))) (by rw [k51, lN_and, L8_mask0 h1 (by decide)]) ?_
  refine r_lload_n (pc2 := 16) 0 dJ13_bitCount_95d88_15 rfl rfl rfl ?_
  refine r_iconst (pc2 := 17) (v := 2) dJ13_bitCount_95d88_16 (by decide) rfl ?_
  refine r_lushr (pc2 := 18) dJ13_bitCount_95d88_17 rfl ?_
  refine r_castl (lN ((pkL (L8 (fun p => c1 (f p)))) / 2 ^ 2)) (lN_ushr (k := 2) (L8_lt h1) (by decide)) ?_
  refine r_ldc2 (pc2 := 21) (v := 3689348814741910323) qJ13_316 dJ13_bitCount_95d88_18 rfl ?_
  refine r_land (pc2 := 22) dJ13_bitCount_95d88_21 rfl ?_
  refine r_castl (lN (pkL (L8 (fun p => c1 (f p) / 2 ^ 2 &&& 51)))) (by rw [k51, lN_and, L8_mask h1 (by decide) m51]) ?_
  refine r_ladd (pc2 := 23) dJ13_bitCount_95d88_22 rfl ?_
  refine r_castl (lN (pkL (L8 (fun p => c2 (f p))))) (by rw [lN_addB, L8_addB]; rfl) ?_
  refine r_lstore_n (pc2 := 24) (ls2 := [.long (lN (pkL (L8 (fun p => c2 (f p))))), .float 0]) 0 dJ13_bitCount_95d88_23 rfl (by decide) rfl rfl rfl ?_
  refine r_lload_n (pc2 := 25) 0 dJ13_bitCount_95d88_24 rfl rfl rfl ?_
  refine r_lload_n (pc2 := 26) 0 dJ13_bitCount_95d88_25 rfl rfl rfl ?_
  refine r_iconst (pc2 := 27) (v := 4) dJ13_bitCount_95d88_26 (by decide) rfl ?_
  refine r_lushr (pc2 := 28) dJ13_bitCount_95d88_27 rfl ?_
  refine r_castl (lN ((pkL (L8 (fun p => c2 (f p)))) / 2 ^ 4)) (lN_ushr (k := 4) (L8_lt h2) (by decide)) ?_
  refine r_ladd (pc2 := 29) dJ13_bitCount_95d88_28 rfl ?_
  refine r_castl (lN ((pkL (L8 (fun p => c2 (f p)))) + (pkL (L8 (fun p => c2 (f p)))) / 2 ^ 4)) (lN_addB _ _) ?_
  refine r_ldc2 (pc2 := 32) (v := 1085102592571150095) qJ13_318 dJ13_bitCount_95d88_29 rfl ?_
  refine r_land (pc2 := 33) dJ13_bitCount_95d88_32 rfl ?_
  refine r_castl (lN (pkL (L8 (fun p => pop8 (f p))))) (by rw [k15, lN_and, st3 hf]) ?_
  refine r_lstore_n (pc2 := 34) (ls2 := [.long (lN (pkL (L8 (fun p => pop8 (f p))))), .float 0]) 0 dJ13_bitCount_95d88_33 rfl (by decide) rfl rfl rfl ?_
  refine r_lload_n (pc2 := 35) 0 dJ13_bitCount_95d88_34 rfl rfl rfl ?_
  refine r_lload_n (pc2 := 36) 0 dJ13_bitCount_95d88_35 rfl rfl rfl ?_
  refine r_bipush (pc2 := 38) (v := 8) dJ13_bitCount_95d88_36 (by decide) rfl ?_
  refine r_lushr (pc2 := 39) dJ13_bitCount_95d88_38 rfl ?_
  refine r_castl (lN ((pkL (L8 (fun p => pop8 (f p)))) / 2 ^ 8)) (lN_ushr (k := 8) (L8_lt h3) (by decide)) ?_
  refine r_ladd (pc2 := 40) dJ13_bitCount_95d88_39 rfl ?_
  refine r_castl (lN x4) ((lN_addB _ _).trans (congrArg lN h4.symm)) ?_
  refine r_lstore_n (pc2 := 41) (ls2 := [.long (lN x4), .float 0]) 0 dJ13_bitCount_95d88_40 rfl (by decide) rfl rfl rfl ?_
  refine r_lload_n (pc2 := 42) 0 dJ13_bitCount_95d88_41 rfl rfl rfl ?_
  refine r_lload_n (pc2 := 43) 0 dJ13_bitCount_95d88_42 rfl rfl rfl ?_
  refine r_bipush (pc2 := 45) (v := 16) dJ13_bitCount_95d88_43 (by decide) rfl ?_
  refine r_lushr (pc2 := 46) dJ13_bitCount_95d88_45 rfl ?_
  refine r_castl (lN (x4 / 2 ^ 16)) (lN_ushr (k := 16) hl.1 (by decide)) ?_
  refine r_ladd (pc2 := 47) dJ13_bitCount_95d88_46 rfl ?_
  refine r_castl (lN x5) ((lN_addB _ _).trans (congrArg lN h5.symm)) ?_
  refine r_lstore_n (pc2 := 48) (ls2 := [.long (lN x5), .float 0]) 0 dJ13_bitCount_95d88_47 rfl (by decide) rfl rfl rfl ?_
  refine r_lload_n (pc2 := 49) 0 dJ13_bitCount_95d88_48 rfl rfl rfl ?_
  refine r_lload_n (pc2 := 50) 0 dJ13_bitCount_95d88_49 rfl rfl rfl ?_
  refine r_bipush (pc2 := 52) (v := 32) dJ13_bitCount_95d88_50 (by decide) rfl ?_
  refine r_lushr (pc2 := 53) dJ13_bitCount_95d88_52 rfl ?_
  refine r_castl (lN (x5 / 2 ^ 32)) (lN_ushr (k := 32) hl.2.1 (by decide)) ?_
  refine r_ladd (pc2 := 54) dJ13_bitCount_95d88_53 rfl ?_
  refine r_castl (lN x6) ((lN_addB _ _).trans (congrArg lN h6.symm)) ?_
  refine r_lstore_n (pc2 := 55) (ls2 := [.long (lN x6), .float 0]) 0 dJ13_bitCount_95d88_54 rfl (by decide) rfl rfl rfl ?_
  refine r_lload_n (pc2 := 56) 0 dJ13_bitCount_95d88_55 rfl rfl rfl ?_
  refine r_l2i (pc2 := 57) dJ13_bitCount_95d88_56 rfl ?_
  refine r_cast (nI x6) (lN_iB _) ?_
  refine r_bipush (pc2 := 59) (v := 127) dJ13_bitCount_95d88_57 (by decide) rfl ?_
  refine r_iand (pc2 := 60) dJ13_bitCount_95d88_59 rfl ?_
  refine r_cast (nI (hSum f 8)) (by rw [show (127 : Int32) = nI 127 from rfl, nI_and, show (127 : Nat) = 2 ^ 7 - 1 from rfl, Nat.and_two_pow_sub_one_eq_mod, hs]) ?_
  exact r_iret rfl dJ13_bitCount_95d88_60 ⟨rfl, rfl⟩
set_option maxRecDepth 20000 in
set_option maxHeartbeats 1000000 in
theorem cl_hints {E : EnvT} {d : Nat} {h0 : Hp} {ns s w1 w2 : Nat} {wk dt : Value} {a : FR} {x : Int32} (hN : NW h0 s ns w1 w2 wk dt a) (hA : AIN a) (hd : 1 ≤ d) : Cn E mX9_hints d [.ref 64, .int x] h0 (fun r h2 => r = some (.int (hintsF a x)) ∧ h2 = h0) := by
  obtain ⟨c64, c76, _, _⟩ := hN
  have ha := hA.hb
  by_cases hx : inR 0 1 x
  · have hz2 : x = 0 ∨ x = 1 := by
      obtain ⟨k, _, hk, rfl⟩ := inR_of (by decide) (by decide) hx
      match k, hk with
      | 0, _ => exact Or.inl rfl
      | 1, _ => exact Or.inr rfl
    rcases hz2 with rfl | rfl
    · skip
      refine Cn.go (ls := [.ref 64, .int 0]) (by decide +kernel) rfl (Nat.le_of_ble_eq_true rfl) ?_
      refine r_iload_n (pc2 := 1) 1 dX9_hints_0 rfl rfl rfl ?_
      refine r_if_lt (tgt := 9) (pc2 := 4) dX9_hints_1 (by decide) rfl (fun b1 => ?_) (fun b1 => ?_)
      · exact absurd b1 (by decide)
      · skip
        refine r_iload_n (pc2 := 5) 1 dX9_hints_4 rfl rfl rfl ?_
        refine r_iconst (pc2 := 6) (v := 1) dX9_hints_5 (by decide) rfl ?_
        refine r_icmp_le (tgt := 12) (pc2 := 9) dX9_hints_6 (by decide) rfl (fun b6 => ?_) (fun b6 => ?_)
        · skip
          refine r_iload_n (pc2 := 13) 1 dX9_hints_12 rfl rfl rfl ?_
          refine r_iconst (pc2 := 14) (v := 1) dX9_hints_13 (by decide) rfl ?_
          refine r_icmp_ne (tgt := 27) (pc2 := 17) dX9_hints_14 (by decide) rfl (fun b14 => ?_) (fun b14 => ?_)
          · skip
            refine r_aload_n (pc2 := 28) 0 dX9_hints_27 rfl rfl rfl rfl ?_
            refine r_getf (pc2 := 31) (v := .ref 76) fX9_28 dX9_hints_28 c64 (by decide) rfl rfl ?_
            refine r_getf (pc2 := 34) (v := .long (bL (keepV a) 15)) fX9_288 dX9_hints_31 c76 (by decide) rfl rfl ?_
            refine r_castl (lN (pkL (L8 (fun p => a (37 + p))))) (bo_eq a 15) ?_
            refine r_callS1 (pc2 := 37) (As := [.long (lN (pkL (L8 (fun p => a (37 + p)))))]) (st := []) kX9_310 dX9_hints_34 rfl rfl (Nat.le_of_ble_eq_true rfl) (by omega) (c_bitCountL (f := (fun p => a (37 + p))) ha.2.2) rfl (fun h2 hq34 => ?_)
            subst hq34
            refine r_iconst (pc2 := 38) (v := 2) dX9_hints_37 (by decide) rfl ?_
            refine r_idiv (pc2 := 39) dX9_hints_38 (by decide) rfl ?_
            refine r_cast (nI (hSum (fun p => a (37 + p)) 8 / 2)) (pk_div (d := 2) (by have := hSum_le (fun p => a (37 + p)) 8; omega) (by decide) (by decide)) ?_
            exact r_iret rfl dX9_hints_39 ⟨by unfold hintsF; rw [if_pos hx]; rfl, rfl⟩
          · exact absurd b14 (by decide)
        · exact absurd b6 (by decide)
    · skip
      refine Cn.go (ls := [.ref 64, .int 1]) (by decide +kernel) rfl (Nat.le_of_ble_eq_true rfl) ?_
      refine r_iload_n (pc2 := 1) 1 dX9_hints_0 rfl rfl rfl ?_
      refine r_if_lt (tgt := 9) (pc2 := 4) dX9_hints_1 (by decide) rfl (fun b1 => ?_) (fun b1 => ?_)
      · exact absurd b1 (by decide)
      · skip
        refine r_iload_n (pc2 := 5) 1 dX9_hints_4 rfl rfl rfl ?_
        refine r_iconst (pc2 := 6) (v := 1) dX9_hints_5 (by decide) rfl ?_
        refine r_icmp_le (tgt := 12) (pc2 := 9) dX9_hints_6 (by decide) rfl (fun b6 => ?_) (fun b6 => ?_)
        · skip
          refine r_iload_n (pc2 := 13) 1 dX9_hints_12 rfl rfl rfl ?_
          refine r_iconst (pc2 := 14) (v := 1) dX9_hints_13 (by decide) rfl ?_
          refine r_icmp_ne (tgt := 27) (pc2 := 17) dX9_hints_14 (by decide) rfl (fun b14 => ?_) (fun b14 => ?_)
          · exact absurd b14 (by decide)
          · skip
            refine r_aload_n (pc2 := 18) 0 dX9_hints_17 rfl rfl rfl rfl ?_
            refine r_getf (pc2 := 21) (v := .ref 76) fX9_28 dX9_hints_18 c64 (by decide) rfl rfl ?_
            refine r_getf (pc2 := 24) (v := .long (bL (keepV a) 7)) fX9_284 dX9_hints_21 c76 (by decide) rfl rfl ?_
            refine r_goto (pc2 := 34) dX9_hints_24 (by decide) ?_
            refine r_castl (lN (pkL (L8 (fun p => a (29 + p))))) (bo_eq a 7) ?_
            refine r_callS1 (pc2 := 37) (As := [.long (lN (pkL (L8 (fun p => a (29 + p)))))]) (st := []) kX9_310 dX9_hints_34 rfl rfl (Nat.le_of_ble_eq_true rfl) (by omega) (c_bitCountL (f := (fun p => a (29 + p))) ha.2.1) rfl (fun h2 hq34 => ?_)
            subst hq34
            refine r_iconst (pc2 := 38) (v := 2) dX9_hints_37 (by decide) rfl ?_
            refine r_idiv (pc2 := 39) dX9_hints_38 (by decide) rfl ?_
            refine r_cast (nI (hSum (fun p => a (29 + p)) 8 / 2)) (pk_div (d := 2) (by have := hSum_le (fun p => a (29 + p)) 8; omega) (by decide) (by decide)) ?_
            exact r_iret rfl dX9_hints_39 ⟨by unfold hintsF; rw [if_pos hx]; rfl, rfl⟩
        · exact absurd b6 (by decide)
  · skip
    refine Cn.go (ls := [.ref 64, .int x]) (by decide +kernel) rfl (Nat.le_of_ble_eq_true rfl) ?_
    refine r_iload_n (pc2 := 1) 1 dX9_hints_0 rfl rfl rfl ?_
    refine r_if_lt (tgt := 9) (pc2 := 4) dX9_hints_1 (by decide) rfl (fun b1 => ?_) (fun b1 => ?_)
    · skip
      refine r_bipush (pc2 := 11) (v := -2) dX9_hints_9 (by decide) rfl ?_
      exact r_iret rfl dX9_hints_11 ⟨by unfold hintsF; rw [if_neg hx], rfl⟩
    · skip
      refine r_iload_n (pc2 := 5) 1 dX9_hints_4 rfl rfl rfl ?_
      refine r_iconst (pc2 := 6) (v := 1) dX9_hints_5 (by decide) rfl ?_
      refine r_icmp_le (tgt := 12) (pc2 := 9) dX9_hints_6 (by decide) rfl (fun b6 => ?_) (fun b6 => ?_)
      · exact absurd ((inR_iff (l := 0) (h := 1) (by decide) (by decide) x).mpr ⟨Int32.not_lt.mp b1, b6⟩) hx
      · skip
        refine r_bipush (pc2 := 11) (v := -2) dX9_hints_9 (by decide) rfl ?_
        exact r_iret rfl dX9_hints_11 ⟨by unfold hintsF; rw [if_neg hx], rfl⟩
