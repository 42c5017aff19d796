/-! numbers, write, image, restore, feed, hints -/
abbrev numC (x y z : Int32) : Prop := (inR 0 3 x ∧ inR 0 3 y) ∧ inR 0 40 z
def numF (x y z : Int32) : Int32 := if inR 0 3 x ∧ inR 0 3 y then (if inR 0 40 z then 0 else -3) else -2
def numS (rs : Nat → Int32) (x y z : Int32) : Nat → Int32 := if numC x y z then upd rs x.toNatClampNeg y else rs
def numM (rm : Nat → Int32) (x y z : Int32) : Nat → Int32 := if numC x y z then upd rm x.toNatClampNeg z else rm
def numV (nu : Nat → Int64) (x y z : Int32) : Nat → Int64 := if numC x y z then fillN nu (40 * x.toNatClampNeg) z.toNatClampNeg (fun _ => 0) else nu
theorem mulN (a b : Nat) : nI a * nI b = nI (a * b) := (Int32.ofNat_mul a b).symm
theorem fillN_L (nu : Nat → Int64) (o k : Nat) : vp_updL (fillN nu o k (fun _ => 0)) (o + k) 0 = fillN nu o (k + 1) (fun _ => 0) := fillN_s nu o k (fun _ => 0)
set_option maxRecDepth 20000 in
set_option maxHeartbeats 1000000 in
theorem ref_numbers {E : EnvT} {d : Nat} {h0 : Hp} {v : Nat → Int32} {a : Nat → Nat} {hi : Nat → Int32} {tp : Nat → Nat} {rs rm : Nat → Int32} {nu : Nat → Int64} {x y z : Int32} (hR : RS h0 v a hi tp rs rm nu) (hd : 1 ≤ d) : Cn E mX10_numbers d [.ref 117, .int x, .int y, .int z] h0 (RP (.int (numF x y z)) h0 v a hi tp (numS rs x y z) (numM rm x y z) (numV nu x y z)) := by
  obtain ⟨k117, k118, k119, k120, ⟨f121, k121⟩, ⟨f122, k122⟩, ⟨f123, k123⟩, ⟨f124, k124⟩, ⟨f125, k125⟩, ⟨f126, k126⟩, ⟨f127, k127⟩, ⟨f128, k128⟩, ⟨f129, k129⟩, ⟨f130, k130⟩, ⟨f131, k131⟩, ⟨f132, k132⟩, ⟨f133, k133⟩, ⟨f134, k134⟩, ⟨f135, k135⟩, k136, k137, k138⟩ := hR
  have c117 := k117
  have c136 := k136
  have c137 := k137
  have c138 := k138
  have hx : Ex [117, 136, 137, 138] h0 h0 := Ex.rf
  by_cases hx1 : inR 0 3 x
  · by_cases hy1 : inR 0 3 y
    · by_cases hz1 : inR 0 40 z
      · have hc : numC x y z := ⟨⟨hx1, hy1⟩, hz1⟩
        have hF : (some (.int 0) : Option Value) = some (.int (numF x y z)) := by rw [numF, if_pos hc.1, if_pos hc.2]
        rw [numS, numM, numV, if_pos hc, if_pos hc, if_pos hc]
        obtain ⟨t, t0, t1, rfl⟩ := inR_of (by decide) (by decide) hx1
        obtain ⟨s, s0, s1, rfl⟩ := inR_of (by decide) (by decide) hy1
        obtain ⟨n, n0, n1, rfl⟩ := inR_of (by decide) (by decide) hz1
        rw [nI_clamp (by omega), nI_clamp (by omega)]
        have loop : ∀ (m k : Nat) (h1 : Hp), k + m = n → Ex [117, 136, 137, 138] h0 h1 → h1.1 117 = some (mO (upd v 0 0)) → h1.1 136 = some (aI 4 (upd rs t (nI s))) → h1.1 137 = some (aI 4 (upd rm t (nI n))) → h1.1 138 = some (aL 160 (fillN nu (40 * t) k (fun _ => 0))) → Fr E mX10_numbers d 64 [.ref 117, .int (nI t), .int (nI s), .int (nI n), .int (nI k)] [] h1 (RP (.int (numF (nI t) (nI s) (nI n))) h0 v a hi tp (upd rs t (nI s)) (upd rm t (nI n)) (fillN nu (40 * t) n (fun _ => 0))) := by
          intro m
          induction m with
          | zero =>
            intro k h hk hx c117 c136 c137 c138
            obtain rfl : k = n := by omega
            refine r_iload (pc2 := 66) 4 dX10_numbers_64 rfl rfl ?_
            refine r_iload_n (pc2 := 67) 3 dX10_numbers_66 rfl rfl rfl ?_
            refine r_icmp_ge (tgt := 89) (pc2 := 70) dX10_numbers_67 (by decide) rfl (fun b67 => ?_) (fun b67 => ?_)
            · skip
              refine r_iconst (pc2 := 90) (v := 0) dX10_numbers_89 (by decide) rfl ?_
              exact r_iret rfl dX10_numbers_90 ⟨hF, (upd v 0 0), ⟨rfl, rfl, rfl⟩, ⟨c117, hx.get (by decide) k118, hx.get (by decide) k119, hx.get (by decide) k120, ⟨_, hx.get (by decide) k121⟩, ⟨_, hx.get (by decide) k122⟩, ⟨_, hx.get (by decide) k123⟩, ⟨_, hx.get (by decide) k124⟩, ⟨_, hx.get (by decide) k125⟩, ⟨_, hx.get (by decide) k126⟩, ⟨_, hx.get (by decide) k127⟩, ⟨_, hx.get (by decide) k128⟩, ⟨_, hx.get (by decide) k129⟩, ⟨_, hx.get (by decide) k130⟩, ⟨_, hx.get (by decide) k131⟩, ⟨_, hx.get (by decide) k132⟩, ⟨_, hx.get (by decide) k133⟩, ⟨_, hx.get (by decide) k134⟩, ⟨_, hx.get (by decide) k135⟩, c136, c137, c138⟩, hx.mono (by decide)⟩
            · exact absurd (nI_le (Nat.le_refl _) (by omega)) b67
          | succ m ih =>
            intro k h hk hx c117 c136 c137 c138
            have hlt : k < n := by omega
            refine r_iload (pc2 := 66) 4 dX10_numbers_64 rfl rfl ?_
            refine r_iload_n (pc2 := 67) 3 dX10_numbers_66 rfl rfl rfl ?_
            refine r_icmp_ge (tgt := 89) (pc2 := 70) dX10_numbers_67 (by decide) rfl (fun b67 => ?_) (fun b67 => ?_)
            · exact absurd b67 (nI_ge hlt (by omega))
            · skip
              refine r_aload_n (pc2 := 71) 0 dX10_numbers_70 rfl rfl rfl rfl ?_
              refine r_getf (pc2 := 74) (v := .ref 138) fX10_83 dX10_numbers_71 c117 (by decide) rfl rfl ?_
              refine r_bipush (pc2 := 76) (v := 40) dX10_numbers_74 (by decide) rfl ?_
              refine r_iload_n (pc2 := 77) 1 dX10_numbers_76 rfl rfl rfl ?_
              refine r_imul (pc2 := 78) dX10_numbers_77 rfl ?_
              refine r_cast (nI (40 * t)) (mulN 40 t) ?_
              refine r_iload (pc2 := 80) 4 dX10_numbers_78 rfl rfl ?_
              refine r_iadd (pc2 := 81) dX10_numbers_80 rfl ?_
              refine r_cast (nI (40 * t + k)) (nI_add _ _) ?_
              refine r_lconst (pc2 := 82) (v := 0) dX10_numbers_81 (by decide) rfl ?_
              refine r_lastN (pc2 := 83) (40 * t + k) dX10_numbers_82 c138 (by decide) rfl (by omega) (by decide) rfl (fun h z82 o82 c138 => ?_)
              have c117 := (o82 117 (by decide)).trans c117
              have c136 := (o82 136 (by decide)).trans c136
              have c137 := (o82 137 (by decide)).trans c137
              have hx := hx.step (a := 138) (by decide) z82 o82
              obtain ⟨x83, e83⟩ : ∃ z : Int32, z = (nI k) + (1) := ⟨_, rfl⟩
              refine r_iinc (pc2 := 86) (ls2 := [.ref 117, .int (nI t), .int (nI s), .int (nI n), .int x83]) (v := x83) 4 dX10_numbers_83 rfl (by rw [e83]; rfl) rfl rfl rfl ?_
              refine r_goto (pc2 := 64) dX10_numbers_86 (by decide) ?_
              rw [e83, nI_1]
              rw [fillN_L] at c138
              exact ih (k + 1) h (by omega) hx c117 c136 c137 c138
        refine Cn.go (ls := [.ref 117, .int (nI t), .int (nI s), .int (nI n), .float 0]) (by decide +kernel) rfl (Nat.le_of_ble_eq_true rfl) ?_
        refine r_aload_n (pc2 := 1) 0 dX10_numbers_0 rfl rfl rfl rfl ?_
        refine r_iconst (pc2 := 2) (v := 0) dX10_numbers_1 (by decide) rfl ?_
        refine r_putfX (pc2 := 5) (moL (upd v 0 0)) fX10_1 dX10_numbers_2 c117 (by decide) (Nat.le_of_ble_eq_true rfl) rfl rfl rfl (fun h z2 o2 c117 => ?_)
        have c136 := (o2 136 (by decide)).trans c136
        have c137 := (o2 137 (by decide)).trans c137
        have c138 := (o2 138 (by decide)).trans c138
        have hx := hx.step (a := 117) (by decide) z2 o2
        refine r_iload_n (pc2 := 6) 1 dX10_numbers_5 rfl rfl rfl ?_
        refine r_i2l (pc2 := 7) dX10_numbers_6 rfl ?_
        refine r_lconst (pc2 := 8) (v := 0) dX10_numbers_7 (by decide) rfl ?_
        refine r_ldc2 (pc2 := 11) (v := 3) qX10_321 dX10_numbers_8 rfl ?_
        refine r_callS1 (pc2 := 14) (As := [.long (Int32.toInt64 (nI t)), .long 0, .long 3]) (st := []) kX10_152 dX10_numbers_11 rfl rfl (Nat.le_of_ble_eq_true rfl) (by omega) (c_within (Int32.toInt64 (nI t)) 0 3) rfl (fun h2 hq11 => ?_)
        subst hq11
        refine r_if_eq (tgt := 29) (pc2 := 17) dX10_numbers_14 (by decide) rfl (fun b14 => ?_) (fun b14 => ?_)
        · exact absurd b14 (if1 hx1)
        · skip
          refine r_iload_n (pc2 := 18) 2 dX10_numbers_17 rfl rfl rfl ?_
          refine r_i2l (pc2 := 19) dX10_numbers_18 rfl ?_
          refine r_lconst (pc2 := 20) (v := 0) dX10_numbers_19 (by decide) rfl ?_
          refine r_ldc2 (pc2 := 23) (v := 3) qX10_321 dX10_numbers_20 rfl ?_
          refine r_callS1 (pc2 := 26) (As := [.long (Int32.toInt64 (nI s)), .long 0, .long 3]) (st := []) kX10_152 dX10_numbers_23 rfl rfl (Nat.le_of_ble_eq_true rfl) (by omega) (c_within (Int32.toInt64 (nI s)) 0 3) rfl (fun h2 hq23 => ?_)
          subst hq23
          refine r_if_ne (tgt := 32) (pc2 := 29) dX10_numbers_26 (by decide) rfl (fun b26 => ?_) (fun b26 => ?_)
          · skip
            refine r_iload_n (pc2 := 33) 3 dX10_numbers_32 rfl rfl rfl ?_
            refine r_i2l (pc2 := 34) dX10_numbers_33 rfl ?_
            refine r_lconst (pc2 := 35) (v := 0) dX10_numbers_34 (by decide) rfl ?_
            refine r_ldc2 (pc2 := 38) (v := 40) qX10_339 dX10_numbers_35 rfl ?_
            refine r_callS1 (pc2 := 41) (As := [.long (Int32.toInt64 (nI n)), .long 0, .long 40]) (st := []) kX10_152 dX10_numbers_38 rfl rfl (Nat.le_of_ble_eq_true rfl) (by omega) (c_within (Int32.toInt64 (nI n)) 0 40) rfl (fun h2 hq38 => ?_)
            subst hq38
            refine r_if_ne (tgt := 47) (pc2 := 44) dX10_numbers_41 (by decide) rfl (fun b41 => ?_) (fun b41 => ?_)
            · skip
              refine r_aload_n (pc2 := 48) 0 dX10_numbers_47 rfl rfl rfl rfl ?_
              refine r_getf (pc2 := 51) (v := .ref 136) fX10_77 dX10_numbers_48 c117 (by decide) rfl rfl ?_
              refine r_iload_n (pc2 := 52) 1 dX10_numbers_51 rfl rfl rfl ?_
              refine r_iload_n (pc2 := 53) 2 dX10_numbers_52 rfl rfl rfl ?_
              refine r_iastN (pc2 := 54) t dX10_numbers_53 c136 (by decide) rfl (by omega) (by decide) rfl (fun h z53 o53 c136 => ?_)
              have c117 := (o53 117 (by decide)).trans c117
              have c137 := (o53 137 (by decide)).trans c137
              have c138 := (o53 138 (by decide)).trans c138
              have hx := hx.step (a := 136) (by decide) z53 o53
              refine r_aload_n (pc2 := 55) 0 dX10_numbers_54 rfl rfl rfl rfl ?_
              refine r_getf (pc2 := 58) (v := .ref 137) fX10_80 dX10_numbers_55 c117 (by decide) rfl rfl ?_
              refine r_iload_n (pc2 := 59) 1 dX10_numbers_58 rfl rfl rfl ?_
              refine r_iload_n (pc2 := 60) 3 dX10_numbers_59 rfl rfl rfl ?_
              refine r_iastN (pc2 := 61) t dX10_numbers_60 c137 (by decide) rfl (by omega) (by decide) rfl (fun h z60 o60 c137 => ?_)
              have c117 := (o60 117 (by decide)).trans c117
              have c136 := (o60 136 (by decide)).trans c136
              have c138 := (o60 138 (by decide)).trans c138
              have hx := hx.step (a := 137) (by decide) z60 o60
              refine r_iconst (pc2 := 62) (v := 0) dX10_numbers_61 (by decide) rfl ?_
              refine r_istore (pc2 := 64) (ls2 := [.ref 117, .int (nI t), .int (nI s), .int (nI n), .int 0]) 4 dX10_numbers_62 (by decide) rfl rfl rfl ?_
              rw [← fillN_0 nu (40 * t) (fun _ => 0)] at c138
              exact loop n 0 h (by omega) hx c117 c136 c137 c138
            · exact absurd b41 (if1 hz1)
          · exact absurd b26 (if1 hy1)
      · have hc : ¬ numC x y z := fun q => hz1 q.2
        rw [numS, numM, numV, if_neg hc, if_neg hc, if_neg hc]
        refine Cn.go (ls := [.ref 117, .int x, .int y, .int z, .float 0]) (by decide +kernel) rfl (Nat.le_of_ble_eq_true rfl) ?_
        refine r_aload_n (pc2 := 1) 0 dX10_numbers_0 rfl rfl rfl rfl ?_
        refine r_iconst (pc2 := 2) (v := 0) dX10_numbers_1 (by decide) rfl ?_
        refine r_putfX (pc2 := 5) (moL (upd v 0 0)) fX10_1 dX10_numbers_2 c117 (by decide) (Nat.le_of_ble_eq_true rfl) rfl rfl rfl (fun h z2 o2 c117 => ?_)
        have c136 := (o2 136 (by decide)).trans c136
        have c137 := (o2 137 (by decide)).trans c137
        have c138 := (o2 138 (by decide)).trans c138
        have hx := hx.step (a := 117) (by decide) z2 o2
        refine r_iload_n (pc2 := 6) 1 dX10_numbers_5 rfl rfl rfl ?_
        refine r_i2l (pc2 := 7) dX10_numbers_6 rfl ?_
        refine r_lconst (pc2 := 8) (v := 0) dX10_numbers_7 (by decide) rfl ?_
        refine r_ldc2 (pc2 := 11) (v := 3) qX10_321 dX10_numbers_8 rfl ?_
        refine r_callS1 (pc2 := 14) (As := [.long (Int32.toInt64 x), .long 0, .long 3]) (st := []) kX10_152 dX10_numbers_11 rfl rfl (Nat.le_of_ble_eq_true rfl) (by omega) (c_within (Int32.toInt64 x) 0 3) rfl (fun h2 hq11 => ?_)
        subst hq11
        refine r_if_eq (tgt := 29) (pc2 := 17) dX10_numbers_14 (by decide) rfl (fun b14 => ?_) (fun b14 => ?_)
        · exact absurd b14 (if1 hx1)
        · skip
          refine r_iload_n (pc2 := 18) 2 dX10_numbers_17 rfl rfl rfl ?_
          refine r_i2l (pc2 := 19) dX10_numbers_18 rfl ?_
          refine r_lconst (pc2 := 20) (v := 0) dX10_numbers_19 (by decide) rfl ?_
          refine r_ldc2 (pc2 := 23) (v := 3) qX10_321 dX10_numbers_20 rfl ?_
          refine r_callS1 (pc2 := 26) (As := [.long (Int32.toInt64 y), .long 0, .long 3]) (st := []) kX10_152 dX10_numbers_23 rfl rfl (Nat.le_of_ble_eq_true rfl) (by omega) (c_within (Int32.toInt64 y) 0 3) rfl (fun h2 hq23 => ?_)
          subst hq23
          refine r_if_ne (tgt := 32) (pc2 := 29) dX10_numbers_26 (by decide) rfl (fun b26 => ?_) (fun b26 => ?_)
          · skip
            refine r_iload_n (pc2 := 33) 3 dX10_numbers_32 rfl rfl rfl ?_
            refine r_i2l (pc2 := 34) dX10_numbers_33 rfl ?_
            refine r_lconst (pc2 := 35) (v := 0) dX10_numbers_34 (by decide) rfl ?_
            refine r_ldc2 (pc2 := 38) (v := 40) qX10_339 dX10_numbers_35 rfl ?_
            refine r_callS1 (pc2 := 41) (As := [.long (Int32.toInt64 z), .long 0, .long 40]) (st := []) kX10_152 dX10_numbers_38 rfl rfl (Nat.le_of_ble_eq_true rfl) (by omega) (c_within (Int32.toInt64 z) 0 40) rfl (fun h2 hq38 => ?_)
            subst hq38
            refine r_if_ne (tgt := 47) (pc2 := 44) dX10_numbers_41 (by decide) rfl (fun b41 => ?_) (fun b41 => ?_)
            · exact absurd (if0 hz1) b41
            · skip
              refine r_bipush (pc2 := 46) (v := -3) dX10_numbers_44 (by decide) rfl ?_
              exact r_iret rfl dX10_numbers_46 ⟨by rw [numF, if_pos ⟨hx1, hy1⟩, if_neg hz1], (upd v 0 0), ⟨rfl, rfl, rfl⟩, ⟨c117, hx.get (by decide) k118, hx.get (by decide) k119, hx.get (by decide) k120, ⟨_, hx.get (by decide) k121⟩, ⟨_, hx.get (by decide) k122⟩, ⟨_, hx.get (by decide) k123⟩, ⟨_, hx.get (by decide) k124⟩, ⟨_, hx.get (by decide) k125⟩, ⟨_, hx.get (by decide) k126⟩, ⟨_, hx.get (by decide) k127⟩, ⟨_, hx.get (by decide) k128⟩, ⟨_, hx.get (by decide) k129⟩, ⟨_, hx.get (by decide) k130⟩, ⟨_, hx.get (by decide) k131⟩, ⟨_, hx.get (by decide) k132⟩, ⟨_, hx.get (by decide) k133⟩, ⟨_, hx.get (by decide) k134⟩, ⟨_, hx.get (by decide) k135⟩, c136, c137, c138⟩, hx.mono (by decide)⟩
          · exact absurd b26 (if1 hy1)
    · have hc : ¬ numC x y z := fun q => hy1 q.1.2
      rw [numS, numM, numV, if_neg hc, if_neg hc, if_neg hc]
      refine Cn.go (ls := [.ref 117, .int x, .int y, .int z, .float 0]) (by decide +kernel) rfl (Nat.le_of_ble_eq_true rfl) ?_
      refine r_aload_n (pc2 := 1) 0 dX10_numbers_0 rfl rfl rfl rfl ?_
      refine r_iconst (pc2 := 2) (v := 0) dX10_numbers_1 (by decide) rfl ?_
      refine r_putfX (pc2 := 5) (moL (upd v 0 0)) fX10_1 dX10_numbers_2 c117 (by decide) (Nat.le_of_ble_eq_true rfl) rfl rfl rfl (fun h z2 o2 c117 => ?_)
      have c136 := (o2 136 (by decide)).trans c136
      have c137 := (o2 137 (by decide)).trans c137
      have c138 := (o2 138 (by decide)).trans c138
      have hx := hx.step (a := 117) (by decide) z2 o2
      refine r_iload_n (pc2 := 6) 1 dX10_numbers_5 rfl rfl rfl ?_
      refine r_i2l (pc2 := 7) dX10_numbers_6 rfl ?_
      refine r_lconst (pc2 := 8) (v := 0) dX10_numbers_7 (by decide) rfl ?_
      refine r_ldc2 (pc2 := 11) (v := 3) qX10_321 dX10_numbers_8 rfl ?_
      refine r_callS1 (pc2 := 14) (As := [.long (Int32.toInt64 x), .long 0, .long 3]) (st := []) kX10_152 dX10_numbers_11 rfl rfl (Nat.le_of_ble_eq_true rfl) (by omega) (c_within (Int32.toInt64 x) 0 3) rfl (fun h2 hq11 => ?_)
      subst hq11
      refine r_if_eq (tgt := 29) (pc2 := 17) dX10_numbers_14 (by decide) rfl (fun b14 => ?_) (fun b14 => ?_)
      · exact absurd b14 (if1 hx1)
      · skip
        refine r_iload_n (pc2 := 18) 2 dX10_numbers_17 rfl rfl rfl ?_
        refine r_i2l (pc2 := 19) dX10_numbers_18 rfl ?_
        refine r_lconst (pc2 := 20) (v := 0) dX10_numbers_19 (by decide) rfl ?_
        refine r_ldc2 (pc2 := 23) (v := 3) qX10_321 dX10_numbers_20 rfl ?_
        refine r_callS1 (pc2 := 26) (As := [.long (Int32.toInt64 y), .long 0, .long 3]) (st := []) kX10_152 dX10_numbers_23 rfl rfl (Nat.le_of_ble_eq_true rfl) (by omega) (c_within (Int32.toInt64 y) 0 3) rfl (fun h2 hq23 => ?_)
        subst hq23
        refine r_if_ne (tgt := 32) (pc2 := 29) dX10_numbers_26 (by decide) rfl (fun b26 => ?_) (fun b26 => ?_)
        · exact absurd (if0 hy1) b26
        · skip
          refine r_bipush (pc2 := 31) (v := -2) dX10_numbers_29 (by decide) rfl ?_
          exact r_iret rfl dX10_numbers_31 ⟨by rw [numF, if_neg (fun q => hy1 q.2)], (upd v 0 0), ⟨rfl, rfl, rfl⟩, ⟨c117, hx.get (by decide) k118, hx.get (by decide) k119, hx.get (by decide) k120, ⟨_, hx.get (by decide) k121⟩, ⟨_, hx.get (by decide) k122⟩, ⟨_, hx.get (by decide) k123⟩, ⟨_, hx.get (by decide) k124⟩, ⟨_, hx.get (by decide) k125⟩, ⟨_, hx.get (by decide) k126⟩, ⟨_, hx.get (by decide) k127⟩, ⟨_, hx.get (by decide) k128⟩, ⟨_, hx.get (by decide) k129⟩, ⟨_, hx.get (by decide) k130⟩, ⟨_, hx.get (by decide) k131⟩, ⟨_, hx.get (by decide) k132⟩, ⟨_, hx.get (by decide) k133⟩, ⟨_, hx.get (by decide) k134⟩, ⟨_, hx.get (by decide) k135⟩, c136, c137, c138⟩, hx.mono (by decide)⟩
  · have hc : ¬ numC x y z := fun q => hx1 q.1.1
    rw [numS, numM, numV, if_neg hc, if_neg hc, if_neg hc]
    refine Cn.go (ls := [.ref 117, .int x, .int y, .int z, .float 0]) (by decide +kernel) rfl (Nat.le_of_ble_eq_true rfl) ?_
    refine r_aload_n (pc2 := 1) 0 dX10_numbers_0 rfl rfl rfl rfl ?_
    refine r_iconst (pc2 := 2) (v := 0) dX10_numbers_1 (by decide) rfl ?_
    refine r_putfX (pc2 := 5) (moL (upd v 0 0)) fX10_1 dX10_numbers_2 c117 (by decide) (Nat.le_of_ble_eq_true rfl) rfl rfl rfl (fun h z2 o2 c117 => ?_)
    have c136 := (o2 136 (by decide)).trans c136
    have c137 := (o2 137 (by decide)).trans c137
    have c138 := (o2 138 (by decide)).trans c138
    have hx := hx.step (a := 117) (by decide) z2 o2
    refine r_iload_n (pc2 := 6) 1 dX10_numbers_5 rfl rfl rfl ?_
    refine r_i2l (pc2 := 7) dX10_numbers_6 rfl ?_
    refine r_lconst (pc2 := 8) (v := 0) dX10_numbers_7 (by decide) rfl ?_
    refine r_ldc2 (pc2 := 11) (v := 3) qX10_321 dX10_numbers_8 rfl ?_
    refine r_callS1 (pc2 := 14) (As := [.long (Int32.toInt64 x), .long 0, .long 3]) (st := []) kX10_152 dX10_numbers_11 rfl rfl (Nat.le_of_ble_eq_true rfl) (by omega) (c_within (Int32.toInt64 x) 0 3) rfl (fun h2 hq11 => ?_)
    subst hq11
    refine r_if_eq (tgt := 29) (pc2 := 17) dX10_numbers_14 (by decide) rfl (fun b14 => ?_) (fun b14 => ?_)
    · skip
      refine r_bipush (pc2 := 31) (v := -2) dX10_numbers_29 (by decide) rfl ?_
      exact r_iret rfl dX10_numbers_31 ⟨by rw [numF, if_neg (fun q => hx1 q.1)], (upd v 0 0), ⟨rfl, rfl, rfl⟩, ⟨c117, hx.get (by decide) k118, hx.get (by decide) k119, hx.get (by decide) k120, ⟨_, hx.get (by decide) k121⟩, ⟨_, hx.get (by decide) k122⟩, ⟨_, hx.get (by decide) k123⟩, ⟨_, hx.get (by decide) k124⟩, ⟨_, hx.get (by decide) k125⟩, ⟨_, hx.get (by decide) k126⟩, ⟨_, hx.get (by decide) k127⟩, ⟨_, hx.get (by decide) k128⟩, ⟨_, hx.get (by decide) k129⟩, ⟨_, hx.get (by decide) k130⟩, ⟨_, hx.get (by decide) k131⟩, ⟨_, hx.get (by decide) k132⟩, ⟨_, hx.get (by decide) k133⟩, ⟨_, hx.get (by decide) k134⟩, ⟨_, hx.get (by decide) k135⟩, c136, c137, c138⟩, hx.mono (by decide)⟩
    · exact absurd (if0 hx1) b14
def cutN (v : Int64) (s : Int32) : Int64 := if s = 0 then v.toInt32.toInt8.toInt32.toInt64 else if s = 1 then v.toInt32.toInt16.toInt32.toInt64 else if s = 2 then v.toInt32.toInt64 else v
abbrev wriC (rs rm : Nat → Int32) (x y : Int32) : Prop := noTrayF rs x = 0 ∧ inP (rowN rm x.toNatClampNeg) y
def wriF (rs rm : Nat → Int32) (x y : Int32) (z : Int64) : Int64 := if noTrayF rs x ≠ 0 then (noTrayF rs x).toInt64 else if inP (rowN rm x.toNatClampNeg) y then cutN z (rs x.toNatClampNeg) else -7
def wriV (rs rm : Nat → Int32) (nu : Nat → Int64) (x y : Int32) (z : Int64) : Nat → Int64 := if wriC rs rm x y then vp_updL nu (40 * x.toNatClampNeg + y.toNatClampNeg) (cutN z (rs x.toNatClampNeg)) else nu
set_option maxRecDepth 20000 in
set_option maxHeartbeats 1000000 in
theorem ref_write {E : EnvT} {d : Nat} {h0 : Hp} {v : Nat → Int32} {a : Nat → Nat} {hi : Nat → Int32} {tp : Nat → Nat} {rs rm : Nat → Int32} {nu : Nat → Int64} {x y : Int32} {z : Int64} (hR : RS h0 v a hi tp rs rm nu) (hT : TOK rs rm) (hd : 2 ≤ d) : Cn E mX10_write d [.ref 117, .int x, .int y, .long z] h0 (RP (.long (wriF rs rm x y z)) h0 v a hi tp rs rm (wriV rs rm nu x y z)) := by
  obtain ⟨k117, k118, k119, k120, ⟨f121, k121⟩, ⟨f122, k122⟩, ⟨f123, k123⟩, ⟨f124, k124⟩, ⟨f125, k125⟩, ⟨f126, k126⟩, ⟨f127, k127⟩, ⟨f128, k128⟩, ⟨f129, k129⟩, ⟨f130, k130⟩, ⟨f131, k131⟩, ⟨f132, k132⟩, ⟨f133, k133⟩, ⟨f134, k134⟩, ⟨f135, k135⟩, k136, k137, k138⟩ := hR
  have c117 := k117
  have c136 := k136
  have c137 := k137
  have c138 := k138
  have hx : Ex [117, 136, 137, 138] h0 h0 := Ex.rf
  by_cases ht : noTrayF rs x = 0
  · obtain ⟨t, ht4, rfl, hrs⟩ := noTray_0 ht
    obtain ⟨hrm, hr40⟩ := hT t ht4
    by_cases hy1 : inP (rowN rm t) y
    · have hc : wriC rs rm (nI t) y := ⟨ht, by rw [nI_clamp (by omega)]; exact hy1⟩
      rw [wriV, if_pos hc, nI_clamp (by omega)]
      obtain ⟨i, hi1, rfl⟩ := inP_of (by omega) hy1
      rw [nI_clamp (n := i) (by omega)]
      refine Cn.go (ls := [.ref 117, .int (nI t), .int (nI i), .long z, .float 0, .float 0]) (by decide +kernel) rfl (Nat.le_of_ble_eq_true rfl) ?_
      refine r_aload_n (pc2 := 1) 0 dX10_write_0 rfl rfl rfl rfl ?_
      refine r_iconst (pc2 := 2) (v := 0) dX10_write_1 (by decide) rfl ?_
      refine r_putfX (pc2 := 5) (moL (upd v 0 0)) fX10_1 dX10_write_2 c117 (by decide) (Nat.le_of_ble_eq_true rfl) rfl rfl rfl (fun h z2 o2 c117 => ?_)
      have c136 := (o2 136 (by decide)).trans c136
      have c137 := (o2 137 (by decide)).trans c137
      have c138 := (o2 138 (by decide)).trans c138
      have hx := hx.step (a := 117) (by decide) z2 o2
      refine r_aload_n (pc2 := 6) 0 dX10_write_5 rfl rfl rfl rfl ?_
      refine r_iload_n (pc2 := 7) 1 dX10_write_6 rfl rfl rfl ?_
      refine r_callV1 (pc2 := 10) (As := [.int (nI t)]) (st := []) kX10_323 rfl rfl dX10_write_7 c117 (by decide) rfl rfl (Nat.le_of_ble_eq_true rfl) (by omega) (c_noTray (x := (nI t)) c117 c136 (by omega)) rfl (fun h2 hq7 => ?_)
      subst hq7
      refine r_topi (fun x10 e10 => ?_)
      refine r_istore (pc2 := 12) (ls2 := [.ref 117, .int (nI t), .int (nI i), .long z, .float 0, .int x10]) 5 dX10_write_10 (by decide) rfl rfl rfl ?_
      refine r_iload (pc2 := 14) 5 dX10_write_12 rfl rfl ?_
      refine r_if_eq (tgt := 21) (pc2 := 17) dX10_write_14 (by decide) rfl (fun b14 => ?_) (fun b14 => ?_)
      · skip
        refine r_iload_n (pc2 := 22) 2 dX10_write_21 rfl rfl rfl ?_
        refine r_i2l (pc2 := 23) dX10_write_22 rfl ?_
        refine r_lconst (pc2 := 24) (v := 0) dX10_write_23 (by decide) rfl ?_
        refine r_aload_n (pc2 := 25) 0 dX10_write_24 rfl rfl rfl rfl ?_
        refine r_getf (pc2 := 28) (v := .ref 137) fX10_80 dX10_write_25 c117 (by decide) rfl rfl ?_
        refine r_iload_n (pc2 := 29) 1 dX10_write_28 rfl rfl rfl ?_
        refine r_ialdN (pc2 := 30) t dX10_write_29 c137 (by decide) rfl (by omega) (by decide) rfl ?_
        refine r_cast (nI (rowN rm t)) (hrm) ?_
        refine r_iconst (pc2 := 31) (v := 1) dX10_write_30 (by decide) rfl ?_
        refine r_isub (pc2 := 32) dX10_write_31 rfl ?_
        refine r_i2l (pc2 := 33) dX10_write_32 rfl ?_
        refine r_callS1 (pc2 := 36) (As := [.long (Int32.toInt64 (nI i)), .long 0, .long (Int32.toInt64 (nI (rowN rm t) - 1))]) (st := []) kX10_152 dX10_write_33 rfl rfl (Nat.le_of_ble_eq_true rfl) (by omega) (c_within (Int32.toInt64 (nI i)) 0 (Int32.toInt64 (nI (rowN rm t) - 1))) rfl (fun h2 hq33 => ?_)
        subst hq33
        refine r_if_ne (tgt := 43) (pc2 := 39) dX10_write_36 (by decide) rfl (fun b36 => ?_) (fun b36 => ?_)
        · skip
          refine r_aload_n (pc2 := 44) 0 dX10_write_43 rfl rfl rfl rfl ?_
          refine r_getf (pc2 := 47) (v := .ref 138) fX10_83 dX10_write_44 c117 (by decide) rfl rfl ?_
          refine r_bipush (pc2 := 49) (v := 40) dX10_write_47 (by decide) rfl ?_
          refine r_iload_n (pc2 := 50) 1 dX10_write_49 rfl rfl rfl ?_
          refine r_imul (pc2 := 51) dX10_write_50 rfl ?_
          refine r_cast (nI (40 * t)) (mulN 40 t) ?_
          refine r_iload_n (pc2 := 52) 2 dX10_write_51 rfl rfl rfl ?_
          refine r_iadd (pc2 := 53) dX10_write_52 rfl ?_
          refine r_cast (nI (40 * t + i)) (nI_add _ _) ?_
          refine r_lload_n (pc2 := 54) 3 dX10_write_53 rfl rfl rfl ?_
          refine r_aload_n (pc2 := 55) 0 dX10_write_54 rfl rfl rfl rfl ?_
          refine r_getf (pc2 := 58) (v := .ref 136) fX10_77 dX10_write_55 c117 (by decide) rfl rfl ?_
          refine r_iload_n (pc2 := 59) 1 dX10_write_58 rfl rfl rfl ?_
          refine r_ialdN (pc2 := 60) t dX10_write_59 c136 (by decide) rfl (by omega) (by decide) rfl ?_
          refine r_callS1 (pc2 := 63) (As := [.long z, .int (rs t)]) (st := [.int (nI (40 * t + i)), .ref 138]) kX10_451 dX10_write_60 rfl rfl (Nat.le_of_ble_eq_true rfl) (by omega) (c_xcut z (rs t)) rfl (fun h2 hq60 => ?_)
          subst hq60
          refine r_topl (fun y63 ey63 => ?_)
          refine r_lastN (pc2 := 64) (40 * t + i) dX10_write_63 c138 (by decide) rfl (by omega) (by decide) rfl (fun h z63 o63 c138 => ?_)
          have c117 := (o63 117 (by decide)).trans c117
          have c136 := (o63 136 (by decide)).trans c136
          have c137 := (o63 137 (by decide)).trans c137
          have hx := hx.step (a := 138) (by decide) z63 o63
          rw [ey63] at c138
          refine r_aload_n (pc2 := 65) 0 dX10_write_64 rfl rfl rfl rfl ?_
          refine r_getf (pc2 := 68) (v := .ref 138) fX10_83 dX10_write_65 c117 (by decide) rfl rfl ?_
          refine r_bipush (pc2 := 70) (v := 40) dX10_write_68 (by decide) rfl ?_
          refine r_iload_n (pc2 := 71) 1 dX10_write_70 rfl rfl rfl ?_
          refine r_imul (pc2 := 72) dX10_write_71 rfl ?_
          refine r_cast (nI (40 * t)) (mulN 40 t) ?_
          refine r_iload_n (pc2 := 73) 2 dX10_write_72 rfl rfl rfl ?_
          refine r_iadd (pc2 := 74) dX10_write_73 rfl ?_
          refine r_cast (nI (40 * t + i)) (nI_add _ _) ?_
          refine r_laldN (pc2 := 75) (40 * t + i) dX10_write_74 c138 (by decide) rfl (by omega) (by decide) rfl ?_
          exact r_lret rfl dX10_write_75 ⟨by show some (Value.long (vp_updL nu (40 * t + i) (cutN z (rs t)) (40 * t + i))) = _; rw [wriF, if_neg (fun q => q ht), nI_clamp (by omega), if_pos hy1]; congr 2; exact if_pos rfl, (upd v 0 0), ⟨rfl, rfl, rfl⟩, ⟨c117, hx.get (by decide) k118, hx.get (by decide) k119, hx.get (by decide) k120, ⟨_, hx.get (by decide) k121⟩, ⟨_, hx.get (by decide) k122⟩, ⟨_, hx.get (by decide) k123⟩, ⟨_, hx.get (by decide) k124⟩, ⟨_, hx.get (by decide) k125⟩, ⟨_, hx.get (by decide) k126⟩, ⟨_, hx.get (by decide) k127⟩, ⟨_, hx.get (by decide) k128⟩, ⟨_, hx.get (by decide) k129⟩, ⟨_, hx.get (by decide) k130⟩, ⟨_, hx.get (by decide) k131⟩, ⟨_, hx.get (by decide) k132⟩, ⟨_, hx.get (by decide) k133⟩, ⟨_, hx.get (by decide) k134⟩, ⟨_, hx.get (by decide) k135⟩, c136, c137, c138⟩, hx.mono (by decide)⟩
        · exact absurd b36 (if1 hy1)
      · exact absurd (e10.trans ht) b14
    · have hc : ¬ wriC rs rm (nI t) y := fun q => hy1 (by have := q.2; rw [nI_clamp (by omega)] at this; exact this)
      rw [wriV, if_neg hc]
      refine Cn.go (ls := [.ref 117, .int (nI t), .int y, .long z, .float 0, .float 0]) (by decide +kernel) rfl (Nat.le_of_ble_eq_true rfl) ?_
      refine r_aload_n (pc2 := 1) 0 dX10_write_0 rfl rfl rfl rfl ?_
      refine r_iconst (pc2 := 2) (v := 0) dX10_write_1 (by decide) rfl ?_
      refine r_putfX (pc2 := 5) (moL (upd v 0 0)) fX10_1 dX10_write_2 c117 (by decide) (Nat.le_of_ble_eq_true rfl) rfl rfl rfl (fun h z2 o2 c117 => ?_)
      have c136 := (o2 136 (by decide)).trans c136
      have c137 := (o2 137 (by decide)).trans c137
      have c138 := (o2 138 (by decide)).trans c138
      have hx := hx.step (a := 117) (by decide) z2 o2
      refine r_aload_n (pc2 := 6) 0 dX10_write_5 rfl rfl rfl rfl ?_
      refine r_iload_n (pc2 := 7) 1 dX10_write_6 rfl rfl rfl ?_
      refine r_callV1 (pc2 := 10) (As := [.int (nI t)]) (st := []) kX10_323 rfl rfl dX10_write_7 c117 (by decide) rfl rfl (Nat.le_of_ble_eq_true rfl) (by omega) (c_noTray (x := (nI t)) c117 c136 (by omega)) rfl (fun h2 hq7 => ?_)
      subst hq7
      refine r_topi (fun x10 e10 => ?_)
      refine r_istore (pc2 := 12) (ls2 := [.ref 117, .int (nI t), .int y, .long z, .float 0, .int x10]) 5 dX10_write_10 (by decide) rfl rfl rfl ?_
      refine r_iload (pc2 := 14) 5 dX10_write_12 rfl rfl ?_
      refine r_if_eq (tgt := 21) (pc2 := 17) dX10_write_14 (by decide) rfl (fun b14 => ?_) (fun b14 => ?_)
      · skip
        refine r_iload_n (pc2 := 22) 2 dX10_write_21 rfl rfl rfl ?_
        refine r_i2l (pc2 := 23) dX10_write_22 rfl ?_
        refine r_lconst (pc2 := 24) (v := 0) dX10_write_23 (by decide) rfl ?_
        refine r_aload_n (pc2 := 25) 0 dX10_write_24 rfl rfl rfl rfl ?_
        refine r_getf (pc2 := 28) (v := .ref 137) fX10_80 dX10_write_25 c117 (by decide) rfl rfl ?_
        refine r_iload_n (pc2 := 29) 1 dX10_write_28 rfl rfl rfl ?_
        refine r_ialdN (pc2 := 30) t dX10_write_29 c137 (by decide) rfl (by omega) (by decide) rfl ?_
        refine r_cast (nI (rowN rm t)) (hrm) ?_
        refine r_iconst (pc2 := 31) (v := 1) dX10_write_30 (by decide) rfl ?_
        refine r_isub (pc2 := 32) dX10_write_31 rfl ?_
        refine r_i2l (pc2 := 33) dX10_write_32 rfl ?_
        refine r_callS1 (pc2 := 36) (As := [.long (Int32.toInt64 y), .long 0, .long (Int32.toInt64 (nI (rowN rm t) - 1))]) (st := []) kX10_152 dX10_write_33 rfl rfl (Nat.le_of_ble_eq_true rfl) (by omega) (c_within (Int32.toInt64 y) 0 (Int32.toInt64 (nI (rowN rm t) - 1))) rfl (fun h2 hq33 => ?_)
        subst hq33
        refine r_if_ne (tgt := 43) (pc2 := 39) dX10_write_36 (by decide) rfl (fun b36 => ?_) (fun b36 => ?_)
        · exact absurd (if0 hy1) b36
        · skip
          refine r_ldc2 (pc2 := 42) (v := -7) qX10_449 dX10_write_39 rfl ?_
          exact r_lret rfl dX10_write_42 ⟨by rw [wriF, if_neg (fun q => q ht), nI_clamp (by omega), if_neg hy1], (upd v 0 0), ⟨rfl, rfl, rfl⟩, ⟨c117, hx.get (by decide) k118, hx.get (by decide) k119, hx.get (by decide) k120, ⟨_, hx.get (by decide) k121⟩, ⟨_, hx.get (by decide) k122⟩, ⟨_, hx.get (by decide) k123⟩, ⟨_, hx.get (by decide) k124⟩, ⟨_, hx.get (by decide) k125⟩, ⟨_, hx.get (by decide) k126⟩, ⟨_, hx.get (by decide) k127⟩, ⟨_, hx.get (by decide) k128⟩, ⟨_, hx.get (by decide) k129⟩, ⟨_, hx.get (by decide) k130⟩, ⟨_, hx.get (by decide) k131⟩, ⟨_, hx.get (by decide) k132⟩, ⟨_, hx.get (by decide) k133⟩, ⟨_, hx.get (by decide) k134⟩, ⟨_, hx.get (by decide) k135⟩, c136, c137, c138⟩, hx.mono (by decide)⟩
      · exact absurd (e10.trans ht) b14
  · have hc : ¬ wriC rs rm x y := fun q => ht q.1
    rw [wriV, if_neg hc]
    refine Cn.go (ls := [.ref 117, .int x, .int y, .long z, .float 0, .float 0]) (by decide +kernel) rfl (Nat.le_of_ble_eq_true rfl) ?_
    refine r_aload_n (pc2 := 1) 0 dX10_write_0 rfl rfl rfl rfl ?_
    refine r_iconst (pc2 := 2) (v := 0) dX10_write_1 (by decide) rfl ?_
    refine r_putfX (pc2 := 5) (moL (upd v 0 0)) fX10_1 dX10_write_2 c117 (by decide) (Nat.le_of_ble_eq_true rfl) rfl rfl rfl (fun h z2 o2 c117 => ?_)
    have c136 := (o2 136 (by decide)).trans c136
    have c137 := (o2 137 (by decide)).trans c137
    have c138 := (o2 138 (by decide)).trans c138
    have hx := hx.step (a := 117) (by decide) z2 o2
    refine r_aload_n (pc2 := 6) 0 dX10_write_5 rfl rfl rfl rfl ?_
    refine r_iload_n (pc2 := 7) 1 dX10_write_6 rfl rfl rfl ?_
    refine r_callV1 (pc2 := 10) (As := [.int x]) (st := []) kX10_323 rfl rfl dX10_write_7 c117 (by decide) rfl rfl (Nat.le_of_ble_eq_true rfl) (by omega) (c_noTray (x := x) c117 c136 (by omega)) rfl (fun h2 hq7 => ?_)
    subst hq7
    refine r_topi (fun x10 e10 => ?_)
    refine r_istore (pc2 := 12) (ls2 := [.ref 117, .int x, .int y, .long z, .float 0, .int x10]) 5 dX10_write_10 (by decide) rfl rfl rfl ?_
    refine r_iload (pc2 := 14) 5 dX10_write_12 rfl rfl ?_
    refine r_if_eq (tgt := 21) (pc2 := 17) dX10_write_14 (by decide) rfl (fun b14 => ?_) (fun b14 => ?_)
    · exact absurd (by rw [← e10]; exact b14) ht
    · skip
      refine r_iload (pc2 := 19) 5 dX10_write_17 rfl rfl ?_
      refine r_i2l (pc2 := 20) dX10_write_19 rfl ?_
      exact r_lret rfl dX10_write_20 ⟨by rw [wriF, if_pos ht, e10], (upd v 0 0), ⟨rfl, rfl, rfl⟩, ⟨c117, hx.get (by decide) k118, hx.get (by decide) k119, hx.get (by decide) k120, ⟨_, hx.get (by decide) k121⟩, ⟨_, hx.get (by decide) k122⟩, ⟨_, hx.get (by decide) k123⟩, ⟨_, hx.get (by decide) k124⟩, ⟨_, hx.get (by decide) k125⟩, ⟨_, hx.get (by decide) k126⟩, ⟨_, hx.get (by decide) k127⟩, ⟨_, hx.get (by decide) k128⟩, ⟨_, hx.get (by decide) k129⟩, ⟨_, hx.get (by decide) k130⟩, ⟨_, hx.get (by decide) k131⟩, ⟨_, hx.get (by decide) k132⟩, ⟨_, hx.get (by decide) k133⟩, ⟨_, hx.get (by decide) k134⟩, ⟨_, hx.get (by decide) k135⟩, c136, c137, c138⟩, hx.mono (by decide)⟩
