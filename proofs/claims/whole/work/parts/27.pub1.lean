theorem if1 {p : Prop} [Decidable p] (h : p) : ¬ (if p then (1 : Int32) else 0) = 0 := by rw [if_pos h]; decide
theorem if0 {p : Prop} [Decidable p] (h : ¬ p) : (if p then (1 : Int32) else 0) = 0 := if_neg h
set_option maxRecDepth 20000 in
set_option maxHeartbeats 1000000 in
theorem ref_draught {E : EnvT} {d : Nat} {h0 : Hp} {v : Nat → Int32} {a : Nat → Nat} {hi : Nat → Int32} {tp : Nat → Nat} {rs rm : Nat → Int32} {nu : Nat → Int64} {x : Int32} (hR : RS h0 v a hi tp rs rm nu) (hA : AIN a) (hd : 2 ≤ d) : Cn E mX10_draught d [.ref 117, .int x] h0 (RP (.int (draughtF a x)) h0 v (draughtA a x) hi tp rs rm nu) := by
  obtain ⟨k117, k118, k119, k120, ⟨f121, k121⟩, ⟨f122, k122⟩, ⟨f123, k123⟩, ⟨f124, k124⟩, ⟨f125, k125⟩, ⟨f126, k126⟩, ⟨f127, k127⟩, ⟨f128, k128⟩, ⟨f129, k129⟩, ⟨f130, k130⟩, ⟨f131, k131⟩, ⟨f132, k132⟩, ⟨f133, k133⟩, ⟨f134, k134⟩, ⟨f135, k135⟩, k136, k137, k138⟩ := hR
  have c117 := k117
  have c118 := k118
  have c124 := k124
  have hx : Ex [117, 118, 124] h0 h0 := Ex.rf
  by_cases hv : inR 0 9 x
  · obtain ⟨n, hn, hn2, rfl⟩ := inR_of (by decide) (by decide) hv
    have eA : draughtA a (nI n) = notesN (va_up a 27 n) (keepV a) := by rw [draughtA, if_pos hv, nI_clamp (by omega)]
    rw [eA]
    refine Cn.go (ls := [.ref 117, .int (nI n)]) (by decide +kernel) rfl (Nat.le_of_ble_eq_true rfl) ?_
    refine r_aload_n (pc2 := 1) 0 dX10_draught_0 rfl rfl rfl rfl ?_
    refine r_iconst (pc2 := 2) (v := 0) dX10_draught_1 (by decide) rfl ?_
    refine r_putfX (pc2 := 5) (moL (upd v 0 0)) fX10_1 dX10_draught_2 c117 (by decide) (Nat.le_of_ble_eq_true rfl) rfl rfl rfl (fun h z2 o2 c117 => ?_)
    have c118 := (o2 118 (by decide)).trans c118
    have c124 := (o2 124 (by decide)).trans c124
    have hx := hx.step (a := 117) (by decide) z2 o2
    refine r_iload_n (pc2 := 6) 1 dX10_draught_5 rfl rfl rfl ?_
    refine r_i2l (pc2 := 7) dX10_draught_6 rfl ?_
    refine r_lconst (pc2 := 8) (v := 0) dX10_draught_7 (by decide) rfl ?_
    refine r_ldc2 (pc2 := 11) (v := 9) qX10_297 dX10_draught_8 rfl ?_
    refine r_callS1 (pc2 := 14) (As := [.long (Int32.toInt64 (nI n)), .long 0, .long 9]) (st := []) kX10_152 dX10_draught_11 rfl rfl (Nat.le_of_ble_eq_true rfl) (by omega) (c_within (Int32.toInt64 (nI n)) 0 9) rfl (fun h2 hq11 => ?_)
    subst hq11
    refine r_if_ne (tgt := 20) (pc2 := 17) dX10_draught_14 (by decide) rfl (fun b14 => ?_) (fun b14 => ?_)
    · skip
      refine r_aload_n (pc2 := 21) 0 dX10_draught_20 rfl rfl rfl rfl ?_
      refine r_callV0 (pc2 := 24) (As := []) (st := []) kX10_279 rfl rfl dX10_draught_21 c117 (by decide) rfl rfl (Nat.le_of_ble_eq_true rfl) (by omega) (c_keeps c117 c118 c124) rfl (fun h hq21 => ?_)
      obtain ⟨hxk, c124⟩ := hq21
      have c117 := hxk.get (by decide) c117
      have c118 := hxk.get (by decide) c118
      have hx := hx.trans hxk (by decide)
      refine r_aload_n (pc2 := 25) 0 dX10_draught_24 rfl rfl rfl rfl ?_
      refine r_getf (pc2 := 28) (v := .ref 118) fX10_13 dX10_draught_25 c117 (by decide) rfl rfl ?_
      refine r_bipush (pc2 := 30) (v := 27) dX10_draught_28 (by decide) rfl ?_
      refine r_iload_n (pc2 := 31) 1 dX10_draught_30 rfl rfl rfl ?_
      refine r_iastN (pc2 := 32) 27 dX10_draught_31 c118 (by decide) rfl (by decide) (by decide) rfl (fun h z31 o31 c118 => ?_)
      rw [upd_nA] at c118
      have c117 := (o31 117 (by decide)).trans c117
      have c124 := (o31 124 (by decide)).trans c124
      have hx := hx.step (a := 118) (by decide) z31 o31
      refine r_aload_n (pc2 := 33) 0 dX10_draught_32 rfl rfl rfl rfl ?_
      refine r_callV0 (pc2 := 36) (As := []) (st := []) kX10_285 rfl rfl dX10_draught_33 c117 (by decide) rfl rfl (Nat.le_of_ble_eq_true rfl) (by omega) (c_notes (w := keepV a) c117 c118 c124 keepV_hw (by rw [va_up_ne _ _ (by decide)]; exact hA.nd)) rfl (fun h hq33 => ?_)
      obtain ⟨hxn, c118⟩ := hq33
      have c117 := hxn.get (by decide) c117
      have c124 := hxn.get (by decide) c124
      have hx := hx.trans hxn (by decide)
      refine r_aload_n (pc2 := 37) 0 dX10_draught_36 rfl rfl rfl rfl ?_
      refine r_getf (pc2 := 40) (v := .ref 124) fX10_36 dX10_draught_37 c117 (by decide) rfl rfl ?_
      refine r_iconst (pc2 := 41) (v := 5) dX10_draught_40 (by decide) rfl ?_
      refine r_ialdN (pc2 := 42) 5 dX10_draught_41 c124 (by decide) rfl (by decide) (by decide) rfl ?_
      refine r_cast (nI (a 27)) ((keepV_hw (a := a) (f := f124) 5 (by decide))) ?_
      exact r_iret rfl dX10_draught_42 ⟨by rw [draughtF, if_pos hv], (upd v 0 0), ⟨rfl, rfl, rfl⟩, ⟨c117, c118, hx.get (by decide) k119, hx.get (by decide) k120, ⟨_, hx.get (by decide) k121⟩, ⟨_, hx.get (by decide) k122⟩, ⟨_, hx.get (by decide) k123⟩, ⟨_, c124⟩, ⟨_, hx.get (by decide) k125⟩, ⟨_, hx.get (by decide) k126⟩, ⟨_, hx.get (by decide) k127⟩, ⟨_, hx.get (by decide) k128⟩, ⟨_, hx.get (by decide) k129⟩, ⟨_, hx.get (by decide) k130⟩, ⟨_, hx.get (by decide) k131⟩, ⟨_, hx.get (by decide) k132⟩, ⟨_, hx.get (by decide) k133⟩, ⟨_, hx.get (by decide) k134⟩, ⟨_, hx.get (by decide) k135⟩, hx.get (by decide) k136, hx.get (by decide) k137, hx.get (by decide) k138⟩, hx.mono (by decide)⟩
    · exact absurd b14 (if1 hv)
  · have eA : draughtA a x = a := by rw [draughtA, if_neg hv]
    rw [eA]
    refine Cn.go (ls := [.ref 117, .int x]) (by decide +kernel) rfl (Nat.le_of_ble_eq_true rfl) ?_
    refine r_aload_n (pc2 := 1) 0 dX10_draught_0 rfl rfl rfl rfl ?_
    refine r_iconst (pc2 := 2) (v := 0) dX10_draught_1 (by decide) rfl ?_
    refine r_putfX (pc2 := 5) (moL (upd v 0 0)) fX10_1 dX10_draught_2 c117 (by decide) (Nat.le_of_ble_eq_true rfl) rfl rfl rfl (fun h z2 o2 c117 => ?_)
    have c118 := (o2 118 (by decide)).trans c118
    have c124 := (o2 124 (by decide)).trans c124
    have hx := hx.step (a := 117) (by decide) z2 o2
    refine r_iload_n (pc2 := 6) 1 dX10_draught_5 rfl rfl rfl ?_
    refine r_i2l (pc2 := 7) dX10_draught_6 rfl ?_
    refine r_lconst (pc2 := 8) (v := 0) dX10_draught_7 (by decide) rfl ?_
    refine r_ldc2 (pc2 := 11) (v := 9) qX10_297 dX10_draught_8 rfl ?_
    refine r_callS1 (pc2 := 14) (As := [.long (Int32.toInt64 x), .long 0, .long 9]) (st := []) kX10_152 dX10_draught_11 rfl rfl (Nat.le_of_ble_eq_true rfl) (by omega) (c_within (Int32.toInt64 x) 0 9) rfl (fun h2 hq11 => ?_)
    subst hq11
    refine r_if_ne (tgt := 20) (pc2 := 17) dX10_draught_14 (by decide) rfl (fun b14 => ?_) (fun b14 => ?_)
    · exact absurd (if0 hv) b14
    · skip
      refine r_bipush (pc2 := 19) (v := -11) dX10_draught_17 (by decide) rfl ?_
      exact r_iret rfl dX10_draught_19 ⟨by rw [draughtF, if_neg hv], (upd v 0 0), ⟨rfl, rfl, rfl⟩, ⟨c117, c118, hx.get (by decide) k119, hx.get (by decide) k120, ⟨_, hx.get (by decide) k121⟩, ⟨_, hx.get (by decide) k122⟩, ⟨_, hx.get (by decide) k123⟩, ⟨_, c124⟩, ⟨_, hx.get (by decide) k125⟩, ⟨_, hx.get (by decide) k126⟩, ⟨_, hx.get (by decide) k127⟩, ⟨_, hx.get (by decide) k128⟩, ⟨_, hx.get (by decide) k129⟩, ⟨_, hx.get (by decide) k130⟩, ⟨_, hx.get (by decide) k131⟩, ⟨_, hx.get (by decide) k132⟩, ⟨_, hx.get (by decide) k133⟩, ⟨_, hx.get (by decide) k134⟩, ⟨_, hx.get (by decide) k135⟩, hx.get (by decide) k136, hx.get (by decide) k137, hx.get (by decide) k138⟩, hx.mono (by decide)⟩
def undoA (a : Nat → Nat) (n : Nat) : Nat → Nat := fillN (va_up a 45 (a 45 - n)) 22 23 (fun k => a (46 + 23 * (a 45 - n) + k))
abbrev undoC (a : Nat → Nat) (x : Int32) : Prop := inR 1 10 x ∧ x ≤ nI (a 45)
def undoF (a : Nat → Nat) (x : Int32) : Int32 := if undoC a x then nI (a 45 - x.toNatClampNeg) else -3
def undoR (a : Nat → Nat) (x : Int32) : Nat → Nat := if undoC a x then undoA a x.toNatClampNeg else a
theorem AIN.undo {a : Nat → Nat} {n : Nat} (hA : AIN a) (h1 : 1 ≤ n) (h : n ≤ a 45) : AIN (undoA a n) := by
  have e : ∀ k, k < 22 ∨ (45 ≤ k ∧ k ≠ 45) → undoA a n k = a k := fun k hk => by
    unfold undoA
    rw [fillN_out (by omega), va_up_ne _ _ (by omega)]
  have e45 : undoA a n 45 = a 45 - n := by
    unfold undoA
    rw [fillN_out (by omega), va_up_self]
  have hn := hA.nd
  refine ⟨hA.1.of (fun k hk => e k (by omega)), ?_, ?_⟩
  · refine ((hA.2.2.2 (a 45 - n) (by omega)).ext (fun k hk => ?_)).of (e 1 (by omega)) (e 3 (by omega))
    show undoA a n (22 + k) = _
    unfold undoA
    rw [fillN_in hk]
  · refine ⟨by rw [e45]; omega, fun j hj => ?_⟩
    rw [e45] at hj
    exact ((hA.2.2.2 j (by omega)).ext (fun k hk => e _ (by omega))).of (e 1 (by omega)) (e 3 (by omega))
set_option maxRecDepth 20000 in
set_option maxHeartbeats 1000000 in
theorem ref_undo {E : EnvT} {d : Nat} {h0 : Hp} {v : Nat → Int32} {a : Nat → Nat} {hi : Nat → Int32} {tp : Nat → Nat} {rs rm : Nat → Int32} {nu : Nat → Int64} {x : Int32} (hR : RS h0 v a hi tp rs rm nu) (hA : AIN a) (hd : 2 ≤ d) : Cn E mX10_undo d [.ref 117, .int x] h0 (RP (.int (undoF a x)) h0 v (undoR a x) hi tp rs rm nu) := by
  obtain ⟨k117, k118, k119, k120, ⟨f121, k121⟩, ⟨f122, k122⟩, ⟨f123, k123⟩, ⟨f124, k124⟩, ⟨f125, k125⟩, ⟨f126, k126⟩, ⟨f127, k127⟩, ⟨f128, k128⟩, ⟨f129, k129⟩, ⟨f130, k130⟩, ⟨f131, k131⟩, ⟨f132, k132⟩, ⟨f133, k133⟩, ⟨f134, k134⟩, ⟨f135, k135⟩, k136, k137, k138⟩ := hR
  have c117 := k117
  have c118 := k118
  have hx : Ex [117, 118] h0 h0 := Ex.rf
  have hnd := hA.nd
  by_cases hv : inR 1 10 x
  · by_cases hle : x ≤ nI (a 45)
    · obtain ⟨n, hn, hn2, rfl⟩ := inR_of (by decide) (by decide) hv
      have hc : undoC a (nI n) := ⟨hv, hle⟩
      rw [nI_leI (by omega) (by omega)] at hle
      have eA : undoR a (nI n) = undoA a n := by rw [undoR, if_pos hc, nI_clamp (by omega)]
      rw [eA]
      refine Cn.go (ls := [.ref 117, .int (nI n), .float 0]) (by decide +kernel) rfl (Nat.le_of_ble_eq_true rfl) ?_
      have loop : ∀ (m k : Nat) (h1 : Hp), k + m = 23 → Ex [117, 118] h0 h1 → h1.1 117 = some (mO (upd v 0 0)) → h1.1 118 = some (aI 3531 (nA (fillN (va_up a 45 (a 45 - n)) 22 k (fun i => a (46 + 23 * (a 45 - n) + i))))) → Fr E mX10_undo d 44 [.ref 117, .int (nI n), .int (nI k)] [] h1 (RP (.int (undoF a (nI n))) h0 v (undoA a n) hi tp rs rm nu) := by
        intro m
        induction m with
        | zero =>
          intro k h hk hx c117 c118
          obtain rfl : k = 23 := by omega
          refine r_iload_n (pc2 := 45) 2 dX10_undo_44 rfl rfl rfl ?_
          refine r_bipush (pc2 := 47) (v := 23) dX10_undo_45 (by decide) rfl ?_
          refine r_icmp_ge (tgt := 85) (pc2 := 50) dX10_undo_47 (by decide) rfl (fun b47 => ?_) (fun b47 => ?_)
          · skip
            refine r_aload_n (pc2 := 86) 0 dX10_undo_85 rfl rfl rfl rfl ?_
            refine r_getf (pc2 := 89) (v := .ref 118) fX10_13 dX10_undo_86 c117 (by decide) rfl rfl ?_
            refine r_bipush (pc2 := 91) (v := 45) dX10_undo_89 (by decide) rfl ?_
            refine r_ialdA (pc2 := 92) 45 dX10_undo_91 c118 (by decide) rfl (by decide) (by decide) rfl ?_
            refine r_cast (nI (a 45 - n)) (congrArg nI (by rw [fillN_out (by omega), va_up_self])) ?_
            exact r_iret rfl dX10_undo_92 ⟨by rw [undoF, if_pos hc, nI_clamp (by omega)], (upd v 0 0), ⟨rfl, rfl, rfl⟩, ⟨c117, c118, hx.get (by decide) k119, hx.get (by decide) k120, ⟨_, hx.get (by decide) k121⟩, ⟨_, hx.get (by decide) k122⟩, ⟨_, hx.get (by decide) k123⟩, ⟨_, hx.get (by decide) k124⟩, ⟨_, hx.get (by decide) k125⟩, ⟨_, hx.get (by decide) k126⟩, ⟨_, hx.get (by decide) k127⟩, ⟨_, hx.get (by decide) k128⟩, ⟨_, hx.get (by decide) k129⟩, ⟨_, hx.get (by decide) k130⟩, ⟨_, hx.get (by decide) k131⟩, ⟨_, hx.get (by decide) k132⟩, ⟨_, hx.get (by decide) k133⟩, ⟨_, hx.get (by decide) k134⟩, ⟨_, hx.get (by decide) k135⟩, hx.get (by decide) k136, hx.get (by decide) k137, hx.get (by decide) k138⟩, hx.mono (by decide)⟩
          · exact absurd (nI_le (a := 23) (b := 23) (Nat.le_refl _) (by decide)) b47
        | succ m ih =>
          intro k h hk hx c117 c118
          have hlt : k < 23 := by omega
          refine r_iload_n (pc2 := 45) 2 dX10_undo_44 rfl rfl rfl ?_
          refine r_bipush (pc2 := 47) (v := 23) dX10_undo_45 (by decide) rfl ?_
          refine r_icmp_ge (tgt := 85) (pc2 := 50) dX10_undo_47 (by decide) rfl (fun b47 => ?_) (fun b47 => ?_)
          · exact absurd b47 (nI_ge (b := 23) hlt (by decide))
          · skip
            refine r_aload_n (pc2 := 51) 0 dX10_undo_50 rfl rfl rfl rfl ?_
            refine r_getf (pc2 := 54) (v := .ref 118) fX10_13 dX10_undo_51 c117 (by decide) rfl rfl ?_
            refine r_bipush (pc2 := 56) (v := 22) dX10_undo_54 (by decide) rfl ?_
            refine r_iload_n (pc2 := 57) 2 dX10_undo_56 rfl rfl rfl ?_
            refine r_iadd (pc2 := 58) dX10_undo_57 rfl ?_
            refine r_cast (nI (22 + k)) (nI_add 22 k) ?_
            refine r_aload_n (pc2 := 59) 0 dX10_undo_58 rfl rfl rfl rfl ?_
            refine r_getf (pc2 := 62) (v := .ref 118) fX10_13 dX10_undo_59 c117 (by decide) rfl rfl ?_
            refine r_bipush (pc2 := 64) (v := 46) dX10_undo_62 (by decide) rfl ?_
            refine r_bipush (pc2 := 66) (v := 23) dX10_undo_64 (by decide) rfl ?_
            refine r_aload_n (pc2 := 67) 0 dX10_undo_66 rfl rfl rfl rfl ?_
            refine r_getf (pc2 := 70) (v := .ref 118) fX10_13 dX10_undo_67 c117 (by decide) rfl rfl ?_
            refine r_bipush (pc2 := 72) (v := 45) dX10_undo_70 (by decide) rfl ?_
            refine r_ialdA (pc2 := 73) 45 dX10_undo_72 c118 (by decide) rfl (by decide) (by decide) rfl ?_
            refine r_cast (nI (a 45 - n)) (congrArg nI (by rw [fillN_out (by omega), va_up_self])) ?_
            refine r_imul (pc2 := 74) dX10_undo_73 rfl ?_
            refine r_cast (nI (23 * (a 45 - n))) (pk_mul 23 _) ?_
            refine r_iadd (pc2 := 75) dX10_undo_74 rfl ?_
            refine r_cast (nI (46 + 23 * (a 45 - n))) (nI_add 46 _) ?_
            refine r_iload_n (pc2 := 76) 2 dX10_undo_75 rfl rfl rfl ?_
            refine r_iadd (pc2 := 77) dX10_undo_76 rfl ?_
            refine r_cast (nI (46 + 23 * (a 45 - n) + k)) (nI_add _ k) ?_
            refine r_ialdA (pc2 := 78) (46 + 23 * (a 45 - n) + k) dX10_undo_77 c118 (by decide) rfl (by omega) (by decide) rfl ?_
            refine r_cast (nI (a (46 + 23 * (a 45 - n) + k))) (congrArg nI (by rw [fillN_out (by omega), va_up_ne _ _ (by omega)])) ?_
            refine r_iastN (pc2 := 79) (22 + k) dX10_undo_78 c118 (by decide) rfl (by omega) (by decide) rfl (fun h z78 o78 c118 => ?_)
            rw [upd_nA] at c118
            have c117 := (o78 117 (by decide)).trans c117
            have hx := hx.step (a := 118) (by decide) z78 o78
            obtain ⟨x79, e79⟩ : ∃ z : Int32, z = (nI k) + (1) := ⟨_, rfl⟩
            refine r_iinc (pc2 := 82) (ls2 := [.ref 117, .int (nI n), .int x79]) (v := x79) 2 dX10_undo_79 rfl (by rw [e79]; rfl) rfl rfl rfl ?_
            refine r_goto (pc2 := 44) dX10_undo_82 (by decide) ?_
            rw [e79, nI_1]
            rw [fillN_s] at c118
            exact ih (k + 1) h (by omega) hx c117 c118
      refine r_aload_n (pc2 := 1) 0 dX10_undo_0 rfl rfl rfl rfl ?_
      refine r_iconst (pc2 := 2) (v := 0) dX10_undo_1 (by decide) rfl ?_
      refine r_putfX (pc2 := 5) (moL (upd v 0 0)) fX10_1 dX10_undo_2 c117 (by decide) (Nat.le_of_ble_eq_true rfl) rfl rfl rfl (fun h z2 o2 c117 => ?_)
      have c118 := (o2 118 (by decide)).trans c118
      have hx := hx.step (a := 117) (by decide) z2 o2
      refine r_iload_n (pc2 := 6) 1 dX10_undo_5 rfl rfl rfl ?_
      refine r_i2l (pc2 := 7) dX10_undo_6 rfl ?_
      refine r_lconst (pc2 := 8) (v := 1) dX10_undo_7 (by decide) rfl ?_
      refine r_ldc2 (pc2 := 11) (v := 10) qX10_299 dX10_undo_8 rfl ?_
      refine r_callS1 (pc2 := 14) (As := [.long (Int32.toInt64 (nI n)), .long 1, .long 10]) (st := []) kX10_152 dX10_undo_11 rfl rfl (Nat.le_of_ble_eq_true rfl) (by omega) (c_within (Int32.toInt64 (nI n)) 1 10) rfl (fun h2 hq11 => ?_)
      subst hq11
      refine r_if_eq (tgt := 28) (pc2 := 17) dX10_undo_14 (by decide) rfl (fun b14 => ?_) (fun b14 => ?_)
      · exact absurd b14 (if1 hc.1)
      · skip
        refine r_iload_n (pc2 := 18) 1 dX10_undo_17 rfl rfl rfl ?_
        refine r_aload_n (pc2 := 19) 0 dX10_undo_18 rfl rfl rfl rfl ?_
        refine r_getf (pc2 := 22) (v := .ref 118) fX10_13 dX10_undo_19 c117 (by decide) rfl rfl ?_
        refine r_bipush (pc2 := 24) (v := 45) dX10_undo_22 (by decide) rfl ?_
        refine r_ialdA (pc2 := 25) 45 dX10_undo_24 c118 (by decide) rfl (by decide) (by decide) rfl ?_
        refine r_icmp_le (tgt := 31) (pc2 := 28) dX10_undo_25 (by decide) rfl (fun b25 => ?_) (fun b25 => ?_)
        · skip
          refine r_aload_n (pc2 := 32) 0 dX10_undo_31 rfl rfl rfl rfl ?_
          refine r_getf (pc2 := 35) (v := .ref 118) fX10_13 dX10_undo_32 c117 (by decide) rfl rfl ?_
          refine r_bipush (pc2 := 37) (v := 45) dX10_undo_35 (by decide) rfl ?_
          refine r_dup2 (pc2 := 38) dX10_undo_37 rfl rfl rfl ?_
          refine r_ialdA (pc2 := 39) 45 dX10_undo_38 c118 (by decide) rfl (by decide) (by decide) rfl ?_
          refine r_iload_n (pc2 := 40) 1 dX10_undo_39 rfl rfl rfl ?_
          refine r_isub (pc2 := 41) dX10_undo_40 rfl ?_
          refine r_cast (nI (a 45 - n)) (pk_sub hle) ?_
          refine r_iastN (pc2 := 42) 45 dX10_undo_41 c118 (by decide) rfl (by decide) (by decide) rfl (fun h z41 o41 c118 => ?_)
          rw [upd_nA] at c118
          have c117 := (o41 117 (by decide)).trans c117
          have hx := hx.step (a := 118) (by decide) z41 o41
          refine r_iconst (pc2 := 43) (v := 0) dX10_undo_42 (by decide) rfl ?_
          refine r_istore_n (pc2 := 44) (ls2 := [.ref 117, .int (nI n), .int 0]) 2 dX10_undo_43 rfl (by decide) rfl rfl rfl ?_
          exact loop 23 0 h (by omega) hx c117 (by rw [fillN_0]; exact c118)
        · exact absurd hc.2 b25
    · have eA : undoR a x = a := by rw [undoR, if_neg (fun q => hle q.2)]
      rw [eA]
      refine Cn.go (ls := [.ref 117, .int x, .float 0]) (by decide +kernel) rfl (Nat.le_of_ble_eq_true rfl) ?_
      refine r_aload_n (pc2 := 1) 0 dX10_undo_0 rfl rfl rfl rfl ?_
      refine r_iconst (pc2 := 2) (v := 0) dX10_undo_1 (by decide) rfl ?_
      refine r_putfX (pc2 := 5) (moL (upd v 0 0)) fX10_1 dX10_undo_2 c117 (by decide) (Nat.le_of_ble_eq_true rfl) rfl rfl rfl (fun h z2 o2 c117 => ?_)
      have c118 := (o2 118 (by decide)).trans c118
      have hx := hx.step (a := 117) (by decide) z2 o2
      refine r_iload_n (pc2 := 6) 1 dX10_undo_5 rfl rfl rfl ?_
      refine r_i2l (pc2 := 7) dX10_undo_6 rfl ?_
      refine r_lconst (pc2 := 8) (v := 1) dX10_undo_7 (by decide) rfl ?_
      refine r_ldc2 (pc2 := 11) (v := 10) qX10_299 dX10_undo_8 rfl ?_
      refine r_callS1 (pc2 := 14) (As := [.long (Int32.toInt64 x), .long 1, .long 10]) (st := []) kX10_152 dX10_undo_11 rfl rfl (Nat.le_of_ble_eq_true rfl) (by omega) (c_within (Int32.toInt64 x) 1 10) rfl (fun h2 hq11 => ?_)
      subst hq11
      refine r_if_eq (tgt := 28) (pc2 := 17) dX10_undo_14 (by decide) rfl (fun b14 => ?_) (fun b14 => ?_)
      · exact absurd b14 (if1 hv)
      · skip
        refine r_iload_n (pc2 := 18) 1 dX10_undo_17 rfl rfl rfl ?_
        refine r_aload_n (pc2 := 19) 0 dX10_undo_18 rfl rfl rfl rfl ?_
        refine r_getf (pc2 := 22) (v := .ref 118) fX10_13 dX10_undo_19 c117 (by decide) rfl rfl ?_
        refine r_bipush (pc2 := 24) (v := 45) dX10_undo_22 (by decide) rfl ?_
        refine r_ialdA (pc2 := 25) 45 dX10_undo_24 c118 (by decide) rfl (by decide) (by decide) rfl ?_
        refine r_icmp_le (tgt := 31) (pc2 := 28) dX10_undo_25 (by decide) rfl (fun b25 => ?_) (fun b25 => ?_)
        · exact absurd b25 hle
        · skip
          refine r_bipush (pc2 := 30) (v := -3) dX10_undo_28 (by decide) rfl ?_
          exact r_iret rfl dX10_undo_30 ⟨by rw [undoF, if_neg (fun q => hle q.2)], (upd v 0 0), ⟨rfl, rfl, rfl⟩, ⟨c117, c118, hx.get (by decide) k119, hx.get (by decide) k120, ⟨_, hx.get (by decide) k121⟩, ⟨_, hx.get (by decide) k122⟩, ⟨_, hx.get (by decide) k123⟩, ⟨_, hx.get (by decide) k124⟩, ⟨_, hx.get (by decide) k125⟩, ⟨_, hx.get (by decide) k126⟩, ⟨_, hx.get (by decide) k127⟩, ⟨_, hx.get (by decide) k128⟩, ⟨_, hx.get (by decide) k129⟩, ⟨_, hx.get (by decide) k130⟩, ⟨_, hx.get (by decide) k131⟩, ⟨_, hx.get (by decide) k132⟩, ⟨_, hx.get (by decide) k133⟩, ⟨_, hx.get (by decide) k134⟩, ⟨_, hx.get (by decide) k135⟩, hx.get (by decide) k136, hx.get (by decide) k137, hx.get (by decide) k138⟩, hx.mono (by decide)⟩
  · have eA : undoR a x = a := by rw [undoR, if_neg (fun q => hv q.1)]
    rw [eA]
    refine Cn.go (ls := [.ref 117, .int x, .float 0]) (by decide +kernel) rfl (Nat.le_of_ble_eq_true rfl) ?_
    refine r_aload_n (pc2 := 1) 0 dX10_undo_0 rfl rfl rfl rfl ?_
    refine r_iconst (pc2 := 2) (v := 0) dX10_undo_1 (by decide) rfl ?_
    refine r_putfX (pc2 := 5) (moL (upd v 0 0)) fX10_1 dX10_undo_2 c117 (by decide) (Nat.le_of_ble_eq_true rfl) rfl rfl rfl (fun h z2 o2 c117 => ?_)
    have c118 := (o2 118 (by decide)).trans c118
    have hx := hx.step (a := 117) (by decide) z2 o2
    refine r_iload_n (pc2 := 6) 1 dX10_undo_5 rfl rfl rfl ?_
    refine r_i2l (pc2 := 7) dX10_undo_6 rfl ?_
    refine r_lconst (pc2 := 8) (v := 1) dX10_undo_7 (by decide) rfl ?_
    refine r_ldc2 (pc2 := 11) (v := 10) qX10_299 dX10_undo_8 rfl ?_
    refine r_callS1 (pc2 := 14) (As := [.long (Int32.toInt64 x), .long 1, .long 10]) (st := []) kX10_152 dX10_undo_11 rfl rfl (Nat.le_of_ble_eq_true rfl) (by omega) (c_within (Int32.toInt64 x) 1 10) rfl (fun h2 hq11 => ?_)
    subst hq11
    refine r_if_eq (tgt := 28) (pc2 := 17) dX10_undo_14 (by decide) rfl (fun b14 => ?_) (fun b14 => ?_)
    · skip
      refine r_bipush (pc2 := 30) (v := -3) dX10_undo_28 (by decide) rfl ?_
      exact r_iret rfl dX10_undo_30 ⟨by rw [undoF, if_neg (fun q => hv q.1)], (upd v 0 0), ⟨rfl, rfl, rfl⟩, ⟨c117, c118, hx.get (by decide) k119, hx.get (by decide) k120, ⟨_, hx.get (by decide) k121⟩, ⟨_, hx.get (by decide) k122⟩, ⟨_, hx.get (by decide) k123⟩, ⟨_, hx.get (by decide) k124⟩, ⟨_, hx.get (by decide) k125⟩, ⟨_, hx.get (by decide) k126⟩, ⟨_, hx.get (by decide) k127⟩, ⟨_, hx.get (by decide) k128⟩, ⟨_, hx.get (by decide) k129⟩, ⟨_, hx.get (by decide) k130⟩, ⟨_, hx.get (by decide) k131⟩, ⟨_, hx.get (by decide) k132⟩, ⟨_, hx.get (by decide) k133⟩, ⟨_, hx.get (by decide) k134⟩, ⟨_, hx.get (by decide) k135⟩, hx.get (by decide) k136, hx.get (by decide) k137, hx.get (by decide) k138⟩, hx.mono (by decide)⟩
    · exact absurd (if0 hv) b14
