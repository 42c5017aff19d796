/-! goer, numbers, write, fault, feed -/
abbrev inP (P : Nat) (x : Int32) : Prop := (0 : Int64) ≤ x.toInt64 ∧ x.toInt64 ≤ (nI P - 1).toInt64
theorem inP_of {P : Nat} {x : Int32} (hP : P ≤ 100) (h : inP P x) : ∃ k, k < P ∧ x = nI k := by
  have h0 : ¬ x < 0 := by
    intro q
    have := (i2l_le 0 x).mp h.1
    rw [Int32.lt_iff_toInt_lt] at q; rw [Int32.le_iff_toInt_le] at this; omega
  obtain ⟨k, hk, rfl⟩ := nI_of h0
  refine ⟨k, ?_, rfl⟩
  rcases Nat.eq_zero_or_pos P with rfl | hp
  · have := (i2l_le _ _).mp h.2
    rw [Int32.le_iff_toInt_le, nI_toInt hk] at this
    have e : (nI 0 - 1 : Int32).toInt = -1 := by decide
    rw [e] at this; omega
  · unfold inP at h
    rw [pm1 hp] at h
    have := (i2l_le _ _).mp h.2
    rw [Int32.le_iff_toInt_le, nI_toInt hk, nI_toInt (by omega)] at this
    omega
theorem inP_nI {P k : Nat} (hP : P ≤ 100) (hk : k < P) : inP P (nI k) := by
  refine ⟨(i2l_le 0 _).mpr ?_, (i2l_le _ _).mpr ?_⟩
  · rw [Int32.le_iff_toInt_le, nI_toInt (by omega)]; show (0 : Int) ≤ _; omega
  · rw [pm1 (by omega), Int32.le_iff_toInt_le, nI_toInt (by omega), nI_toInt (by omega)]; omega
def goerF (a : Nat → Nat) (g w : Int32) : Int32 := if inP (a 3) g then (if w = 0 then nI (a (22 + g.toNatClampNeg)) else if w = 1 then nI (a (14 + g.toNatClampNeg)) else if w = 2 then nI (a (18 + g.toNatClampNeg)) else if w = 3 then (if a (22 + g.toNatClampNeg) = a 1 then -1 else nI (noiseN a g.toNatClampNeg (a (22 + g.toNatClampNeg) + 1) (a 26) (a 27))) else -2) else -2
def RPV (r0 : Value) (h0 : Hp) (t fk fp : Int32) (a2 : Nat → Nat) (hi : Nat → Int32) (tp : Nat → Nat) (rs rm : Nat → Int32) (nu : Nat → Int64) : Option Value → Hp → Prop := fun r h2 => r = some r0 ∧ ∃ v2 : Nat → Int32, (v2 5 = t ∧ v2 13 = fk ∧ v2 14 = fp) ∧ RS h2 v2 a2 hi tp rs rm nu ∧ Ex MS h0 h2
theorem inR_toNat {l h k : Nat} (hh : h < 2 ^ 31) (hl : l < 2 ^ 31) (hk : k < 2 ^ 31) : inR l h (nI k) ↔ l ≤ k ∧ k ≤ h := by
  unfold inR
  rw [nI_l hk, pk_lLE (by omega) (by omega), pk_lLE (by omega) (by omega)]
set_option maxRecDepth 20000 in
set_option maxHeartbeats 1000000 in
theorem ref_goer {E : EnvT} {d : Nat} {h0 : Hp} {v : Nat → Int32} {a : Nat → Nat} {hi : Nat → Int32} {tp : Nat → Nat} {rs rm : Nat → Int32} {nu : Nat → Int64} {g w : Int32} (hR : RS h0 v a hi tp rs rm nu) (hA : AIN a) (hd : 4 ≤ d) : Cn E mX10_goer d [.ref 117, .int g, .int w] h0 (RP (.int (goerF a g w)) h0 v a hi tp rs rm nu) := by
  obtain ⟨k117, k118, k119, k120, ⟨f121, k121⟩, ⟨f122, k122⟩, ⟨f123, k123⟩, ⟨f124, k124⟩, ⟨f125, k125⟩, ⟨f126, k126⟩, ⟨f127, k127⟩, ⟨f128, k128⟩, ⟨f129, k129⟩, ⟨f130, k130⟩, ⟨f131, k131⟩, ⟨f132, k132⟩, ⟨f133, k133⟩, ⟨f134, k134⟩, ⟨f135, k135⟩, k136, k137, k138⟩ := hR
  have c117 := k117
  have c118 := k118
  have c122 := k122
  have c123 := k123
  have hx : Ex [117, 118, 122, 123] h0 h0 := Ex.rf
  by_cases hv : inP (a 3) g
  · obtain ⟨k, hk, rfl⟩ := inP_of (by have := hA.G; omega) hv
    have hG := hA.G
    have hcl := hA.cl k (by omega)
    have hlo := hA.lo k (by omega)
    have hC := hA.C
    have hdp := hA.dp
    have hh2 := hA.h2
    have ek : (nI k).toNatClampNeg = k := nI_clamp (by omega)
    by_cases q0 : w = 0
    · subst q0
      refine Cn.go (ls := [.ref 117, .int (nI k), .int 0]) (by decide +kernel) rfl (Nat.le_of_ble_eq_true rfl) ?_
      refine r_aload_n (pc2 := 1) 0 dX10_goer_0 rfl rfl rfl rfl ?_
      refine r_iconst (pc2 := 2) (v := 0) dX10_goer_1 (by decide) rfl ?_
      refine r_putfX (pc2 := 5) (moL (upd v 0 0)) fX10_1 dX10_goer_2 c117 (by decide) (Nat.le_of_ble_eq_true rfl) rfl rfl rfl (fun h z2 o2 c117 => ?_)
      have c118 := (o2 118 (by decide)).trans c118
      have c122 := (o2 122 (by decide)).trans c122
      have c123 := (o2 123 (by decide)).trans c123
      have hx := hx.step (a := 117) (by decide) z2 o2
      refine r_aload_n (pc2 := 6) 0 dX10_goer_5 rfl rfl rfl rfl ?_
      refine r_iload_n (pc2 := 7) 1 dX10_goer_6 rfl rfl rfl ?_
      refine r_callV1 (pc2 := 10) (As := [.int (nI k)]) (st := []) kX10_263 rfl rfl dX10_goer_7 c117 (by decide) rfl rfl (Nat.le_of_ble_eq_true rfl) (by omega) (c_isGoer c117 c118 (by omega)) rfl (fun h2 hq7 => ?_)
      subst hq7
      refine r_if_ne (tgt := 16) (pc2 := 13) dX10_goer_10 (by decide) rfl (fun b10 => ?_) (fun b10 => ?_)
      · skip
        refine r_iload_n (pc2 := 17) 2 dX10_goer_16 rfl rfl rfl ?_
        refine r_tsw (pc2 := 0) (tgt := 48) (off := 31) dX10_goer_17 (by decide) (by decide) (by decide) (by decide) ?_
        refine r_aload_n (pc2 := 49) 0 dX10_goer_48 rfl rfl rfl rfl ?_
        refine r_getf (pc2 := 52) (v := .ref 118) fX10_13 dX10_goer_49 c117 (by decide) rfl rfl ?_
        refine r_bipush (pc2 := 54) (v := 22) dX10_goer_52 (by decide) rfl ?_
        refine r_iload_n (pc2 := 55) 1 dX10_goer_54 rfl rfl rfl ?_
        refine r_iadd (pc2 := 56) dX10_goer_55 rfl ?_
        refine r_cast (nI (22 + k)) (nI_add 22 k) ?_
        refine r_ialdA (pc2 := 57) (22 + k) dX10_goer_56 c118 (by decide) rfl (by omega) (by decide) rfl ?_
        exact r_iret rfl dX10_goer_57 ⟨by rw [goerF, if_pos hv, if_pos rfl, ek], (upd v 0 0), ⟨rfl, rfl, rfl⟩, ⟨c117, c118, hx.get (by decide) k119, hx.get (by decide) k120, ⟨_, hx.get (by decide) k121⟩, ⟨_, c122⟩, ⟨_, c123⟩, ⟨_, hx.get (by decide) k124⟩, ⟨_, hx.get (by decide) k125⟩, ⟨_, hx.get (by decide) k126⟩, ⟨_, hx.get (by decide) k127⟩, ⟨_, hx.get (by decide) k128⟩, ⟨_, hx.get (by decide) k129⟩, ⟨_, hx.get (by decide) k130⟩, ⟨_, hx.get (by decide) k131⟩, ⟨_, hx.get (by decide) k132⟩, ⟨_, hx.get (by decide) k133⟩, ⟨_, hx.get (by decide) k134⟩, ⟨_, hx.get (by decide) k135⟩, hx.get (by decide) k136, hx.get (by decide) k137, hx.get (by decide) k138⟩, hx.mono (by decide)⟩
      · exact absurd b10 (if1 hv)
    by_cases q1 : w = 1
    · subst q1
      refine Cn.go (ls := [.ref 117, .int (nI k), .int 1]) (by decide +kernel) rfl (Nat.le_of_ble_eq_true rfl) ?_
      refine r_aload_n (pc2 := 1) 0 dX10_goer_0 rfl rfl rfl rfl ?_
      refine r_iconst (pc2 := 2) (v := 0) dX10_goer_1 (by decide) rfl ?_
      refine r_putfX (pc2 := 5) (moL (upd v 0 0)) fX10_1 dX10_goer_2 c117 (by decide) (Nat.le_of_ble_eq_true rfl) rfl rfl rfl (fun h z2 o2 c117 => ?_)
      have c118 := (o2 118 (by decide)).trans c118
      have c122 := (o2 122 (by decide)).trans c122
      have c123 := (o2 123 (by decide)).trans c123
      have hx := hx.step (a := 117) (by decide) z2 o2
      refine r_aload_n (pc2 := 6) 0 dX10_goer_5 rfl rfl rfl rfl ?_
      refine r_iload_n (pc2 := 7) 1 dX10_goer_6 rfl rfl rfl ?_
      refine r_callV1 (pc2 := 10) (As := [.int (nI k)]) (st := []) kX10_263 rfl rfl dX10_goer_7 c117 (by decide) rfl rfl (Nat.le_of_ble_eq_true rfl) (by omega) (c_isGoer c117 c118 (by omega)) rfl (fun h2 hq7 => ?_)
      subst hq7
      refine r_if_ne (tgt := 16) (pc2 := 13) dX10_goer_10 (by decide) rfl (fun b10 => ?_) (fun b10 => ?_)
      · skip
        refine r_iload_n (pc2 := 17) 2 dX10_goer_16 rfl rfl rfl ?_
        refine r_tsw (pc2 := 0) (tgt := 58) (off := 41) dX10_goer_17 (by decide) (by decide) (by decide) (by decide) ?_
        refine r_aload_n (pc2 := 59) 0 dX10_goer_58 rfl rfl rfl rfl ?_
        refine r_getf (pc2 := 62) (v := .ref 118) fX10_13 dX10_goer_59 c117 (by decide) rfl rfl ?_
        refine r_bipush (pc2 := 64) (v := 14) dX10_goer_62 (by decide) rfl ?_
        refine r_iload_n (pc2 := 65) 1 dX10_goer_64 rfl rfl rfl ?_
        refine r_iadd (pc2 := 66) dX10_goer_65 rfl ?_
        refine r_cast (nI (14 + k)) (nI_add 14 k) ?_
        refine r_ialdA (pc2 := 67) (14 + k) dX10_goer_66 c118 (by decide) rfl (by omega) (by decide) rfl ?_
        exact r_iret rfl dX10_goer_67 ⟨by rw [goerF, if_pos hv, if_neg (by decide : ¬ (1 : Int32) = 0), if_pos rfl, ek], (upd v 0 0), ⟨rfl, rfl, rfl⟩, ⟨c117, c118, hx.get (by decide) k119, hx.get (by decide) k120, ⟨_, hx.get (by decide) k121⟩, ⟨_, c122⟩, ⟨_, c123⟩, ⟨_, hx.get (by decide) k124⟩, ⟨_, hx.get (by decide) k125⟩, ⟨_, hx.get (by decide) k126⟩, ⟨_, hx.get (by decide) k127⟩, ⟨_, hx.get (by decide) k128⟩, ⟨_, hx.get (by decide) k129⟩, ⟨_, hx.get (by decide) k130⟩, ⟨_, hx.get (by decide) k131⟩, ⟨_, hx.get (by decide) k132⟩, ⟨_, hx.get (by decide) k133⟩, ⟨_, hx.get (by decide) k134⟩, ⟨_, hx.get (by decide) k135⟩, hx.get (by decide) k136, hx.get (by decide) k137, hx.get (by decide) k138⟩, hx.mono (by decide)⟩
      · exact absurd b10 (if1 hv)
    by_cases q2 : w = 2
    · subst q2
      refine Cn.go (ls := [.ref 117, .int (nI k), .int 2]) (by decide +kernel) rfl (Nat.le_of_ble_eq_true rfl) ?_
      refine r_aload_n (pc2 := 1) 0 dX10_goer_0 rfl rfl rfl rfl ?_
      refine r_iconst (pc2 := 2) (v := 0) dX10_goer_1 (by decide) rfl ?_
      refine r_putfX (pc2 := 5) (moL (upd v 0 0)) fX10_1 dX10_goer_2 c117 (by decide) (Nat.le_of_ble_eq_true rfl) rfl rfl rfl (fun h z2 o2 c117 => ?_)
      have c118 := (o2 118 (by decide)).trans c118
      have c122 := (o2 122 (by decide)).trans c122
      have c123 := (o2 123 (by decide)).trans c123
      have hx := hx.step (a := 117) (by decide) z2 o2
      refine r_aload_n (pc2 := 6) 0 dX10_goer_5 rfl rfl rfl rfl ?_
      refine r_iload_n (pc2 := 7) 1 dX10_goer_6 rfl rfl rfl ?_
      refine r_callV1 (pc2 := 10) (As := [.int (nI k)]) (st := []) kX10_263 rfl rfl dX10_goer_7 c117 (by decide) rfl rfl (Nat.le_of_ble_eq_true rfl) (by omega) (c_isGoer c117 c118 (by omega)) rfl (fun h2 hq7 => ?_)
      subst hq7
      refine r_if_ne (tgt := 16) (pc2 := 13) dX10_goer_10 (by decide) rfl (fun b10 => ?_) (fun b10 => ?_)
      · skip
        refine r_iload_n (pc2 := 17) 2 dX10_goer_16 rfl rfl rfl ?_
        refine r_tsw (pc2 := 0) (tgt := 68) (off := 51) dX10_goer_17 (by decide) (by decide) (by decide) (by decide) ?_
        refine r_aload_n (pc2 := 69) 0 dX10_goer_68 rfl rfl rfl rfl ?_
        refine r_getf (pc2 := 72) (v := .ref 118) fX10_13 dX10_goer_69 c117 (by decide) rfl rfl ?_
        refine r_bipush (pc2 := 74) (v := 18) dX10_goer_72 (by decide) rfl ?_
        refine r_iload_n (pc2 := 75) 1 dX10_goer_74 rfl rfl rfl ?_
        refine r_iadd (pc2 := 76) dX10_goer_75 rfl ?_
        refine r_cast (nI (18 + k)) (nI_add 18 k) ?_
        refine r_ialdA (pc2 := 77) (18 + k) dX10_goer_76 c118 (by decide) rfl (by omega) (by decide) rfl ?_
        exact r_iret rfl dX10_goer_77 ⟨by rw [goerF, if_pos hv, if_neg (by decide : ¬ (2 : Int32) = 0), if_neg (by decide : ¬ (2 : Int32) = 1), if_pos rfl, ek], (upd v 0 0), ⟨rfl, rfl, rfl⟩, ⟨c117, c118, hx.get (by decide) k119, hx.get (by decide) k120, ⟨_, hx.get (by decide) k121⟩, ⟨_, c122⟩, ⟨_, c123⟩, ⟨_, hx.get (by decide) k124⟩, ⟨_, hx.get (by decide) k125⟩, ⟨_, hx.get (by decide) k126⟩, ⟨_, hx.get (by decide) k127⟩, ⟨_, hx.get (by decide) k128⟩, ⟨_, hx.get (by decide) k129⟩, ⟨_, hx.get (by decide) k130⟩, ⟨_, hx.get (by decide) k131⟩, ⟨_, hx.get (by decide) k132⟩, ⟨_, hx.get (by decide) k133⟩, ⟨_, hx.get (by decide) k134⟩, ⟨_, hx.get (by decide) k135⟩, hx.get (by decide) k136, hx.get (by decide) k137, hx.get (by decide) k138⟩, hx.mono (by decide)⟩
      · exact absurd b10 (if1 hv)
    by_cases q3 : w = 3
    · subst q3
      refine Cn.go (ls := [.ref 117, .int (nI k), .int 3]) (by decide +kernel) rfl (Nat.le_of_ble_eq_true rfl) ?_
      refine r_aload_n (pc2 := 1) 0 dX10_goer_0 rfl rfl rfl rfl ?_
      refine r_iconst (pc2 := 2) (v := 0) dX10_goer_1 (by decide) rfl ?_
      refine r_putfX (pc2 := 5) (moL (upd v 0 0)) fX10_1 dX10_goer_2 c117 (by decide) (Nat.le_of_ble_eq_true rfl) rfl rfl rfl (fun h z2 o2 c117 => ?_)
      have c118 := (o2 118 (by decide)).trans c118
      have c122 := (o2 122 (by decide)).trans c122
      have c123 := (o2 123 (by decide)).trans c123
      have hx := hx.step (a := 117) (by decide) z2 o2
      refine r_aload_n (pc2 := 6) 0 dX10_goer_5 rfl rfl rfl rfl ?_
      refine r_iload_n (pc2 := 7) 1 dX10_goer_6 rfl rfl rfl ?_
      refine r_callV1 (pc2 := 10) (As := [.int (nI k)]) (st := []) kX10_263 rfl rfl dX10_goer_7 c117 (by decide) rfl rfl (Nat.le_of_ble_eq_true rfl) (by omega) (c_isGoer c117 c118 (by omega)) rfl (fun h2 hq7 => ?_)
      subst hq7
      refine r_if_ne (tgt := 16) (pc2 := 13) dX10_goer_10 (by decide) rfl (fun b10 => ?_) (fun b10 => ?_)
      · skip
        refine r_iload_n (pc2 := 17) 2 dX10_goer_16 rfl rfl rfl ?_
        refine r_tsw (pc2 := 0) (tgt := 78) (off := 61) dX10_goer_17 (by decide) (by decide) (by decide) (by decide) ?_
        refine r_aload_n (pc2 := 79) 0 dX10_goer_78 rfl rfl rfl rfl ?_
        refine r_getf (pc2 := 82) (v := .ref 118) fX10_13 dX10_goer_79 c117 (by decide) rfl rfl ?_
        refine r_bipush (pc2 := 84) (v := 22) dX10_goer_82 (by decide) rfl ?_
        refine r_iload_n (pc2 := 85) 1 dX10_goer_84 rfl rfl rfl ?_
        refine r_iadd (pc2 := 86) dX10_goer_85 rfl ?_
        refine r_cast (nI (22 + k)) (nI_add 22 k) ?_
        refine r_ialdA (pc2 := 87) (22 + k) dX10_goer_86 c118 (by decide) rfl (by omega) (by decide) rfl ?_
        refine r_aload_n (pc2 := 88) 0 dX10_goer_87 rfl rfl rfl rfl ?_
        refine r_getf (pc2 := 91) (v := .ref 118) fX10_13 dX10_goer_88 c117 (by decide) rfl rfl ?_
        refine r_iconst (pc2 := 92) (v := 1) dX10_goer_91 (by decide) rfl ?_
        refine r_ialdA (pc2 := 93) 1 dX10_goer_92 c118 (by decide) rfl (by decide) (by decide) rfl ?_
        refine r_icmp_ne (tgt := 100) (pc2 := 96) dX10_goer_93 (by decide) rfl (fun b93 => ?_) (fun b93 => ?_)
        · skip
          refine r_aload_n (pc2 := 101) 0 dX10_goer_100 rfl rfl rfl rfl ?_
          refine r_iload_n (pc2 := 102) 1 dX10_goer_101 rfl rfl rfl ?_
          refine r_aload_n (pc2 := 103) 0 dX10_goer_102 rfl rfl rfl rfl ?_
          refine r_getf (pc2 := 106) (v := .ref 118) fX10_13 dX10_goer_103 c117 (by decide) rfl rfl ?_
          refine r_bipush (pc2 := 108) (v := 22) dX10_goer_106 (by decide) rfl ?_
          refine r_iload_n (pc2 := 109) 1 dX10_goer_108 rfl rfl rfl ?_
          refine r_iadd (pc2 := 110) dX10_goer_109 rfl ?_
          refine r_cast (nI (22 + k)) (nI_add 22 k) ?_
          refine r_ialdA (pc2 := 111) (22 + k) dX10_goer_110 c118 (by decide) rfl (by omega) (by decide) rfl ?_
          refine r_iconst (pc2 := 112) (v := 1) dX10_goer_111 (by decide) rfl ?_
          refine r_iadd (pc2 := 113) dX10_goer_112 rfl ?_
          refine r_cast (nI (a (22 + k) + 1)) (nI_1 _) ?_
          refine r_aload_n (pc2 := 114) 0 dX10_goer_113 rfl rfl rfl rfl ?_
          refine r_getf (pc2 := 117) (v := .ref 118) fX10_13 dX10_goer_114 c117 (by decide) rfl rfl ?_
          refine r_bipush (pc2 := 119) (v := 26) dX10_goer_117 (by decide) rfl ?_
          refine r_ialdA (pc2 := 120) 26 dX10_goer_119 c118 (by decide) rfl (by decide) (by decide) rfl ?_
          refine r_aload_n (pc2 := 121) 0 dX10_goer_120 rfl rfl rfl rfl ?_
          refine r_getf (pc2 := 124) (v := .ref 118) fX10_13 dX10_goer_121 c117 (by decide) rfl rfl ?_
          refine r_bipush (pc2 := 126) (v := 27) dX10_goer_124 (by decide) rfl ?_
          refine r_ialdA (pc2 := 127) 27 dX10_goer_126 c118 (by decide) rfl (by decide) (by decide) rfl ?_
          refine r_callV1 (pc2 := 130) (As := [.int (nI k), .int (nI (a (22 + k) + 1)), .int (nI (a 26)), .int (nI (a 27))]) (st := []) kX10_249 rfl rfl dX10_goer_127 c117 (by decide) rfl rfl (Nat.le_of_ble_eq_true rfl) (by omega) (c_noiseOf (g := k) (to := a (22 + k) + 1) (dp := a 26) (dr := a 27) c117 c118 c122 c123 (by omega) (by omega) (by omega) (by omega) (by omega) hA.w0 (by omega)) rfl (fun h hq127 => ?_)
          obtain ⟨hx2, ⟨f2, c122⟩, ⟨w2, c123⟩⟩ := hq127
          have c117 := hx2.get (by decide) c117
          have c118 := hx2.get (by decide) c118
          have hx := hx.trans hx2 (by decide)
          exact r_iret rfl dX10_goer_130 ⟨by rw [goerF, if_pos hv, if_neg (by decide : ¬ (3 : Int32) = 0), if_neg (by decide : ¬ (3 : Int32) = 1), if_neg (by decide : ¬ (3 : Int32) = 2), if_pos rfl, ek, if_neg (fun q => b93 (congrArg nI q))], (upd v 0 0), ⟨rfl, rfl, rfl⟩, ⟨c117, c118, hx.get (by decide) k119, hx.get (by decide) k120, ⟨_, hx.get (by decide) k121⟩, ⟨_, c122⟩, ⟨_, c123⟩, ⟨_, hx.get (by decide) k124⟩, ⟨_, hx.get (by decide) k125⟩, ⟨_, hx.get (by decide) k126⟩, ⟨_, hx.get (by decide) k127⟩, ⟨_, hx.get (by decide) k128⟩, ⟨_, hx.get (by decide) k129⟩, ⟨_, hx.get (by decide) k130⟩, ⟨_, hx.get (by decide) k131⟩, ⟨_, hx.get (by decide) k132⟩, ⟨_, hx.get (by decide) k133⟩, ⟨_, hx.get (by decide) k134⟩, ⟨_, hx.get (by decide) k135⟩, hx.get (by decide) k136, hx.get (by decide) k137, hx.get (by decide) k138⟩, hx.mono (by decide)⟩
        · skip
          refine r_iconst (pc2 := 97) (v := -1) dX10_goer_96 (by decide) rfl ?_
          refine r_goto (pc2 := 130) dX10_goer_97 (by decide) ?_
          exact r_iret rfl dX10_goer_130 ⟨by rw [goerF, if_pos hv, if_neg (by decide : ¬ (3 : Int32) = 0), if_neg (by decide : ¬ (3 : Int32) = 1), if_neg (by decide : ¬ (3 : Int32) = 2), if_pos rfl, ek, if_pos ((nI_eq (by omega) (by omega)).mp (by simpa using b93))], (upd v 0 0), ⟨rfl, rfl, rfl⟩, ⟨c117, c118, hx.get (by decide) k119, hx.get (by decide) k120, ⟨_, hx.get (by decide) k121⟩, ⟨_, c122⟩, ⟨_, c123⟩, ⟨_, hx.get (by decide) k124⟩, ⟨_, hx.get (by decide) k125⟩, ⟨_, hx.get (by decide) k126⟩, ⟨_, hx.get (by decide) k127⟩, ⟨_, hx.get (by decide) k128⟩, ⟨_, hx.get (by decide) k129⟩, ⟨_, hx.get (by decide) k130⟩, ⟨_, hx.get (by decide) k131⟩, ⟨_, hx.get (by decide) k132⟩, ⟨_, hx.get (by decide) k133⟩, ⟨_, hx.get (by decide) k134⟩, ⟨_, hx.get (by decide) k135⟩, hx.get (by decide) k136, hx.get (by decide) k137, hx.get (by decide) k138⟩, hx.mono (by decide)⟩
      · exact absurd b10 (if1 hv)
    have hout : ∀ k, k ≤ 3 → ¬ w = nI k := by
      intro k hk
      match k, hk with
      | 0, _ => exact q0
      | 1, _ => exact q1
      | 2, _ => exact q2
      | 3, _ => exact q3
    refine Cn.go (ls := [.ref 117, .int (nI k), .int w]) (by decide +kernel) rfl (Nat.le_of_ble_eq_true rfl) ?_
    refine r_aload_n (pc2 := 1) 0 dX10_goer_0 rfl rfl rfl rfl ?_
    refine r_iconst (pc2 := 2) (v := 0) dX10_goer_1 (by decide) rfl ?_
    refine r_putfX (pc2 := 5) (moL (upd v 0 0)) fX10_1 dX10_goer_2 c117 (by decide) (Nat.le_of_ble_eq_true rfl) rfl rfl rfl (fun h z2 o2 c117 => ?_)
    have c118 := (o2 118 (by decide)).trans c118
    have c122 := (o2 122 (by decide)).trans c122
    have c123 := (o2 123 (by decide)).trans c123
    have hx := hx.step (a := 117) (by decide) z2 o2
    refine r_aload_n (pc2 := 6) 0 dX10_goer_5 rfl rfl rfl rfl ?_
    refine r_iload_n (pc2 := 7) 1 dX10_goer_6 rfl rfl rfl ?_
    refine r_callV1 (pc2 := 10) (As := [.int (nI k)]) (st := []) kX10_263 rfl rfl dX10_goer_7 c117 (by decide) rfl rfl (Nat.le_of_ble_eq_true rfl) (by omega) (c_isGoer c117 c118 (by omega)) rfl (fun h2 hq7 => ?_)
    subst hq7
    refine r_if_ne (tgt := 16) (pc2 := 13) dX10_goer_10 (by decide) rfl (fun b10 => ?_) (fun b10 => ?_)
    · skip
      refine r_iload_n (pc2 := 17) 2 dX10_goer_16 rfl rfl rfl ?_
      refine r_tswD (pc2 := 0) (tgt := 131) dX10_goer_17 (out_of 3 (by decide) hout) (by decide) ?_
      refine r_bipush (pc2 := 133) (v := -2) dX10_goer_131 (by decide) rfl ?_
      exact r_iret rfl dX10_goer_133 ⟨by rw [goerF, if_pos hv, if_neg q0, if_neg q1, if_neg q2, if_neg q3], (upd v 0 0), ⟨rfl, rfl, rfl⟩, ⟨c117, c118, hx.get (by decide) k119, hx.get (by decide) k120, ⟨_, hx.get (by decide) k121⟩, ⟨_, c122⟩, ⟨_, c123⟩, ⟨_, hx.get (by decide) k124⟩, ⟨_, hx.get (by decide) k125⟩, ⟨_, hx.get (by decide) k126⟩, ⟨_, hx.get (by decide) k127⟩, ⟨_, hx.get (by decide) k128⟩, ⟨_, hx.get (by decide) k129⟩, ⟨_, hx.get (by decide) k130⟩, ⟨_, hx.get (by decide) k131⟩, ⟨_, hx.get (by decide) k132⟩, ⟨_, hx.get (by decide) k133⟩, ⟨_, hx.get (by decide) k134⟩, ⟨_, hx.get (by decide) k135⟩, hx.get (by decide) k136, hx.get (by decide) k137, hx.get (by decide) k138⟩, hx.mono (by decide)⟩
    · exact absurd b10 (if1 hv)
  · skip
    refine Cn.go (ls := [.ref 117, .int g, .int w]) (by decide +kernel) rfl (Nat.le_of_ble_eq_true rfl) ?_
    refine r_aload_n (pc2 := 1) 0 dX10_goer_0 rfl rfl rfl rfl ?_
    refine r_iconst (pc2 := 2) (v := 0) dX10_goer_1 (by decide) rfl ?_
    refine r_putfX (pc2 := 5) (moL (upd v 0 0)) fX10_1 dX10_goer_2 c117 (by decide) (Nat.le_of_ble_eq_true rfl) rfl rfl rfl (fun h z2 o2 c117 => ?_)
    have c118 := (o2 118 (by decide)).trans c118
    have c122 := (o2 122 (by decide)).trans c122
    have c123 := (o2 123 (by decide)).trans c123
    have hx := hx.step (a := 117) (by decide) z2 o2
    refine r_aload_n (pc2 := 6) 0 dX10_goer_5 rfl rfl rfl rfl ?_
    refine r_iload_n (pc2 := 7) 1 dX10_goer_6 rfl rfl rfl ?_
    refine r_callV1 (pc2 := 10) (As := [.int g]) (st := []) kX10_263 rfl rfl dX10_goer_7 c117 (by decide) rfl rfl (Nat.le_of_ble_eq_true rfl) (by omega) (c_isGoer c117 c118 (by omega)) rfl (fun h2 hq7 => ?_)
    subst hq7
    refine r_if_ne (tgt := 16) (pc2 := 13) dX10_goer_10 (by decide) rfl (fun b10 => ?_) (fun b10 => ?_)
    · exact absurd (if0 hv) b10
    · skip
      refine r_bipush (pc2 := 15) (v := -2) dX10_goer_13 (by decide) rfl ?_
      exact r_iret rfl dX10_goer_15 ⟨by rw [goerF, if_neg hv], (upd v 0 0), ⟨rfl, rfl, rfl⟩, ⟨c117, c118, hx.get (by decide) k119, hx.get (by decide) k120, ⟨_, hx.get (by decide) k121⟩, ⟨_, c122⟩, ⟨_, c123⟩, ⟨_, hx.get (by decide) k124⟩, ⟨_, hx.get (by decide) k125⟩, ⟨_, hx.get (by decide) k126⟩, ⟨_, hx.get (by decide) k127⟩, ⟨_, hx.get (by decide) k128⟩, ⟨_, hx.get (by decide) k129⟩, ⟨_, hx.get (by decide) k130⟩, ⟨_, hx.get (by decide) k131⟩, ⟨_, hx.get (by decide) k132⟩, ⟨_, hx.get (by decide) k133⟩, ⟨_, hx.get (by decide) k134⟩, ⟨_, hx.get (by decide) k135⟩, hx.get (by decide) k136, hx.get (by decide) k137, hx.get (by decide) k138⟩, hx.mono (by decide)⟩
def faultF (v : Nat → Int32) (x : Int32) : Int32 := if x = 0 then v 13 else if x = 1 then v 14 else -1
set_option maxRecDepth 20000 in
set_option maxHeartbeats 1000000 in
theorem ref_fault {E : EnvT} {d : Nat} {h0 : Hp} {v : Nat → Int32} {a : Nat → Nat} {hi : Nat → Int32} {tp : Nat → Nat} {rs rm : Nat → Int32} {nu : Nat → Int64} {x : Int32} (hR : RS h0 v a hi tp rs rm nu) : Cn E mX10_fault d [.ref 117, .int x] h0 (RP (.int (faultF v x)) h0 v a hi tp rs rm nu) := by
  obtain ⟨k117, k118, k119, k120, ⟨f121, k121⟩, ⟨f122, k122⟩, ⟨f123, k123⟩, ⟨f124, k124⟩, ⟨f125, k125⟩, ⟨f126, k126⟩, ⟨f127, k127⟩, ⟨f128, k128⟩, ⟨f129, k129⟩, ⟨f130, k130⟩, ⟨f131, k131⟩, ⟨f132, k132⟩, ⟨f133, k133⟩, ⟨f134, k134⟩, ⟨f135, k135⟩, k136, k137, k138⟩ := hR
  have c117 := k117
  have hx : Ex [117] h0 h0 := Ex.rf
  refine Cn.go (ls := [.ref 117, .int x]) (by decide +kernel) rfl (Nat.le_of_ble_eq_true rfl) ?_
  refine r_aload_n (pc2 := 1) 0 dX10_fault_0 rfl rfl rfl rfl ?_
  refine r_iconst (pc2 := 2) (v := 0) dX10_fault_1 (by decide) rfl ?_
  refine r_putfX (pc2 := 5) (moL (upd v 0 0)) fX10_1 dX10_fault_2 c117 (by decide) (Nat.le_of_ble_eq_true rfl) rfl rfl rfl (fun h z2 o2 c117 => ?_)
  have hx := hx.step (a := 117) (by decide) z2 o2
  refine r_iload_n (pc2 := 6) 1 dX10_fault_5 rfl rfl rfl ?_
  refine r_if_ne (tgt := 16) (pc2 := 9) dX10_fault_6 (by decide) rfl (fun b6 => ?_) (fun b6 => ?_)
  · skip
    refine r_iload_n (pc2 := 17) 1 dX10_fault_16 rfl rfl rfl ?_
    refine r_iconst (pc2 := 18) (v := 1) dX10_fault_17 (by decide) rfl ?_
    refine r_icmp_ne (tgt := 28) (pc2 := 21) dX10_fault_18 (by decide) rfl (fun b18 => ?_) (fun b18 => ?_)
    · skip
      refine r_iconst (pc2 := 29) (v := -1) dX10_fault_28 (by decide) rfl ?_
      exact r_iret rfl dX10_fault_29 ⟨by rw [faultF, if_neg b6, if_neg b18], (upd v 0 0), ⟨rfl, rfl, rfl⟩, ⟨c117, hx.get (by decide) k118, hx.get (by decide) k119, hx.get (by decide) k120, ⟨_, hx.get (by decide) k121⟩, ⟨_, hx.get (by decide) k122⟩, ⟨_, hx.get (by decide) k123⟩, ⟨_, hx.get (by decide) k124⟩, ⟨_, hx.get (by decide) k125⟩, ⟨_, hx.get (by decide) k126⟩, ⟨_, hx.get (by decide) k127⟩, ⟨_, hx.get (by decide) k128⟩, ⟨_, hx.get (by decide) k129⟩, ⟨_, hx.get (by decide) k130⟩, ⟨_, hx.get (by decide) k131⟩, ⟨_, hx.get (by decide) k132⟩, ⟨_, hx.get (by decide) k133⟩, ⟨_, hx.get (by decide) k134⟩, ⟨_, hx.get (by decide) k135⟩, hx.get (by decide) k136, hx.get (by decide) k137, hx.get (by decide) k138⟩, hx.mono (by decide)⟩
    · skip
      refine r_aload_n (pc2 := 22) 0 dX10_fault_21 rfl rfl rfl rfl ?_
      refine r_getf (pc2 := 25) (v := .int ((upd v 0 0) 14)) fX10_27 dX10_fault_22 c117 (by decide) rfl rfl ?_
      refine r_goto (pc2 := 29) dX10_fault_25 (by decide) ?_
      exact r_iret rfl dX10_fault_29 ⟨by rw [faultF, if_neg b6, if_pos b18]; rfl, (upd v 0 0), ⟨rfl, rfl, rfl⟩, ⟨c117, hx.get (by decide) k118, hx.get (by decide) k119, hx.get (by decide) k120, ⟨_, hx.get (by decide) k121⟩, ⟨_, hx.get (by decide) k122⟩, ⟨_, hx.get (by decide) k123⟩, ⟨_, hx.get (by decide) k124⟩, ⟨_, hx.get (by decide) k125⟩, ⟨_, hx.get (by decide) k126⟩, ⟨_, hx.get (by decide) k127⟩, ⟨_, hx.get (by decide) k128⟩, ⟨_, hx.get (by decide) k129⟩, ⟨_, hx.get (by decide) k130⟩, ⟨_, hx.get (by decide) k131⟩, ⟨_, hx.get (by decide) k132⟩, ⟨_, hx.get (by decide) k133⟩, ⟨_, hx.get (by decide) k134⟩, ⟨_, hx.get (by decide) k135⟩, hx.get (by decide) k136, hx.get (by decide) k137, hx.get (by decide) k138⟩, hx.mono (by decide)⟩
  · skip
    refine r_aload_n (pc2 := 10) 0 dX10_fault_9 rfl rfl rfl rfl ?_
    refine r_getf (pc2 := 13) (v := .int ((upd v 0 0) 13)) fX10_225 dX10_fault_10 c117 (by decide) rfl rfl ?_
    refine r_goto (pc2 := 29) dX10_fault_13 (by decide) ?_
    exact r_iret rfl dX10_fault_29 ⟨by rw [faultF, if_pos b6]; rfl, (upd v 0 0), ⟨rfl, rfl, rfl⟩, ⟨c117, hx.get (by decide) k118, hx.get (by decide) k119, hx.get (by decide) k120, ⟨_, hx.get (by decide) k121⟩, ⟨_, hx.get (by decide) k122⟩, ⟨_, hx.get (by decide) k123⟩, ⟨_, hx.get (by decide) k124⟩, ⟨_, hx.get (by decide) k125⟩, ⟨_, hx.get (by decide) k126⟩, ⟨_, hx.get (by decide) k127⟩, ⟨_, hx.get (by decide) k128⟩, ⟨_, hx.get (by decide) k129⟩, ⟨_, hx.get (by decide) k130⟩, ⟨_, hx.get (by decide) k131⟩, ⟨_, hx.get (by decide) k132⟩, ⟨_, hx.get (by decide) k133⟩, ⟨_, hx.get (by decide) k134⟩, ⟨_, hx.get (by decide) k135⟩, hx.get (by decide) k136, hx.get (by decide) k137, hx.get (by decide) k138⟩, hx.mono (by decide)⟩
