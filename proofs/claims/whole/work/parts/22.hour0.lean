/-! noise and hours, in numbers -/
theorem isInB : ∀ s, s < 1024 → ∀ k, k < 10 → (((nI s).toInt64 >>> ((nI k).toInt64 &&& 63)) &&& 1 = 1 ↔ s.testBit k = true) := by decide +kernel
def popN (s : Nat) : Nat := (if s.testBit 0 then 1 else 0) + (if s.testBit 1 then 1 else 0) + (if s.testBit 2 then 1 else 0) + (if s.testBit 3 then 1 else 0)
theorem bitsF_pop : ∀ s, s < 16 → bitsF (nI s) 10 = nI (popN s) := by decide +kernel
def lawF (a : Nat → Nat) (lw : Nat) : Nat → Nat := fun k => a (277 + a (10 + lw) + k)
def usedW (lw j : Nat) : Prop := if lw = 0 then j ≤ 5 else (j ≤ 1 ∨ 6 ≤ j)
def LWok (a : Nat → Nat) (lw : Nat) : Prop := a (8 + lw) = 0 ∨ (a (8 + lw) = 1 ∧ a (10 + lw) + a (12 + lw) ≤ 900 ∧ LawWF (lawF a lw) (a (12 + lw)) ∧ ∀ k, k < a (12 + lw) → 1000 ≤ lawF a lw k → lawF a lw k < 3000 → usedW lw (lawF a lw k - 1000))
theorem stk_congr {w w2 : Nat → Int32} {cf : Nat → Nat} {n : Nat} {U : Nat → Prop} (hU : ∀ k, k < n → 1000 ≤ cf k → cf k < 3000 → U (cf k - 1000)) (hw : ∀ j, U j → w j = w2 j) : ∀ k, k ≤ n → stk w cf k = stk w2 cf k := by
  intro k
  induction k with
  | zero => intro _; rfl
  | succ k ih =>
    intro hk
    rw [stk, stk, ih (by omega)]
    unfold ev1
    by_cases h1 : cf k < 1000
    · rw [if_pos h1, if_pos h1]
    · rw [if_neg h1, if_neg h1]
      by_cases h2 : cf k < 3000
      · rw [if_pos h2, if_pos h2, hw _ (hU k (by omega) (by omega) h2)]
      · rw [if_neg h2, if_neg h2]
def wN (l : List Nat) : Nat → Int32 := fun j => nI (l.getD j 0)
def lawV (a : Nat → Nat) (lw : Nat) (w : Nat → Int32) (mx : Nat) : Nat := (clipM ((stk w (lawF a lw) (a (12 + lw))).headD 0) (nI mx)).toNatClampNeg
theorem clip_nI (x : Int32) {mx : Nat} (h : mx < 2 ^ 31) : clipM x (nI mx) = nI (clipM x (nI mx)).toNatClampNeg ∧ (clipM x (nI mx)).toNatClampNeg ≤ mx := by
  unfold clipM
  by_cases h1 : x < 0
  · rw [if_pos h1]; exact ⟨rfl, Nat.zero_le _⟩
  · rw [if_neg h1]
    obtain ⟨j, hj, rfl⟩ := nI_of h1
    by_cases h2 : nI mx < nI j
    · rw [if_pos h2, nI_clamp h]; exact ⟨rfl, Nat.le_refl _⟩
    · rw [if_neg h2, nI_clamp hj]
      refine ⟨rfl, ?_⟩
      rcases Nat.lt_or_ge mx j with q | q
      · exact absurd (nI_lt q hj) h2
      · exact q
theorem lawV_le (a : Nat → Nat) (lw : Nat) (w : Nat → Int32) {mx : Nat} (h : mx < 2 ^ 31) : lawV a lw w mx ≤ mx := (clip_nI _ h).2
def farN (a : Nat → Nat) (to : Nat) : Nat := if to < a 2 then a 2 - to else to - a 2
def noiseN (a : Nat → Nat) (g to depth dr : Nat) : Nat := if a 8 = 0 then a (14 + g) - farN a to else lawV a 0 (wN [dr, depth, g, a (14 + g), a (18 + g), farN a to]) 99
set_option maxRecDepth 20000 in
set_option maxHeartbeats 1000000 in
theorem c_noiseOf {E : EnvT} {d : Nat} {h0 : Hp} {v : Nat → Int32} {a : Nat → Nat} {f w : Nat → Int32} {g to dp dr : Nat} (c117 : h0.1 117 = some (mO v)) (c118 : h0.1 118 = some (aI 3531 (nA a))) (c122 : h0.1 122 = some (aI 900 f)) (c123 : h0.1 123 = some (aI 9 w)) (hg : g < 4) (hto : to < 100) (hdp : dp < 100) (hh : a 2 < 100) (hl : a (14 + g) < 100) (hW : LWok a 0) (hd : 2 ≤ d) : Cn E mX10_noiseOf d [.ref 117, .int (nI g), .int (nI to), .int (nI dp), .int (nI dr)] h0 (fun r h2 => r = some (.int (nI (noiseN a g to dp dr))) ∧ Ex [122, 123] h0 h2 ∧ (∃ f2, h2.1 122 = some (aI 900 f2)) ∧ ∃ w2, h2.1 123 = some (aI 9 w2)) := by
  refine Cn.go (ls := [.ref 117, .int (nI g), .int (nI to), .int (nI dp), .int (nI dr), .float 0]) (by decide +kernel) rfl (Nat.le_of_ble_eq_true rfl) ?_
  have hx : Ex [122, 123] h0 h0 := Ex.rf
  have hfar : farN a to < 100 := by
    unfold farN
    split <;> omega
  have JL : (a 8 = 1 ∧ a 10 + a 12 ≤ 900 ∧ LawWF (lawF a 0) (a 12) ∧ ∀ k, k < a 12 → 1000 ≤ lawF a 0 k → lawF a 0 k < 3000 → usedW 0 (lawF a 0 k - 1000)) → Fr E mX10_noiseOf d 72 [.ref 117, .int (nI g), .int (nI to), .int (nI dp), .int (nI dr), .int (nI (farN a to))] [] h0 (fun r h2 => r = some (.int (nI (noiseN a g to dp dr))) ∧ Ex [122, 123] h0 h2 ∧ (∃ f2, h2.1 122 = some (aI 900 f2)) ∧ ∃ w2, h2.1 123 = some (aI 9 w2)) := by
    intro hL
    refine r_aload_n (pc2 := 73) 0 dX10_noiseOf_72 rfl rfl rfl rfl ?_
    refine r_getf (pc2 := 76) (v := .ref 123) fX10_33 dX10_noiseOf_73 c117 (by decide) rfl rfl ?_
    refine r_iconst (pc2 := 77) (v := 0) dX10_noiseOf_76 (by decide) rfl ?_
    refine r_iload (pc2 := 79) 4 dX10_noiseOf_77 rfl rfl ?_
    refine r_iastN (pc2 := 80) 0 dX10_noiseOf_79 c123 (by decide) rfl (by decide) (by decide) rfl (fun h z79 o79 c123 => ?_)
    have c117 := (o79 117 (by decide)).trans c117
    have c118 := (o79 118 (by decide)).trans c118
    have c122 := (o79 122 (by decide)).trans c122
    have hx := hx.step (a := 123) (by decide) z79 o79
    refine r_aload_n (pc2 := 81) 0 dX10_noiseOf_80 rfl rfl rfl rfl ?_
    refine r_getf (pc2 := 84) (v := .ref 123) fX10_33 dX10_noiseOf_81 c117 (by decide) rfl rfl ?_
    refine r_iconst (pc2 := 85) (v := 1) dX10_noiseOf_84 (by decide) rfl ?_
    refine r_iload_n (pc2 := 86) 3 dX10_noiseOf_85 rfl rfl rfl ?_
    refine r_iastN (pc2 := 87) 1 dX10_noiseOf_86 c123 (by decide) rfl (by decide) (by decide) rfl (fun h z86 o86 c123 => ?_)
    have c117 := (o86 117 (by decide)).trans c117
    have c118 := (o86 118 (by decide)).trans c118
    have c122 := (o86 122 (by decide)).trans c122
    have hx := hx.step (a := 123) (by decide) z86 o86
    refine r_aload_n (pc2 := 88) 0 dX10_noiseOf_87 rfl rfl rfl rfl ?_
    refine r_getf (pc2 := 91) (v := .ref 123) fX10_33 dX10_noiseOf_88 c117 (by decide) rfl rfl ?_
    refine r_iconst (pc2 := 92) (v := 2) dX10_noiseOf_91 (by decide) rfl ?_
    refine r_iload_n (pc2 := 93) 1 dX10_noiseOf_92 rfl rfl rfl ?_
    refine r_iastN (pc2 := 94) 2 dX10_noiseOf_93 c123 (by decide) rfl (by decide) (by decide) rfl (fun h z93 o93 c123 => ?_)
    have c117 := (o93 117 (by decide)).trans c117
    have c118 := (o93 118 (by decide)).trans c118
    have c122 := (o93 122 (by decide)).trans c122
    have hx := hx.step (a := 123) (by decide) z93 o93
    refine r_aload_n (pc2 := 95) 0 dX10_noiseOf_94 rfl rfl rfl rfl ?_
    refine r_getf (pc2 := 98) (v := .ref 123) fX10_33 dX10_noiseOf_95 c117 (by decide) rfl rfl ?_
    refine r_iconst (pc2 := 99) (v := 3) dX10_noiseOf_98 (by decide) rfl ?_
    refine r_aload_n (pc2 := 100) 0 dX10_noiseOf_99 rfl rfl rfl rfl ?_
    refine r_getf (pc2 := 103) (v := .ref 118) fX10_13 dX10_noiseOf_100 c117 (by decide) rfl rfl ?_
    refine r_bipush (pc2 := 105) (v := 14) dX10_noiseOf_103 (by decide) rfl ?_
    refine r_iload_n (pc2 := 106) 1 dX10_noiseOf_105 rfl rfl rfl ?_
    refine r_iadd (pc2 := 107) dX10_noiseOf_106 rfl ?_
    refine r_cast (nI (14 + g)) (nI_add 14 g) ?_
    refine r_ialdA (pc2 := 108) (14 + g) dX10_noiseOf_107 c118 (by decide) rfl (by omega) (by decide) rfl ?_
    refine r_iastN (pc2 := 109) 3 dX10_noiseOf_108 c123 (by decide) rfl (by decide) (by decide) rfl (fun h z108 o108 c123 => ?_)
    have c117 := (o108 117 (by decide)).trans c117
    have c118 := (o108 118 (by decide)).trans c118
    have c122 := (o108 122 (by decide)).trans c122
    have hx := hx.step (a := 123) (by decide) z108 o108
    refine r_aload_n (pc2 := 110) 0 dX10_noiseOf_109 rfl rfl rfl rfl ?_
    refine r_getf (pc2 := 113) (v := .ref 123) fX10_33 dX10_noiseOf_110 c117 (by decide) rfl rfl ?_
    refine r_iconst (pc2 := 114) (v := 4) dX10_noiseOf_113 (by decide) rfl ?_
    refine r_aload_n (pc2 := 115) 0 dX10_noiseOf_114 rfl rfl rfl rfl ?_
    refine r_getf (pc2 := 118) (v := .ref 118) fX10_13 dX10_noiseOf_115 c117 (by decide) rfl rfl ?_
    refine r_bipush (pc2 := 120) (v := 18) dX10_noiseOf_118 (by decide) rfl ?_
    refine r_iload_n (pc2 := 121) 1 dX10_noiseOf_120 rfl rfl rfl ?_
    refine r_iadd (pc2 := 122) dX10_noiseOf_121 rfl ?_
    refine r_cast (nI (18 + g)) (nI_add 18 g) ?_
    refine r_ialdA (pc2 := 123) (18 + g) dX10_noiseOf_122 c118 (by decide) rfl (by omega) (by decide) rfl ?_
    refine r_iastN (pc2 := 124) 4 dX10_noiseOf_123 c123 (by decide) rfl (by decide) (by decide) rfl (fun h z123 o123 c123 => ?_)
    have c117 := (o123 117 (by decide)).trans c117
    have c118 := (o123 118 (by decide)).trans c118
    have c122 := (o123 122 (by decide)).trans c122
    have hx := hx.step (a := 123) (by decide) z123 o123
    refine r_aload_n (pc2 := 125) 0 dX10_noiseOf_124 rfl rfl rfl rfl ?_
    refine r_getf (pc2 := 128) (v := .ref 123) fX10_33 dX10_noiseOf_125 c117 (by decide) rfl rfl ?_
    refine r_iconst (pc2 := 129) (v := 5) dX10_noiseOf_128 (by decide) rfl ?_
    refine r_iload (pc2 := 131) 5 dX10_noiseOf_129 rfl rfl ?_
    refine r_iastN (pc2 := 132) 5 dX10_noiseOf_131 c123 (by decide) rfl (by decide) (by decide) rfl (fun h z131 o131 c123 => ?_)
    have c117 := (o131 117 (by decide)).trans c117
    have c118 := (o131 118 (by decide)).trans c118
    have c122 := (o131 122 (by decide)).trans c122
    have hx := hx.step (a := 123) (by decide) z131 o131
    refine r_aload_n (pc2 := 133) 0 dX10_noiseOf_132 rfl rfl rfl rfl ?_
    refine r_iconst (pc2 := 134) (v := 0) dX10_noiseOf_133 (by decide) rfl ?_
    refine r_bipush (pc2 := 136) (v := 99) dX10_noiseOf_134 (by decide) rfl ?_
    refine r_callV1 (pc2 := 139) (As := [.int 0, .int 99]) (st := []) kX10_242 rfl rfl dX10_noiseOf_136 c117 (by decide) rfl rfl (Nat.le_of_ble_eq_true rfl) (by omega) (c_reckons (lw := 0) (mx := nI 99) (cf := lawF a 0) (n := a 12) c117 c118 c122 c123 (by decide) rfl (fun k hk => rfl) hL.2.1 hL.2.2.1 (by omega)) rfl (fun h hq136 => ?_)
    obtain ⟨hx2, g2, c122⟩ := hq136
    have c117 := hx2.get (by decide) c117
    have c118 := hx2.get (by decide) c118
    have c123 := hx2.get (by decide) c123
    have hx := hx.trans hx2 (by decide)
    have hfin : ∀ w9 : Nat → Int32, (∀ j, usedW 0 j → w9 j = wN [dr, dp, g, a (14 + g), a (18 + g), farN a to] j) → clipM ((stk w9 (lawF a 0) (a 12)).headD 0) (nI 99) = nI (noiseN a g to dp dr) := by
      intro w9 hw9
      rw [stk_congr hL.2.2.2 hw9 (a 12) (Nat.le_refl _), noiseN, if_neg (by omega)]
      exact (clip_nI _ (by decide)).1
    refine r_cast (nI (noiseN a g to dp dr)) (hfin _ (fun j hj => ?_)) ?_
    · have hj : j ≤ 5 := hj
      match j, hj with
      | 0, _ => rfl
      | 1, _ => rfl
      | 2, _ => rfl
      | 3, _ => rfl
      | 4, _ => rfl
      | 5, _ => rfl
    exact r_iret rfl dX10_noiseOf_139 ⟨rfl, hx, ⟨_, c122⟩, ⟨_, c123⟩⟩
  have J : Fr E mX10_noiseOf d 31 [.ref 117, .int (nI g), .int (nI to), .int (nI dp), .int (nI dr), .int (nI (farN a to))] [] h0 (fun r h2 => r = some (.int (nI (noiseN a g to dp dr))) ∧ Ex [122, 123] h0 h2 ∧ (∃ f2, h2.1 122 = some (aI 900 f2)) ∧ ∃ w2, h2.1 123 = some (aI 9 w2)) := by
    have h8b : a 8 ≤ 1 := by
      rcases hW with q | q
      · have : a 8 = 0 := q
        omega
      · have : a 8 = 1 := q.1
        omega
    refine r_aload_n (pc2 := 32) 0 dX10_noiseOf_31 rfl rfl rfl rfl ?_
    refine r_getf (pc2 := 35) (v := .ref 118) fX10_13 dX10_noiseOf_32 c117 (by decide) rfl rfl ?_
    refine r_bipush (pc2 := 37) (v := 8) dX10_noiseOf_35 (by decide) rfl ?_
    refine r_ialdA (pc2 := 38) 8 dX10_noiseOf_37 c118 (by decide) rfl (by decide) (by decide) rfl ?_
    refine r_if_ne (tgt := 72) (pc2 := 41) dX10_noiseOf_38 (by decide) rfl (fun b38 => ?_) (fun b38 => ?_)
    · skip
      have h8 : a 8 ≠ 0 := fun q => b38 (by rw [q]; rfl)
      rcases hW with q | hL
      · exact absurd q h8
      · exact JL hL
    · skip
      have h80 : a 8 = 0 := by rw [show (0 : Int32) = nI 0 from rfl, nI_eq (by omega) (by decide)] at b38; exact b38
      refine r_aload_n (pc2 := 42) 0 dX10_noiseOf_41 rfl rfl rfl rfl ?_
      refine r_getf (pc2 := 45) (v := .ref 118) fX10_13 dX10_noiseOf_42 c117 (by decide) rfl rfl ?_
      refine r_bipush (pc2 := 47) (v := 14) dX10_noiseOf_45 (by decide) rfl ?_
      refine r_iload_n (pc2 := 48) 1 dX10_noiseOf_47 rfl rfl rfl ?_
      refine r_iadd (pc2 := 49) dX10_noiseOf_48 rfl ?_
      refine r_cast (nI (14 + g)) (nI_add 14 g) ?_
      refine r_ialdA (pc2 := 50) (14 + g) dX10_noiseOf_49 c118 (by decide) rfl (by omega) (by decide) rfl ?_
      refine r_iload (pc2 := 52) 5 dX10_noiseOf_50 rfl rfl ?_
      refine r_icmp_le (tgt := 70) (pc2 := 55) dX10_noiseOf_52 (by decide) rfl (fun b52 => ?_) (fun b52 => ?_)
      · skip
        refine r_iconst (pc2 := 71) (v := 0) dX10_noiseOf_70 (by decide) rfl ?_
        exact r_iret rfl dX10_noiseOf_71 ⟨by rw [noiseN, if_pos h80, Nat.sub_eq_zero_of_le (by rw [nI_leI (by omega) (by omega)] at b52; exact b52)]; rfl, Ex.rf, ⟨_, c122⟩, ⟨_, c123⟩⟩
      · skip
        refine r_aload_n (pc2 := 56) 0 dX10_noiseOf_55 rfl rfl rfl rfl ?_
        refine r_getf (pc2 := 59) (v := .ref 118) fX10_13 dX10_noiseOf_56 c117 (by decide) rfl rfl ?_
        refine r_bipush (pc2 := 61) (v := 14) dX10_noiseOf_59 (by decide) rfl ?_
        refine r_iload_n (pc2 := 62) 1 dX10_noiseOf_61 rfl rfl rfl ?_
        refine r_iadd (pc2 := 63) dX10_noiseOf_62 rfl ?_
        refine r_cast (nI (14 + g)) (nI_add 14 g) ?_
        refine r_ialdA (pc2 := 64) (14 + g) dX10_noiseOf_63 c118 (by decide) rfl (by omega) (by decide) rfl ?_
        refine r_iload (pc2 := 66) 5 dX10_noiseOf_64 rfl rfl ?_
        refine r_isub (pc2 := 67) dX10_noiseOf_66 rfl ?_
        refine r_goto (pc2 := 71) dX10_noiseOf_67 (by decide) ?_
        exact r_iret rfl dX10_noiseOf_71 ⟨by show _ = some (Value.int (nI (noiseN a g to dp dr))); rw [noiseN, if_pos h80, pk_sub (by rw [nI_leI (by omega) (by omega)] at b52; omega)], Ex.rf, ⟨_, c122⟩, ⟨_, c123⟩⟩
  refine r_iload_n (pc2 := 1) 2 dX10_noiseOf_0 rfl rfl rfl ?_
  refine r_aload_n (pc2 := 2) 0 dX10_noiseOf_1 rfl rfl rfl rfl ?_
  refine r_getf (pc2 := 5) (v := .ref 118) fX10_13 dX10_noiseOf_2 c117 (by decide) rfl rfl ?_
  refine r_iconst (pc2 := 6) (v := 2) dX10_noiseOf_5 (by decide) rfl ?_
  refine r_ialdA (pc2 := 7) 2 dX10_noiseOf_6 c118 (by decide) rfl (by decide) (by decide) rfl ?_
  refine r_icmp_ge (tgt := 21) (pc2 := 10) dX10_noiseOf_7 (by decide) rfl (fun b7 => ?_) (fun b7 => ?_)
  · skip
    refine r_iload_n (pc2 := 22) 2 dX10_noiseOf_21 rfl rfl rfl ?_
    refine r_aload_n (pc2 := 23) 0 dX10_noiseOf_22 rfl rfl rfl rfl ?_
    refine r_getf (pc2 := 26) (v := .ref 118) fX10_13 dX10_noiseOf_23 c117 (by decide) rfl rfl ?_
    refine r_iconst (pc2 := 27) (v := 2) dX10_noiseOf_26 (by decide) rfl ?_
    refine r_ialdA (pc2 := 28) 2 dX10_noiseOf_27 c118 (by decide) rfl (by decide) (by decide) rfl ?_
    refine r_isub (pc2 := 29) dX10_noiseOf_28 rfl ?_
    refine r_cast (nI (farN a to)) (by rw [pk_sub (by rw [nI_leI (by omega) (by omega)] at b7; exact b7), farN, if_neg (by rw [nI_leI (by omega) (by omega)] at b7; omega)]) ?_
    refine r_istore (pc2 := 31) (ls2 := [.ref 117, .int (nI g), .int (nI to), .int (nI dp), .int (nI dr), .int (nI (farN a to))]) 5 dX10_noiseOf_29 (by decide) rfl rfl rfl ?_
    exact J
  · skip
    refine r_aload_n (pc2 := 11) 0 dX10_noiseOf_10 rfl rfl rfl rfl ?_
    refine r_getf (pc2 := 14) (v := .ref 118) fX10_13 dX10_noiseOf_11 c117 (by decide) rfl rfl ?_
    refine r_iconst (pc2 := 15) (v := 2) dX10_noiseOf_14 (by decide) rfl ?_
    refine r_ialdA (pc2 := 16) 2 dX10_noiseOf_15 c118 (by decide) rfl (by decide) (by decide) rfl ?_
    refine r_iload_n (pc2 := 17) 2 dX10_noiseOf_16 rfl rfl rfl ?_
    refine r_isub (pc2 := 18) dX10_noiseOf_17 rfl ?_
    refine r_goto (pc2 := 29) dX10_noiseOf_18 (by decide) ?_
    refine r_cast (nI (farN a to)) (by rw [pk_sub (by rw [nI_leI (by omega) (by omega)] at b7; omega), farN, if_pos (by rw [nI_leI (by omega) (by omega)] at b7; omega)]) ?_
    refine r_istore (pc2 := 31) (ls2 := [.ref 117, .int (nI g), .int (nI to), .int (nI dp), .int (nI dr), .int (nI (farN a to))]) 5 dX10_noiseOf_29 (by decide) rfl rfl rfl ?_
    exact J
