/-! the class: bestOf, bestGoer -/
theorem v3 {v : Int32} (h : v = -1 ∨ v = 0 ∨ v = 1) : ∃ n, n < 4 ∧ v + 1 = nI n ∧ nI n - 1 = v := by
  rcases h with rfl | rfl | rfl
  · exact ⟨0, by decide, by decide, by decide⟩
  · exact ⟨1, by decide, by decide, by decide⟩
  · exact ⟨2, by decide, by decide, by decide⟩
theorem max3 {x y : Int32} : (if x < y then y else x) = if x < y then y else x := rfl
theorem lt1_3 {v : Int32} (h : v = -1 ∨ v = 0 ∨ v = 1) (hn : ¬ v = 1) : v < 1 := by rcases h with rfl | rfl | rfl <;> first | decide | exact absurd rfl hn
set_option maxRecDepth 20000 in
set_option maxHeartbeats 1000000 in
theorem d_bestOf {E : EnvT} {Z : Nat → Prop} {reg : Nat → FR} {ns s sg kd : Nat} {a b : FR} {q st sp : Nat} {r : Nat} (hX : DCx Z reg ns s sg kd a b q st sp) (hs9 : STP E Z reg ns s sg kd a b q st sp r) : BST E Z reg ns s sg kd a b q st sp (r + 1) := by
  intro x f lv d h9 kn hs hdz hf hop hrm hlv hd hI
  obtain ⟨cq, ⟨fs, csd, hf0, hf1⟩, ckn, hKB, hKV, hL⟩ := id hI
  obtain ⟨hA, hst, hW, hst9, hsp⟩ := id hX
  have hq139 := hW.1
  have hqk := hW.2.1
  have hqs := hW.2.2 s hL.2.2.2.2.2.2.2.2.1
  have hG := hA.G
  have hC6 := hA.C
  have hk0 := hL.dv.k0
  have hzs := hL.dv.zs
  have hs64 := hL.dv.s64
  have hd9 := hs.dep
  have htl := hs.tl hC6
  have hcl := cst_lt hs hC6
  have hp16 := pw16 hG
  have hpl : pastN (a 1) x (a 3) < 2 ^ (a 3) := pastN_lt _ _ _
  obtain ⟨lo, so9, sa, nl, sl, cs⟩ := hL.dv.cs
  have hL9 := hL
  have hol : (ownS a st f) < 2 ^ (a 3) := ownS_lt hst9
  have ho16 : (dOp a x (ownS a st f)) < 16 := dOp_lt (by omega)
  have hff : fs f = nI (ownS a st f) := by
    match f, hf with
    | 0, _ => exact hf0
    | 1, _ => exact hf1
  have hFv : ∀ g, (fun g => dBy (dV a) a x (2 ^ g) (ownS a st f)) g = -1 ∨ (fun g => dBy (dV a) a x (2 ^ g) (ownS a st f)) g = 0 ∨ (fun g => dBy (dV a) a x (2 ^ g) (ownS a st f)) g = 1 := fun g => dBy_v9 a x (2 ^ g) (ownS a st f)
  by_cases hm : kn (2 * cst x + f) >>> ((2 : Int32) &&& 31) = nI sp
  · skip
    refine Cn.go (ls := [.ref q, .int (nI (tws x)), .int (nI (x / 4096)), .int (nI f), .int (nI lv), .float 0, .float 0, .float 0, .float 0, .float 0]) (by decide +kernel) rfl (Nat.le_of_ble_eq_true rfl) ?_
    refine r_iload_n (pc2 := 1) 1 dX0_bestOf_0 rfl rfl rfl ?_
    refine r_bipush (pc2 := 3) (v := 10) dX0_bestOf_1 (by decide) rfl ?_
    refine r_imul (pc2 := 4) dX0_bestOf_3 rfl ?_
    refine r_cast (nI (tws x * 10)) (pk_mul _ 10) ?_
    refine r_iload_n (pc2 := 5) 2 dX0_bestOf_4 rfl rfl rfl ?_
    refine r_iadd (pc2 := 6) dX0_bestOf_5 rfl ?_
    refine r_cast (nI (cst x)) (by rw [nI_add]; exact congrArg nI (by unfold cst; omega)) ?_
    refine r_iconst (pc2 := 7) (v := 2) dX0_bestOf_6 (by decide) rfl ?_
    refine r_imul (pc2 := 8) dX0_bestOf_7 rfl ?_
    refine r_cast (nI (cst x * 2)) (pk_mul _ 2) ?_
    refine r_iload_n (pc2 := 9) 3 dX0_bestOf_8 rfl rfl rfl ?_
    refine r_iadd (pc2 := 10) dX0_bestOf_9 rfl ?_
    refine r_cast (nI (2 * cst x + f)) (by rw [nI_add]; exact congrArg nI (by omega)) ?_
    refine r_istore (pc2 := 12) (ls2 := [.ref q, .int (nI (tws x)), .int (nI (x / 4096)), .int (nI f), .int (nI lv), .int (nI (2 * cst x + f)), .float 0, .float 0, .float 0, .float 0]) 5 dX0_bestOf_10 (by decide) rfl rfl rfl ?_
    refine r_iload (pc2 := 14) 5 dX0_bestOf_12 rfl rfl ?_
    refine r_if_lt (tgt := 31) (pc2 := 17) dX0_bestOf_14 (by decide) rfl (fun b14 => ?_) (fun b14 => ?_)
    · exact absurd b14 (nI_pos (by omega))
    · skip
      refine r_iload (pc2 := 19) 5 dX0_bestOf_17 rfl rfl ?_
      refine r_aload_n (pc2 := 20) 0 dX0_bestOf_19 rfl rfl rfl rfl ?_
      refine r_getf (pc2 := 23) (v := .ref (q + 2)) fX0_16 dX0_bestOf_20 cq (by omega) rfl rfl ?_
      refine r_alen (pc2 := 24) dX0_bestOf_23 ckn (by omega) (by decide) rfl ?_
      refine r_icmp_ge (tgt := 31) (pc2 := 27) dX0_bestOf_24 (by decide) rfl (fun b24 => ?_) (fun b24 => ?_)
      · exact absurd b24 (nI_ge (b := 48020) (by omega) (by decide))
      · skip
        refine r_iconst (pc2 := 28) (v := 1) dX0_bestOf_27 (by decide) rfl ?_
        refine r_goto (pc2 := 32) dX0_bestOf_28 (by decide) ?_
        refine r_istore (pc2 := 34) (ls2 := [.ref q, .int (nI (tws x)), .int (nI (x / 4096)), .int (nI f), .int (nI lv), .int (nI (2 * cst x + f)), .int 1, .float 0, .float 0, .float 0]) 6 dX0_bestOf_32 (by decide) rfl rfl rfl ?_
        refine r_iload (pc2 := 36) 6 dX0_bestOf_34 rfl rfl ?_
        refine r_if_eq (tgt := 67) (pc2 := 39) dX0_bestOf_36 (by decide) rfl (fun b36 => ?_) (fun b36 => ?_)
        · exact absurd b36 (by decide)
        · skip
          refine r_aload_n (pc2 := 40) 0 dX0_bestOf_39 rfl rfl rfl rfl ?_
          refine r_getf (pc2 := 43) (v := .ref (q + 2)) fX0_16 dX0_bestOf_40 cq (by omega) rfl rfl ?_
          refine r_iload (pc2 := 45) 5 dX0_bestOf_43 rfl rfl ?_
          refine r_ialdN (pc2 := 46) (2 * cst x + f) dX0_bestOf_45 ckn (by omega) rfl (by omega) (by decide) rfl ?_
          refine r_iconst (pc2 := 47) (v := 2) dX0_bestOf_46 (by decide) rfl ?_
          refine r_ishr (pc2 := 48) dX0_bestOf_47 rfl ?_
          refine r_aload_n (pc2 := 49) 0 dX0_bestOf_48 rfl rfl rfl rfl ?_
          refine r_getf (pc2 := 52) (v := .int (nI sp)) fX0_40 dX0_bestOf_49 cq (by omega) rfl rfl ?_
          refine r_icmp_ne (tgt := 67) (pc2 := 55) dX0_bestOf_52 (by decide) rfl (fun b52 => ?_) (fun b52 => ?_)
          · exact absurd hm b52
          · skip
            refine r_aload_n (pc2 := 56) 0 dX0_bestOf_55 rfl rfl rfl rfl ?_
            refine r_getf (pc2 := 59) (v := .ref (q + 2)) fX0_16 dX0_bestOf_56 cq (by omega) rfl rfl ?_
            refine r_iload (pc2 := 61) 5 dX0_bestOf_59 rfl rfl ?_
            refine r_ialdN (pc2 := 62) (2 * cst x + f) dX0_bestOf_61 ckn (by omega) rfl (by omega) (by decide) rfl ?_
            refine r_iconst (pc2 := 63) (v := 3) dX0_bestOf_62 (by decide) rfl ?_
            refine r_iand (pc2 := 64) dX0_bestOf_63 rfl ?_
            refine r_iconst (pc2 := 65) (v := 1) dX0_bestOf_64 (by decide) rfl ?_
            refine r_isub (pc2 := 66) dX0_bestOf_65 rfl ?_
            exact r_iret rfl dX0_bestOf_66 ⟨congrArg (fun z => some (Value.int z)) (hKV x f hs hdz hf hm), kn, hI, GQ.rf⟩
  · have hI9 := hI
    have hm9 := hm
    clear hm
    have fin : ∀ (B : Int32) (kn : Nat → Int32) (h : Hp) (u9 : Value), dV a x (ownS a st f) = B → DRI Z reg ns s sg kd a b q st sp kn h → GQ [q + 2] kd h9 h kd → Fr E mX0_bestOf d 141 [.ref q, .int (nI (tws x)), .int (nI (x / 4096)), .int (nI f), .int (nI lv), .int (nI (2 * cst x + f)), .int 1, .int (nI (dOp a x (ownS a st f))), .int B, u9] [] h (QDr Z reg ns s sg kd a b q st sp (dV a x (ownS a st f)) h9) := by
      intro B kn h u9 hB hI hQ
      obtain ⟨cq, ⟨fs, csd, hf0, hf1⟩, ckn, hKB, hKV, hL⟩ := id hI
      obtain ⟨v, hv0, hv1, hv2⟩ := v3 (hB ▸ dV_v a x (ownS a st f))
      have hB := hB.symm
      refine r_iload (pc2 := 143) 6 dX0_bestOf_141 rfl rfl ?_
      refine r_if_eq (tgt := 164) (pc2 := 146) dX0_bestOf_143 (by decide) rfl (fun b143 => ?_) (fun b143 => ?_)
      · exact absurd b143 (by decide)
      · skip
        refine r_aload_n (pc2 := 147) 0 dX0_bestOf_146 rfl rfl rfl rfl ?_
        refine r_getf (pc2 := 150) (v := .ref (q + 2)) fX0_16 dX0_bestOf_147 cq (by omega) rfl rfl ?_
        refine r_iload (pc2 := 152) 5 dX0_bestOf_150 rfl rfl ?_
        refine r_aload_n (pc2 := 153) 0 dX0_bestOf_152 rfl rfl rfl rfl ?_
        refine r_getf (pc2 := 156) (v := .int (nI sp)) fX0_40 dX0_bestOf_153 cq (by omega) rfl rfl ?_
        refine r_iconst (pc2 := 157) (v := 2) dX0_bestOf_156 (by decide) rfl ?_
        refine r_ishl (pc2 := 158) dX0_bestOf_157 rfl ?_
        refine r_iload (pc2 := 160) 8 dX0_bestOf_158 rfl rfl ?_
        refine r_iconst (pc2 := 161) (v := 1) dX0_bestOf_160 (by decide) rfl ?_
        refine r_iadd (pc2 := 162) dX0_bestOf_161 rfl ?_
        refine r_cast (nI v) (hv1) ?_
        refine r_ior (pc2 := 163) dX0_bestOf_162 rfl ?_
        refine r_cast (nI (4 * sp + v)) (pack2 hsp hv0) ?_
        refine r_iastN (pc2 := 164) (2 * cst x + f) dX0_bestOf_163 ckn (by omega) rfl (by omega) (by decide) rfl (fun h z163 o163 ckn => ?_)
        have cq := (o163 q (by omega)).trans cq
        have hxw : Ex [q + 2] _ h := ⟨z163, fun y hy => o163 y (by simpa using hy)⟩
        have hL := hL.ex hxw (hW.off (by simp))
        have hQ := hQ.wr hxw (by simp)
        refine r_iload (pc2 := 166) 8 dX0_bestOf_164 rfl rfl ?_
        exact r_iret rfl dX0_bestOf_166 ⟨by rw [hB], _, ⟨cq, ⟨fs, (o163 _ (by omega)).trans csd, hf0, hf1⟩, ckn, hKB.up hv0, hKV.up hC6 hs hf hsp hv0 (hv2.trans hB), hL⟩, hQ⟩
    have loop : ∀ (m g : Nat) (h : Hp) (kn : Nat → Int32), g + m = 4 → DRI Z reg ns s sg kd a b q st sp kn h → GQ [q + 2] kd h9 h kd → Fr E mX0_bestOf d 94 [.ref q, .int (nI (tws x)), .int (nI (x / 4096)), .int (nI f), .int (nI lv), .int (nI (2 * cst x + f)), .int 1, .int (nI (dOp a x (ownS a st f))), .int (mxB (dOp a x (ownS a st f)) (fun g => dBy (dV a) a x (2 ^ g) (ownS a st f)) g), .int (nI g)] [] h (QDr Z reg ns s sg kd a b q st sp (dV a x (ownS a st f)) h9) := by
      intro m
      induction m with
      | zero =>
        intro g h kn hg hI hQ
        obtain rfl : g = 4 := by omega
        obtain ⟨cq, ⟨fs, csd, hf0, hf1⟩, ckn, hKB, hKV, hL⟩ := id hI
        refine r_iload (pc2 := 96) 9 dX0_bestOf_94 rfl rfl ?_
        refine r_iconst (pc2 := 97) (v := 4) dX0_bestOf_96 (by decide) rfl ?_
        refine r_icmp_ge (tgt := 141) (pc2 := 100) dX0_bestOf_97 (by decide) rfl (fun b97 => ?_) (fun b97 => ?_)
        · skip
          exact fin _ kn h _ (by rw [dV_best hs hA hdz hol hop]) hI hQ
        · exact absurd (by decide) b97
      | succ m ihg =>
        intro g h kn hg hI hQ
        have hlt : g < 4 := by omega
        obtain ⟨cq, ⟨fs, csd, hf0, hf1⟩, ckn, hKB, hKV, hL⟩ := id hI
        by_cases hb1 : (mxB (dOp a x (ownS a st f)) (fun g => dBy (dV a) a x (2 ^ g) (ownS a st f)) g) = 1
        · skip
          refine r_iload (pc2 := 96) 9 dX0_bestOf_94 rfl rfl ?_
          refine r_iconst (pc2 := 97) (v := 4) dX0_bestOf_96 (by decide) rfl ?_
          refine r_icmp_ge (tgt := 141) (pc2 := 100) dX0_bestOf_97 (by decide) rfl (fun b97 => ?_) (fun b97 => ?_)
          · skip
            exact fin _ kn h _ (by rw [dV_best hs hA hdz hol hop]; have e9 := mxB_top hFv hb1 (4 - g); rw [show g + (4 - g) = 4 by omega] at e9; rw [e9, hb1]) hI hQ
          · skip
            refine r_iload (pc2 := 102) 8 dX0_bestOf_100 rfl rfl ?_
            refine r_iconst (pc2 := 103) (v := 1) dX0_bestOf_102 (by decide) rfl ?_
            refine r_icmp_ge (tgt := 141) (pc2 := 106) dX0_bestOf_103 (by decide) rfl (fun b103 => ?_) (fun b103 => ?_)
            · skip
              exact fin _ kn h _ (by rw [dV_best hs hA hdz hol hop]; have e9 := mxB_top hFv hb1 (4 - g); rw [show g + (4 - g) = 4 by omega] at e9; rw [e9, hb1]) hI hQ
            · exact absurd (by rw [hb1]; decide) b103
        · by_cases hb : (dOp a x (ownS a st f)).testBit g = true
          · have hgG : g < a 3 := by
              rcases Nat.lt_or_ge g (a 3) with z | z
              · exact z
              · rw [(lt_bits (a 3) hG _ ho16).mp (Nat.lt_of_le_of_lt (dif_le _ _) hol) g z hlt] at hb; cases hb
            have hok := okS_g hG (by omega) hgG hb hdz
            refine r_iload (pc2 := 96) 9 dX0_bestOf_94 rfl rfl ?_
            refine r_iconst (pc2 := 97) (v := 4) dX0_bestOf_96 (by decide) rfl ?_
            refine r_icmp_ge (tgt := 141) (pc2 := 100) dX0_bestOf_97 (by decide) rfl (fun b97 => ?_) (fun b97 => ?_)
            · exact absurd b97 (nI_ge (b := 4) hlt (by decide))
            · skip
              refine r_iload (pc2 := 102) 8 dX0_bestOf_100 rfl rfl ?_
              refine r_iconst (pc2 := 103) (v := 1) dX0_bestOf_102 (by decide) rfl ?_
              refine r_icmp_ge (tgt := 141) (pc2 := 106) dX0_bestOf_103 (by decide) rfl (fun b103 => ?_) (fun b103 => ?_)
              · exact absurd b103 (Int32.not_le.mpr (lt1_3 (mxB_v hFv g) hb1))
              · skip
                refine r_iload (pc2 := 108) 7 dX0_bestOf_106 rfl rfl ?_
                refine r_iload (pc2 := 110) 9 dX0_bestOf_108 rfl rfl ?_
                refine r_ishr (pc2 := 111) dX0_bestOf_110 rfl ?_
                refine r_iconst (pc2 := 112) (v := 1) dX0_bestOf_111 (by decide) rfl ?_
                refine r_iand (pc2 := 113) dX0_bestOf_112 rfl ?_
                refine r_iconst (pc2 := 114) (v := 1) dX0_bestOf_113 (by decide) rfl ?_
                refine r_icmp_ne (tgt := 135) (pc2 := 117) dX0_bestOf_114 (by decide) rfl (fun b114 => ?_) (fun b114 => ?_)
                · exact absurd ((bit16 _ ho16 g hlt).mpr hb) b114
                · skip
                  refine r_iload (pc2 := 119) 8 dX0_bestOf_117 rfl rfl ?_
                  refine r_aload_n (pc2 := 120) 0 dX0_bestOf_119 rfl rfl rfl rfl ?_
                  refine r_iload_n (pc2 := 121) 1 dX0_bestOf_120 rfl rfl rfl ?_
                  refine r_iload_n (pc2 := 122) 2 dX0_bestOf_121 rfl rfl rfl ?_
                  refine r_iload_n (pc2 := 123) 3 dX0_bestOf_122 rfl rfl rfl ?_
                  refine r_iload (pc2 := 125) 9 dX0_bestOf_123 rfl rfl ?_
                  refine r_iload (pc2 := 127) 4 dX0_bestOf_125 rfl rfl ?_
                  refine r_callV1 (pc2 := 130) (As := [.int (nI (tws x)), .int (nI (x / 4096)), .int (nI f), .int (nI g), .int (nI lv)]) (st := [.int (mxB (dOp a x (ownS a st f)) (fun g => dBy (dV a) a x (2 ^ g) (ownS a st f)) g)]) kX0_54 rfl rfl dX0_bestOf_127 cq (by omega) rfl rfl (Nat.le_of_ble_eq_true rfl) (by omega) (hs9 x f g lv (d - 1) _ kn hs hf hgG hok hrm hlv (by omega) hI) rfl (fun h hq127 => ?_)
                  obtain ⟨kn2, hI2, hQ2⟩ := hq127
                  refine r_callS1 (pc2 := 133) (As := [.int (mxB (dOp a x (ownS a st f)) (fun g => dBy (dV a) a x (2 ^ g) (ownS a st f)) g), .int (dBy (dV a) a x (2 ^ g) (ownS a st f))]) (st := []) kX0_58 dX0_bestOf_130 rfl rfl (Nat.le_of_ble_eq_true rfl) (by omega) (c_max _ _) rfl (fun h2 hq130 => ?_)
                  obtain rfl := hq130.symm
                  refine r_topi (fun x133 e133 => ?_)
                  refine r_istore (pc2 := 135) (ls2 := [.ref q, .int (nI (tws x)), .int (nI (x / 4096)), .int (nI f), .int (nI lv), .int (nI (2 * cst x + f)), .int 1, .int (nI (dOp a x (ownS a st f))), .int x133, .int (nI g)]) 8 dX0_bestOf_133 (by decide) rfl rfl rfl ?_
                  obtain ⟨x135, e135⟩ : ∃ z : Int32, z = (nI g) + (1) := ⟨_, rfl⟩
                  refine r_iinc (pc2 := 138) (ls2 := [.ref q, .int (nI (tws x)), .int (nI (x / 4096)), .int (nI f), .int (nI lv), .int (nI (2 * cst x + f)), .int 1, .int (nI (dOp a x (ownS a st f))), .int x133, .int x135]) (v := x135) 9 dX0_bestOf_135 rfl (by rw [e135]; rfl) rfl rfl rfl ?_
                  refine r_goto (pc2 := 94) dX0_bestOf_138 (by decide) ?_
                  rw [e135, nI_1, e133, show (if (mxB (dOp a x (ownS a st f)) (fun g => dBy (dV a) a x (2 ^ g) (ownS a st f)) g) < dBy (dV a) a x (2 ^ g) (ownS a st f) then dBy (dV a) a x (2 ^ g) (ownS a st f) else (mxB (dOp a x (ownS a st f)) (fun g => dBy (dV a) a x (2 ^ g) (ownS a st f)) g)) = (mxB (dOp a x (ownS a st f)) (fun g => dBy (dV a) a x (2 ^ g) (ownS a st f)) (g + 1)) from (if_pos hb).symm]
                  exact ihg (g + 1) h kn2 (by omega) hI2 (hQ.trans hQ2 hL9.dv.n)
          · skip
            refine r_iload (pc2 := 96) 9 dX0_bestOf_94 rfl rfl ?_
            refine r_iconst (pc2 := 97) (v := 4) dX0_bestOf_96 (by decide) rfl ?_
            refine r_icmp_ge (tgt := 141) (pc2 := 100) dX0_bestOf_97 (by decide) rfl (fun b97 => ?_) (fun b97 => ?_)
            · exact absurd b97 (nI_ge (b := 4) hlt (by decide))
            · skip
              refine r_iload (pc2 := 102) 8 dX0_bestOf_100 rfl rfl ?_
              refine r_iconst (pc2 := 103) (v := 1) dX0_bestOf_102 (by decide) rfl ?_
              refine r_icmp_ge (tgt := 141) (pc2 := 106) dX0_bestOf_103 (by decide) rfl (fun b103 => ?_) (fun b103 => ?_)
              · exact absurd b103 (Int32.not_le.mpr (lt1_3 (mxB_v hFv g) hb1))
              · skip
                refine r_iload (pc2 := 108) 7 dX0_bestOf_106 rfl rfl ?_
                refine r_iload (pc2 := 110) 9 dX0_bestOf_108 rfl rfl ?_
                refine r_ishr (pc2 := 111) dX0_bestOf_110 rfl ?_
                refine r_iconst (pc2 := 112) (v := 1) dX0_bestOf_111 (by decide) rfl ?_
                refine r_iand (pc2 := 113) dX0_bestOf_112 rfl ?_
                refine r_iconst (pc2 := 114) (v := 1) dX0_bestOf_113 (by decide) rfl ?_
                refine r_icmp_ne (tgt := 135) (pc2 := 117) dX0_bestOf_114 (by decide) rfl (fun b114 => ?_) (fun b114 => ?_)
                · skip
                  obtain ⟨x135, e135⟩ : ∃ z : Int32, z = (nI g) + (1) := ⟨_, rfl⟩
                  refine r_iinc (pc2 := 138) (ls2 := [.ref q, .int (nI (tws x)), .int (nI (x / 4096)), .int (nI f), .int (nI lv), .int (nI (2 * cst x + f)), .int 1, .int (nI (dOp a x (ownS a st f))), .int (mxB (dOp a x (ownS a st f)) (fun g => dBy (dV a) a x (2 ^ g) (ownS a st f)) g), .int x135]) (v := x135) 9 dX0_bestOf_135 rfl (by rw [e135]; rfl) rfl rfl rfl ?_
                  refine r_goto (pc2 := 94) dX0_bestOf_138 (by decide) ?_
                  rw [e135, nI_1, show (mxB (dOp a x (ownS a st f)) (fun g => dBy (dV a) a x (2 ^ g) (ownS a st f)) g) = (mxB (dOp a x (ownS a st f)) (fun g => dBy (dV a) a x (2 ^ g) (ownS a st f)) (g + 1)) from (if_neg hb).symm]
                  exact ihg (g + 1) h kn (by omega) hI hQ
                · exact absurd ((bit16 _ ho16 g hlt).mp b114) hb
    have hI := hI9
    obtain ⟨cq, ⟨fs, csd, hf0, hf1⟩, ckn, hKB, hKV, hL⟩ := id hI
    obtain ⟨lo, so9, sa, nl, sl, cs⟩ := hL.dv.cs
    have hff : fs f = nI (ownS a st f) := by
      match f, hf with
      | 0, _ => exact hf0
      | 1, _ => exact hf1
    have hm : ¬ kn (2 * cst x + f) >>> ((2 : Int32) &&& 31) = nI sp := hm9
    refine Cn.go (ls := [.ref q, .int (nI (tws x)), .int (nI (x / 4096)), .int (nI f), .int (nI lv), .float 0, .float 0, .float 0, .float 0, .float 0]) (by decide +kernel) rfl (Nat.le_of_ble_eq_true rfl) ?_
    refine r_iload_n (pc2 := 1) 1 dX0_bestOf_0 rfl rfl rfl ?_
    refine r_bipush (pc2 := 3) (v := 10) dX0_bestOf_1 (by decide) rfl ?_
    refine r_imul (pc2 := 4) dX0_bestOf_3 rfl ?_
    refine r_cast (nI (tws x * 10)) (pk_mul _ 10) ?_
    refine r_iload_n (pc2 := 5) 2 dX0_bestOf_4 rfl rfl rfl ?_
    refine r_iadd (pc2 := 6) dX0_bestOf_5 rfl ?_
    refine r_cast (nI (cst x)) (by rw [nI_add]; exact congrArg nI (by unfold cst; omega)) ?_
    refine r_iconst (pc2 := 7) (v := 2) dX0_bestOf_6 (by decide) rfl ?_
    refine r_imul (pc2 := 8) dX0_bestOf_7 rfl ?_
    refine r_cast (nI (cst x * 2)) (pk_mul _ 2) ?_
    refine r_iload_n (pc2 := 9) 3 dX0_bestOf_8 rfl rfl rfl ?_
    refine r_iadd (pc2 := 10) dX0_bestOf_9 rfl ?_
    refine r_cast (nI (2 * cst x + f)) (by rw [nI_add]; exact congrArg nI (by omega)) ?_
    refine r_istore (pc2 := 12) (ls2 := [.ref q, .int (nI (tws x)), .int (nI (x / 4096)), .int (nI f), .int (nI lv), .int (nI (2 * cst x + f)), .float 0, .float 0, .float 0, .float 0]) 5 dX0_bestOf_10 (by decide) rfl rfl rfl ?_
    refine r_iload (pc2 := 14) 5 dX0_bestOf_12 rfl rfl ?_
    refine r_if_lt (tgt := 31) (pc2 := 17) dX0_bestOf_14 (by decide) rfl (fun b14 => ?_) (fun b14 => ?_)
    · exact absurd b14 (nI_pos (by omega))
    · skip
      refine r_iload (pc2 := 19) 5 dX0_bestOf_17 rfl rfl ?_
      refine r_aload_n (pc2 := 20) 0 dX0_bestOf_19 rfl rfl rfl rfl ?_
      refine r_getf (pc2 := 23) (v := .ref (q + 2)) fX0_16 dX0_bestOf_20 cq (by omega) rfl rfl ?_
      refine r_alen (pc2 := 24) dX0_bestOf_23 ckn (by omega) (by decide) rfl ?_
      refine r_icmp_ge (tgt := 31) (pc2 := 27) dX0_bestOf_24 (by decide) rfl (fun b24 => ?_) (fun b24 => ?_)
      · exact absurd b24 (nI_ge (b := 48020) (by omega) (by decide))
      · skip
        refine r_iconst (pc2 := 28) (v := 1) dX0_bestOf_27 (by decide) rfl ?_
        refine r_goto (pc2 := 32) dX0_bestOf_28 (by decide) ?_
        refine r_istore (pc2 := 34) (ls2 := [.ref q, .int (nI (tws x)), .int (nI (x / 4096)), .int (nI f), .int (nI lv), .int (nI (2 * cst x + f)), .int 1, .float 0, .float 0, .float 0]) 6 dX0_bestOf_32 (by decide) rfl rfl rfl ?_
        refine r_iload (pc2 := 36) 6 dX0_bestOf_34 rfl rfl ?_
        refine r_if_eq (tgt := 67) (pc2 := 39) dX0_bestOf_36 (by decide) rfl (fun b36 => ?_) (fun b36 => ?_)
        · exact absurd b36 (by decide)
        · skip
          refine r_aload_n (pc2 := 40) 0 dX0_bestOf_39 rfl rfl rfl rfl ?_
          refine r_getf (pc2 := 43) (v := .ref (q + 2)) fX0_16 dX0_bestOf_40 cq (by omega) rfl rfl ?_
          refine r_iload (pc2 := 45) 5 dX0_bestOf_43 rfl rfl ?_
          refine r_ialdN (pc2 := 46) (2 * cst x + f) dX0_bestOf_45 ckn (by omega) rfl (by omega) (by decide) rfl ?_
          refine r_iconst (pc2 := 47) (v := 2) dX0_bestOf_46 (by decide) rfl ?_
          refine r_ishr (pc2 := 48) dX0_bestOf_47 rfl ?_
          refine r_aload_n (pc2 := 49) 0 dX0_bestOf_48 rfl rfl rfl rfl ?_
          refine r_getf (pc2 := 52) (v := .int (nI sp)) fX0_40 dX0_bestOf_49 cq (by omega) rfl rfl ?_
          refine r_icmp_ne (tgt := 67) (pc2 := 55) dX0_bestOf_52 (by decide) rfl (fun b52 => ?_) (fun b52 => ?_)
          · skip
            refine r_aload_n (pc2 := 68) 0 dX0_bestOf_67 rfl rfl rfl rfl ?_
            refine r_getf (pc2 := 71) (v := .ref (q + 1)) fX0_9 dX0_bestOf_68 cq (by omega) rfl rfl ?_
            refine r_iload_n (pc2 := 72) 3 dX0_bestOf_71 rfl rfl rfl ?_
            refine r_iconst (pc2 := 73) (v := 1) dX0_bestOf_72 (by decide) rfl ?_
            refine r_iand (pc2 := 74) dX0_bestOf_73 rfl ?_
            refine r_cast (nI f) (and1 f hf) ?_
            refine r_ialdN (pc2 := 75) f dX0_bestOf_74 csd (by omega) rfl (by omega) (by decide) rfl ?_
            refine r_cast (nI (ownS a st f)) (hff) ?_
            refine r_aload_n (pc2 := 76) 0 dX0_bestOf_75 rfl rfl rfl rfl ?_
            refine r_getf (pc2 := 79) (v := .ref s) fX0_29 dX0_bestOf_76 cq (by omega) rfl rfl ?_
            refine r_iload_n (pc2 := 80) 1 dX0_bestOf_79 rfl rfl rfl ?_
            refine r_callV1 (pc2 := 83) (As := [.int (nI (tws x))]) (st := [.int (nI (ownS a st f))]) kX0_43 rfl rfl dX0_bestOf_80 cs hs64 rfl rfl (Nat.le_of_ble_eq_true rfl) (by omega) (c_pastQ (s := x) hL.dv hst hs.2.1 rfl) rfl (fun h2 hq80 => ?_)
            obtain rfl := hq80.symm
            refine r_iconst (pc2 := 84) (v := -1) dX0_bestOf_83 (by decide) rfl ?_
            refine r_ixor (pc2 := 85) dX0_bestOf_84 rfl ?_
            refine r_iand (pc2 := 86) dX0_bestOf_85 rfl ?_
            refine r_cast (nI (dOp a x (ownS a st f))) (dif_nI _ (by omega) _ (by omega)) ?_
            refine r_istore (pc2 := 88) (ls2 := [.ref q, .int (nI (tws x)), .int (nI (x / 4096)), .int (nI f), .int (nI lv), .int (nI (2 * cst x + f)), .int 1, .int (nI (dOp a x (ownS a st f))), .float 0, .float 0]) 7 dX0_bestOf_86 (by decide) rfl rfl rfl ?_
            refine r_iconst (pc2 := 89) (v := -1) dX0_bestOf_88 (by decide) rfl ?_
            refine r_istore (pc2 := 91) (ls2 := [.ref q, .int (nI (tws x)), .int (nI (x / 4096)), .int (nI f), .int (nI lv), .int (nI (2 * cst x + f)), .int 1, .int (nI (dOp a x (ownS a st f))), .int (-1), .float 0]) 8 dX0_bestOf_89 (by decide) rfl rfl rfl ?_
            refine r_iconst (pc2 := 92) (v := 0) dX0_bestOf_91 (by decide) rfl ?_
            refine r_cast (nI 0) (rfl) ?_
            refine r_istore (pc2 := 94) (ls2 := [.ref q, .int (nI (tws x)), .int (nI (x / 4096)), .int (nI f), .int (nI lv), .int (nI (2 * cst x + f)), .int 1, .int (nI (dOp a x (ownS a st f))), .int (-1), .int (nI 0)]) 9 dX0_bestOf_92 (by decide) rfl rfl rfl ?_
            exact loop 4 0 _ kn (by omega) hI GQ.rf
          · exact absurd b52 hm
theorem d_all {E : EnvT} {Z : Nat → Prop} {reg : Nat → FR} {ns s sg kd : Nat} {a b : FR} {q st sp : Nat} (hX : DCx Z reg ns s sg kd a b q st sp) : ∀ r, BST E Z reg ns s sg kd a b q st sp r
  | 0 => fun x f lv d h kn hs hdz hf hop hrm hlv hd hI => by
    exfalso
    have hA := hX.1
    have hw : ownS a st f < 2 ^ (a 3) := ownS_lt hX.2.2.2.1
    obtain ⟨g, hg, hb⟩ := bit_ex _ (dOp_lt (Nat.lt_of_lt_of_le hw (pw16 hA.G))) hop
    have hgG : g < a 3 := by
      rcases Nat.lt_or_ge g (a 3) with z | z
      · exact z
      · rw [(lt_bits (a 3) hA.G _ (dOp_lt (Nat.lt_of_lt_of_le hw (pw16 hA.G)))).mp (Nat.lt_of_le_of_lt (dif_le _ _) hw) g z hg] at hb; cases hb
    have hok := okS_g hA.G (Nat.lt_of_lt_of_le hw (pw16 hA.G)) hgG hb hdz
    have h1 := dgS_nxg hs hA.G hA.C hgG hok
    have h2 := dgS_le (hs.next hA.G hA.C hok)
    unfold rm9 at hrm
    omega
  | r + 1 => d_bestOf hX (d_byStep hX (d_outcome hX (d_all hX r)))
theorem rm9_le {a : FR} {x : Nat} (hC : a 1 ≤ 6) : rm9 a x ≤ 24 := by unfold rm9; omega
theorem c_outcome {E : EnvT} {Z : Nat → Prop} {reg : Nat → FR} {ns s sg kd : Nat} {a b : FR} {q st sp : Nat} {d x : Nat} {h : Hp} {kn : Nat → Int32} (hX : DCx Z reg ns s sg kd a b q st sp) (hs : SG a x) (hdz : x / 4096 ≠ 0) (hd : 84 ≤ d) (hI : DRI Z reg ns s sg kd a b q st sp kn h) : Cn E mX0_outcome d [.ref q, .int (nI (tws x)), .int (nI (x / 4096)), .int 0, .int 0] h (QDr Z reg ns s sg kd a b q st sp (dV a x st) h) := by
  have := rm9_le (x := x) hX.1.C
  exact d_outcome hX (d_all hX 24) x 0 0 d h kn hs hdz (by omega) (by omega) (by omega) (by omega) hI
theorem c_bestOf0 {E : EnvT} {Z : Nat → Prop} {reg : Nat → FR} {ns s sg kd : Nat} {a b : FR} {q st sp : Nat} {d x : Nat} {h : Hp} {kn : Nat → Int32} (hX : DCx Z reg ns s sg kd a b q st sp) (hs : SG a x) (hdz : x / 4096 ≠ 0) (ho : dOp a x st ≠ 0) (hd : 84 ≤ d) (hI : DRI Z reg ns s sg kd a b q st sp kn h) : Cn E mX0_bestOf d [.ref q, .int (nI (tws x)), .int (nI (x / 4096)), .int 0, .int 0] h (QDr Z reg ns s sg kd a b q st sp (dV a x st) h) := by
  have := rm9_le (x := x) hX.1.C
  exact d_all hX 24 x 0 0 d h kn hs hdz (by omega) ho (by omega) (by omega) (by omega) hI
theorem c_byStep0 {E : EnvT} {Z : Nat → Prop} {reg : Nat → FR} {ns s sg kd : Nat} {a b : FR} {q st sp : Nat} {d x g : Nat} {h : Hp} {kn : Nat → Int32} (hX : DCx Z reg ns s sg kd a b q st sp) (hs : SG a x) (hg : g < a 3) (hok : okS a x (2 ^ g)) (hd : 84 ≤ d) (hI : DRI Z reg ns s sg kd a b q st sp kn h) : Cn E mX0_byStep d [.ref q, .int (nI (tws x)), .int (nI (x / 4096)), .int 0, .int (nI g), .int 0] h (QDr Z reg ns s sg kd a b q st sp (dBy (dV a) a x (2 ^ g) st) h) := by
  have := rm9_le (x := x) hX.1.C
  exact d_byStep hX (d_outcome hX (d_all hX 24)) x 0 g 0 d h kn hs (by omega) hg hok (by omega) (by omega) (by omega) hI
