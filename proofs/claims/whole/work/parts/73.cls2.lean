def dpT (b : FR) (dp nz st pa dr : Nat) : Nat := if b 9 = 0 then (if nz = 0 then min 9 (dp + 1) else dp - nz) else lawV b 1 (wN [dr, dp, 0, 0, 0, 0, nz, st, pa]) 9
theorem dpT_le (b : FR) (dp nz st pa dr : Nat) (h : dp ≤ 9) : dpT b dp nz st pa dr ≤ 9 := by
  unfold dpT
  split
  · split <;> omega
  · exact lawV_le _ _ _ (by decide)
theorem clip9a {dp : Nat} (h : dp ≤ 9) : clipM (nI (dp + 1)) 9 = nI (min 9 (dp + 1)) := by
  have : ∀ dp, dp < 10 → clipM (nI (dp + 1)) 9 = nI (min 9 (dp + 1)) := by decide
  exact this dp (by omega)
theorem clip9b {dp nz : Nat} (h : dp ≤ 9) (hz : nz ≤ 1000) : clipM (nI dp - nI nz) 9 = nI (dp - nz) := by
  unfold clipM
  by_cases q : nz ≤ dp
  · rw [pk_sub q, if_neg (nI_pos (by omega)), if_neg (show ¬ (9 : Int32) < nI (dp - nz) from nI_nlt (b := dp - nz) (a := 9) (by omega) (by omega))]
  · have e : (nI dp - nI nz).toInt = (dp : Int) - nz := pk_sub_toInt (by omega) (by omega)
    rw [if_pos (Int32.lt_iff_toInt_lt.mpr (by rw [e]; show (dp : Int) - nz < 0; omega)), show dp - nz = 0 by omega]
    rfl
set_option maxRecDepth 20000 in
set_option maxHeartbeats 1000000 in
theorem c_depthThen {E : EnvT} {d : Nat} {h0 : Hp} {Z : Nat → Prop} {reg : Nat → FR} {b : FR} {ns s sg dr kd dp nz st pa : Nat} (hL : LWS h0 reg ns s sg dr kd) (hS : StO Z h0 s sg b) (hZ : ZL Z kd) (hb : LK b) (hreg : b = reg sg) (hsg : sg ≤ ns) (hns : ns ≤ 900) (hdr : dr ≤ 9) (hkd : b 9 = 1 → kd ≠ 0) (hdp : dp ≤ 9) (hnz : nz ≤ 1000) (hst : st ≤ 4) (hpa : pa ≤ 4) (hd : 2 ≤ d) : Cn E mX2_depthThen d [.ref 82, .int (nI dp), .int (nI nz), .int (nI st), .int (nI pa)] h0 (fun r h2 => r = some (.int (nI (dpT b dp nz st pa dr))) ∧ Ex [87, 88, 89, kd] h0 h2 ∧ LWS h2 reg ns s sg dr kd) := by
  obtain ⟨c82, ⟨kn, c87, hCN⟩, ⟨w, c88⟩, ⟨f, c89⟩, hKD⟩ := hL
  obtain ⟨lo, so, sa, nl, sl, ⟨zs, zlo, zso, zsa⟩, cs, ⟨fl, clo, hfl⟩, ⟨fs, cso, hfs⟩, csa, hl0, hl1⟩ := hS
  have hA := hb.1
  have a1 := hA.1
  have a2 := hA.2.1
  have hx : Ex [87, 88, 89, kd] h0 h0 := Ex.rf
  rcases hl1 with ⟨h9, rfl⟩ | ⟨h9, na, fc, rfl, zna, cna, hfc⟩
  · have h9 : b 9 = 0 := h9
    by_cases hz : nz = 0
    · skip
      refine Cn.go (ls := [.ref 82, .int (nI dp), .int (nI nz), .int (nI st), .int (nI pa), .float 0, .float 0, .float 0]) (by decide +kernel) rfl (Nat.le_of_ble_eq_true rfl) ?_
      refine r_aload_n (pc2 := 1) 0 dX2_depthThen_0 rfl rfl rfl rfl ?_
      refine r_getf (pc2 := 4) (v := .ref s) fX2_14 dX2_depthThen_1 c82 (by decide) rfl rfl ?_
      refine r_getf (pc2 := 7) (v := .null) fX2_43 dX2_depthThen_4 cs (hZ s zs).1 rfl rfl ?_
      refine r_ifnonnullN (pc2 := 10) dX2_depthThen_7 rfl ?_
      refine r_iload_n (pc2 := 11) 2 dX2_depthThen_10 rfl rfl rfl ?_
      refine r_if_ne (tgt := 20) (pc2 := 14) dX2_depthThen_11 (by decide) rfl (fun b11 => ?_) (fun b11 => ?_)
      · exact absurd (congrArg nI hz) b11
      · skip
        refine r_iload_n (pc2 := 15) 1 dX2_depthThen_14 rfl rfl rfl ?_
        refine r_iconst (pc2 := 16) (v := 1) dX2_depthThen_15 (by decide) rfl ?_
        refine r_iadd (pc2 := 17) dX2_depthThen_16 rfl ?_
        refine r_goto (pc2 := 23) dX2_depthThen_17 (by decide) ?_
        refine r_cast (nI (dp + 1)) (nI_1 _) ?_
        refine r_istore (pc2 := 25) (ls2 := [.ref 82, .int (nI dp), .int (nI nz), .int (nI st), .int (nI pa), .int (nI (dp + 1)), .float 0, .float 0]) 5 dX2_depthThen_23 (by decide) rfl rfl rfl ?_
        refine r_iconst (pc2 := 26) (v := 0) dX2_depthThen_25 (by decide) rfl ?_
        refine r_bipush (pc2 := 28) (v := 9) dX2_depthThen_26 (by decide) rfl ?_
        refine r_iload (pc2 := 30) 5 dX2_depthThen_28 rfl rfl ?_
        refine r_callS1 (pc2 := 33) (As := [.int 9, .int (nI (dp + 1))]) (st := [.int 0]) kX2_91 dX2_depthThen_30 rfl rfl (Nat.le_of_ble_eq_true rfl) (by omega) (c_min _ _) rfl (fun h2 hq30 => ?_)
        subst hq30
        refine r_callS1 (pc2 := 36) (As := [.int 0, .int (if (9 : Int32) ≤ nI (dp + 1) then 9 else nI (dp + 1))]) (st := []) kX2_80 dX2_depthThen_33 rfl rfl (Nat.le_of_ble_eq_true rfl) (by omega) ((c_max _ _).mono fun r h2 q => ⟨q.1.trans (by rw [mm_clip (by decide), clip9a hdp]), q.2⟩) rfl (fun h2 hq33 => ?_)
        subst hq33
        exact r_iret rfl dX2_depthThen_36 ⟨by unfold dpT; rw [if_pos h9, if_pos hz], hx, ⟨c82, ⟨_, c87, hCN⟩, ⟨_, c88⟩, ⟨_, c89⟩, hKD⟩⟩
    · skip
      refine Cn.go (ls := [.ref 82, .int (nI dp), .int (nI nz), .int (nI st), .int (nI pa), .float 0, .float 0, .float 0]) (by decide +kernel) rfl (Nat.le_of_ble_eq_true rfl) ?_
      refine r_aload_n (pc2 := 1) 0 dX2_depthThen_0 rfl rfl rfl rfl ?_
      refine r_getf (pc2 := 4) (v := .ref s) fX2_14 dX2_depthThen_1 c82 (by decide) rfl rfl ?_
      refine r_getf (pc2 := 7) (v := .null) fX2_43 dX2_depthThen_4 cs (hZ s zs).1 rfl rfl ?_
      refine r_ifnonnullN (pc2 := 10) dX2_depthThen_7 rfl ?_
      refine r_iload_n (pc2 := 11) 2 dX2_depthThen_10 rfl rfl rfl ?_
      refine r_if_ne (tgt := 20) (pc2 := 14) dX2_depthThen_11 (by decide) rfl (fun b11 => ?_) (fun b11 => ?_)
      · skip
        refine r_iload_n (pc2 := 21) 1 dX2_depthThen_20 rfl rfl rfl ?_
        refine r_iload_n (pc2 := 22) 2 dX2_depthThen_21 rfl rfl rfl ?_
        refine r_isub (pc2 := 23) dX2_depthThen_22 rfl ?_
        refine r_topi (fun x23 e23 => ?_)
        refine r_istore (pc2 := 25) (ls2 := [.ref 82, .int (nI dp), .int (nI nz), .int (nI st), .int (nI pa), .int x23, .float 0, .float 0]) 5 dX2_depthThen_23 (by decide) rfl rfl rfl ?_
        refine r_iconst (pc2 := 26) (v := 0) dX2_depthThen_25 (by decide) rfl ?_
        refine r_bipush (pc2 := 28) (v := 9) dX2_depthThen_26 (by decide) rfl ?_
        refine r_iload (pc2 := 30) 5 dX2_depthThen_28 rfl rfl ?_
        refine r_callS1 (pc2 := 33) (As := [.int 9, .int x23]) (st := [.int 0]) kX2_91 dX2_depthThen_30 rfl rfl (Nat.le_of_ble_eq_true rfl) (by omega) (c_min _ _) rfl (fun h2 hq30 => ?_)
        subst hq30
        refine r_callS1 (pc2 := 36) (As := [.int 0, .int (if (9 : Int32) ≤ x23 then 9 else x23)]) (st := []) kX2_80 dX2_depthThen_33 rfl rfl (Nat.le_of_ble_eq_true rfl) (by omega) ((c_max _ _).mono fun r h2 q => ⟨q.1.trans (by rw [mm_clip (by decide), e23, clip9b hdp (by omega)]), q.2⟩) rfl (fun h2 hq33 => ?_)
        subst hq33
        exact r_iret rfl dX2_depthThen_36 ⟨by unfold dpT; rw [if_pos h9, if_neg hz], hx, ⟨c82, ⟨_, c87, hCN⟩, ⟨_, c88⟩, ⟨_, c89⟩, hKD⟩⟩
      · exact absurd ((nI_eq (b := 0) (by omega) (by decide)).mp b11) hz
  · have h9 : b 9 = 1 := h9
    have hk0 := hkd h9
    obtain ⟨hk9, g, ckd, hCD⟩ := hKD hk0
    have hn9 : ¬ b 9 = 0 := by omega
    rw [show kdV kd = .ref kd from if_neg hk0] at c82
    obtain ⟨hfm, hwf, husd⟩ : b 11 + b 13 ≤ 900 ∧ LawWF (lawF b 1) (b 13) ∧ ∀ k, k < b 13 → 1000 ≤ lawF b 1 k → lawF b 1 k < 3000 → usedW 1 (lawF b 1 k - 1000) := by
      rcases hA.2.2.2.2.2.2.2.2 with q | q
      · exact absurd q hn9
      · exact q.2
    have hsaf := hb.2 1 (by decide) h9
    have hst0 := hst
    have hst : stN sg dr < 10000 := by unfold stN; omega
    have hwd1 : ∀ k, k < b 13 → 1000 ≤ lawF b 1 k → lawF b 1 k < 3000 → upd (upd (upd (upd (upd w 0 (nI dr)) 1 (nI dp)) 2 (nI nz)) 3 (nI st)) 4 (nI pa) (widx (lawF b 1 k - 1000)) = wN [dr, dp, 0, 0, 0, 0, nz, st, pa] (lawF b 1 k - 1000) := fun k hk q1 q2 => by
      have u := husd k hk q1 q2
      have u9 : lawF b 1 k - 1000 < 9 := by
        rcases hwf.1 k hk with o | o | o | o | o
        · omega
        · omega
        · omega
        · omega
        · rcases o.1 with o | o | o | o | o | o | o | o <;> omega
      have u5 : lawF b 1 k - 1000 ≤ 1 ∨ 6 ≤ lawF b 1 k - 1000 := u
      generalize lawF b 1 k - 1000 = j at u5 u9
      match j, u9, u5 with
      | 0, _, _ => rfl
      | 1, _, _ => rfl
      | 6, _, _ => rfl
      | 7, _, _ => rfl
      | 8, _, _ => rfl
    by_cases hn1 : nz < 128
    · have ed1 : (((dp * 128 + nz) * 5 + st) * 5 + pa) / 3200 = dp := by omega
      have ed2 : (((dp * 128 + nz) * 5 + st) * 5 + pa) / 25 % 128 = nz := by omega
      have ed3 : (((dp * 128 + nz) * 5 + st) * 5 + pa) / 5 % 5 = st := by omega
      have ed4 : (((dp * 128 + nz) * 5 + st) * 5 + pa) % 5 = pa := by omega
      refine Cn.go (ls := [.ref 82, .int (nI dp), .int (nI nz), .int (nI st), .int (nI pa), .float 0, .float 0, .float 0]) (by decide +kernel) rfl (Nat.le_of_ble_eq_true rfl) ?_
      refine r_aload_n (pc2 := 1) 0 dX2_depthThen_0 rfl rfl rfl rfl ?_
      refine r_getf (pc2 := 4) (v := .ref s) fX2_14 dX2_depthThen_1 c82 (by decide) rfl rfl ?_
      refine r_getf (pc2 := 7) (v := .ref na) fX2_43 dX2_depthThen_4 cs (hZ s zs).1 rfl rfl ?_
      refine r_ifnonnull (tgt := 37) dX2_depthThen_7 (hZ na zna).1 (by decide) ?_
      refine r_iload_n (pc2 := 38) 1 dX2_depthThen_37 rfl rfl rfl ?_
      refine r_sipush (pc2 := 41) (v := 128) dX2_depthThen_38 (by decide) rfl ?_
      refine r_imul (pc2 := 42) dX2_depthThen_41 rfl ?_
      refine r_cast (nI (dp * 128)) (pk_mul dp 128) ?_
      refine r_iload_n (pc2 := 43) 2 dX2_depthThen_42 rfl rfl rfl ?_
      refine r_iadd (pc2 := 44) dX2_depthThen_43 rfl ?_
      refine r_cast (nI (dp * 128 + nz)) (nI_add _ _) ?_
      refine r_iconst (pc2 := 45) (v := 5) dX2_depthThen_44 (by decide) rfl ?_
      refine r_imul (pc2 := 46) dX2_depthThen_45 rfl ?_
      refine r_cast (nI ((dp * 128 + nz) * 5)) (pk_mul _ 5) ?_
      refine r_iload_n (pc2 := 47) 3 dX2_depthThen_46 rfl rfl rfl ?_
      refine r_iadd (pc2 := 48) dX2_depthThen_47 rfl ?_
      refine r_cast (nI ((dp * 128 + nz) * 5 + st)) (nI_add _ _) ?_
      refine r_iconst (pc2 := 49) (v := 5) dX2_depthThen_48 (by decide) rfl ?_
      refine r_imul (pc2 := 50) dX2_depthThen_49 rfl ?_
      refine r_cast (nI (((dp * 128 + nz) * 5 + st) * 5)) (pk_mul _ 5) ?_
      refine r_iload (pc2 := 52) 4 dX2_depthThen_50 rfl rfl ?_
      refine r_iadd (pc2 := 53) dX2_depthThen_52 rfl ?_
      refine r_cast (nI (((dp * 128 + nz) * 5 + st) * 5 + pa)) (nI_add _ _) ?_
      refine r_istore (pc2 := 55) (ls2 := [.ref 82, .int (nI dp), .int (nI nz), .int (nI st), .int (nI pa), .int (nI (((dp * 128 + nz) * 5 + st) * 5 + pa)), .float 0, .float 0]) 5 dX2_depthThen_53 (by decide) rfl rfl rfl ?_
      refine r_iload_n (pc2 := 56) 2 dX2_depthThen_55 rfl rfl rfl ?_
      refine r_sipush (pc2 := 59) (v := 128) dX2_depthThen_56 (by decide) rfl ?_
      refine r_icmp_ge (tgt := 88) (pc2 := 62) dX2_depthThen_59 (by decide) rfl (fun b59 => ?_) (fun b59 => ?_)
      · exact absurd b59 (nI_ge (b := 128) hn1 (by decide))
      · skip
        refine r_iload (pc2 := 64) 5 dX2_depthThen_62 rfl rfl ?_
        refine r_if_lt (tgt := 88) (pc2 := 67) dX2_depthThen_64 (by decide) rfl (fun b64 => ?_) (fun b64 => ?_)
        · exact absurd b64 (nI_pos (by omega))
        · skip
          refine r_aload_n (pc2 := 68) 0 dX2_depthThen_67 rfl rfl rfl rfl ?_
          refine r_getf (pc2 := 71) (v := .ref kd) fX2_40 dX2_depthThen_68 c82 (by decide) rfl rfl ?_
          refine r_ifnull (pc2 := 74) dX2_depthThen_71 (by omega) rfl ?_
          refine r_iload (pc2 := 76) 5 dX2_depthThen_74 rfl rfl ?_
          refine r_aload_n (pc2 := 77) 0 dX2_depthThen_76 rfl rfl rfl rfl ?_
          refine r_getf (pc2 := 80) (v := .ref kd) fX2_40 dX2_depthThen_77 c82 (by decide) rfl rfl ?_
          refine r_alen (pc2 := 81) dX2_depthThen_80 ckd (by omega) (by decide) rfl ?_
          refine r_icmp_ge (tgt := 88) (pc2 := 84) dX2_depthThen_81 (by decide) rfl (fun b81 => ?_) (fun b81 => ?_)
          · exact absurd b81 (nI_ge (b := 32000) (by omega) (by decide))
          · skip
            refine r_iconst (pc2 := 85) (v := 1) dX2_depthThen_84 (by decide) rfl ?_
            refine r_goto (pc2 := 89) dX2_depthThen_85 (by decide) ?_
            refine r_istore (pc2 := 91) (ls2 := [.ref 82, .int (nI dp), .int (nI nz), .int (nI st), .int (nI pa), .int (nI (((dp * 128 + nz) * 5 + st) * 5 + pa)), .int 1, .float 0]) 6 dX2_depthThen_89 (by decide) rfl rfl rfl ?_
            refine r_iload (pc2 := 93) 6 dX2_depthThen_91 rfl rfl ?_
            refine r_if_eq (tgt := 123) (pc2 := 96) dX2_depthThen_93 (by decide) rfl (fun b93 => ?_) (fun b93 => ?_)
            · exact absurd b93 (by decide)
            · skip
              refine r_aload_n (pc2 := 97) 0 dX2_depthThen_96 rfl rfl rfl rfl ?_
              refine r_getf (pc2 := 100) (v := .ref kd) fX2_40 dX2_depthThen_97 c82 (by decide) rfl rfl ?_
              refine r_iload (pc2 := 102) 5 dX2_depthThen_100 rfl rfl ?_
              refine r_ialdN (pc2 := 103) (((dp * 128 + nz) * 5 + st) * 5 + pa) dX2_depthThen_102 ckd (by omega) rfl (by omega) (by decide) rfl ?_
              refine r_iconst (pc2 := 104) (v := 4) dX2_depthThen_103 (by decide) rfl ?_
              refine r_ishr (pc2 := 105) dX2_depthThen_104 rfl ?_
              refine r_aload_n (pc2 := 106) 0 dX2_depthThen_105 rfl rfl rfl rfl ?_
              refine r_getf (pc2 := 109) (v := .int (nI (stN sg dr))) fX2_37 dX2_depthThen_106 c82 (by decide) rfl rfl ?_
              refine r_icmp_ne (tgt := 123) (pc2 := 112) dX2_depthThen_109 (by decide) rfl (fun b109 => ?_) (fun b109 => ?_)
              · skip
                refine r_aload_n (pc2 := 124) 0 dX2_depthThen_123 rfl rfl rfl rfl ?_
                refine r_getf (pc2 := 127) (v := .ref 88) fX2_24 dX2_depthThen_124 c82 (by decide) rfl rfl ?_
                refine r_iconst (pc2 := 128) (v := 0) dX2_depthThen_127 (by decide) rfl ?_
                refine r_aload_n (pc2 := 129) 0 dX2_depthThen_128 rfl rfl rfl rfl ?_
                refine r_getf (pc2 := 132) (v := .int (nI dr)) fX2_30 dX2_depthThen_129 c82 (by decide) rfl rfl ?_
                refine r_iastN (pc2 := 133) 0 dX2_depthThen_132 c88 (by decide) rfl (by decide) (by decide) rfl (fun h z132 o132 c88 => ?_)
                have c82 := (o132 82 (by decide)).trans c82
                have cs := (o132 s (hZ s zs).2.2.2.1).trans cs
                have clo := (o132 lo (hZ lo zlo).2.2.2.1).trans clo
                have cso := (o132 so (hZ so zso).2.2.2.1).trans cso
                have c87 := (o132 87 (by decide)).trans c87
                have c89 := (o132 89 (by decide)).trans c89
                have cna := (o132 na (hZ na zna).2.2.2.1).trans cna
                have ckd := (o132 kd (by omega)).trans ckd
                have hx := hx.step (a := 88) (by simp) z132 o132
                refine r_aload_n (pc2 := 134) 0 dX2_depthThen_133 rfl rfl rfl rfl ?_
                refine r_getf (pc2 := 137) (v := .ref 88) fX2_24 dX2_depthThen_134 c82 (by decide) rfl rfl ?_
                refine r_iconst (pc2 := 138) (v := 1) dX2_depthThen_137 (by decide) rfl ?_
                refine r_iload_n (pc2 := 139) 1 dX2_depthThen_138 rfl rfl rfl ?_
                refine r_iastN (pc2 := 140) 1 dX2_depthThen_139 c88 (by decide) rfl (by decide) (by decide) rfl (fun h z139 o139 c88 => ?_)
                have c82 := (o139 82 (by decide)).trans c82
                have cs := (o139 s (hZ s zs).2.2.2.1).trans cs
                have clo := (o139 lo (hZ lo zlo).2.2.2.1).trans clo
                have cso := (o139 so (hZ so zso).2.2.2.1).trans cso
                have c87 := (o139 87 (by decide)).trans c87
                have c89 := (o139 89 (by decide)).trans c89
                have cna := (o139 na (hZ na zna).2.2.2.1).trans cna
                have ckd := (o139 kd (by omega)).trans ckd
                have hx := hx.step (a := 88) (by simp) z139 o139
                refine r_aload_n (pc2 := 141) 0 dX2_depthThen_140 rfl rfl rfl rfl ?_
                refine r_getf (pc2 := 144) (v := .ref 88) fX2_24 dX2_depthThen_141 c82 (by decide) rfl rfl ?_
                refine r_iconst (pc2 := 145) (v := 2) dX2_depthThen_144 (by decide) rfl ?_
                refine r_iload_n (pc2 := 146) 2 dX2_depthThen_145 rfl rfl rfl ?_
                refine r_iastN (pc2 := 147) 2 dX2_depthThen_146 c88 (by decide) rfl (by decide) (by decide) rfl (fun h z146 o146 c88 => ?_)
                have c82 := (o146 82 (by decide)).trans c82
                have cs := (o146 s (hZ s zs).2.2.2.1).trans cs
                have clo := (o146 lo (hZ lo zlo).2.2.2.1).trans clo
                have cso := (o146 so (hZ so zso).2.2.2.1).trans cso
                have c87 := (o146 87 (by decide)).trans c87
                have c89 := (o146 89 (by decide)).trans c89
                have cna := (o146 na (hZ na zna).2.2.2.1).trans cna
                have ckd := (o146 kd (by omega)).trans ckd
                have hx := hx.step (a := 88) (by simp) z146 o146
                refine r_aload_n (pc2 := 148) 0 dX2_depthThen_147 rfl rfl rfl rfl ?_
                refine r_getf (pc2 := 151) (v := .ref 88) fX2_24 dX2_depthThen_148 c82 (by decide) rfl rfl ?_
                refine r_iconst (pc2 := 152) (v := 3) dX2_depthThen_151 (by decide) rfl ?_
                refine r_iload_n (pc2 := 153) 3 dX2_depthThen_152 rfl rfl rfl ?_
                refine r_iastN (pc2 := 154) 3 dX2_depthThen_153 c88 (by decide) rfl (by decide) (by decide) rfl (fun h z153 o153 c88 => ?_)
                have c82 := (o153 82 (by decide)).trans c82
                have cs := (o153 s (hZ s zs).2.2.2.1).trans cs
                have clo := (o153 lo (hZ lo zlo).2.2.2.1).trans clo
                have cso := (o153 so (hZ so zso).2.2.2.1).trans cso
                have c87 := (o153 87 (by decide)).trans c87
                have c89 := (o153 89 (by decide)).trans c89
                have cna := (o153 na (hZ na zna).2.2.2.1).trans cna
                have ckd := (o153 kd (by omega)).trans ckd
                have hx := hx.step (a := 88) (by simp) z153 o153
                refine r_aload_n (pc2 := 155) 0 dX2_depthThen_154 rfl rfl rfl rfl ?_
                refine r_getf (pc2 := 158) (v := .ref 88) fX2_24 dX2_depthThen_155 c82 (by decide) rfl rfl ?_
                refine r_iconst (pc2 := 159) (v := 4) dX2_depthThen_158 (by decide) rfl ?_
                refine r_iload (pc2 := 161) 4 dX2_depthThen_159 rfl rfl ?_
                refine r_iastN (pc2 := 162) 4 dX2_depthThen_161 c88 (by decide) rfl (by decide) (by decide) rfl (fun h z161 o161 c88 => ?_)
                have c82 := (o161 82 (by decide)).trans c82
                have cs := (o161 s (hZ s zs).2.2.2.1).trans cs
                have clo := (o161 lo (hZ lo zlo).2.2.2.1).trans clo
                have cso := (o161 so (hZ so zso).2.2.2.1).trans cso
                have c87 := (o161 87 (by decide)).trans c87
                have c89 := (o161 89 (by decide)).trans c89
                have cna := (o161 na (hZ na zna).2.2.2.1).trans cna
                have ckd := (o161 kd (by omega)).trans ckd
                have hx := hx.step (a := 88) (by simp) z161 o161
                refine r_iconst (pc2 := 163) (v := 0) dX2_depthThen_162 (by decide) rfl ?_
                refine r_bipush (pc2 := 165) (v := 9) dX2_depthThen_163 (by decide) rfl ?_
                refine r_aload_n (pc2 := 166) 0 dX2_depthThen_165 rfl rfl rfl rfl ?_
                refine r_aload_n (pc2 := 167) 0 dX2_depthThen_166 rfl rfl rfl rfl ?_
                refine r_getf (pc2 := 170) (v := .ref s) fX2_14 dX2_depthThen_167 c82 (by decide) rfl rfl ?_
                refine r_getf (pc2 := 173) (v := .ref na) fX2_43 dX2_depthThen_170 cs (hZ s zs).1 rfl rfl ?_
                refine r_callV1 (pc2 := 176) (As := [.ref na]) (st := [.int 9, .int 0]) kX2_87 rfl rfl dX2_depthThen_173 c82 (by decide) rfl rfl (Nat.le_of_ble_eq_true rfl) (by omega) (c_run (w := wN [dr, dp, 0, 0, 0, 0, nz, st, pa]) (cf := lawF b 1) (n := b 13) c82 c88 c89 cna (hZ na zna).1 (hZ na zna).2.2.2.2.1 (by omega) hwf hfc (fun k hk q1 q2 => hwd1 k hk q1 q2) (fun k hk q y x r z => hsaf (wN [dr, dp, 0, 0, 0, 0, nz, st, pa]) (wN_bd (by intro x hx; simp at hx; omega)) k hk q y x r z) (by omega)) rfl (fun h hq173 => ?_)
                obtain ⟨hxr, f9, c89⟩ := hq173
                have c82 := hxr.get (by decide) c82
                have cs := hxr.get (nin1 (hZ s zs).2.2.2.2.1) cs
                have clo := hxr.get (nin1 (hZ lo zlo).2.2.2.2.1) clo
                have cso := hxr.get (nin1 (hZ so zso).2.2.2.2.1) cso
                have c87 := hxr.get (by decide) c87
                have c88 := hxr.get (by decide) c88
                have cna := hxr.get (nin1 (hZ na zna).2.2.2.2.1) cna
                have ckd := hxr.get (nin1 (by omega)) ckd
                have hx := hx.trans hxr (by simp)
                refine r_callS1 (pc2 := 179) (As := [.int 9, .int ((stk (wN [dr, dp, 0, 0, 0, 0, nz, st, pa]) (lawF b 1) (b 13)).headD 0)]) (st := [.int 0]) kX2_91 dX2_depthThen_176 rfl rfl (Nat.le_of_ble_eq_true rfl) (by omega) (c_min _ _) rfl (fun h2 hq176 => ?_)
                subst hq176
                refine r_callS1 (pc2 := 182) (As := [.int 0, .int (if (9 : Int32) ≤ ((stk (wN [dr, dp, 0, 0, 0, 0, nz, st, pa]) (lawF b 1) (b 13)).headD 0) then 9 else ((stk (wN [dr, dp, 0, 0, 0, 0, nz, st, pa]) (lawF b 1) (b 13)).headD 0))]) (st := []) kX2_80 dX2_depthThen_179 rfl rfl (Nat.le_of_ble_eq_true rfl) (by omega) ((c_max _ _).mono fun r h2 q => ⟨q.1.trans (by rw [mm_clip (by decide), show (9 : Int32) = nI 9 from rfl, lawV_nI b 1 _ (by decide)]), q.2⟩) rfl (fun h2 hq179 => ?_)
                subst hq179
                refine r_istore (pc2 := 184) (ls2 := [.ref 82, .int (nI dp), .int (nI nz), .int (nI st), .int (nI pa), .int (nI (((dp * 128 + nz) * 5 + st) * 5 + pa)), .int 1, .int (nI (lawV b 1 (wN [dr, dp, 0, 0, 0, 0, nz, st, pa]) 9))]) 7 dX2_depthThen_182 (by decide) rfl rfl rfl ?_
                refine r_iload (pc2 := 186) 6 dX2_depthThen_184 rfl rfl ?_
                refine r_if_eq (tgt := 205) (pc2 := 189) dX2_depthThen_186 (by decide) rfl (fun b186 => ?_) (fun b186 => ?_)
                · exact absurd b186 (by decide)
                · skip
                  refine r_aload_n (pc2 := 190) 0 dX2_depthThen_189 rfl rfl rfl rfl ?_
                  refine r_getf (pc2 := 193) (v := .ref kd) fX2_40 dX2_depthThen_190 c82 (by decide) rfl rfl ?_
                  refine r_iload (pc2 := 195) 5 dX2_depthThen_193 rfl rfl ?_
                  refine r_aload_n (pc2 := 196) 0 dX2_depthThen_195 rfl rfl rfl rfl ?_
                  refine r_getf (pc2 := 199) (v := .int (nI (stN sg dr))) fX2_37 dX2_depthThen_196 c82 (by decide) rfl rfl ?_
                  refine r_iconst (pc2 := 200) (v := 4) dX2_depthThen_199 (by decide) rfl ?_
                  refine r_ishl (pc2 := 201) dX2_depthThen_200 rfl ?_
                  refine r_iload (pc2 := 203) 7 dX2_depthThen_201 rfl rfl ?_
                  refine r_ior (pc2 := 204) dX2_depthThen_203 rfl ?_
                  refine r_topi (fun y204 ey204 => ?_)
                  refine r_iastN (pc2 := 205) (((dp * 128 + nz) * 5 + st) * 5 + pa) dX2_depthThen_204 ckd (by omega) rfl (by omega) (by decide) rfl (fun h z204 o204 ckd => ?_)
                  have c82 := (o204 82 (by omega)).trans c82
                  have cs := (o204 s (hZ s zs).2.2.2.2.2).trans cs
                  have clo := (o204 lo (hZ lo zlo).2.2.2.2.2).trans clo
                  have cso := (o204 so (hZ so zso).2.2.2.2.2).trans cso
                  have c87 := (o204 87 (by omega)).trans c87
                  have c88 := (o204 88 (by omega)).trans c88
                  have c89 := (o204 89 (by omega)).trans c89
                  have cna := (o204 na (hZ na zna).2.2.2.2.2).trans cna
                  have hx := hx.step (a := kd) (by simp) z204 o204
                  refine r_iload (pc2 := 207) 7 dX2_depthThen_205 rfl rfl ?_
                  exact r_iret rfl dX2_depthThen_207 ⟨by unfold dpT; rw [if_neg hn9], hx, ⟨(by rw [show kdV kd = .ref kd from if_neg hk0]; exact c82), ⟨_, c87, hCN⟩, ⟨_, c88⟩, ⟨_, c89⟩, fun _ => ⟨hk9, _, ckd, hCD.up hns hsg hdr (by rw [ey204, ed1, ed2, ed3, ed4, ← hreg, pack4 hst (Nat.lt_of_le_of_lt (lawV_le _ _ _ (by decide)) (by decide))])⟩⟩⟩
              · skip
                refine r_aload_n (pc2 := 113) 0 dX2_depthThen_112 rfl rfl rfl rfl ?_
                refine r_getf (pc2 := 116) (v := .ref kd) fX2_40 dX2_depthThen_113 c82 (by decide) rfl rfl ?_
                refine r_iload (pc2 := 118) 5 dX2_depthThen_116 rfl rfl ?_
                refine r_ialdN (pc2 := 119) (((dp * 128 + nz) * 5 + st) * 5 + pa) dX2_depthThen_118 ckd (by omega) rfl (by omega) (by decide) rfl ?_
                refine r_bipush (pc2 := 121) (v := 15) dX2_depthThen_119 (by decide) rfl ?_
                refine r_iand (pc2 := 122) dX2_depthThen_121 rfl ?_
                exact r_iret rfl dX2_depthThen_122 ⟨by rw [(hCD _ (by omega) sg dr (by omega) hdr b109).2, ed1, ed2, ed3, ed4, ← hreg, unp4 hst (Nat.lt_of_le_of_lt (lawV_le _ _ _ (by decide)) (by decide))]; unfold dpT; rw [if_neg hn9], hx, ⟨(by rw [show kdV kd = .ref kd from if_neg hk0]; exact c82), ⟨_, c87, hCN⟩, ⟨_, c88⟩, ⟨_, c89⟩, fun _ => ⟨hk9, _, ckd, hCD⟩⟩⟩
    · skip
      refine Cn.go (ls := [.ref 82, .int (nI dp), .int (nI nz), .int (nI st), .int (nI pa), .float 0, .float 0, .float 0]) (by decide +kernel) rfl (Nat.le_of_ble_eq_true rfl) ?_
      refine r_aload_n (pc2 := 1) 0 dX2_depthThen_0 rfl rfl rfl rfl ?_
      refine r_getf (pc2 := 4) (v := .ref s) fX2_14 dX2_depthThen_1 c82 (by decide) rfl rfl ?_
      refine r_getf (pc2 := 7) (v := .ref na) fX2_43 dX2_depthThen_4 cs (hZ s zs).1 rfl rfl ?_
      refine r_ifnonnull (tgt := 37) dX2_depthThen_7 (hZ na zna).1 (by decide) ?_
      refine r_iload_n (pc2 := 38) 1 dX2_depthThen_37 rfl rfl rfl ?_
      refine r_sipush (pc2 := 41) (v := 128) dX2_depthThen_38 (by decide) rfl ?_
      refine r_imul (pc2 := 42) dX2_depthThen_41 rfl ?_
      refine r_cast (nI (dp * 128)) (pk_mul dp 128) ?_
      refine r_iload_n (pc2 := 43) 2 dX2_depthThen_42 rfl rfl rfl ?_
      refine r_iadd (pc2 := 44) dX2_depthThen_43 rfl ?_
      refine r_cast (nI (dp * 128 + nz)) (nI_add _ _) ?_
      refine r_iconst (pc2 := 45) (v := 5) dX2_depthThen_44 (by decide) rfl ?_
      refine r_imul (pc2 := 46) dX2_depthThen_45 rfl ?_
      refine r_cast (nI ((dp * 128 + nz) * 5)) (pk_mul _ 5) ?_
      refine r_iload_n (pc2 := 47) 3 dX2_depthThen_46 rfl rfl rfl ?_
      refine r_iadd (pc2 := 48) dX2_depthThen_47 rfl ?_
      refine r_cast (nI ((dp * 128 + nz) * 5 + st)) (nI_add _ _) ?_
      refine r_iconst (pc2 := 49) (v := 5) dX2_depthThen_48 (by decide) rfl ?_
      refine r_imul (pc2 := 50) dX2_depthThen_49 rfl ?_
      refine r_cast (nI (((dp * 128 + nz) * 5 + st) * 5)) (pk_mul _ 5) ?_
      refine r_iload (pc2 := 52) 4 dX2_depthThen_50 rfl rfl ?_
      refine r_iadd (pc2 := 53) dX2_depthThen_52 rfl ?_
      refine r_cast (nI (((dp * 128 + nz) * 5 + st) * 5 + pa)) (nI_add _ _) ?_
      refine r_istore (pc2 := 55) (ls2 := [.ref 82, .int (nI dp), .int (nI nz), .int (nI st), .int (nI pa), .int (nI (((dp * 128 + nz) * 5 + st) * 5 + pa)), .float 0, .float 0]) 5 dX2_depthThen_53 (by decide) rfl rfl rfl ?_
      refine r_iload_n (pc2 := 56) 2 dX2_depthThen_55 rfl rfl rfl ?_
      refine r_sipush (pc2 := 59) (v := 128) dX2_depthThen_56 (by decide) rfl ?_
      refine r_icmp_ge (tgt := 88) (pc2 := 62) dX2_depthThen_59 (by decide) rfl (fun b59 => ?_) (fun b59 => ?_)
      · skip
        refine r_iconst (pc2 := 89) (v := 0) dX2_depthThen_88 (by decide) rfl ?_
        refine r_istore (pc2 := 91) (ls2 := [.ref 82, .int (nI dp), .int (nI nz), .int (nI st), .int (nI pa), .int (nI (((dp * 128 + nz) * 5 + st) * 5 + pa)), .int 0, .float 0]) 6 dX2_depthThen_89 (by decide) rfl rfl rfl ?_
        refine r_iload (pc2 := 93) 6 dX2_depthThen_91 rfl rfl ?_
        refine r_if_eq (tgt := 123) (pc2 := 96) dX2_depthThen_93 (by decide) rfl (fun b93 => ?_) (fun b93 => ?_)
        · skip
          refine r_aload_n (pc2 := 124) 0 dX2_depthThen_123 rfl rfl rfl rfl ?_
          refine r_getf (pc2 := 127) (v := .ref 88) fX2_24 dX2_depthThen_124 c82 (by decide) rfl rfl ?_
          refine r_iconst (pc2 := 128) (v := 0) dX2_depthThen_127 (by decide) rfl ?_
          refine r_aload_n (pc2 := 129) 0 dX2_depthThen_128 rfl rfl rfl rfl ?_
          refine r_getf (pc2 := 132) (v := .int (nI dr)) fX2_30 dX2_depthThen_129 c82 (by decide) rfl rfl ?_
          refine r_iastN (pc2 := 133) 0 dX2_depthThen_132 c88 (by decide) rfl (by decide) (by decide) rfl (fun h z132 o132 c88 => ?_)
          have c82 := (o132 82 (by decide)).trans c82
          have cs := (o132 s (hZ s zs).2.2.2.1).trans cs
          have clo := (o132 lo (hZ lo zlo).2.2.2.1).trans clo
          have cso := (o132 so (hZ so zso).2.2.2.1).trans cso
          have c87 := (o132 87 (by decide)).trans c87
          have c89 := (o132 89 (by decide)).trans c89
          have cna := (o132 na (hZ na zna).2.2.2.1).trans cna
          have ckd := (o132 kd (by omega)).trans ckd
          have hx := hx.step (a := 88) (by simp) z132 o132
          refine r_aload_n (pc2 := 134) 0 dX2_depthThen_133 rfl rfl rfl rfl ?_
          refine r_getf (pc2 := 137) (v := .ref 88) fX2_24 dX2_depthThen_134 c82 (by decide) rfl rfl ?_
          refine r_iconst (pc2 := 138) (v := 1) dX2_depthThen_137 (by decide) rfl ?_
          refine r_iload_n (pc2 := 139) 1 dX2_depthThen_138 rfl rfl rfl ?_
          refine r_iastN (pc2 := 140) 1 dX2_depthThen_139 c88 (by decide) rfl (by decide) (by decide) rfl (fun h z139 o139 c88 => ?_)
          have c82 := (o139 82 (by decide)).trans c82
          have cs := (o139 s (hZ s zs).2.2.2.1).trans cs
          have clo := (o139 lo (hZ lo zlo).2.2.2.1).trans clo
          have cso := (o139 so (hZ so zso).2.2.2.1).trans cso
          have c87 := (o139 87 (by decide)).trans c87
          have c89 := (o139 89 (by decide)).trans c89
          have cna := (o139 na (hZ na zna).2.2.2.1).trans cna
          have ckd := (o139 kd (by omega)).trans ckd
          have hx := hx.step (a := 88) (by simp) z139 o139
          refine r_aload_n (pc2 := 141) 0 dX2_depthThen_140 rfl rfl rfl rfl ?_
          refine r_getf (pc2 := 144) (v := .ref 88) fX2_24 dX2_depthThen_141 c82 (by decide) rfl rfl ?_
          refine r_iconst (pc2 := 145) (v := 2) dX2_depthThen_144 (by decide) rfl ?_
          refine r_iload_n (pc2 := 146) 2 dX2_depthThen_145 rfl rfl rfl ?_
          refine r_iastN (pc2 := 147) 2 dX2_depthThen_146 c88 (by decide) rfl (by decide) (by decide) rfl (fun h z146 o146 c88 => ?_)
          have c82 := (o146 82 (by decide)).trans c82
          have cs := (o146 s (hZ s zs).2.2.2.1).trans cs
          have clo := (o146 lo (hZ lo zlo).2.2.2.1).trans clo
          have cso := (o146 so (hZ so zso).2.2.2.1).trans cso
          have c87 := (o146 87 (by decide)).trans c87
          have c89 := (o146 89 (by decide)).trans c89
          have cna := (o146 na (hZ na zna).2.2.2.1).trans cna
          have ckd := (o146 kd (by omega)).trans ckd
          have hx := hx.step (a := 88) (by simp) z146 o146
          refine r_aload_n (pc2 := 148) 0 dX2_depthThen_147 rfl rfl rfl rfl ?_
          refine r_getf (pc2 := 151) (v := .ref 88) fX2_24 dX2_depthThen_148 c82 (by decide) rfl rfl ?_
          refine r_iconst (pc2 := 152) (v := 3) dX2_depthThen_151 (by decide) rfl ?_
          refine r_iload_n (pc2 := 153) 3 dX2_depthThen_152 rfl rfl rfl ?_
          refine r_iastN (pc2 := 154) 3 dX2_depthThen_153 c88 (by decide) rfl (by decide) (by decide) rfl (fun h z153 o153 c88 => ?_)
          have c82 := (o153 82 (by decide)).trans c82
          have cs := (o153 s (hZ s zs).2.2.2.1).trans cs
          have clo := (o153 lo (hZ lo zlo).2.2.2.1).trans clo
          have cso := (o153 so (hZ so zso).2.2.2.1).trans cso
          have c87 := (o153 87 (by decide)).trans c87
          have c89 := (o153 89 (by decide)).trans c89
          have cna := (o153 na (hZ na zna).2.2.2.1).trans cna
          have ckd := (o153 kd (by omega)).trans ckd
          have hx := hx.step (a := 88) (by simp) z153 o153
          refine r_aload_n (pc2 := 155) 0 dX2_depthThen_154 rfl rfl rfl rfl ?_
          refine r_getf (pc2 := 158) (v := .ref 88) fX2_24 dX2_depthThen_155 c82 (by decide) rfl rfl ?_
          refine r_iconst (pc2 := 159) (v := 4) dX2_depthThen_158 (by decide) rfl ?_
          refine r_iload (pc2 := 161) 4 dX2_depthThen_159 rfl rfl ?_
          refine r_iastN (pc2 := 162) 4 dX2_depthThen_161 c88 (by decide) rfl (by decide) (by decide) rfl (fun h z161 o161 c88 => ?_)
          have c82 := (o161 82 (by decide)).trans c82
          have cs := (o161 s (hZ s zs).2.2.2.1).trans cs
          have clo := (o161 lo (hZ lo zlo).2.2.2.1).trans clo
          have cso := (o161 so (hZ so zso).2.2.2.1).trans cso
          have c87 := (o161 87 (by decide)).trans c87
          have c89 := (o161 89 (by decide)).trans c89
          have cna := (o161 na (hZ na zna).2.2.2.1).trans cna
          have ckd := (o161 kd (by omega)).trans ckd
          have hx := hx.step (a := 88) (by simp) z161 o161
          refine r_iconst (pc2 := 163) (v := 0) dX2_depthThen_162 (by decide) rfl ?_
          refine r_bipush (pc2 := 165) (v := 9) dX2_depthThen_163 (by decide) rfl ?_
          refine r_aload_n (pc2 := 166) 0 dX2_depthThen_165 rfl rfl rfl rfl ?_
          refine r_aload_n (pc2 := 167) 0 dX2_depthThen_166 rfl rfl rfl rfl ?_
          refine r_getf (pc2 := 170) (v := .ref s) fX2_14 dX2_depthThen_167 c82 (by decide) rfl rfl ?_
          refine r_getf (pc2 := 173) (v := .ref na) fX2_43 dX2_depthThen_170 cs (hZ s zs).1 rfl rfl ?_
          refine r_callV1 (pc2 := 176) (As := [.ref na]) (st := [.int 9, .int 0]) kX2_87 rfl rfl dX2_depthThen_173 c82 (by decide) rfl rfl (Nat.le_of_ble_eq_true rfl) (by omega) (c_run (w := wN [dr, dp, 0, 0, 0, 0, nz, st, pa]) (cf := lawF b 1) (n := b 13) c82 c88 c89 cna (hZ na zna).1 (hZ na zna).2.2.2.2.1 (by omega) hwf hfc (fun k hk q1 q2 => hwd1 k hk q1 q2) (fun k hk q y x r z => hsaf (wN [dr, dp, 0, 0, 0, 0, nz, st, pa]) (wN_bd (by intro x hx; simp at hx; omega)) k hk q y x r z) (by omega)) rfl (fun h hq173 => ?_)
          obtain ⟨hxr, f9, c89⟩ := hq173
          have c82 := hxr.get (by decide) c82
          have cs := hxr.get (nin1 (hZ s zs).2.2.2.2.1) cs
          have clo := hxr.get (nin1 (hZ lo zlo).2.2.2.2.1) clo
          have cso := hxr.get (nin1 (hZ so zso).2.2.2.2.1) cso
          have c87 := hxr.get (by decide) c87
          have c88 := hxr.get (by decide) c88
          have cna := hxr.get (nin1 (hZ na zna).2.2.2.2.1) cna
          have ckd := hxr.get (nin1 (by omega)) ckd
          have hx := hx.trans hxr (by simp)
          refine r_callS1 (pc2 := 179) (As := [.int 9, .int ((stk (wN [dr, dp, 0, 0, 0, 0, nz, st, pa]) (lawF b 1) (b 13)).headD 0)]) (st := [.int 0]) kX2_91 dX2_depthThen_176 rfl rfl (Nat.le_of_ble_eq_true rfl) (by omega) (c_min _ _) rfl (fun h2 hq176 => ?_)
          subst hq176
          refine r_callS1 (pc2 := 182) (As := [.int 0, .int (if (9 : Int32) ≤ ((stk (wN [dr, dp, 0, 0, 0, 0, nz, st, pa]) (lawF b 1) (b 13)).headD 0) then 9 else ((stk (wN [dr, dp, 0, 0, 0, 0, nz, st, pa]) (lawF b 1) (b 13)).headD 0))]) (st := []) kX2_80 dX2_depthThen_179 rfl rfl (Nat.le_of_ble_eq_true rfl) (by omega) ((c_max _ _).mono fun r h2 q => ⟨q.1.trans (by rw [mm_clip (by decide), show (9 : Int32) = nI 9 from rfl, lawV_nI b 1 _ (by decide)]), q.2⟩) rfl (fun h2 hq179 => ?_)
          subst hq179
          refine r_istore (pc2 := 184) (ls2 := [.ref 82, .int (nI dp), .int (nI nz), .int (nI st), .int (nI pa), .int (nI (((dp * 128 + nz) * 5 + st) * 5 + pa)), .int 0, .int (nI (lawV b 1 (wN [dr, dp, 0, 0, 0, 0, nz, st, pa]) 9))]) 7 dX2_depthThen_182 (by decide) rfl rfl rfl ?_
          refine r_iload (pc2 := 186) 6 dX2_depthThen_184 rfl rfl ?_
          refine r_if_eq (tgt := 205) (pc2 := 189) dX2_depthThen_186 (by decide) rfl (fun b186 => ?_) (fun b186 => ?_)
          · skip
            refine r_iload (pc2 := 207) 7 dX2_depthThen_205 rfl rfl ?_
            exact r_iret rfl dX2_depthThen_207 ⟨by unfold dpT; rw [if_neg hn9], hx, ⟨(by rw [show kdV kd = .ref kd from if_neg hk0]; exact c82), ⟨_, c87, hCN⟩, ⟨_, c88⟩, ⟨_, c89⟩, fun _ => ⟨hk9, _, ckd, hCD⟩⟩⟩
          · exact absurd b186 (by decide)
        · exact absurd b93 (by decide)
      · exact absurd (nI_le (a := 128) (by omega) (by omega)) b59
