/-! the class: atOnce -/
theorem ao_1 {a : FR} {k : Nat} (h : (okS a (packS a) k ∧ nxS a (packS a) k / 4096 ≠ 0) ∧ aoB (ao a k) k = true) : ao a (k + 1) = some k := by rw [ao, if_pos h]
theorem ao_0 {a : FR} {k : Nat} (h : ¬ ((okS a (packS a) k ∧ nxS a (packS a) k / 4096 ≠ 0) ∧ aoB (ao a k) k = true)) : ao a (k + 1) = ao a k := by rw [ao, if_neg h]
theorem nI_nle2 {x y : Nat} (h : y < x) (hx : x < 2 ^ 31) : ¬ nI x ≤ nI y := Int32.not_le.mpr (nI_lt h hx)
set_option maxRecDepth 20000 in
set_option maxHeartbeats 1000000 in
theorem cl_atOnce {E : EnvT} {d : Nat} {h0 : Hp} {ns s w1 w2 : Nat} {wk dt : Value} {Z : Nat → Prop} {reg : Nat → FR} {sg kd : Nat} {a b : FR} (hN : NW h0 s ns w1 w2 wk dt a) (hD : DV Z h0 reg ns s sg kd b) (hA : AIN a) (hst : Stat a b) (hd : 6 ≤ d) : Cn E mX9_atOnce d [.ref 64] h0 (QS1 [] Z reg ns s sg b h0 kd (.int (aoF a))) := by
  obtain ⟨c64, c76, _, _⟩ := id hN
  have hn0 := hD.n
  have hk0 := hD.k0
  obtain ⟨⟨V0, V1, V2, c82⟩, _⟩ := id hD.1
  obtain ⟨lo, so9, sa, nl, sl, cs⟩ := hD.cs
  have st3 : a 3 = b 3 := hst 3 (by omega)
  have hG := hA.G
  have hp16 := pw16 hA.G
  by_cases hz : a 26 = 0
  · skip
    refine Cn.go (ls := [.ref 64, .float 0, .float 0, .float 0, .float 0]) (by decide +kernel) rfl (Nat.le_of_ble_eq_true rfl) ?_
    refine r_aload_n (pc2 := 1) 0 dX9_atOnce_0 rfl rfl rfl rfl ?_
    refine r_getf (pc2 := 4) (v := .ref 76) fX9_28 dX9_atOnce_1 c64 (by decide) rfl rfl ?_
    refine r_getf (pc2 := 7) (v := .int (nI ((keepV a) 4))) fX9_137 dX9_atOnce_4 c76 (by decide) rfl rfl ?_
    refine r_if_ne (tgt := 13) (pc2 := 10) dX9_atOnce_7 (by decide) rfl (fun b7 => ?_) (fun b7 => ?_)
    · exact absurd (congrArg nI hz) b7
    · skip
      refine r_bipush (pc2 := 12) (v := -5) dX9_atOnce_10 (by decide) rfl ?_
      exact r_iret rfl dX9_atOnce_12 ⟨by unfold aoF; rw [if_pos hz], kd, GQ.rf, hD⟩
  · have loop : ∀ (m k : Nat) (h : Hp) (kd1 : Nat) (u4 : Value), k + m = 2 ^ (a 3) → GQ [] kd h0 h kd1 → LQ Z h reg ns s sg (a 27) kd1 b → h.1 64 = some (.inr (9, coL s ns (a 45) w1 w2 wk dt)) → h.1 76 = some (.inr (5, sdL (keepV a))) → Fr E mX9_atOnce d 50 [.ref 64, .int (nI (pastN (a 1) (packS a) (a 3))), .int (optI (ao a k)), .int (nI k), u4] [] h (QS1 [] Z reg ns s sg b h0 kd (.int (aoF a))) := by
      intro m
      induction m with
      | zero =>
        intro k h kd1 u4 hk hQ hL c64 c76
        obtain rfl : k = 2 ^ (a 3) := by omega
        obtain ⟨lo, so9, sa, nl, sl, cs⟩ := hL.dv.cs
        refine r_iload_n (pc2 := 51) 3 dX9_atOnce_50 rfl rfl rfl ?_
        refine r_iconst (pc2 := 52) (v := 1) dX9_atOnce_51 (by decide) rfl ?_
        refine r_aload_n (pc2 := 53) 0 dX9_atOnce_52 rfl rfl rfl rfl ?_
        refine r_getf (pc2 := 56) (v := .ref s) fX9_21 dX9_atOnce_53 c64 (by decide) rfl rfl ?_
        refine r_getf (pc2 := 59) (v := .int (nI (b 3))) fX9_111 dX9_atOnce_56 cs hL.dv.s64 rfl rfl ?_
        refine r_ishl (pc2 := 60) dX9_atOnce_59 rfl ?_
        refine r_cast (nI (2 ^ (a 3))) (by rw [← st3]; exact shl1 _ (by omega)) ?_
        refine r_icmp_ge (tgt := 131) (pc2 := 63) dX9_atOnce_60 (by decide) rfl (fun b60 => ?_) (fun b60 => ?_)
        · skip
          refine r_iload_n (pc2 := 132) 2 dX9_atOnce_131 rfl rfl rfl ?_
          exact r_iret rfl dX9_atOnce_132 ⟨by unfold aoF; rw [if_neg hz], kd1, hQ, hL.dv⟩
        · exact absurd (nI_le (Nat.le_refl _) (by omega)) b60
      | succ m ih =>
        intro k h kd1 u4 hk hQ hL c64 c76
        have hlt : k < 2 ^ (a 3) := by omega
        have hk1 := hL.dv.k0
        have hn1 := hL.dv.n
        have nxt : ∀ (h : Hp) (kd1 : Nat) (X : Int32) (u4 : Value), optI (ao a (k + 1)) = X → GQ [] kd h0 h kd1 → LQ Z h reg ns s sg (a 27) kd1 b → h.1 64 = some (.inr (9, coL s ns (a 45) w1 w2 wk dt)) → h.1 76 = some (.inr (5, sdL (keepV a))) → Fr E mX9_atOnce d 125 [.ref 64, .int (nI (pastN (a 1) (packS a) (a 3))), .int X, .int (nI k), u4] [] h (QS1 [] Z reg ns s sg b h0 kd (.int (aoF a))) := by
          intro h kd1 X u4 eX hQ hL c64 c76
          have eX := eX.symm
          obtain ⟨x125, e125⟩ : ∃ z : Int32, z = (nI k) + (1) := ⟨_, rfl⟩
          refine r_iinc (pc2 := 128) (ls2 := [.ref 64, .int (nI (pastN (a 1) (packS a) (a 3))), .int X, .int x125, u4]) (v := x125) 3 dX9_atOnce_125 rfl (by rw [e125]; rfl) rfl rfl rfl ?_
          refine r_goto (pc2 := 50) dX9_atOnce_128 (by decide) ?_
          rw [e125, nI_1, eX]
          exact ih (k + 1) h kd1 u4 (by omega) hQ hL c64 c76
        have try9 : ∀ (h : Hp) (X : Int32) (u4 : Value), optI (ao a k) = X → aoB (ao a k) k = true → GQ [] kd h0 h kd1 → LQ Z h reg ns s sg (a 27) kd1 b → h.1 64 = some (.inr (9, coL s ns (a 45) w1 w2 wk dt)) → h.1 76 = some (.inr (5, sdL (keepV a))) → Fr E mX9_atOnce d 91 [.ref 64, .int (nI (pastN (a 1) (packS a) (a 3))), .int X, .int (nI k), u4] [] h (QS1 [] Z reg ns s sg b h0 kd (.int (aoF a))) := by
          intro h X u4 eX hB hQ hL c64 c76
          by_cases ho : okS a (packS a) k
          · have hnl : nxS a (packS a) k / 4096 ≤ 9 := ((SG.now hA).next hA.G hA.C ho).dep
            by_cases hz2 : nxS a (packS a) k / 4096 = 0
            · skip
              refine r_iload_n (pc2 := 92) 3 dX9_atOnce_91 rfl rfl rfl ?_
              refine r_iload_n (pc2 := 93) 1 dX9_atOnce_92 rfl rfl rfl ?_
              refine r_iand (pc2 := 94) dX9_atOnce_93 rfl ?_
              refine r_cast (nI (k &&& (pastN (a 1) (packS a) (a 3)))) (nI_and _ _) ?_
              refine r_if_ne (tgt := 125) (pc2 := 97) dX9_atOnce_94 (by decide) rfl (fun b94 => ?_) (fun b94 => ?_)
              · exact absurd (congrArg nI (by rw [Nat.and_comm]; exact (okS_now hA hlt hz).mp ho)) b94
              · skip
                refine r_aload_n (pc2 := 98) 0 dX9_atOnce_97 rfl rfl rfl rfl ?_
                refine r_getf (pc2 := 101) (v := .ref 82) fX9_55 dX9_atOnce_98 c64 (by decide) rfl rfl ?_
                refine r_aload_n (pc2 := 102) 0 dX9_atOnce_101 rfl rfl rfl rfl ?_
                refine r_getf (pc2 := 105) (v := .ref 76) fX9_28 dX9_atOnce_102 c64 (by decide) rfl rfl ?_
                refine r_getf (pc2 := 108) (v := .int (nI (tow (keepV a)))) fX9_114 dX9_atOnce_105 c76 (by decide) rfl rfl ?_
                refine r_aload_n (pc2 := 109) 0 dX9_atOnce_108 rfl rfl rfl rfl ?_
                refine r_getf (pc2 := 112) (v := .ref 76) fX9_28 dX9_atOnce_109 c64 (by decide) rfl rfl ?_
                refine r_getf (pc2 := 115) (v := .int (nI ((keepV a) 4))) fX9_137 dX9_atOnce_112 c76 (by decide) rfl rfl ?_
                refine r_iload_n (pc2 := 116) 3 dX9_atOnce_115 rfl rfl rfl ?_
                refine r_iconst (pc2 := 117) (v := 0) dX9_atOnce_116 (by decide) rfl ?_
                refine r_callV1 (pc2 := 120) (As := [.int (nI (tow (keepV a))), .int (nI ((keepV a) 4)), .int (nI k), .int 0]) (st := []) kX9_152 rfl rfl dX9_atOnce_117 hL.1.1 (by decide) rfl rfl (Nat.le_of_ble_eq_true rfl) (by omega) ((c_depthQ (a := a) (s := (packS a)) (sn := k) (o := 0) hL hst (dig_le hA) (by rw [hA.pdep]; exact hA.dp) (by omega) (okS_now2 hA ho) (by omega) (by rw [tow_tws hA]) (by rw [hA.pdep]; rfl) rfl rfl (by omega)).mono fun r h2 z => ⟨z.1.trans (by rw [show hourN a (packS a) k 0 (a 27) / 4096 = (nxS a (packS a) k / 4096) from (by rfl)]), z.2⟩) rfl (fun h hq117 => ?_)
                obtain ⟨hxd, hL⟩ := hq117
                have c64 := hxd.get (by simp <;> omega) c64
                have c76 := hxd.get (by simp <;> omega) c76
                have hQ := hQ.dp hxd
                refine r_if_le (tgt := 125) (pc2 := 123) dX9_atOnce_120 (by decide) rfl (fun b120 => ?_) (fun b120 => ?_)
                · skip
                  exact nxt h kd1 X _ (by rw [ao_0 (fun z => z.1.2 hz2)]; exact eX) hQ hL c64 c76
                · exact absurd (by rw [hz2]; decide) b120
            · skip
              refine r_iload_n (pc2 := 92) 3 dX9_atOnce_91 rfl rfl rfl ?_
              refine r_iload_n (pc2 := 93) 1 dX9_atOnce_92 rfl rfl rfl ?_
              refine r_iand (pc2 := 94) dX9_atOnce_93 rfl ?_
              refine r_cast (nI (k &&& (pastN (a 1) (packS a) (a 3)))) (nI_and _ _) ?_
              refine r_if_ne (tgt := 125) (pc2 := 97) dX9_atOnce_94 (by decide) rfl (fun b94 => ?_) (fun b94 => ?_)
              · exact absurd (congrArg nI (by rw [Nat.and_comm]; exact (okS_now hA hlt hz).mp ho)) b94
              · skip
                refine r_aload_n (pc2 := 98) 0 dX9_atOnce_97 rfl rfl rfl rfl ?_
                refine r_getf (pc2 := 101) (v := .ref 82) fX9_55 dX9_atOnce_98 c64 (by decide) rfl rfl ?_
                refine r_aload_n (pc2 := 102) 0 dX9_atOnce_101 rfl rfl rfl rfl ?_
                refine r_getf (pc2 := 105) (v := .ref 76) fX9_28 dX9_atOnce_102 c64 (by decide) rfl rfl ?_
                refine r_getf (pc2 := 108) (v := .int (nI (tow (keepV a)))) fX9_114 dX9_atOnce_105 c76 (by decide) rfl rfl ?_
                refine r_aload_n (pc2 := 109) 0 dX9_atOnce_108 rfl rfl rfl rfl ?_
                refine r_getf (pc2 := 112) (v := .ref 76) fX9_28 dX9_atOnce_109 c64 (by decide) rfl rfl ?_
                refine r_getf (pc2 := 115) (v := .int (nI ((keepV a) 4))) fX9_137 dX9_atOnce_112 c76 (by decide) rfl rfl ?_
                refine r_iload_n (pc2 := 116) 3 dX9_atOnce_115 rfl rfl rfl ?_
                refine r_iconst (pc2 := 117) (v := 0) dX9_atOnce_116 (by decide) rfl ?_
                refine r_callV1 (pc2 := 120) (As := [.int (nI (tow (keepV a))), .int (nI ((keepV a) 4)), .int (nI k), .int 0]) (st := []) kX9_152 rfl rfl dX9_atOnce_117 hL.1.1 (by decide) rfl rfl (Nat.le_of_ble_eq_true rfl) (by omega) ((c_depthQ (a := a) (s := (packS a)) (sn := k) (o := 0) hL hst (dig_le hA) (by rw [hA.pdep]; exact hA.dp) (by omega) (okS_now2 hA ho) (by omega) (by rw [tow_tws hA]) (by rw [hA.pdep]; rfl) rfl rfl (by omega)).mono fun r h2 z => ⟨z.1.trans (by rw [show hourN a (packS a) k 0 (a 27) / 4096 = (nxS a (packS a) k / 4096) from (by rfl)]), z.2⟩) rfl (fun h hq117 => ?_)
                obtain ⟨hxd, hL⟩ := hq117
                have c64 := hxd.get (by simp <;> omega) c64
                have c76 := hxd.get (by simp <;> omega) c76
                have hQ := hQ.dp hxd
                refine r_if_le (tgt := 125) (pc2 := 123) dX9_atOnce_120 (by decide) rfl (fun b120 => ?_) (fun b120 => ?_)
                · exact absurd b120 (nI_nle (by omega) (by omega))
                · skip
                  refine r_iload_n (pc2 := 124) 3 dX9_atOnce_123 rfl rfl rfl ?_
                  refine r_istore_n (pc2 := 125) (ls2 := [.ref 64, .int (nI (pastN (a 1) (packS a) (a 3))), .int (nI k), .int (nI k), u4]) 2 dX9_atOnce_124 rfl (by decide) rfl rfl rfl ?_
                  exact nxt h kd1 (nI k) _ (by rw [ao_1 ⟨⟨ho, hz2⟩, hB⟩]; rfl) hQ hL c64 c76
          · skip
            refine r_iload_n (pc2 := 92) 3 dX9_atOnce_91 rfl rfl rfl ?_
            refine r_iload_n (pc2 := 93) 1 dX9_atOnce_92 rfl rfl rfl ?_
            refine r_iand (pc2 := 94) dX9_atOnce_93 rfl ?_
            refine r_cast (nI (k &&& (pastN (a 1) (packS a) (a 3)))) (nI_and _ _) ?_
            refine r_if_ne (tgt := 125) (pc2 := 97) dX9_atOnce_94 (by decide) rfl (fun b94 => ?_) (fun b94 => ?_)
            · skip
              exact nxt h kd1 X _ (by rw [ao_0 (fun z => ho z.1.1)]; exact eX) hQ hL c64 c76
            · exact absurd ((okS_now hA hlt hz).mpr (by rw [Nat.and_comm]; exact nI_z0 (by have := Nat.and_le_left (n := k) (m := (pastN (a 1) (packS a) (a 3))); omega) b94)) ho
        obtain ⟨lo, so9, sa, nl, sl, cs⟩ := hL.dv.cs
        cases hao : ao a k with
        | none =>
          show Fr E mX9_atOnce d 50 [.ref 64, .int (nI (pastN (a 1) (packS a) (a 3))), .int (-1), .int (nI k), u4] [] h (QS1 [] Z reg ns s sg b h0 kd (.int (aoF a)))
          refine r_iload_n (pc2 := 51) 3 dX9_atOnce_50 rfl rfl rfl ?_
          refine r_iconst (pc2 := 52) (v := 1) dX9_atOnce_51 (by decide) rfl ?_
          refine r_aload_n (pc2 := 53) 0 dX9_atOnce_52 rfl rfl rfl rfl ?_
          refine r_getf (pc2 := 56) (v := .ref s) fX9_21 dX9_atOnce_53 c64 (by decide) rfl rfl ?_
          refine r_getf (pc2 := 59) (v := .int (nI (b 3))) fX9_111 dX9_atOnce_56 cs hL.dv.s64 rfl rfl ?_
          refine r_ishl (pc2 := 60) dX9_atOnce_59 rfl ?_
          refine r_cast (nI (2 ^ (a 3))) (by rw [← st3]; exact shl1 _ (by omega)) ?_
          refine r_icmp_ge (tgt := 131) (pc2 := 63) dX9_atOnce_60 (by decide) rfl (fun b60 => ?_) (fun b60 => ?_)
          · exact absurd b60 (nI_ge hlt (by omega))
          · skip
            refine r_iload_n (pc2 := 64) 2 dX9_atOnce_63 rfl rfl rfl ?_
            refine r_iconst (pc2 := 65) (v := -1) dX9_atOnce_64 (by decide) rfl ?_
            refine r_icmp_eq (tgt := 79) (pc2 := 68) dX9_atOnce_65 (by decide) rfl (fun b65 => ?_) (fun b65 => ?_)
            · skip
              refine r_iconst (pc2 := 80) (v := 1) dX9_atOnce_79 (by decide) rfl ?_
              refine r_goto (pc2 := 84) dX9_atOnce_80 (by decide) ?_
              refine r_istore (pc2 := 86) (ls2 := [.ref 64, .int (nI (pastN (a 1) (packS a) (a 3))), .int (-1), .int (nI k), .int 1]) 4 dX9_atOnce_84 (by decide) rfl rfl rfl ?_
              refine r_iload (pc2 := 88) 4 dX9_atOnce_86 rfl rfl ?_
              refine r_if_eq (tgt := 125) (pc2 := 91) dX9_atOnce_88 (by decide) rfl (fun b88 => ?_) (fun b88 => ?_)
              · exact absurd b88 (by decide)
              · skip
                exact try9 h (-1) _ (by rw [hao]; rfl) (by rw [hao]; rfl) hQ hL c64 c76
            · exact absurd b65 (by decide)
        | some b9 =>
          have hb9 := ao_lt hao
          have hq1 := popN_le b9
          have hq2 := popN_le k
          show Fr E mX9_atOnce d 50 [.ref 64, .int (nI (pastN (a 1) (packS a) (a 3))), .int (nI b9), .int (nI k), u4] [] h (QS1 [] Z reg ns s sg b h0 kd (.int (aoF a)))
          by_cases hB9 : popN b9 < popN k
          · skip
            refine r_iload_n (pc2 := 51) 3 dX9_atOnce_50 rfl rfl rfl ?_
            refine r_iconst (pc2 := 52) (v := 1) dX9_atOnce_51 (by decide) rfl ?_
            refine r_aload_n (pc2 := 53) 0 dX9_atOnce_52 rfl rfl rfl rfl ?_
            refine r_getf (pc2 := 56) (v := .ref s) fX9_21 dX9_atOnce_53 c64 (by decide) rfl rfl ?_
            refine r_getf (pc2 := 59) (v := .int (nI (b 3))) fX9_111 dX9_atOnce_56 cs hL.dv.s64 rfl rfl ?_
            refine r_ishl (pc2 := 60) dX9_atOnce_59 rfl ?_
            refine r_cast (nI (2 ^ (a 3))) (by rw [← st3]; exact shl1 _ (by omega)) ?_
            refine r_icmp_ge (tgt := 131) (pc2 := 63) dX9_atOnce_60 (by decide) rfl (fun b60 => ?_) (fun b60 => ?_)
            · exact absurd b60 (nI_ge hlt (by omega))
            · skip
              refine r_iload_n (pc2 := 64) 2 dX9_atOnce_63 rfl rfl rfl ?_
              refine r_iconst (pc2 := 65) (v := -1) dX9_atOnce_64 (by decide) rfl ?_
              refine r_icmp_eq (tgt := 79) (pc2 := 68) dX9_atOnce_65 (by decide) rfl (fun b65 => ?_) (fun b65 => ?_)
              · exact absurd b65 (nI_nm1 (by omega))
              · skip
                refine r_iload_n (pc2 := 69) 3 dX9_atOnce_68 rfl rfl rfl ?_
                refine r_callS1 (pc2 := 72) (As := [.int (nI k)]) (st := []) kX9_273 dX9_atOnce_69 rfl rfl (Nat.le_of_ble_eq_true rfl) (by omega) (c_bitCount (s := k) (by omega)) rfl (fun h2 hq69 => ?_)
                obtain rfl := hq69.symm
                refine r_iload_n (pc2 := 73) 2 dX9_atOnce_72 rfl rfl rfl ?_
                refine r_callS1 (pc2 := 76) (As := [.int (nI b9)]) (st := [.int (nI (popN k))]) kX9_273 dX9_atOnce_73 rfl rfl (Nat.le_of_ble_eq_true rfl) (by omega) (c_bitCount (s := b9) (by omega)) rfl (fun h2 hq73 => ?_)
                obtain rfl := hq73.symm
                refine r_icmp_le (tgt := 83) (pc2 := 79) dX9_atOnce_76 (by decide) rfl (fun b76 => ?_) (fun b76 => ?_)
                · exact absurd b76 (nI_nle2 hB9 (by omega))
                · skip
                  refine r_iconst (pc2 := 80) (v := 1) dX9_atOnce_79 (by decide) rfl ?_
                  refine r_goto (pc2 := 84) dX9_atOnce_80 (by decide) ?_
                  refine r_istore (pc2 := 86) (ls2 := [.ref 64, .int (nI (pastN (a 1) (packS a) (a 3))), .int (nI b9), .int (nI k), .int 1]) 4 dX9_atOnce_84 (by decide) rfl rfl rfl ?_
                  refine r_iload (pc2 := 88) 4 dX9_atOnce_86 rfl rfl ?_
                  refine r_if_eq (tgt := 125) (pc2 := 91) dX9_atOnce_88 (by decide) rfl (fun b88 => ?_) (fun b88 => ?_)
                  · exact absurd b88 (by decide)
                  · skip
                    exact try9 h (nI b9) _ (by rw [hao]; rfl) (by rw [hao]; exact decide_eq_true hB9) hQ hL c64 c76
          · skip
            refine r_iload_n (pc2 := 51) 3 dX9_atOnce_50 rfl rfl rfl ?_
            refine r_iconst (pc2 := 52) (v := 1) dX9_atOnce_51 (by decide) rfl ?_
            refine r_aload_n (pc2 := 53) 0 dX9_atOnce_52 rfl rfl rfl rfl ?_
            refine r_getf (pc2 := 56) (v := .ref s) fX9_21 dX9_atOnce_53 c64 (by decide) rfl rfl ?_
            refine r_getf (pc2 := 59) (v := .int (nI (b 3))) fX9_111 dX9_atOnce_56 cs hL.dv.s64 rfl rfl ?_
            refine r_ishl (pc2 := 60) dX9_atOnce_59 rfl ?_
            refine r_cast (nI (2 ^ (a 3))) (by rw [← st3]; exact shl1 _ (by omega)) ?_
            refine r_icmp_ge (tgt := 131) (pc2 := 63) dX9_atOnce_60 (by decide) rfl (fun b60 => ?_) (fun b60 => ?_)
            · exact absurd b60 (nI_ge hlt (by omega))
            · skip
              refine r_iload_n (pc2 := 64) 2 dX9_atOnce_63 rfl rfl rfl ?_
              refine r_iconst (pc2 := 65) (v := -1) dX9_atOnce_64 (by decide) rfl ?_
              refine r_icmp_eq (tgt := 79) (pc2 := 68) dX9_atOnce_65 (by decide) rfl (fun b65 => ?_) (fun b65 => ?_)
              · exact absurd b65 (nI_nm1 (by omega))
              · skip
                refine r_iload_n (pc2 := 69) 3 dX9_atOnce_68 rfl rfl rfl ?_
                refine r_callS1 (pc2 := 72) (As := [.int (nI k)]) (st := []) kX9_273 dX9_atOnce_69 rfl rfl (Nat.le_of_ble_eq_true rfl) (by omega) (c_bitCount (s := k) (by omega)) rfl (fun h2 hq69 => ?_)
                obtain rfl := hq69.symm
                refine r_iload_n (pc2 := 73) 2 dX9_atOnce_72 rfl rfl rfl ?_
                refine r_callS1 (pc2 := 76) (As := [.int (nI b9)]) (st := [.int (nI (popN k))]) kX9_273 dX9_atOnce_73 rfl rfl (Nat.le_of_ble_eq_true rfl) (by omega) (c_bitCount (s := b9) (by omega)) rfl (fun h2 hq73 => ?_)
                obtain rfl := hq73.symm
                refine r_icmp_le (tgt := 83) (pc2 := 79) dX9_atOnce_76 (by decide) rfl (fun b76 => ?_) (fun b76 => ?_)
                · skip
                  refine r_iconst (pc2 := 84) (v := 0) dX9_atOnce_83 (by decide) rfl ?_
                  refine r_istore (pc2 := 86) (ls2 := [.ref 64, .int (nI (pastN (a 1) (packS a) (a 3))), .int (nI b9), .int (nI k), .int 0]) 4 dX9_atOnce_84 (by decide) rfl rfl rfl ?_
                  refine r_iload (pc2 := 88) 4 dX9_atOnce_86 rfl rfl ?_
                  refine r_if_eq (tgt := 125) (pc2 := 91) dX9_atOnce_88 (by decide) rfl (fun b88 => ?_) (fun b88 => ?_)
                  · skip
                    exact nxt h kd1 (nI b9) _ (by rw [ao_0 (fun z => by rw [hao] at z; exact hB9 (of_decide_eq_true z.2)), hao]; rfl) hQ hL c64 c76
                  · exact absurd b88 (by decide)
                · exact absurd (nI_le (by omega) (by omega)) b76
    refine Cn.go (ls := [.ref 64, .float 0, .float 0, .float 0, .float 0]) (by decide +kernel) rfl (Nat.le_of_ble_eq_true rfl) ?_
    refine r_aload_n (pc2 := 1) 0 dX9_atOnce_0 rfl rfl rfl rfl ?_
    refine r_getf (pc2 := 4) (v := .ref 76) fX9_28 dX9_atOnce_1 c64 (by decide) rfl rfl ?_
    refine r_getf (pc2 := 7) (v := .int (nI ((keepV a) 4))) fX9_137 dX9_atOnce_4 c76 (by decide) rfl rfl ?_
    refine r_if_ne (tgt := 13) (pc2 := 10) dX9_atOnce_7 (by decide) rfl (fun b7 => ?_) (fun b7 => ?_)
    · skip
      refine r_aload_n (pc2 := 14) 0 dX9_atOnce_13 rfl rfl rfl rfl ?_
      refine r_getf (pc2 := 17) (v := .ref 82) fX9_55 dX9_atOnce_14 c64 (by decide) rfl rfl ?_
      refine r_aload_n (pc2 := 18) 0 dX9_atOnce_17 rfl rfl rfl rfl ?_
      refine r_getf (pc2 := 21) (v := .ref s) fX9_21 dX9_atOnce_18 c64 (by decide) rfl rfl ?_
      refine r_aload_n (pc2 := 22) 0 dX9_atOnce_21 rfl rfl rfl rfl ?_
      refine r_getf (pc2 := 25) (v := .ref 76) fX9_28 dX9_atOnce_22 c64 (by decide) rfl rfl ?_
      refine r_getf (pc2 := 28) (v := .int (nI ((keepV a) 5))) fX9_127 dX9_atOnce_25 c76 (by decide) rfl rfl ?_
      refine r_callV0 (pc2 := 31) (As := [.ref s, .int (nI ((keepV a) 5))]) (st := []) kX9_130 rfl rfl dX9_atOnce_28 c82 (by decide) rfl rfl (Nat.le_of_ble_eq_true rfl) (by omega) (c_takeQ (dr := (a 27)) hD hA.dr rfl) rfl (fun h hq28 => ?_)
      obtain ⟨kd2, hKQ, hL, hg1⟩ := hq28
      have c64 := hg1.get (by simp <;> omega) (by omega) c64
      have c76 := hg1.get (by simp <;> omega) (by omega) c76
      have hQ := (GQ.rf (S := []) (kd := kd) (h := h0)).tk hKQ hg1 hn0
      obtain ⟨lo, so9, sa, nl, sl, cs⟩ := hL.dv.cs
      refine r_aload_n (pc2 := 32) 0 dX9_atOnce_31 rfl rfl rfl rfl ?_
      refine r_getf (pc2 := 35) (v := .ref s) fX9_21 dX9_atOnce_32 c64 (by decide) rfl rfl ?_
      refine r_aload_n (pc2 := 36) 0 dX9_atOnce_35 rfl rfl rfl rfl ?_
      refine r_getf (pc2 := 39) (v := .ref 76) fX9_28 dX9_atOnce_36 c64 (by decide) rfl rfl ?_
      refine r_getf (pc2 := 42) (v := .int (nI (tow (keepV a)))) fX9_114 dX9_atOnce_39 c76 (by decide) rfl rfl ?_
      refine r_callV1 (pc2 := 45) (As := [.int (nI (tow (keepV a)))]) (st := []) kX9_156 rfl rfl dX9_atOnce_42 cs hL.dv.s64 rfl rfl (Nat.le_of_ble_eq_true rfl) (by omega) (c_pastQ (s := packS a) hL.dv hst (dig_le hA) (by rw [tow_tws hA])) rfl (fun h2 hq42 => ?_)
      obtain rfl := hq42.symm
      refine r_istore_n (pc2 := 46) (ls2 := [.ref 64, .int (nI (pastN (a 1) (packS a) (a 3))), .float 0, .float 0, .float 0]) 1 dX9_atOnce_45 rfl (by decide) rfl rfl rfl ?_
      refine r_iconst (pc2 := 47) (v := -1) dX9_atOnce_46 (by decide) rfl ?_
      refine r_istore_n (pc2 := 48) (ls2 := [.ref 64, .int (nI (pastN (a 1) (packS a) (a 3))), .int (-1), .float 0, .float 0]) 2 dX9_atOnce_47 rfl (by decide) rfl rfl rfl ?_
      refine r_iconst (pc2 := 49) (v := 0) dX9_atOnce_48 (by decide) rfl ?_
      refine r_cast (nI 0) (rfl) ?_
      refine r_istore_n (pc2 := 50) (ls2 := [.ref 64, .int (nI (pastN (a 1) (packS a) (a 3))), .int (-1), .int (nI 0), .float 0]) 3 dX9_atOnce_49 rfl (by decide) rfl rfl rfl ?_
      exact loop (2 ^ (a 3)) 0 h kd2 _ (by omega) hQ hL c64 c76
    · exact absurd (nI_z0 (by have := hA.dp; omega) (show nI (a 26) = 0 from b7)) hz
