/-! the class: by, goer, count, fault -/
theorem NW.frame {h h2 : Hp} {s ns w1 w2 : Nat} {wk dt : Value} {a : FR} (x : NW h s ns w1 w2 wk dt a) (h10 : a 45 ≤ 10) (e : ∀ q, q = 64 ∨ (76 ≤ q ∧ q ≤ 78) ∨ (97 ≤ q ∧ q ≤ 106) → h2.1 q = h.1 q) : NW h2 s ns w1 w2 wk dt a :=
  ⟨(e 64 (by omega)).trans x.1, (e 76 (by omega)).trans x.2.1, x.2.2.1.ex (e 77 (by omega)), x.2.2.2.frame h10 (fun q hq => e q (by omega))⟩
theorem NW.gx {h h2 : Hp} {s ns w1 w2 kd : Nat} {wk dt : Value} {a : FR} (x : NW h s ns w1 w2 wk dt a) (h10 : a 45 ≤ 10) (hn : 139 ≤ h.2.1) (hk : kd = 0 ∨ 139 ≤ kd) (g : Gx (DS 82 kd) h h2) : NW h2 s ns w1 w2 wk dt a := x.frame h10 (fun q hq => g.2 q (by omega) (by simp; omega))
theorem DS.sh {kd : Nat} : ∀ q ∈ DS 82 kd, q ∈ SH kd := by
  intro q h
  simp at h ⊢
  omega
def MR (h : Hp) (fk fp : Int32) (t : Nat) (tp : Nat → Nat) : Prop := (∃ (y4 y5 y6 y7 y8 y9 y10 y12 : Int32) (y13 : Value), h.1 65 = some (.inr (3, [.int fk, .int fp, .int (nI t), .ref 66, .int y4, .int y5, .int y6, .int y7, .int y8, .int y9, .int y10, .ref 67, .int y12, y13]))) ∧ (∃ tb, h.1 66 = some (aB 900 tb) ∧ ∀ j, j < 900 → tb j = (nI (tp j)).toInt8.toInt32) ∧ ∃ cd, h.1 67 = some (aI 900 cd)
set_option maxRecDepth 20000 in
set_option maxHeartbeats 1000000 in
theorem cl_by {E : EnvT} {d : Nat} {h0 : Hp} {ns s w1 w2 : Nat} {wk dt : Value} {Z : Nat → Prop} {reg : Nat → FR} {sg kd : Nat} {a b : FR} {x : Int32} (hN : NW h0 s ns w1 w2 wk dt a) (hD : DV Z h0 reg ns s sg kd b) (hA : AIN a) (hst : Stat a b) (hd : 6 ≤ d) : Cn E mX9_by d [.ref 64, .int x] h0 (QN reg s ns w1 w2 wk dt h0 kd (.int (byF a x)) a) := by
  obtain ⟨c64, c76, h77, hM⟩ := id hN
  obtain ⟨hL, hS, hZ, hb, hreg, hsg, hns, hn, zs⟩ := id hD
  have hs64 := (hZ.zl s zs).1
  obtain ⟨lo, so, sa, nl, sl, _, cs, ⟨fl, clo, hfl⟩, ⟨fs, cso, hfs⟩, _⟩ := id hS
  obtain ⟨⟨V0, V1, V2, c82⟩, _⟩ := id hL
  have hk0 : kd = 0 ∨ 139 ≤ kd := by
    by_cases z : kd = 0
    · exact Or.inl z
    · exact Or.inr (hD.1.2.2.2.2 z).1
  have st1 : a 1 = b 1 := hst 1 (by omega)
  have st3 : a 3 = b 3 := hst 3 (by omega)
  have st4 : a 4 = b 4 := hst 4 (by omega)
  have st0 : a 0 = b 0 := hst 0 (by omega)
  have hg : Gx (DS 82 kd) h0 h0 := Gx.rf
  by_cases hv : vS (b 3) x.toInt64
  · obtain ⟨sn, hsn, hs16, rfl⟩ := vS_i hb.1.2.2.1 hv
    have ew : whyF a (nI sn).toInt64 = why2 a (packS a) sn := by rw [nI_l (by omega)]; exact whyF_of hA (by rw [st3]; exact hsn)
    have hn1 : ¬ whyF a (nI sn).toInt64 = 1 := by
      rw [ew]
      unfold why2
      split
      · omega
      · split <;> omega
    by_cases hw : whyF a (nI sn).toInt64 = 0
    · have hok : stepOk a sn := by
        rw [ew] at hw
        exact (why2_0 hA hw).1
      refine Cn.go (ls := [.ref 64, .int (nI sn)]) (by decide +kernel) rfl (Nat.le_of_ble_eq_true rfl) ?_
      refine r_aload_n (pc2 := 1) 0 dX9_by_0 rfl rfl rfl rfl ?_
      refine r_iload_n (pc2 := 2) 1 dX9_by_1 rfl rfl rfl ?_
      refine r_i2l (pc2 := 3) dX9_by_2 rfl ?_
      refine r_callV1 (pc2 := 6) (As := [.long (Int32.toInt64 (nI sn))]) (st := []) kX9_144 rfl rfl dX9_by_3 c64 (by decide) rfl rfl (Nat.le_of_ble_eq_true rfl) (by omega) ((c_isSetC c64 cs hs64 hb.1.2.2.1).mono fun r h2 q => ⟨q.1.trans (by rw [if_pos hv]), q.2⟩) rfl (fun h2 hq3 => ?_)
      subst hq3
      refine r_if_ne (tgt := 12) (pc2 := 9) dX9_by_6 (by decide) rfl (fun b6 => ?_) (fun b6 => ?_)
      · skip
        refine r_aload_n (pc2 := 13) 0 dX9_by_12 rfl rfl rfl rfl ?_
        refine r_aload_n (pc2 := 14) 0 dX9_by_13 rfl rfl rfl rfl ?_
        refine r_getf (pc2 := 17) (v := .ref 76) fX9_28 dX9_by_14 c64 (by decide) rfl rfl ?_
        refine r_iload_n (pc2 := 18) 1 dX9_by_17 rfl rfl rfl ?_
        refine r_callV1 (pc2 := 21) (As := [.ref 76, .int (nI sn)]) (st := []) kX9_148 rfl rfl dX9_by_18 c64 (by decide) rfl rfl (Nat.le_of_ble_eq_true rfl) (by omega) (c_refusal c64 cs hs64 c76 (Or.inl rfl) hb hA hst (by omega)) rfl (fun h2 hq18 => ?_)
        subst hq18
        refine r_if_eq (tgt := 27) (pc2 := 24) dX9_by_21 (by decide) rfl (fun b21 => ?_) (fun b21 => ?_)
        · skip
          refine r_aload_n (pc2 := 28) 0 dX9_by_27 rfl rfl rfl rfl ?_
          refine r_getf (pc2 := 31) (v := .ref 82) fX9_55 dX9_by_28 c64 (by decide) rfl rfl ?_
          refine r_aload_n (pc2 := 32) 0 dX9_by_31 rfl rfl rfl rfl ?_
          refine r_getf (pc2 := 35) (v := .ref s) fX9_21 dX9_by_32 c64 (by decide) rfl rfl ?_
          refine r_aload_n (pc2 := 36) 0 dX9_by_35 rfl rfl rfl rfl ?_
          refine r_getf (pc2 := 39) (v := .ref 76) fX9_28 dX9_by_36 c64 (by decide) rfl rfl ?_
          refine r_getf (pc2 := 42) (v := .int (nI ((keepV a) 5))) fX9_127 dX9_by_39 c76 (by decide) rfl rfl ?_
          refine r_callV0 (pc2 := 45) (As := [.ref s, .int (nI ((keepV a) 5))]) (st := []) kX9_130 rfl rfl dX9_by_42 c82 (by decide) rfl rfl (Nat.le_of_ble_eq_true rfl) (by omega) (c_take (dr := a 27) hL hS hZ.zl hb hns (hZ s zs).2.2 hn) rfl (fun h hq42 => ?_)
          obtain ⟨kd2, hKQ, hk2, hL, hg1⟩ := hq42
          have c64 := hg1.get (by decide) (by omega) c64
          have c76 := hg1.get (by decide) (by omega) c76
          have hS := hS.gx hZ hg1 (fun a m => by simp at m; omega)
          have hZ2 := hZ.kq hKQ
          have hg := hg.trans hg1 (by simp)
          obtain ⟨lo, so, sa, nl, sl, _, cs, ⟨fl, clo, hfl⟩, ⟨fs, cso, hfs⟩, _⟩ := id hS
          have hn2 : 139 ≤ h.2.1 := Nat.le_trans hn hg.1
          obtain ⟨c82, _⟩ := id hL
          refine r_aload_n (pc2 := 46) 0 dX9_by_45 rfl rfl rfl rfl ?_
          refine r_getf (pc2 := 49) (v := .ref 82) fX9_55 dX9_by_46 c64 (by decide) rfl rfl ?_
          refine r_aload_n (pc2 := 50) 0 dX9_by_49 rfl rfl rfl rfl ?_
          refine r_getf (pc2 := 53) (v := .ref 76) fX9_28 dX9_by_50 c64 (by decide) rfl rfl ?_
          refine r_getf (pc2 := 56) (v := .int (nI (tow (keepV a)))) fX9_114 dX9_by_53 c76 (by decide) rfl rfl ?_
          refine r_cast (nI (tws (packS a))) (by rw [tow_tws hA]) ?_
          refine r_aload_n (pc2 := 57) 0 dX9_by_56 rfl rfl rfl rfl ?_
          refine r_getf (pc2 := 60) (v := .ref 76) fX9_28 dX9_by_57 c64 (by decide) rfl rfl ?_
          refine r_getf (pc2 := 63) (v := .int (nI ((keepV a) 4))) fX9_137 dX9_by_60 c76 (by decide) rfl rfl ?_
          refine r_iload_n (pc2 := 64) 1 dX9_by_63 rfl rfl rfl ?_
          refine r_iconst (pc2 := 65) (v := 0) dX9_by_64 (by decide) rfl ?_
          refine r_callV1 (pc2 := 68) (As := [.int (nI (tws (packS a))), .int (nI ((keepV a) 4)), .int (nI sn), .int 0]) (st := []) kX9_152 rfl rfl dX9_by_65 c82 (by decide) rfl rfl (Nat.le_of_ble_eq_true rfl) (by omega) (c_depthAfter (s := packS a) (sn := sn) (o := 0) (dp := a 26) hL hS hZ2.zl hb hreg hsg hns hA.dr hk2 (fun g hg => by rw [← st1]; exact dig_le hA g hg) hA.dp hA.pdep hs16 (fun g hg q => by rw [← st1]; exact hok.dig hA g (by rw [st3]; exact hg) q) (by omega) (by omega)) rfl (fun h hq65 => ?_)
          obtain ⟨hxd, hL⟩ := hq65
          have hg := hg.kd hxd (by rcases hKQ with z | z; exact Or.inl (by rw [z.1]; simp); exact Or.inr (by omega)) (by simp) (by simp) (by simp)
          exact r_iret rfl dX9_by_68 ⟨by unfold byF; rw [if_neg hn1, if_neg (fun z => z hw), nI_clamp (by omega), hourN_stat hst hb.1, hourN_dep hb.1.2.2.1 (fun g hg q => by have := hok.dig hA g (by rw [st3]; exact hg) q; have := hA.C; omega), hA.pdep], kd2, hKQ.same hxd.1, hL.any, hg.mono DS.sh, hN.gx hA.nd hn hk0 hg⟩
        · exact absurd (by rw [hw]; rfl) b21
      · exact absurd b6 (by decide)
    · skip
      refine Cn.go (ls := [.ref 64, .int (nI sn)]) (by decide +kernel) rfl (Nat.le_of_ble_eq_true rfl) ?_
      refine r_aload_n (pc2 := 1) 0 dX9_by_0 rfl rfl rfl rfl ?_
      refine r_iload_n (pc2 := 2) 1 dX9_by_1 rfl rfl rfl ?_
      refine r_i2l (pc2 := 3) dX9_by_2 rfl ?_
      refine r_callV1 (pc2 := 6) (As := [.long (Int32.toInt64 (nI sn))]) (st := []) kX9_144 rfl rfl dX9_by_3 c64 (by decide) rfl rfl (Nat.le_of_ble_eq_true rfl) (by omega) ((c_isSetC c64 cs hs64 hb.1.2.2.1).mono fun r h2 q => ⟨q.1.trans (by rw [if_pos hv]), q.2⟩) rfl (fun h2 hq3 => ?_)
      subst hq3
      refine r_if_ne (tgt := 12) (pc2 := 9) dX9_by_6 (by decide) rfl (fun b6 => ?_) (fun b6 => ?_)
      · skip
        refine r_aload_n (pc2 := 13) 0 dX9_by_12 rfl rfl rfl rfl ?_
        refine r_aload_n (pc2 := 14) 0 dX9_by_13 rfl rfl rfl rfl ?_
        refine r_getf (pc2 := 17) (v := .ref 76) fX9_28 dX9_by_14 c64 (by decide) rfl rfl ?_
        refine r_iload_n (pc2 := 18) 1 dX9_by_17 rfl rfl rfl ?_
        refine r_callV1 (pc2 := 21) (As := [.ref 76, .int (nI sn)]) (st := []) kX9_148 rfl rfl dX9_by_18 c64 (by decide) rfl rfl (Nat.le_of_ble_eq_true rfl) (by omega) (c_refusal c64 cs hs64 c76 (Or.inl rfl) hb hA hst (by omega)) rfl (fun h2 hq18 => ?_)
        subst hq18
        refine r_if_eq (tgt := 27) (pc2 := 24) dX9_by_21 (by decide) rfl (fun b21 => ?_) (fun b21 => ?_)
        · exact absurd ((nI_eq (b := 0) (by have := whyF_lt a (nI sn).toInt64; omega) (by decide)).mp b21) hw
        · skip
          refine r_bipush (pc2 := 26) (v := -5) dX9_by_24 (by decide) rfl ?_
          exact r_iret rfl dX9_by_26 ⟨by unfold byF; rw [if_neg hn1, if_pos hw], kd, KQ.rf, hD.1, Gx.rf, hN⟩
      · exact absurd b6 (by decide)
  · have hw1 : whyF a x.toInt64 = 1 := by unfold whyF; rw [if_neg (by rw [st3]; exact hv)]
    refine Cn.go (ls := [.ref 64, .int x]) (by decide +kernel) rfl (Nat.le_of_ble_eq_true rfl) ?_
    refine r_aload_n (pc2 := 1) 0 dX9_by_0 rfl rfl rfl rfl ?_
    refine r_iload_n (pc2 := 2) 1 dX9_by_1 rfl rfl rfl ?_
    refine r_i2l (pc2 := 3) dX9_by_2 rfl ?_
    refine r_callV1 (pc2 := 6) (As := [.long (Int32.toInt64 x)]) (st := []) kX9_144 rfl rfl dX9_by_3 c64 (by decide) rfl rfl (Nat.le_of_ble_eq_true rfl) (by omega) ((c_isSetC c64 cs hs64 hb.1.2.2.1).mono fun r h2 q => ⟨q.1.trans (by rw [if_neg hv]), q.2⟩) rfl (fun h2 hq3 => ?_)
    subst hq3
    refine r_if_ne (tgt := 12) (pc2 := 9) dX9_by_6 (by decide) rfl (fun b6 => ?_) (fun b6 => ?_)
    · exact absurd b6 (by decide)
    · skip
      refine r_bipush (pc2 := 11) (v := -3) dX9_by_9 (by decide) rfl ?_
      exact r_iret rfl dX9_by_11 ⟨by unfold byF; rw [if_pos hw1], kd, KQ.rf, hD.1, Gx.rf, hN⟩
set_option maxRecDepth 20000 in
set_option maxHeartbeats 1000000 in
theorem cl_goer {E : EnvT} {d : Nat} {h0 : Hp} {ns s w1 w2 : Nat} {wk dt : Value} {Z : Nat → Prop} {reg : Nat → FR} {sg kd : Nat} {a b : FR} {x y : Int32} (hN : NW h0 s ns w1 w2 wk dt a) (hD : DV Z h0 reg ns s sg kd b) (hA : AIN a) (hst : Stat a b) (hd : 6 ≤ d) : Cn E mX9_goer d [.ref 64, .int x, .int y] h0 (QN reg s ns w1 w2 wk dt h0 kd (.int (goerF a x y)) a) := by
  obtain ⟨c64, c76, h77, hM⟩ := id hN
  obtain ⟨hL, hS, hZ, hb, hreg, hsg, hns, hn, zs⟩ := id hD
  have hs64 := (hZ.zl s zs).1
  obtain ⟨lo, so, sa, nl, sl, ⟨_, zlo, zso, _⟩, cs, ⟨fl, clo, hfl⟩, ⟨fs, cso, hfs⟩, _⟩ := id hS
  obtain ⟨⟨V0, V1, V2, c82⟩, _⟩ := id hL
  have hk0 : kd = 0 ∨ 139 ≤ kd := by
    by_cases z : kd = 0
    · exact Or.inl z
    · exact Or.inr (hD.1.2.2.2.2 z).1
  have st1 : a 1 = b 1 := hst 1 (by omega)
  have st3 : a 3 = b 3 := hst 3 (by omega)
  have st4 : a 4 = b 4 := hst 4 (by omega)
  have st0 : a 0 = b 0 := hst 0 (by omega)
  have hg : Gx (DS 82 kd) h0 h0 := Gx.rf
  have hlo64 : 64 ≤ lo := (hZ.zl lo zlo).1
  have hso64 : 64 ≤ so := (hZ.zl so zso).1
  by_cases hg3 : inP (b 3) x
  · have hi := hg3
    obtain ⟨g, hgl, rfl⟩ := inP_of (by have := hb.1.2.2.1; omega) hg3
    have hG := hb.1.2.2.1
    have hcl := hA.cl g (by omega)
    have hC6 := hA.C
    by_cases y0 : y = 0
    · subst y0
      refine Cn.go (ls := [.ref 64, .int (nI g), .int 0, .float 0]) (by decide +kernel) rfl (Nat.le_of_ble_eq_true rfl) ?_
      refine r_iload_n (pc2 := 1) 1 dX9_goer_0 rfl rfl rfl ?_
      refine r_if_lt (tgt := 24) (pc2 := 4) dX9_goer_1 (by decide) rfl (fun b1 => ?_) (fun b1 => ?_)
      · exact absurd b1 (nI_pos (by omega))
      · skip
        refine r_iload_n (pc2 := 5) 1 dX9_goer_4 rfl rfl rfl ?_
        refine r_aload_n (pc2 := 6) 0 dX9_goer_5 rfl rfl rfl rfl ?_
        refine r_getf (pc2 := 9) (v := .ref s) fX9_21 dX9_goer_6 c64 (by decide) rfl rfl ?_
        refine r_getf (pc2 := 12) (v := .int (nI (b 3))) fX9_111 dX9_goer_9 cs hs64 rfl rfl ?_
        refine r_icmp_ge (tgt := 24) (pc2 := 15) dX9_goer_12 (by decide) rfl (fun b12 => ?_) (fun b12 => ?_)
        · exact absurd b12 (nI_ge hgl (by omega))
        · skip
          refine r_iload_n (pc2 := 16) 2 dX9_goer_15 rfl rfl rfl ?_
          refine r_if_lt (tgt := 24) (pc2 := 19) dX9_goer_16 (by decide) rfl (fun b16 => ?_) (fun b16 => ?_)
          · exact absurd b16 (by decide)
          · skip
            refine r_iload_n (pc2 := 20) 2 dX9_goer_19 rfl rfl rfl ?_
            refine r_iconst (pc2 := 21) (v := 3) dX9_goer_20 (by decide) rfl ?_
            refine r_icmp_le (tgt := 27) (pc2 := 24) dX9_goer_21 (by decide) rfl (fun b21 => ?_) (fun b21 => ?_)
            · skip
              refine r_aload_n (pc2 := 28) 0 dX9_goer_27 rfl rfl rfl rfl ?_
              refine r_getf (pc2 := 31) (v := .ref 76) fX9_28 dX9_goer_28 c64 (by decide) rfl rfl ?_
              refine r_getf (pc2 := 34) (v := .int (nI (tow (keepV a)))) fX9_114 dX9_goer_31 c76 (by decide) rfl rfl ?_
              refine r_iload_n (pc2 := 35) 1 dX9_goer_34 rfl rfl rfl ?_
              refine r_callS1 (pc2 := 38) (As := [.int (nI (tow (keepV a))), .int (nI g)]) (st := []) kX9_117 dX9_goer_35 rfl rfl (Nat.le_of_ble_eq_true rfl) (by omega) ((c_cellOf (w := tow (keepV a)) (g := g) (by rw [tow_tws hA]; exact tws_lt (dig_le hA) hA.C) (by omega)).mono fun r h2 q => ⟨q.1.trans (by rw [tow_tws hA, tws_dig (dig_le hA) hA.C g (by omega), hA.pdig g (by omega)]), q.2⟩) rfl (fun h2 hq35 => ?_)
              subst hq35
              refine r_istore_n (pc2 := 39) (ls2 := [.ref 64, .int (nI g), .int 0, .int (nI (a (22 + g)))]) 3 dX9_goer_38 rfl (by decide) rfl rfl rfl ?_
              refine r_iload_n (pc2 := 40) 2 dX9_goer_39 rfl rfl rfl ?_
              refine r_tsw (pc2 := 0) (tgt := 68) (off := 28) dX9_goer_40 (by decide) (by decide) (by decide) (by decide) ?_
              refine r_iload_n (pc2 := 69) 3 dX9_goer_68 rfl rfl rfl ?_
              exact r_iret rfl dX9_goer_69 ⟨by unfold goerF; rw [st3, if_pos hi, nI_clamp (by omega)]; rfl, kd, KQ.rf, hD.1, Gx.rf, hN⟩
            · exact absurd b21 (by decide)
    · by_cases y1 : y = 1
      · subst y1
        refine Cn.go (ls := [.ref 64, .int (nI g), .int 1, .float 0]) (by decide +kernel) rfl (Nat.le_of_ble_eq_true rfl) ?_
        refine r_iload_n (pc2 := 1) 1 dX9_goer_0 rfl rfl rfl ?_
        refine r_if_lt (tgt := 24) (pc2 := 4) dX9_goer_1 (by decide) rfl (fun b1 => ?_) (fun b1 => ?_)
        · exact absurd b1 (nI_pos (by omega))
        · skip
          refine r_iload_n (pc2 := 5) 1 dX9_goer_4 rfl rfl rfl ?_
          refine r_aload_n (pc2 := 6) 0 dX9_goer_5 rfl rfl rfl rfl ?_
          refine r_getf (pc2 := 9) (v := .ref s) fX9_21 dX9_goer_6 c64 (by decide) rfl rfl ?_
          refine r_getf (pc2 := 12) (v := .int (nI (b 3))) fX9_111 dX9_goer_9 cs hs64 rfl rfl ?_
          refine r_icmp_ge (tgt := 24) (pc2 := 15) dX9_goer_12 (by decide) rfl (fun b12 => ?_) (fun b12 => ?_)
          · exact absurd b12 (nI_ge hgl (by omega))
          · skip
            refine r_iload_n (pc2 := 16) 2 dX9_goer_15 rfl rfl rfl ?_
            refine r_if_lt (tgt := 24) (pc2 := 19) dX9_goer_16 (by decide) rfl (fun b16 => ?_) (fun b16 => ?_)
            · exact absurd b16 (by decide)
            · skip
              refine r_iload_n (pc2 := 20) 2 dX9_goer_19 rfl rfl rfl ?_
              refine r_iconst (pc2 := 21) (v := 3) dX9_goer_20 (by decide) rfl ?_
              refine r_icmp_le (tgt := 27) (pc2 := 24) dX9_goer_21 (by decide) rfl (fun b21 => ?_) (fun b21 => ?_)
              · skip
                refine r_aload_n (pc2 := 28) 0 dX9_goer_27 rfl rfl rfl rfl ?_
                refine r_getf (pc2 := 31) (v := .ref 76) fX9_28 dX9_goer_28 c64 (by decide) rfl rfl ?_
                refine r_getf (pc2 := 34) (v := .int (nI (tow (keepV a)))) fX9_114 dX9_goer_31 c76 (by decide) rfl rfl ?_
                refine r_iload_n (pc2 := 35) 1 dX9_goer_34 rfl rfl rfl ?_
                refine r_callS1 (pc2 := 38) (As := [.int (nI (tow (keepV a))), .int (nI g)]) (st := []) kX9_117 dX9_goer_35 rfl rfl (Nat.le_of_ble_eq_true rfl) (by omega) ((c_cellOf (w := tow (keepV a)) (g := g) (by rw [tow_tws hA]; exact tws_lt (dig_le hA) hA.C) (by omega)).mono fun r h2 q => ⟨q.1.trans (by rw [tow_tws hA, tws_dig (dig_le hA) hA.C g (by omega), hA.pdig g (by omega)]), q.2⟩) rfl (fun h2 hq35 => ?_)
                subst hq35
                refine r_istore_n (pc2 := 39) (ls2 := [.ref 64, .int (nI g), .int 1, .int (nI (a (22 + g)))]) 3 dX9_goer_38 rfl (by decide) rfl rfl rfl ?_
                refine r_iload_n (pc2 := 40) 2 dX9_goer_39 rfl rfl rfl ?_
                refine r_tsw (pc2 := 0) (tgt := 70) (off := 30) dX9_goer_40 (by decide) (by decide) (by decide) (by decide) ?_
                refine r_aload_n (pc2 := 71) 0 dX9_goer_70 rfl rfl rfl rfl ?_
                refine r_getf (pc2 := 74) (v := .ref s) fX9_21 dX9_goer_71 c64 (by decide) rfl rfl ?_
                refine r_getf (pc2 := 77) (v := .ref lo) fX9_121 dX9_goer_74 cs hs64 rfl rfl ?_
                refine r_iload_n (pc2 := 78) 1 dX9_goer_77 rfl rfl rfl ?_
                refine r_ialdN (pc2 := 79) g dX9_goer_78 clo hlo64 rfl (by omega) (by decide) rfl ?_
                exact r_iret rfl dX9_goer_79 ⟨by unfold goerF; rw [st3, if_pos hi, nI_clamp (by omega)]; show some (Value.int (fl g)) = some (Value.int (nI (a (14 + g)))); rw [hfl g (by omega), hst (14 + g) (by omega)], kd, KQ.rf, hD.1, Gx.rf, hN⟩
              · exact absurd b21 (by decide)
      · by_cases y2 : y = 2
        · subst y2
          refine Cn.go (ls := [.ref 64, .int (nI g), .int 2, .float 0]) (by decide +kernel) rfl (Nat.le_of_ble_eq_true rfl) ?_
          refine r_iload_n (pc2 := 1) 1 dX9_goer_0 rfl rfl rfl ?_
          refine r_if_lt (tgt := 24) (pc2 := 4) dX9_goer_1 (by decide) rfl (fun b1 => ?_) (fun b1 => ?_)
          · exact absurd b1 (nI_pos (by omega))
          · skip
            refine r_iload_n (pc2 := 5) 1 dX9_goer_4 rfl rfl rfl ?_
            refine r_aload_n (pc2 := 6) 0 dX9_goer_5 rfl rfl rfl rfl ?_
            refine r_getf (pc2 := 9) (v := .ref s) fX9_21 dX9_goer_6 c64 (by decide) rfl rfl ?_
            refine r_getf (pc2 := 12) (v := .int (nI (b 3))) fX9_111 dX9_goer_9 cs hs64 rfl rfl ?_
            refine r_icmp_ge (tgt := 24) (pc2 := 15) dX9_goer_12 (by decide) rfl (fun b12 => ?_) (fun b12 => ?_)
            · exact absurd b12 (nI_ge hgl (by omega))
            · skip
              refine r_iload_n (pc2 := 16) 2 dX9_goer_15 rfl rfl rfl ?_
              refine r_if_lt (tgt := 24) (pc2 := 19) dX9_goer_16 (by decide) rfl (fun b16 => ?_) (fun b16 => ?_)
              · exact absurd b16 (by decide)
              · skip
                refine r_iload_n (pc2 := 20) 2 dX9_goer_19 rfl rfl rfl ?_
                refine r_iconst (pc2 := 21) (v := 3) dX9_goer_20 (by decide) rfl ?_
                refine r_icmp_le (tgt := 27) (pc2 := 24) dX9_goer_21 (by decide) rfl (fun b21 => ?_) (fun b21 => ?_)
                · skip
                  refine r_aload_n (pc2 := 28) 0 dX9_goer_27 rfl rfl rfl rfl ?_
                  refine r_getf (pc2 := 31) (v := .ref 76) fX9_28 dX9_goer_28 c64 (by decide) rfl rfl ?_
                  refine r_getf (pc2 := 34) (v := .int (nI (tow (keepV a)))) fX9_114 dX9_goer_31 c76 (by decide) rfl rfl ?_
                  refine r_iload_n (pc2 := 35) 1 dX9_goer_34 rfl rfl rfl ?_
                  refine r_callS1 (pc2 := 38) (As := [.int (nI (tow (keepV a))), .int (nI g)]) (st := []) kX9_117 dX9_goer_35 rfl rfl (Nat.le_of_ble_eq_true rfl) (by omega) ((c_cellOf (w := tow (keepV a)) (g := g) (by rw [tow_tws hA]; exact tws_lt (dig_le hA) hA.C) (by omega)).mono fun r h2 q => ⟨q.1.trans (by rw [tow_tws hA, tws_dig (dig_le hA) hA.C g (by omega), hA.pdig g (by omega)]), q.2⟩) rfl (fun h2 hq35 => ?_)
                  subst hq35
                  refine r_istore_n (pc2 := 39) (ls2 := [.ref 64, .int (nI g), .int 2, .int (nI (a (22 + g)))]) 3 dX9_goer_38 rfl (by decide) rfl rfl rfl ?_
                  refine r_iload_n (pc2 := 40) 2 dX9_goer_39 rfl rfl rfl ?_
                  refine r_tsw (pc2 := 0) (tgt := 80) (off := 40) dX9_goer_40 (by decide) (by decide) (by decide) (by decide) ?_
                  refine r_aload_n (pc2 := 81) 0 dX9_goer_80 rfl rfl rfl rfl ?_
                  refine r_getf (pc2 := 84) (v := .ref s) fX9_21 dX9_goer_81 c64 (by decide) rfl rfl ?_
                  refine r_getf (pc2 := 87) (v := .ref so) fX9_124 dX9_goer_84 cs hs64 rfl rfl ?_
                  refine r_iload_n (pc2 := 88) 1 dX9_goer_87 rfl rfl rfl ?_
                  refine r_ialdN (pc2 := 89) g dX9_goer_88 cso hso64 rfl (by omega) (by decide) rfl ?_
                  exact r_iret rfl dX9_goer_89 ⟨by unfold goerF; rw [st3, if_pos hi, nI_clamp (by omega)]; show some (Value.int (fs g)) = some (Value.int (nI (a (18 + g)))); rw [hfs g (by omega), hst (18 + g) (by omega)], kd, KQ.rf, hD.1, Gx.rf, hN⟩
                · exact absurd b21 (by decide)
        · by_cases y3 : y = 3
          · subst y3
            by_cases hcc : a (22 + g) = a 1
            · skip
              refine Cn.go (ls := [.ref 64, .int (nI g), .int 3, .float 0]) (by decide +kernel) rfl (Nat.le_of_ble_eq_true rfl) ?_
              refine r_iload_n (pc2 := 1) 1 dX9_goer_0 rfl rfl rfl ?_
              refine r_if_lt (tgt := 24) (pc2 := 4) dX9_goer_1 (by decide) rfl (fun b1 => ?_) (fun b1 => ?_)
              · exact absurd b1 (nI_pos (by omega))
              · skip
                refine r_iload_n (pc2 := 5) 1 dX9_goer_4 rfl rfl rfl ?_
                refine r_aload_n (pc2 := 6) 0 dX9_goer_5 rfl rfl rfl rfl ?_
                refine r_getf (pc2 := 9) (v := .ref s) fX9_21 dX9_goer_6 c64 (by decide) rfl rfl ?_
                refine r_getf (pc2 := 12) (v := .int (nI (b 3))) fX9_111 dX9_goer_9 cs hs64 rfl rfl ?_
                refine r_icmp_ge (tgt := 24) (pc2 := 15) dX9_goer_12 (by decide) rfl (fun b12 => ?_) (fun b12 => ?_)
                · exact absurd b12 (nI_ge hgl (by omega))
                · skip
                  refine r_iload_n (pc2 := 16) 2 dX9_goer_15 rfl rfl rfl ?_
                  refine r_if_lt (tgt := 24) (pc2 := 19) dX9_goer_16 (by decide) rfl (fun b16 => ?_) (fun b16 => ?_)
                  · exact absurd b16 (by decide)
                  · skip
                    refine r_iload_n (pc2 := 20) 2 dX9_goer_19 rfl rfl rfl ?_
                    refine r_iconst (pc2 := 21) (v := 3) dX9_goer_20 (by decide) rfl ?_
                    refine r_icmp_le (tgt := 27) (pc2 := 24) dX9_goer_21 (by decide) rfl (fun b21 => ?_) (fun b21 => ?_)
                    · skip
                      refine r_aload_n (pc2 := 28) 0 dX9_goer_27 rfl rfl rfl rfl ?_
                      refine r_getf (pc2 := 31) (v := .ref 76) fX9_28 dX9_goer_28 c64 (by decide) rfl rfl ?_
                      refine r_getf (pc2 := 34) (v := .int (nI (tow (keepV a)))) fX9_114 dX9_goer_31 c76 (by decide) rfl rfl ?_
                      refine r_iload_n (pc2 := 35) 1 dX9_goer_34 rfl rfl rfl ?_
                      refine r_callS1 (pc2 := 38) (As := [.int (nI (tow (keepV a))), .int (nI g)]) (st := []) kX9_117 dX9_goer_35 rfl rfl (Nat.le_of_ble_eq_true rfl) (by omega) ((c_cellOf (w := tow (keepV a)) (g := g) (by rw [tow_tws hA]; exact tws_lt (dig_le hA) hA.C) (by omega)).mono fun r h2 q => ⟨q.1.trans (by rw [tow_tws hA, tws_dig (dig_le hA) hA.C g (by omega), hA.pdig g (by omega)]), q.2⟩) rfl (fun h2 hq35 => ?_)
                      subst hq35
                      refine r_istore_n (pc2 := 39) (ls2 := [.ref 64, .int (nI g), .int 3, .int (nI (a (22 + g)))]) 3 dX9_goer_38 rfl (by decide) rfl rfl rfl ?_
                      refine r_iload_n (pc2 := 40) 2 dX9_goer_39 rfl rfl rfl ?_
                      refine r_tswD (pc2 := 0) (tgt := 90) dX9_goer_40 (by decide) (by decide) ?_
                      refine r_aload_n (pc2 := 91) 0 dX9_goer_90 rfl rfl rfl rfl ?_
                      refine r_getf (pc2 := 94) (v := .ref 82) fX9_55 dX9_goer_91 c64 (by decide) rfl rfl ?_
                      refine r_aload_n (pc2 := 95) 0 dX9_goer_94 rfl rfl rfl rfl ?_
                      refine r_getf (pc2 := 98) (v := .ref s) fX9_21 dX9_goer_95 c64 (by decide) rfl rfl ?_
                      refine r_aload_n (pc2 := 99) 0 dX9_goer_98 rfl rfl rfl rfl ?_
                      refine r_getf (pc2 := 102) (v := .ref 76) fX9_28 dX9_goer_99 c64 (by decide) rfl rfl ?_
                      refine r_getf (pc2 := 105) (v := .int (nI ((keepV a) 5))) fX9_127 dX9_goer_102 c76 (by decide) rfl rfl ?_
                      refine r_callV0 (pc2 := 108) (As := [.ref s, .int (nI ((keepV a) 5))]) (st := []) kX9_130 rfl rfl dX9_goer_105 c82 (by decide) rfl rfl (Nat.le_of_ble_eq_true rfl) (by omega) (c_take (dr := a 27) hL hS hZ.zl hb hns (hZ s zs).2.2 hn) rfl (fun h hq105 => ?_)
                      obtain ⟨kd2, hKQ, hk2, hL, hg1⟩ := hq105
                      have c64 := hg1.get (by decide) (by omega) c64
                      have c76 := hg1.get (by decide) (by omega) c76
                      have hS := hS.gx hZ hg1 (fun a m => by simp at m; omega)
                      have hZ2 := hZ.kq hKQ
                      have hg2 := hg.trans hg1 (by simp)
                      obtain ⟨lo, so, sa, nl, sl, _, cs, ⟨fl, clo, hfl⟩, ⟨fs, cso, hfs⟩, _⟩ := id hS
                      have hn2 : 139 ≤ h.2.1 := Nat.le_trans hn hg2.1
                      obtain ⟨c82, _⟩ := id hL
                      refine r_iload_n (pc2 := 109) 3 dX9_goer_108 rfl rfl rfl ?_
                      refine r_aload_n (pc2 := 110) 0 dX9_goer_109 rfl rfl rfl rfl ?_
                      refine r_getf (pc2 := 113) (v := .ref s) fX9_21 dX9_goer_110 c64 (by decide) rfl rfl ?_
                      refine r_getf (pc2 := 116) (v := .int (nI (b 1))) fX9_134 dX9_goer_113 cs hs64 rfl rfl ?_
                      refine r_icmp_lt (tgt := 123) (pc2 := 119) dX9_goer_116 (by decide) rfl (fun b116 => ?_) (fun b116 => ?_)
                      · exact absurd b116 (nI_nlt (by omega) (by omega))
                      · skip
                        refine r_iconst (pc2 := 120) (v := -1) dX9_goer_119 (by decide) rfl ?_
                        refine r_goto (pc2 := 141) dX9_goer_120 (by decide) ?_
                        exact r_iret rfl dX9_goer_141 ⟨by unfold goerF; rw [st3, if_pos hi, nI_clamp (by omega)]; show _ = some (Value.int (if a (22 + g) = a 1 then -1 else _)); rw [if_pos hcc], kd2, hKQ, hL.any, hg2.mono DS.sh, hN.gx hA.nd hn hk0 hg2⟩
                    · exact absurd b21 (by decide)
            · skip
              refine Cn.go (ls := [.ref 64, .int (nI g), .int 3, .float 0]) (by decide +kernel) rfl (Nat.le_of_ble_eq_true rfl) ?_
              refine r_iload_n (pc2 := 1) 1 dX9_goer_0 rfl rfl rfl ?_
              refine r_if_lt (tgt := 24) (pc2 := 4) dX9_goer_1 (by decide) rfl (fun b1 => ?_) (fun b1 => ?_)
              · exact absurd b1 (nI_pos (by omega))
              · skip
                refine r_iload_n (pc2 := 5) 1 dX9_goer_4 rfl rfl rfl ?_
                refine r_aload_n (pc2 := 6) 0 dX9_goer_5 rfl rfl rfl rfl ?_
                refine r_getf (pc2 := 9) (v := .ref s) fX9_21 dX9_goer_6 c64 (by decide) rfl rfl ?_
                refine r_getf (pc2 := 12) (v := .int (nI (b 3))) fX9_111 dX9_goer_9 cs hs64 rfl rfl ?_
                refine r_icmp_ge (tgt := 24) (pc2 := 15) dX9_goer_12 (by decide) rfl (fun b12 => ?_) (fun b12 => ?_)
                · exact absurd b12 (nI_ge hgl (by omega))
                · skip
                  refine r_iload_n (pc2 := 16) 2 dX9_goer_15 rfl rfl rfl ?_
                  refine r_if_lt (tgt := 24) (pc2 := 19) dX9_goer_16 (by decide) rfl (fun b16 => ?_) (fun b16 => ?_)
                  · exact absurd b16 (by decide)
                  · skip
                    refine r_iload_n (pc2 := 20) 2 dX9_goer_19 rfl rfl rfl ?_
                    refine r_iconst (pc2 := 21) (v := 3) dX9_goer_20 (by decide) rfl ?_
                    refine r_icmp_le (tgt := 27) (pc2 := 24) dX9_goer_21 (by decide) rfl (fun b21 => ?_) (fun b21 => ?_)
                    · skip
                      refine r_aload_n (pc2 := 28) 0 dX9_goer_27 rfl rfl rfl rfl ?_
                      refine r_getf (pc2 := 31) (v := .ref 76) fX9_28 dX9_goer_28 c64 (by decide) rfl rfl ?_
                      refine r_getf (pc2 := 34) (v := .int (nI (tow (keepV a)))) fX9_114 dX9_goer_31 c76 (by decide) rfl rfl ?_
                      refine r_iload_n (pc2 := 35) 1 dX9_goer_34 rfl rfl rfl ?_
                      refine r_callS1 (pc2 := 38) (As := [.int (nI (tow (keepV a))), .int (nI g)]) (st := []) kX9_117 dX9_goer_35 rfl rfl (Nat.le_of_ble_eq_true rfl) (by omega) ((c_cellOf (w := tow (keepV a)) (g := g) (by rw [tow_tws hA]; exact tws_lt (dig_le hA) hA.C) (by omega)).mono fun r h2 q => ⟨q.1.trans (by rw [tow_tws hA, tws_dig (dig_le hA) hA.C g (by omega), hA.pdig g (by omega)]), q.2⟩) rfl (fun h2 hq35 => ?_)
                      subst hq35
                      refine r_istore_n (pc2 := 39) (ls2 := [.ref 64, .int (nI g), .int 3, .int (nI (a (22 + g)))]) 3 dX9_goer_38 rfl (by decide) rfl rfl rfl ?_
                      refine r_iload_n (pc2 := 40) 2 dX9_goer_39 rfl rfl rfl ?_
                      refine r_tswD (pc2 := 0) (tgt := 90) dX9_goer_40 (by decide) (by decide) ?_
                      refine r_aload_n (pc2 := 91) 0 dX9_goer_90 rfl rfl rfl rfl ?_
                      refine r_getf (pc2 := 94) (v := .ref 82) fX9_55 dX9_goer_91 c64 (by decide) rfl rfl ?_
                      refine r_aload_n (pc2 := 95) 0 dX9_goer_94 rfl rfl rfl rfl ?_
                      refine r_getf (pc2 := 98) (v := .ref s) fX9_21 dX9_goer_95 c64 (by decide) rfl rfl ?_
                      refine r_aload_n (pc2 := 99) 0 dX9_goer_98 rfl rfl rfl rfl ?_
                      refine r_getf (pc2 := 102) (v := .ref 76) fX9_28 dX9_goer_99 c64 (by decide) rfl rfl ?_
                      refine r_getf (pc2 := 105) (v := .int (nI ((keepV a) 5))) fX9_127 dX9_goer_102 c76 (by decide) rfl rfl ?_
                      refine r_callV0 (pc2 := 108) (As := [.ref s, .int (nI ((keepV a) 5))]) (st := []) kX9_130 rfl rfl dX9_goer_105 c82 (by decide) rfl rfl (Nat.le_of_ble_eq_true rfl) (by omega) (c_take (dr := a 27) hL hS hZ.zl hb hns (hZ s zs).2.2 hn) rfl (fun h hq105 => ?_)
                      obtain ⟨kd2, hKQ, hk2, hL, hg1⟩ := hq105
                      have c64 := hg1.get (by decide) (by omega) c64
                      have c76 := hg1.get (by decide) (by omega) c76
                      have hS := hS.gx hZ hg1 (fun a m => by simp at m; omega)
                      have hZ2 := hZ.kq hKQ
                      have hg2 := hg.trans hg1 (by simp)
                      obtain ⟨lo, so, sa, nl, sl, _, cs, ⟨fl, clo, hfl⟩, ⟨fs, cso, hfs⟩, _⟩ := id hS
                      have hn2 : 139 ≤ h.2.1 := Nat.le_trans hn hg2.1
                      obtain ⟨c82, _⟩ := id hL
                      refine r_iload_n (pc2 := 109) 3 dX9_goer_108 rfl rfl rfl ?_
                      refine r_aload_n (pc2 := 110) 0 dX9_goer_109 rfl rfl rfl rfl ?_
                      refine r_getf (pc2 := 113) (v := .ref s) fX9_21 dX9_goer_110 c64 (by decide) rfl rfl ?_
                      refine r_getf (pc2 := 116) (v := .int (nI (b 1))) fX9_134 dX9_goer_113 cs hs64 rfl rfl ?_
                      refine r_icmp_lt (tgt := 123) (pc2 := 119) dX9_goer_116 (by decide) rfl (fun b116 => ?_) (fun b116 => ?_)
                      · skip
                        refine r_aload_n (pc2 := 124) 0 dX9_goer_123 rfl rfl rfl rfl ?_
                        refine r_getf (pc2 := 127) (v := .ref 82) fX9_55 dX9_goer_124 c64 (by decide) rfl rfl ?_
                        refine r_iload_n (pc2 := 128) 1 dX9_goer_127 rfl rfl rfl ?_
                        refine r_iload_n (pc2 := 129) 3 dX9_goer_128 rfl rfl rfl ?_
                        refine r_iconst (pc2 := 130) (v := 1) dX9_goer_129 (by decide) rfl ?_
                        refine r_iadd (pc2 := 131) dX9_goer_130 rfl ?_
                        refine r_cast (nI (a (22 + g) + 1)) (nI_1 _) ?_
                        refine r_aload_n (pc2 := 132) 0 dX9_goer_131 rfl rfl rfl rfl ?_
                        refine r_getf (pc2 := 135) (v := .ref 76) fX9_28 dX9_goer_132 c64 (by decide) rfl rfl ?_
                        refine r_getf (pc2 := 138) (v := .int (nI ((keepV a) 4))) fX9_137 dX9_goer_135 c76 (by decide) rfl rfl ?_
                        refine r_callV1 (pc2 := 141) (As := [.int (nI g), .int (nI (a (22 + g) + 1)), .int (nI ((keepV a) 4))]) (st := []) kX9_140 rfl rfl dX9_goer_138 c82 (by decide) rfl rfl (Nat.le_of_ble_eq_true rfl) (by omega) (c_noise (g := g) (to := a (22 + g) + 1) (dp := a 26) hL hS hZ2.zl hb hreg hsg hns hA.dr (by omega) (by omega) hA.dp (by omega)) rfl (fun h hq138 => ?_)
                        obtain ⟨hxd, hL⟩ := hq138
                        have hg2 := hg2.ex hxd (by simp)
                        exact r_iret rfl dX9_goer_141 ⟨by unfold goerF; rw [st3, if_pos hi, nI_clamp (by omega)]; show _ = some (Value.int (if a (22 + g) = a 1 then -1 else _)); rw [if_neg hcc, noiseN_stat hst hb.1 (by omega)], kd2, hKQ.same hxd.1, hL.any, hg2.mono DS.sh, hN.gx hA.nd hn hk0 hg2⟩
                      · exact absurd (nI_lt (by omega) (by omega)) b116
                    · exact absurd b21 (by decide)
          · have y4 : 0 ≤ y → y ≤ 3 → False := fun z1 z2 => by
              obtain ⟨j, hj, rfl⟩ := nI_of2 (M := 3) (n := 3) (by decide) (Int32.not_lt.mpr z1) z2
              match j, hj with
              | 0, _ => exact y0 rfl
              | 1, _ => exact y1 rfl
              | 2, _ => exact y2 rfl
              | 3, _ => exact y3 rfl
            refine Cn.go (ls := [.ref 64, .int (nI g), .int y, .float 0]) (by decide +kernel) rfl (Nat.le_of_ble_eq_true rfl) ?_
            refine r_iload_n (pc2 := 1) 1 dX9_goer_0 rfl rfl rfl ?_
            refine r_if_lt (tgt := 24) (pc2 := 4) dX9_goer_1 (by decide) rfl (fun b1 => ?_) (fun b1 => ?_)
            · exact absurd b1 (nI_pos (by omega))
            · skip
              refine r_iload_n (pc2 := 5) 1 dX9_goer_4 rfl rfl rfl ?_
              refine r_aload_n (pc2 := 6) 0 dX9_goer_5 rfl rfl rfl rfl ?_
              refine r_getf (pc2 := 9) (v := .ref s) fX9_21 dX9_goer_6 c64 (by decide) rfl rfl ?_
              refine r_getf (pc2 := 12) (v := .int (nI (b 3))) fX9_111 dX9_goer_9 cs hs64 rfl rfl ?_
              refine r_icmp_ge (tgt := 24) (pc2 := 15) dX9_goer_12 (by decide) rfl (fun b12 => ?_) (fun b12 => ?_)
              · exact absurd b12 (nI_ge hgl (by omega))
              · skip
                refine r_iload_n (pc2 := 16) 2 dX9_goer_15 rfl rfl rfl ?_
                refine r_if_lt (tgt := 24) (pc2 := 19) dX9_goer_16 (by decide) rfl (fun b16 => ?_) (fun b16 => ?_)
                · skip
                  refine r_bipush (pc2 := 26) (v := -2) dX9_goer_24 (by decide) rfl ?_
                  exact r_iret rfl dX9_goer_26 ⟨by unfold goerF; rw [st3, if_pos hi, if_neg y0, if_neg y1, if_neg y2, if_neg y3], kd, KQ.rf, hD.1, Gx.rf, hN⟩
                · skip
                  refine r_iload_n (pc2 := 20) 2 dX9_goer_19 rfl rfl rfl ?_
                  refine r_iconst (pc2 := 21) (v := 3) dX9_goer_20 (by decide) rfl ?_
                  refine r_icmp_le (tgt := 27) (pc2 := 24) dX9_goer_21 (by decide) rfl (fun b21 => ?_) (fun b21 => ?_)
                  · exact absurd (y4 (Int32.not_lt.mp b16) b21) id
                  · skip
                    refine r_bipush (pc2 := 26) (v := -2) dX9_goer_24 (by decide) rfl ?_
                    exact r_iret rfl dX9_goer_26 ⟨by unfold goerF; rw [st3, if_pos hi, if_neg y0, if_neg y1, if_neg y2, if_neg y3], kd, KQ.rf, hD.1, Gx.rf, hN⟩
  · skip
    refine Cn.go (ls := [.ref 64, .int x, .int y, .float 0]) (by decide +kernel) rfl (Nat.le_of_ble_eq_true rfl) ?_
    refine r_iload_n (pc2 := 1) 1 dX9_goer_0 rfl rfl rfl ?_
    refine r_if_lt (tgt := 24) (pc2 := 4) dX9_goer_1 (by decide) rfl (fun b1 => ?_) (fun b1 => ?_)
    · skip
      refine r_bipush (pc2 := 26) (v := -2) dX9_goer_24 (by decide) rfl ?_
      exact r_iret rfl dX9_goer_26 ⟨by unfold goerF; rw [st3, if_neg hg3], kd, KQ.rf, hD.1, Gx.rf, hN⟩
    · skip
      refine r_iload_n (pc2 := 5) 1 dX9_goer_4 rfl rfl rfl ?_
      refine r_aload_n (pc2 := 6) 0 dX9_goer_5 rfl rfl rfl rfl ?_
      refine r_getf (pc2 := 9) (v := .ref s) fX9_21 dX9_goer_6 c64 (by decide) rfl rfl ?_
      refine r_getf (pc2 := 12) (v := .int (nI (b 3))) fX9_111 dX9_goer_9 cs hs64 rfl rfl ?_
      refine r_icmp_ge (tgt := 24) (pc2 := 15) dX9_goer_12 (by decide) rfl (fun b12 => ?_) (fun b12 => ?_)
      · skip
        refine r_bipush (pc2 := 26) (v := -2) dX9_goer_24 (by decide) rfl ?_
        exact r_iret rfl dX9_goer_26 ⟨by unfold goerF; rw [st3, if_neg hg3], kd, KQ.rf, hD.1, Gx.rf, hN⟩
      · exact absurd ((inP_iff (by have := hb.1.2.2.1; omega) x).mpr ⟨Int32.not_lt.mp b1, Int32.not_le.mp b12⟩) hg3
set_option maxRecDepth 20000 in
set_option maxHeartbeats 1000000 in
theorem cl_count {E : EnvT} {d : Nat} {h0 : Hp} {ns s w1 w2 : Nat} {wk dt : Value} {Z : Nat → Prop} {reg : Nat → FR} {sg kd : Nat} {a b : FR} {x : Int32} {v : Nat → Int32} {fk fp : Int32} {t : Nat} {tp : Nat → Nat} (hN : NW h0 s ns w1 w2 wk dt a) (hD : DV Z h0 reg ns s sg kd b) (hA : AIN a) (hst : Stat a b) (hRd : MR h0 fk fp t tp) (hv5 : v 5 = nI t) (hd : 6 ≤ d) : Cn E mX9_count d [.ref 64, .int x] h0 (QN reg s ns w1 w2 wk dt h0 kd (.int (countF a v x)) a) := by
  obtain ⟨c64, c76, h77, hM⟩ := id hN
  obtain ⟨hL, hS, hZ, hb, hreg, hsg, hns, hn, zs⟩ := id hD
  have hs64 := (hZ.zl s zs).1
  obtain ⟨lo, so, sa, nl, sl, _, cs, ⟨fl, clo, hfl⟩, ⟨fs, cso, hfs⟩, _⟩ := id hS
  obtain ⟨⟨V0, V1, V2, c82⟩, _⟩ := id hL
  have hk0 : kd = 0 ∨ 139 ≤ kd := by
    by_cases z : kd = 0
    · exact Or.inl z
    · exact Or.inr (hD.1.2.2.2.2 z).1
  have st1 : a 1 = b 1 := hst 1 (by omega)
  have st3 : a 3 = b 3 := hst 3 (by omega)
  have st4 : a 4 = b 4 := hst 4 (by omega)
  have st0 : a 0 = b 0 := hst 0 (by omega)
  have hg : Gx (DS 82 kd) h0 h0 := Gx.rf
  obtain ⟨⟨y4, y5, y6, y7, y8, y9, y10, y12, y13, c65⟩, _⟩ := id hRd
  by_cases x0 : x = 0
  · subst x0
    refine Cn.go (ls := [.ref 64, .int 0]) (by decide +kernel) rfl (Nat.le_of_ble_eq_true rfl) ?_
    refine r_iload_n (pc2 := 1) 1 dX9_count_0 rfl rfl rfl ?_
    refine r_tsw (pc2 := 0) (tgt := 56) (off := 55) dX9_count_1 (by decide) (by decide) (by decide) (by decide) ?_
    refine r_aload_n (pc2 := 57) 0 dX9_count_56 rfl rfl rfl rfl ?_
    refine r_getf (pc2 := 60) (v := .ref s) fX9_21 dX9_count_57 c64 (by decide) rfl rfl ?_
    refine r_getf (pc2 := 63) (v := .int (nI (b 1))) fX9_134 dX9_count_60 cs hs64 rfl rfl ?_
    exact r_iret rfl dX9_count_63 ⟨by show _ = some (Value.int (nI (a 1))); rw [st1], kd, KQ.rf, hD.1, Gx.rf, hN⟩
  · skip
    by_cases x1 : x = 1
    · subst x1
      refine Cn.go (ls := [.ref 64, .int 1]) (by decide +kernel) rfl (Nat.le_of_ble_eq_true rfl) ?_
      refine r_iload_n (pc2 := 1) 1 dX9_count_0 rfl rfl rfl ?_
      refine r_tsw (pc2 := 0) (tgt := 64) (off := 63) dX9_count_1 (by decide) (by decide) (by decide) (by decide) ?_
      refine r_aload_n (pc2 := 65) 0 dX9_count_64 rfl rfl rfl rfl ?_
      refine r_getf (pc2 := 68) (v := .ref s) fX9_21 dX9_count_65 c64 (by decide) rfl rfl ?_
      refine r_getf (pc2 := 71) (v := .int (nI (b 3))) fX9_111 dX9_count_68 cs hs64 rfl rfl ?_
      exact r_iret rfl dX9_count_71 ⟨by show _ = some (Value.int (nI (a 3))); rw [st3], kd, KQ.rf, hD.1, Gx.rf, hN⟩
    · skip
      by_cases x2 : x = 2
      · subst x2
        refine Cn.go (ls := [.ref 64, .int 2]) (by decide +kernel) rfl (Nat.le_of_ble_eq_true rfl) ?_
        refine r_iload_n (pc2 := 1) 1 dX9_count_0 rfl rfl rfl ?_
        refine r_tsw (pc2 := 0) (tgt := 72) (off := 71) dX9_count_1 (by decide) (by decide) (by decide) (by decide) ?_
        refine r_aload_n (pc2 := 73) 0 dX9_count_72 rfl rfl rfl rfl ?_
        refine r_getf (pc2 := 76) (v := .ref s) fX9_21 dX9_count_73 c64 (by decide) rfl rfl ?_
        refine r_getf (pc2 := 79) (v := .int (nI (b 4))) fX9_177 dX9_count_76 cs hs64 rfl rfl ?_
        exact r_iret rfl dX9_count_79 ⟨by show _ = some (Value.int (nI (a 4))); rw [st4], kd, KQ.rf, hD.1, Gx.rf, hN⟩
      · skip
        by_cases x3 : x = 3
        · subst x3
          refine Cn.go (ls := [.ref 64, .int 3]) (by decide +kernel) rfl (Nat.le_of_ble_eq_true rfl) ?_
          refine r_iload_n (pc2 := 1) 1 dX9_count_0 rfl rfl rfl ?_
          refine r_tsw (pc2 := 0) (tgt := 80) (off := 79) dX9_count_1 (by decide) (by decide) (by decide) (by decide) ?_
          refine r_aload_n (pc2 := 81) 0 dX9_count_80 rfl rfl rfl rfl ?_
          refine r_getf (pc2 := 84) (v := .ref 76) fX9_28 dX9_count_81 c64 (by decide) rfl rfl ?_
          refine r_getf (pc2 := 87) (v := .int (nI ((keepV a) 4))) fX9_137 dX9_count_84 c76 (by decide) rfl rfl ?_
          exact r_iret rfl dX9_count_87 ⟨by show _ = some (Value.int (nI (a 26))); rfl, kd, KQ.rf, hD.1, Gx.rf, hN⟩
        · skip
          by_cases x4 : x = 4
          · subst x4
            refine Cn.go (ls := [.ref 64, .int 4]) (by decide +kernel) rfl (Nat.le_of_ble_eq_true rfl) ?_
            refine r_iload_n (pc2 := 1) 1 dX9_count_0 rfl rfl rfl ?_
            refine r_tsw (pc2 := 0) (tgt := 88) (off := 87) dX9_count_1 (by decide) (by decide) (by decide) (by decide) ?_
            refine r_aload_n (pc2 := 89) 0 dX9_count_88 rfl rfl rfl rfl ?_
            refine r_getf (pc2 := 92) (v := .ref s) fX9_21 dX9_count_89 c64 (by decide) rfl rfl ?_
            refine r_aload_n (pc2 := 93) 0 dX9_count_92 rfl rfl rfl rfl ?_
            refine r_getf (pc2 := 96) (v := .ref 76) fX9_28 dX9_count_93 c64 (by decide) rfl rfl ?_
            refine r_getf (pc2 := 99) (v := .int (nI (tow (keepV a)))) fX9_114 dX9_count_96 c76 (by decide) rfl rfl ?_
            refine r_cast (nI (tws (packS a))) (by rw [tow_tws hA]) ?_
            refine r_callV1 (pc2 := 102) (As := [.int (nI (tws (packS a)))]) (st := []) kX9_156 rfl rfl dX9_count_99 cs hs64 rfl rfl (Nat.le_of_ble_eq_true rfl) (by omega) ((c_pastAt (s := packS a) cs hs64 hb.1.1.2 hb.1.2.2.1 (fun g hg => by rw [← st1]; exact dig_le hA g hg)).mono fun r h2 q => ⟨q.1.trans (by rw [← st1, ← st3]), q.2⟩) rfl (fun h2 hq99 => ?_)
            subst hq99
            exact r_iret rfl dX9_count_102 ⟨by show _ = some (Value.int (nI (pastN (a 1) (packS a) (a 3)))); rfl, kd, KQ.rf, hD.1, Gx.rf, hN⟩
          · skip
            by_cases x5 : x = 5
            · subst x5
              refine Cn.go (ls := [.ref 64, .int 5]) (by decide +kernel) rfl (Nat.le_of_ble_eq_true rfl) ?_
              refine r_iload_n (pc2 := 1) 1 dX9_count_0 rfl rfl rfl ?_
              refine r_tsw (pc2 := 0) (tgt := 103) (off := 102) dX9_count_1 (by decide) (by decide) (by decide) (by decide) ?_
              refine r_aload_n (pc2 := 104) 0 dX9_count_103 rfl rfl rfl rfl ?_
              refine r_getf (pc2 := 107) (v := .ref 76) fX9_28 dX9_count_104 c64 (by decide) rfl rfl ?_
              refine r_getf (pc2 := 110) (v := .int (nI ((keepV a) 5))) fX9_127 dX9_count_107 c76 (by decide) rfl rfl ?_
              exact r_iret rfl dX9_count_110 ⟨by show _ = some (Value.int (nI (a 27))); rfl, kd, KQ.rf, hD.1, Gx.rf, hN⟩
            · skip
              by_cases x6 : x = 6
              · subst x6
                refine Cn.go (ls := [.ref 64, .int 6]) (by decide +kernel) rfl (Nat.le_of_ble_eq_true rfl) ?_
                refine r_iload_n (pc2 := 1) 1 dX9_count_0 rfl rfl rfl ?_
                refine r_tsw (pc2 := 0) (tgt := 111) (off := 110) dX9_count_1 (by decide) (by decide) (by decide) (by decide) ?_
                refine r_aload_n (pc2 := 112) 0 dX9_count_111 rfl rfl rfl rfl ?_
                refine r_getf (pc2 := 115) (v := .ref 76) fX9_28 dX9_count_112 c64 (by decide) rfl rfl ?_
                refine r_getf (pc2 := 118) (v := .int (nI ((keepV a) 6))) fX9_163 dX9_count_115 c76 (by decide) rfl rfl ?_
                exact r_iret rfl dX9_count_118 ⟨by show _ = some (Value.int (nI (a 28))); rfl, kd, KQ.rf, hD.1, Gx.rf, hN⟩
              · skip
                by_cases x7 : x = 7
                · subst x7
                  refine Cn.go (ls := [.ref 64, .int 7]) (by decide +kernel) rfl (Nat.le_of_ble_eq_true rfl) ?_
                  refine r_iload_n (pc2 := 1) 1 dX9_count_0 rfl rfl rfl ?_
                  refine r_tsw (pc2 := 0) (tgt := 119) (off := 118) dX9_count_1 (by decide) (by decide) (by decide) (by decide) ?_
                  refine r_aload_n (pc2 := 120) 0 dX9_count_119 rfl rfl rfl rfl ?_
                  refine r_getf (pc2 := 123) (v := .int (nI (a 45))) fX9_102 dX9_count_120 c64 (by decide) rfl rfl ?_
                  exact r_iret rfl dX9_count_123 ⟨by show _ = some (Value.int (nI (a 45))); rfl, kd, KQ.rf, hD.1, Gx.rf, hN⟩
                · skip
                  by_cases x8 : x = 8
                  · subst x8
                    refine Cn.go (ls := [.ref 64, .int 8]) (by decide +kernel) rfl (Nat.le_of_ble_eq_true rfl) ?_
                    refine r_iload_n (pc2 := 1) 1 dX9_count_0 rfl rfl rfl ?_
                    refine r_tsw (pc2 := 0) (tgt := 124) (off := 123) dX9_count_1 (by decide) (by decide) (by decide) (by decide) ?_
                    refine r_aload_n (pc2 := 125) 0 dX9_count_124 rfl rfl rfl rfl ?_
                    refine r_getf (pc2 := 128) (v := .ref 65) fX9_10 dX9_count_125 c64 (by decide) rfl rfl ?_
                    refine r_getf (pc2 := 131) (v := .int (nI t)) fX9_85 dX9_count_128 c65 (by decide) rfl rfl ?_
                    exact r_iret rfl dX9_count_131 ⟨by show _ = some (Value.int (v 5)); rw [hv5], kd, KQ.rf, hD.1, Gx.rf, hN⟩
                  · skip
                    by_cases x9 : x = 9
                    · subst x9
                      refine Cn.go (ls := [.ref 64, .int 9]) (by decide +kernel) rfl (Nat.le_of_ble_eq_true rfl) ?_
                      refine r_iload_n (pc2 := 1) 1 dX9_count_0 rfl rfl rfl ?_
                      refine r_tsw (pc2 := 0) (tgt := 132) (off := 131) dX9_count_1 (by decide) (by decide) (by decide) (by decide) ?_
                      refine r_aload_n (pc2 := 133) 0 dX9_count_132 rfl rfl rfl rfl ?_
                      refine r_getf (pc2 := 136) (v := .ref s) fX9_21 dX9_count_133 c64 (by decide) rfl rfl ?_
                      refine r_getf (pc2 := 139) (v := .int (nI (b 0))) fX9_105 dX9_count_136 cs hs64 rfl rfl ?_
                      exact r_iret rfl dX9_count_139 ⟨by show _ = some (Value.int (nI (a 0))); rw [st0], kd, KQ.rf, hD.1, Gx.rf, hN⟩
                    · skip
                      have xout := out_of 9 (by decide) (fun k hk => (match k, hk with | 0, _ => x0 | 1, _ => x1 | 2, _ => x2 | 3, _ => x3 | 4, _ => x4 | 5, _ => x5 | 6, _ => x6 | 7, _ => x7 | 8, _ => x8 | 9, _ => x9 : ¬ x = nI k))
                      refine Cn.go (ls := [.ref 64, .int x]) (by decide +kernel) rfl (Nat.le_of_ble_eq_true rfl) ?_
                      refine r_iload_n (pc2 := 1) 1 dX9_count_0 rfl rfl rfl ?_
                      refine r_tswD (pc2 := 0) (tgt := 140) dX9_count_1 xout (by decide) ?_
                      refine r_iconst (pc2 := 141) (v := -1) dX9_count_140 (by decide) rfl ?_
                      exact r_iret rfl dX9_count_141 ⟨by unfold countF; rw [if_neg x0, if_neg x1, if_neg x2, if_neg x3, if_neg x4, if_neg x5, if_neg x6, if_neg x7, if_neg x8, if_neg x9], kd, KQ.rf, hD.1, Gx.rf, hN⟩
set_option maxRecDepth 20000 in
set_option maxHeartbeats 1000000 in
theorem cl_fault {E : EnvT} {d : Nat} {h0 : Hp} {ns s w1 w2 : Nat} {wk dt : Value} {Z : Nat → Prop} {reg : Nat → FR} {sg kd : Nat} {a b : FR} {x : Int32} {v : Nat → Int32} {fk fp : Int32} {t : Nat} {tp : Nat → Nat} (hN : NW h0 s ns w1 w2 wk dt a) (hD : DV Z h0 reg ns s sg kd b) (hRd : MR h0 fk fp t tp) (h13 : v 13 = fk) (h14 : v 14 = fp) : Cn E mX9_fault d [.ref 64, .int x] h0 (QN reg s ns w1 w2 wk dt h0 kd (.int (faultF v x)) a) := by
  have c64 := hN.1
  obtain ⟨⟨y4, y5, y6, y7, y8, y9, y10, y12, y13, c65⟩, _⟩ := id hRd
  refine Cn.go (ls := [.ref 64, .int x]) (by decide +kernel) rfl (Nat.le_of_ble_eq_true rfl) ?_
  refine r_iload_n (pc2 := 1) 1 dX9_fault_0 rfl rfl rfl ?_
  refine r_if_ne (tgt := 12) (pc2 := 4) dX9_fault_1 (by decide) rfl (fun b1 => ?_) (fun b1 => ?_)
  · skip
    refine r_iload_n (pc2 := 13) 1 dX9_fault_12 rfl rfl rfl ?_
    refine r_iconst (pc2 := 14) (v := 1) dX9_fault_13 (by decide) rfl ?_
    refine r_icmp_ne (tgt := 27) (pc2 := 17) dX9_fault_14 (by decide) rfl (fun b14 => ?_) (fun b14 => ?_)
    · skip
      refine r_iconst (pc2 := 28) (v := -1) dX9_fault_27 (by decide) rfl ?_
      exact r_iret rfl dX9_fault_28 ⟨by unfold faultF; rw [if_neg b1, if_neg b14], kd, KQ.rf, hD.1, Gx.rf, hN⟩
    · skip
      refine r_aload_n (pc2 := 18) 0 dX9_fault_17 rfl rfl rfl rfl ?_
      refine r_getf (pc2 := 21) (v := .ref 65) fX9_10 dX9_fault_18 c64 (by decide) rfl rfl ?_
      refine r_getf (pc2 := 24) (v := .int fp) fX9_108 dX9_fault_21 c65 (by decide) rfl rfl ?_
      refine r_goto (pc2 := 28) dX9_fault_24 (by decide) ?_
      exact r_iret rfl dX9_fault_28 ⟨by unfold faultF; rw [if_neg b1, if_pos b14, h14], kd, KQ.rf, hD.1, Gx.rf, hN⟩
  · skip
    refine r_aload_n (pc2 := 5) 0 dX9_fault_4 rfl rfl rfl rfl ?_
    refine r_getf (pc2 := 8) (v := .ref 65) fX9_10 dX9_fault_5 c64 (by decide) rfl rfl ?_
    refine r_getf (pc2 := 11) (v := .int fk) fX9_99 dX9_fault_8 c65 (by decide) rfl rfl ?_
    exact r_iret rfl dX9_fault_11 ⟨by unfold faultF; rw [if_pos b1, h13], kd, KQ.rf, hD.1, Gx.rf, hN⟩
