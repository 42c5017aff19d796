/-! the class: judge -/
set_option maxRecDepth 20000 in
set_option maxHeartbeats 1000000 in
theorem cl_judge {E : EnvT} {d : Nat} {h0 : Hp} {ns s w1 w2 : Nat} {wk dt : Value} {Z : Nat → Prop} {reg : Nat → FR} {sg kd : Nat} {a b : FR} {rs rm : Nat → Int32} {nu : Nat → Int64} {x y : Int32} (hN : NW h0 s ns w1 w2 wk dt a) (hD : DV Z h0 reg ns s sg kd b) (hA : AIN a) (hst : Stat a b) (hMT : MT h0 rs rm nu) (hT : TOK rs rm) (hd : 7 ≤ d) : Cn E mX9_judge d [.ref 64, .int x, .int y] h0 (QN reg s ns w1 w2 wk dt h0 kd (.int (judgeF a rs rm nu x y)) a) := by
  obtain ⟨c64, c76, h77, hM⟩ := hN
  obtain ⟨y0, y1, y2, y3, y4, y5, c77⟩ := id h77
  have hn := hD.2.2.2.2.2.2.2.1
  have hk0 : kd = 0 ∨ 139 ≤ kd := by
    by_cases z : kd = 0
    · exact Or.inl z
    · exact Or.inr (hD.1.2.2.2.2 z).1
  have hn0 := hn
  by_cases hx : inR 0 3 x
  · by_cases hy : inR 0 3 y
    · have hy2 := (inR_iff (l := 0) (h := 3) (by decide) (by decide) y).mp hy
      obtain ⟨t, _, ht3, rfl⟩ := inR_of (by decide) (by decide) hx
      have ht : t < 4 := by omega
      obtain ⟨⟨f, c81, hf⟩, _⟩ := id hMT
      obtain ⟨ms, so, si, vv, ct, cv, q1, q2⟩ := hMT.2 t ht
      generalize hp : 109 + 2 * t = p at ct
      generalize hq : 110 + 2 * t = q at ct cv
      have hn1 : rm t = nI (rowN rm t) := (hT t ht).1
      have hn40 : rowN rm t ≤ 40 := (hT t ht).2
      by_cases hs : rs t = -1
      · have hno : noTrayF rs (nI t) = -6 := by unfold noTrayF; rw [if_pos hx, nI_clamp (by omega), if_pos hs]
        obtain rfl := q1 hs
        refine Cn.go (ls := [.ref 64, .int (nI t), .int y, .float 0, .float 0, .float 0, .float 0]) (by decide +kernel) rfl (Nat.le_of_ble_eq_true rfl) ?_
        refine r_iload_n (pc2 := 1) 1 dX9_judge_0 rfl rfl rfl ?_
        refine r_callS1 (pc2 := 4) (As := [.int (nI t)]) (st := []) kX9_210 dX9_judge_1 rfl rfl (Nat.le_of_ble_eq_true rfl) (by omega) (c_isTray.mono fun r h2 q => ⟨q.1.trans (by rw [if_pos hx]), q.2⟩) rfl (fun h2 hq1 => ?_)
        subst hq1
        refine r_if_eq (tgt := 16) (pc2 := 7) dX9_judge_4 (by decide) rfl (fun b4 => ?_) (fun b4 => ?_)
        · exact absurd b4 (by decide)
        · skip
          refine r_iload_n (pc2 := 8) 2 dX9_judge_7 rfl rfl rfl ?_
          refine r_if_lt (tgt := 16) (pc2 := 11) dX9_judge_8 (by decide) rfl (fun b8 => ?_) (fun b8 => ?_)
          · exact absurd b8 (Int32.not_lt.mpr hy2.1)
          · skip
            refine r_iload_n (pc2 := 12) 2 dX9_judge_11 rfl rfl rfl ?_
            refine r_iconst (pc2 := 13) (v := 3) dX9_judge_12 (by decide) rfl ?_
            refine r_icmp_le (tgt := 19) (pc2 := 16) dX9_judge_13 (by decide) rfl (fun b13 => ?_) (fun b13 => ?_)
            · skip
              refine r_aload_n (pc2 := 20) 0 dX9_judge_19 rfl rfl rfl rfl ?_
              refine r_getf (pc2 := 23) (v := .ref 81) fX9_48 dX9_judge_20 c64 (by decide) rfl rfl ?_
              refine r_iload_n (pc2 := 24) 1 dX9_judge_23 rfl rfl rfl ?_
              refine r_aald (pc2 := 25) dX9_judge_24 c81 (by decide) (by decide) (nI_vp (j := t) rfl (by omega) (by decide)).1 (by rw [nI_clamp (by omega), hf t ht, hp]) (by omega) rfl ?_
              refine r_astore_n (pc2 := 26) (ls2 := [.ref 64, .int (nI t), .int y, .ref p, .float 0, .float 0, .float 0]) 3 dX9_judge_25 rfl (by decide) rfl rfl rfl rfl ?_
              refine r_aload_n (pc2 := 27) 3 dX9_judge_26 rfl rfl rfl rfl ?_
              refine r_getf (pc2 := 30) (v := .int 1) fX9_213 dX9_judge_27 ct (by omega) rfl rfl ?_
              refine r_if_eq (tgt := 36) (pc2 := 33) dX9_judge_30 (by decide) rfl (fun b30 => ?_) (fun b30 => ?_)
              · exact absurd b30 (by decide)
              · skip
                refine r_bipush (pc2 := 35) (v := -6) dX9_judge_33 (by decide) rfl ?_
                exact r_iret rfl dX9_judge_35 ⟨by unfold judgeF; rw [if_neg (fun q => q hy), hno, if_pos (by decide)], kd, KQ.rf, hD.1, Gx.rf, c64, c76, h77, hM⟩
            · exact absurd hy2.2 b13
      · skip
        have hno : noTrayF rs (nI t) = 0 := by unfold noTrayF; rw [if_pos hx, nI_clamp (by omega), if_neg hs]
        obtain ⟨rfl, rfl, rfl, q3⟩ := q2 hs
        obtain ⟨n, hnn⟩ : ∃ n, n = rowN rm t := ⟨_, rfl⟩
        have q3 : ∀ j, j < n → vv j = nu (40 * t + j) := fun j hj => q3 j (by rw [hnn] at hj; exact hj)
        rw [← hnn] at hn1 hn40
        rw [hn1] at ct
        have eT : (tellT a rm nu t) = tell (fun j => nu (40 * t + j)) n 0 a := by unfold tellT; rw [hnn]
        have st1 : a 1 = b 1 := hst 1 (by omega)
        have st3 : a 3 = b 3 := hst 3 (by omega)
        have fin : ∀ (pl wh ii : Int32) (a1 : FR) (h : Hp) (kd1 : Nat), pl = (if (tellT a rm nu t).2.1 = 0 then -1 else nI (tellT a rm nu t).1) → wh = nI (tellT a rm nu t).2.1 → (tellT a rm nu t).2.2 = a1 → AIN a1 → Same a1 a → KQ h0 h kd kd1 → DV Z h reg ns s sg kd1 b → Gx (SH kd) h0 h → h.1 64 = some (.inr (9, coL s ns (a 45) w1 w2 wk dt)) → h.1 76 = some (.inr (5, sdL (keepV a))) → h.1 77 = some (.inr (5, sdL (keepV a1))) → MU h a → Fr E mX9_judge d 101 [.ref 64, .int (nI t), .int y, .ref p, .int pl, .int wh, .int ii] [] h (QN reg s ns w1 w2 wk dt h0 kd (.int (judgeF a rs rm nu (nI t) y)) a) := by
          intro pl wh ii a1 h kd1 hpl hwh e2 hA1 hS1 hKQ hD hGx c64 c76 c77 hM
          obtain ⟨hL, hS, hZ, hb, hreg, hsg, hns, hn, zs⟩ := id hD
          have hs64 := (hZ.zl s zs).1
          obtain ⟨lo, so, sa, nl, sl, _, cs, _⟩ := id hS
          by_cases y0 : y = 0
          · subst y0
            refine r_iload_n (pc2 := 102) 2 dX9_judge_101 rfl rfl rfl ?_
            refine r_tsw (pc2 := 0) (tgt := 128) (off := 26) dX9_judge_102 (by decide) (by decide) (by decide) (by decide) ?_
            refine r_iload (pc2 := 130) 4 dX9_judge_128 rfl rfl ?_
            exact r_iret rfl dX9_judge_130 ⟨by unfold judgeF; rw [if_neg (fun q => q hy), if_neg (fun q => q hno), nI_clamp (by omega), if_pos rfl, ← hpl], kd1, hKQ, hD.1, hGx, c64, c76, aSt.of c77, hM⟩
          · skip
            by_cases y1 : y = 1
            · subst y1
              refine r_iload_n (pc2 := 102) 2 dX9_judge_101 rfl rfl rfl ?_
              refine r_tsw (pc2 := 0) (tgt := 131) (off := 29) dX9_judge_102 (by decide) (by decide) (by decide) (by decide) ?_
              refine r_iload (pc2 := 133) 5 dX9_judge_131 rfl rfl ?_
              exact r_iret rfl dX9_judge_133 ⟨by unfold judgeF; rw [if_neg (fun q => q hy), if_neg (fun q => q hno), nI_clamp (by omega), if_neg (by decide), if_pos rfl, ← hwh], kd1, hKQ, hD.1, hGx, c64, c76, aSt.of c77, hM⟩
            · skip
              by_cases y2 : y = 2
              · subst y2
                refine r_iload_n (pc2 := 102) 2 dX9_judge_101 rfl rfl rfl ?_
                refine r_tsw (pc2 := 0) (tgt := 134) (off := 32) dX9_judge_102 (by decide) (by decide) (by decide) (by decide) ?_
                refine r_aload_n (pc2 := 135) 0 dX9_judge_134 rfl rfl rfl rfl ?_
                refine r_getf (pc2 := 138) (v := .ref 77) fX9_32 dX9_judge_135 c64 (by decide) rfl rfl ?_
                refine r_getf (pc2 := 141) (v := .int (nI ((keepV a1) 4))) fX9_137 dX9_judge_138 c77 (by decide) rfl rfl ?_
                exact r_iret rfl dX9_judge_141 ⟨by unfold judgeF; rw [if_neg (fun q => q hy), if_neg (fun q => q hno), nI_clamp (by omega), if_neg (by decide), if_neg (by decide), if_pos rfl, e2]; rfl, kd1, hKQ, hD.1, hGx, c64, c76, aSt.of c77, hM⟩
              · skip
                by_cases y3 : y = 3
                · subst y3
                  refine r_iload_n (pc2 := 102) 2 dX9_judge_101 rfl rfl rfl ?_
                  refine r_tswD (pc2 := 0) (tgt := 142) dX9_judge_102 (by decide) (by decide) ?_
                  refine r_aload_n (pc2 := 143) 0 dX9_judge_142 rfl rfl rfl rfl ?_
                  refine r_getf (pc2 := 146) (v := .ref s) fX9_21 dX9_judge_143 c64 (by decide) rfl rfl ?_
                  refine r_aload_n (pc2 := 147) 0 dX9_judge_146 rfl rfl rfl rfl ?_
                  refine r_getf (pc2 := 150) (v := .ref 77) fX9_32 dX9_judge_147 c64 (by decide) rfl rfl ?_
                  refine r_getf (pc2 := 153) (v := .int (nI (tow (keepV a1)))) fX9_114 dX9_judge_150 c77 (by decide) rfl rfl ?_
                  refine r_cast (nI (tws (packS a1))) (by rw [tow_tws hA1]) ?_
                  refine r_callV1 (pc2 := 156) (As := [.int (nI (tws (packS a1)))]) (st := []) kX9_156 rfl rfl dX9_judge_153 cs hs64 rfl rfl (Nat.le_of_ble_eq_true rfl) (by omega) ((c_pastAt (s := packS a1) cs hs64 hb.1.1.2 hb.1.2.2.1 (fun g hg => by rw [← st1, ← hS1 1 (by omega)]; exact dig_le hA1 g hg)).mono fun r h2 q => ⟨q.1.trans (by rw [← st1, ← st3]), q.2⟩) rfl (fun h2 hq153 => ?_)
                  subst hq153
                  exact r_iret rfl dX9_judge_156 ⟨by unfold judgeF; rw [if_neg (fun q => q hy), if_neg (fun q => q hno), nI_clamp (by omega), if_neg (by decide), if_neg (by decide), if_neg (by decide), e2], kd1, hKQ, hD.1, hGx, c64, c76, aSt.of c77, hM⟩
                · skip
                  obtain ⟨j, _, hj, rfl⟩ := inR_of (by decide) (by decide) hy
                  match j, hj with
                  | 0, _ => exact absurd rfl y0
                  | 1, _ => exact absurd rfl y1
                  | 2, _ => exact absurd rfl y2
                  | 3, _ => exact absurd rfl y3

        have f56 : ∀ (k : Nat) (a1 : FR) (h : Hp) (kd1 : Nat), ¬ whyD a1 (nu (40 * t + k)) = 0 → (tellT a rm nu t) = (k, whyD a1 (nu (40 * t + k)), a1) → AIN a1 → Same a1 a → KQ h0 h kd kd1 → DV Z h reg ns s sg kd1 b → Gx (SH kd) h0 h → h.1 64 = some (.inr (9, coL s ns (a 45) w1 w2 wk dt)) → h.1 76 = some (.inr (5, sdL (keepV a))) → h.1 77 = some (.inr (5, sdL (keepV a1))) → MU h a → h.1 p = some (.inr (7, [.int 0, .int (rs t), .int (nI n), .ref q])) → Fr E mX9_judge d 56 [.ref 64, .int (nI t), .int y, .ref p, .int (nI k), .int (nI (whyD a1 (nu (40 * t + k)))), .int (nI (k + 1))] [] h (QN reg s ns w1 w2 wk dt h0 kd (.int (judgeF a rs rm nu (nI t) y)) a) := by
          intro k a1 h kd1 hw hT1 hA1 hS1 hKQ hD hGx c64 c76 c77 hM ct
          have hn := hD.2.2.2.2.2.2.2.1
          refine r_iload (pc2 := 58) 6 dX9_judge_56 rfl rfl ?_
          refine r_aload_n (pc2 := 59) 3 dX9_judge_58 rfl rfl rfl rfl ?_
          refine r_getf (pc2 := 62) (v := .int (nI n)) fX9_217 dX9_judge_59 ct (by omega) rfl rfl ?_
          refine r_icmp_ge (tgt := 101) (pc2 := 65) dX9_judge_62 (by decide) rfl (fun b62 => ?_) (fun b62 => ?_)
          · skip
            exact fin _ _ _ a1 h kd1 (by rw [hT1, if_neg hw]) (by rw [hT1]) (by rw [hT1]) hA1 hS1 hKQ hD hGx c64 c76 c77 hM
          · skip
            refine r_iload (pc2 := 67) 5 dX9_judge_65 rfl rfl ?_
            refine r_if_ne (tgt := 101) (pc2 := 70) dX9_judge_67 (by decide) rfl (fun b67 => ?_) (fun b67 => ?_)
            · skip
              exact fin _ _ _ a1 h kd1 (by rw [hT1, if_neg hw]) (by rw [hT1]) (by rw [hT1]) hA1 hS1 hKQ hD hGx c64 c76 c77 hM
            · exact absurd ((nI_eq (b := 0) (by have := whyD_lt a1 (nu (40 * t + k)); omega) (by decide)).mp b67) hw
        have loop : ∀ (m k : Nat) (a1 : FR) (h : Hp) (kd1 : Nat), k + m = n → tell (fun j => nu (40 * t + j)) n 0 a = tell (fun j => nu (40 * t + j)) m k a1 → AIN a1 → Same a1 a → KQ h0 h kd kd1 → DV Z h reg ns s sg kd1 b → Gx (SH kd) h0 h → h.1 64 = some (.inr (9, coL s ns (a 45) w1 w2 wk dt)) → h.1 76 = some (.inr (5, sdL (keepV a))) → h.1 77 = some (.inr (5, sdL (keepV a1))) → MU h a → h.1 p = some (.inr (7, [.int 0, .int (rs t), .int (nI n), .ref q])) → h.1 q = some (aL 40 vv) → Fr E mX9_judge d 56 [.ref 64, .int (nI t), .int y, .ref p, .int (-1), .int 0, .int (nI k)] [] h (QN reg s ns w1 w2 wk dt h0 kd (.int (judgeF a rs rm nu (nI t) y)) a) := by
          intro m
          induction m with
          | zero =>
            intro k a1 h kd1 hk hT1 hA1 hS1 hKQ hD hGx c64 c76 c77 hM ct cv
            obtain rfl : k = n := by omega
            refine r_iload (pc2 := 58) 6 dX9_judge_56 rfl rfl ?_
            refine r_aload_n (pc2 := 59) 3 dX9_judge_58 rfl rfl rfl rfl ?_
            refine r_getf (pc2 := 62) (v := .int (nI k)) fX9_217 dX9_judge_59 ct (by omega) rfl rfl ?_
            refine r_icmp_ge (tgt := 101) (pc2 := 65) dX9_judge_62 (by decide) rfl (fun b62 => ?_) (fun b62 => ?_)
            · skip
              exact fin _ _ _ a1 h kd1 (by rw [eT, hT1]; rfl) (by rw [eT, hT1]; rfl) (by rw [eT, hT1]; rfl) hA1 hS1 hKQ hD hGx c64 c76 c77 hM
            · exact absurd (nI_le (Nat.le_refl _) (by omega)) b62
          | succ m ih =>
            intro k a1 h kd1 hk hT1 hA1 hS1 hKQ hD hGx c64 c76 c77 hM ct cv
            have hlt : k < n := by omega
            have hn := hD.2.2.2.2.2.2.2.1
            have hk1 : kd1 = 0 ∨ 139 ≤ kd1 := by
              by_cases z : kd1 = 0
              · exact Or.inl z
              · exact Or.inr (hD.1.2.2.2.2 z).1
            by_cases hw : whyD a1 (nu (40 * t + k)) = 0
            · skip
              refine r_iload (pc2 := 58) 6 dX9_judge_56 rfl rfl ?_
              refine r_aload_n (pc2 := 59) 3 dX9_judge_58 rfl rfl rfl rfl ?_
              refine r_getf (pc2 := 62) (v := .int (nI n)) fX9_217 dX9_judge_59 ct (by omega) rfl rfl ?_
              refine r_icmp_ge (tgt := 101) (pc2 := 65) dX9_judge_62 (by decide) rfl (fun b62 => ?_) (fun b62 => ?_)
              · exact absurd b62 (nI_ge hlt (by omega))
              · skip
                refine r_iload (pc2 := 67) 5 dX9_judge_65 rfl rfl ?_
                refine r_if_ne (tgt := 101) (pc2 := 70) dX9_judge_67 (by decide) rfl (fun b67 => ?_) (fun b67 => ?_)
                · exact absurd b67 (by decide)
                · skip
                  refine r_aload_n (pc2 := 71) 0 dX9_judge_70 rfl rfl rfl rfl ?_
                  refine r_aload_n (pc2 := 72) 0 dX9_judge_71 rfl rfl rfl rfl ?_
                  refine r_getf (pc2 := 75) (v := .ref 77) fX9_32 dX9_judge_72 c64 (by decide) rfl rfl ?_
                  refine r_aload_n (pc2 := 76) 3 dX9_judge_75 rfl rfl rfl rfl ?_
                  refine r_iload (pc2 := 78) 6 dX9_judge_76 rfl rfl ?_
                  refine r_callV1 (pc2 := 81) (As := [.int (nI k)]) (st := [.ref 77, .ref 64]) kX9_220 rfl rfl dX9_judge_78 ct (by omega) rfl rfl (Nat.le_of_ble_eq_true rfl) (by omega) ((c_tget ct cv (by omega) (by omega) hlt hn40).mono fun r h2 q => ⟨q.1.trans (by rw [q3 k hlt]), q.2⟩) rfl (fun h2 hq78 => ?_)
                  subst hq78
                  refine r_callV1 (pc2 := 84) (As := [.ref 77, .long (nu (40 * t + k))]) (st := []) kX9_224 rfl rfl dX9_judge_81 c64 (by decide) rfl rfl (Nat.le_of_ble_eq_true rfl) (by omega) (c_doDeed (a := a1) (v := nu (40 * t + k)) c64 c77 (Or.inr rfl) hD hA1 (hS1.stat hst) (by omega)) rfl (fun h hq81 => ?_)
                  obtain ⟨kd2, hKQ2, hL2, hg2, c77⟩ := hq81
                  have c64 := hg2.get (by simp; omega) (by omega) c64
                  have c76 := hg2.get (by simp; omega) (by omega) c76
                  have ct := hg2.get (by simp; omega) (by omega) ct
                  have cv := hg2.get (by simp; omega) (by omega) cv
                  have hM := hM.frame hA.nd (fun q hq => hg2.2 q (by omega) (by simp; omega))
                  have hGx := hGx.ds hKQ hg2 (Or.inr rfl)
                  have hKQ := hKQ.trans hKQ2 hn0
                  have hD := hD.next (Or.inr rfl) hKQ2 hL2 hg2
                  rw [if_pos hw] at c77
                  refine r_cast (0) (congrArg nI hw) ?_
                  refine r_istore (pc2 := 86) (ls2 := [.ref 64, .int (nI t), .int y, .ref p, .int (-1), .int 0, .int (nI k)]) 5 dX9_judge_84 (by decide) rfl rfl rfl ?_
                  refine r_iload (pc2 := 88) 5 dX9_judge_86 rfl rfl ?_
                  refine r_if_eq (tgt := 95) (pc2 := 91) dX9_judge_88 (by decide) rfl (fun b88 => ?_) (fun b88 => ?_)
                  · skip
                    obtain ⟨x95, e95⟩ : ∃ z : Int32, z = (nI k) + (1) := ⟨_, rfl⟩
                    refine r_iinc (pc2 := 98) (ls2 := [.ref 64, .int (nI t), .int y, .ref p, .int (-1), .int 0, .int x95]) (v := x95) 6 dX9_judge_95 rfl (by rw [e95]; rfl) rfl rfl rfl ?_
                    refine r_goto (pc2 := 56) dX9_judge_98 (by decide) ?_
                    rw [e95, nI_1]
                    exact ih (k + 1) _ h kd2 (by omega) (hT1.trans (tell_s (F := fun j => nu (40 * t + j)) hw)) (hA1.do1 hw) (hS1.do1 hA1 hw) hKQ hD hGx c64 c76 c77 hM ct cv
                  · exact absurd b88 (by decide)
            · skip
              refine r_iload (pc2 := 58) 6 dX9_judge_56 rfl rfl ?_
              refine r_aload_n (pc2 := 59) 3 dX9_judge_58 rfl rfl rfl rfl ?_
              refine r_getf (pc2 := 62) (v := .int (nI n)) fX9_217 dX9_judge_59 ct (by omega) rfl rfl ?_
              refine r_icmp_ge (tgt := 101) (pc2 := 65) dX9_judge_62 (by decide) rfl (fun b62 => ?_) (fun b62 => ?_)
              · exact absurd b62 (nI_ge hlt (by omega))
              · skip
                refine r_iload (pc2 := 67) 5 dX9_judge_65 rfl rfl ?_
                refine r_if_ne (tgt := 101) (pc2 := 70) dX9_judge_67 (by decide) rfl (fun b67 => ?_) (fun b67 => ?_)
                · exact absurd b67 (by decide)
                · skip
                  refine r_aload_n (pc2 := 71) 0 dX9_judge_70 rfl rfl rfl rfl ?_
                  refine r_aload_n (pc2 := 72) 0 dX9_judge_71 rfl rfl rfl rfl ?_
                  refine r_getf (pc2 := 75) (v := .ref 77) fX9_32 dX9_judge_72 c64 (by decide) rfl rfl ?_
                  refine r_aload_n (pc2 := 76) 3 dX9_judge_75 rfl rfl rfl rfl ?_
                  refine r_iload (pc2 := 78) 6 dX9_judge_76 rfl rfl ?_
                  refine r_callV1 (pc2 := 81) (As := [.int (nI k)]) (st := [.ref 77, .ref 64]) kX9_220 rfl rfl dX9_judge_78 ct (by omega) rfl rfl (Nat.le_of_ble_eq_true rfl) (by omega) ((c_tget ct cv (by omega) (by omega) hlt hn40).mono fun r h2 q => ⟨q.1.trans (by rw [q3 k hlt]), q.2⟩) rfl (fun h2 hq78 => ?_)
                  subst hq78
                  refine r_callV1 (pc2 := 84) (As := [.ref 77, .long (nu (40 * t + k))]) (st := []) kX9_224 rfl rfl dX9_judge_81 c64 (by decide) rfl rfl (Nat.le_of_ble_eq_true rfl) (by omega) (c_doDeed (a := a1) (v := nu (40 * t + k)) c64 c77 (Or.inr rfl) hD hA1 (hS1.stat hst) (by omega)) rfl (fun h hq81 => ?_)
                  obtain ⟨kd2, hKQ2, hL2, hg2, c77⟩ := hq81
                  have c64 := hg2.get (by simp; omega) (by omega) c64
                  have c76 := hg2.get (by simp; omega) (by omega) c76
                  have ct := hg2.get (by simp; omega) (by omega) ct
                  have cv := hg2.get (by simp; omega) (by omega) cv
                  have hM := hM.frame hA.nd (fun q hq => hg2.2 q (by omega) (by simp; omega))
                  have hGx := hGx.ds hKQ hg2 (Or.inr rfl)
                  have hKQ := hKQ.trans hKQ2 hn0
                  have hD := hD.next (Or.inr rfl) hKQ2 hL2 hg2
                  rw [if_neg hw] at c77
                  refine r_istore (pc2 := 86) (ls2 := [.ref 64, .int (nI t), .int y, .ref p, .int (-1), .int (nI (whyD a1 (nu (40 * t + k)))), .int (nI k)]) 5 dX9_judge_84 (by decide) rfl rfl rfl ?_
                  refine r_iload (pc2 := 88) 5 dX9_judge_86 rfl rfl ?_
                  refine r_if_eq (tgt := 95) (pc2 := 91) dX9_judge_88 (by decide) rfl (fun b88 => ?_) (fun b88 => ?_)
                  · exact absurd ((nI_eq (b := 0) (by have := whyD_lt a1 (nu (40 * t + k)); omega) (by decide)).mp b88) hw
                  · skip
                    refine r_iload (pc2 := 93) 6 dX9_judge_91 rfl rfl ?_
                    refine r_istore (pc2 := 95) (ls2 := [.ref 64, .int (nI t), .int y, .ref p, .int (nI k), .int (nI (whyD a1 (nu (40 * t + k)))), .int (nI k)]) 4 dX9_judge_93 (by decide) rfl rfl rfl ?_
                    obtain ⟨x95, e95⟩ : ∃ z : Int32, z = (nI k) + (1) := ⟨_, rfl⟩
                    refine r_iinc (pc2 := 98) (ls2 := [.ref 64, .int (nI t), .int y, .ref p, .int (nI k), .int (nI (whyD a1 (nu (40 * t + k)))), .int x95]) (v := x95) 6 dX9_judge_95 rfl (by rw [e95]; rfl) rfl rfl rfl ?_
                    refine r_goto (pc2 := 56) dX9_judge_98 (by decide) ?_
                    rw [e95, nI_1]
                    exact f56 k a1 h kd2 hw (by rw [eT, hT1, tell_x (F := fun j => nu (40 * t + j)) hw]) hA1 hS1 hKQ hD hGx c64 c76 c77 hM ct
        refine Cn.go (ls := [.ref 64, .int (nI t), .int y, .float 0, .float 0, .float 0, .float 0]) (by decide +kernel) rfl (Nat.le_of_ble_eq_true rfl) ?_
        refine r_iload_n (pc2 := 1) 1 dX9_judge_0 rfl rfl rfl ?_
        refine r_callS1 (pc2 := 4) (As := [.int (nI t)]) (st := []) kX9_210 dX9_judge_1 rfl rfl (Nat.le_of_ble_eq_true rfl) (by omega) (c_isTray.mono fun r h2 q => ⟨q.1.trans (by rw [if_pos hx]), q.2⟩) rfl (fun h2 hq1 => ?_)
        subst hq1
        refine r_if_eq (tgt := 16) (pc2 := 7) dX9_judge_4 (by decide) rfl (fun b4 => ?_) (fun b4 => ?_)
        · exact absurd b4 (by decide)
        · skip
          refine r_iload_n (pc2 := 8) 2 dX9_judge_7 rfl rfl rfl ?_
          refine r_if_lt (tgt := 16) (pc2 := 11) dX9_judge_8 (by decide) rfl (fun b8 => ?_) (fun b8 => ?_)
          · exact absurd b8 (Int32.not_lt.mpr hy2.1)
          · skip
            refine r_iload_n (pc2 := 12) 2 dX9_judge_11 rfl rfl rfl ?_
            refine r_iconst (pc2 := 13) (v := 3) dX9_judge_12 (by decide) rfl ?_
            refine r_icmp_le (tgt := 19) (pc2 := 16) dX9_judge_13 (by decide) rfl (fun b13 => ?_) (fun b13 => ?_)
            · skip
              refine r_aload_n (pc2 := 20) 0 dX9_judge_19 rfl rfl rfl rfl ?_
              refine r_getf (pc2 := 23) (v := .ref 81) fX9_48 dX9_judge_20 c64 (by decide) rfl rfl ?_
              refine r_iload_n (pc2 := 24) 1 dX9_judge_23 rfl rfl rfl ?_
              refine r_aald (pc2 := 25) dX9_judge_24 c81 (by decide) (by decide) (nI_vp (j := t) rfl (by omega) (by decide)).1 (by rw [nI_clamp (by omega), hf t ht, hp]) (by omega) rfl ?_
              refine r_astore_n (pc2 := 26) (ls2 := [.ref 64, .int (nI t), .int y, .ref p, .float 0, .float 0, .float 0]) 3 dX9_judge_25 rfl (by decide) rfl rfl rfl rfl ?_
              refine r_aload_n (pc2 := 27) 3 dX9_judge_26 rfl rfl rfl rfl ?_
              refine r_getf (pc2 := 30) (v := .int 0) fX9_213 dX9_judge_27 ct (by omega) rfl rfl ?_
              refine r_if_eq (tgt := 36) (pc2 := 33) dX9_judge_30 (by decide) rfl (fun b30 => ?_) (fun b30 => ?_)
              · skip
                refine r_aload_n (pc2 := 37) 0 dX9_judge_36 rfl rfl rfl rfl ?_
                refine r_getf (pc2 := 40) (v := .ref 77) fX9_32 dX9_judge_37 c64 (by decide) rfl rfl ?_
                refine r_aload_n (pc2 := 41) 0 dX9_judge_40 rfl rfl rfl rfl ?_
                refine r_getf (pc2 := 44) (v := .ref 76) fX9_28 dX9_judge_41 c64 (by decide) rfl rfl ?_
                refine r_callV0 (pc2 := 47) (As := [.ref 76]) (st := []) kX9_81 rfl rfl dX9_judge_44 c77 (by decide) rfl rfl (Nat.le_of_ble_eq_true rfl) (by omega) (c_becomeK h77 c76 (by decide) (by decide) (by decide)) rfl (fun h hq44 => ?_)
                obtain ⟨hxb, c77⟩ := hq44
                have c64 := hxb.get (by simp) c64
                have c76 := hxb.get (by simp) c76
                have c81 := hxb.get (by simp) c81
                have ct := hxb.get (by simp; omega) ct
                have cv := hxb.get (by simp; omega) cv
                have hD := hD.ex (Or.inr rfl) hxb
                have hM := hM.frame hA.nd (fun q hq => hxb.2 q (by simp; omega))
                have hn := hD.2.2.2.2.2.2.2.1
                refine r_iconst (pc2 := 48) (v := -1) dX9_judge_47 (by decide) rfl ?_
                refine r_istore (pc2 := 50) (ls2 := [.ref 64, .int (nI t), .int y, .ref p, .int (-1), .float 0, .float 0]) 4 dX9_judge_48 (by decide) rfl rfl rfl ?_
                refine r_iconst (pc2 := 51) (v := 0) dX9_judge_50 (by decide) rfl ?_
                refine r_istore (pc2 := 53) (ls2 := [.ref 64, .int (nI t), .int y, .ref p, .int (-1), .int 0, .float 0]) 5 dX9_judge_51 (by decide) rfl rfl rfl ?_
                refine r_iconst (pc2 := 54) (v := 0) dX9_judge_53 (by decide) rfl ?_
                refine r_cast (nI 0) (rfl) ?_
                refine r_istore (pc2 := 56) (ls2 := [.ref 64, .int (nI t), .int y, .ref p, .int (-1), .int 0, .int (nI 0)]) 6 dX9_judge_54 (by decide) rfl rfl rfl ?_
                exact loop n 0 a h kd (by omega) rfl hA (fun _ _ => rfl) (KQ.of hxb) hD (hxb.gx.mono (by simp)) c64 c76 c77 hM ct cv
              · exact absurd b30 (by decide)
            · exact absurd hy2.2 b13
    · skip
      refine Cn.go (ls := [.ref 64, .int x, .int y, .float 0, .float 0, .float 0, .float 0]) (by decide +kernel) rfl (Nat.le_of_ble_eq_true rfl) ?_
      refine r_iload_n (pc2 := 1) 1 dX9_judge_0 rfl rfl rfl ?_
      refine r_callS1 (pc2 := 4) (As := [.int x]) (st := []) kX9_210 dX9_judge_1 rfl rfl (Nat.le_of_ble_eq_true rfl) (by omega) (c_isTray.mono fun r h2 q => ⟨q.1.trans (by rw [if_pos hx]), q.2⟩) rfl (fun h2 hq1 => ?_)
      subst hq1
      refine r_if_eq (tgt := 16) (pc2 := 7) dX9_judge_4 (by decide) rfl (fun b4 => ?_) (fun b4 => ?_)
      · exact absurd b4 (by decide)
      · skip
        refine r_iload_n (pc2 := 8) 2 dX9_judge_7 rfl rfl rfl ?_
        refine r_if_lt (tgt := 16) (pc2 := 11) dX9_judge_8 (by decide) rfl (fun b8 => ?_) (fun b8 => ?_)
        · skip
          refine r_bipush (pc2 := 18) (v := -2) dX9_judge_16 (by decide) rfl ?_
          exact r_iret rfl dX9_judge_18 ⟨by unfold judgeF; rw [if_pos hy], kd, KQ.rf, hD.1, Gx.rf, c64, c76, h77, hM⟩
        · skip
          refine r_iload_n (pc2 := 12) 2 dX9_judge_11 rfl rfl rfl ?_
          refine r_iconst (pc2 := 13) (v := 3) dX9_judge_12 (by decide) rfl ?_
          refine r_icmp_le (tgt := 19) (pc2 := 16) dX9_judge_13 (by decide) rfl (fun b13 => ?_) (fun b13 => ?_)
          · exact absurd ((inR_iff (l := 0) (h := 3) (by decide) (by decide) y).mpr ⟨Int32.not_lt.mp b8, b13⟩) hy
          · skip
            refine r_bipush (pc2 := 18) (v := -2) dX9_judge_16 (by decide) rfl ?_
            exact r_iret rfl dX9_judge_18 ⟨by unfold judgeF; rw [if_pos hy], kd, KQ.rf, hD.1, Gx.rf, c64, c76, h77, hM⟩
  · have hno : noTrayF rs x = -2 := by unfold noTrayF; rw [if_neg hx]
    refine Cn.go (ls := [.ref 64, .int x, .int y, .float 0, .float 0, .float 0, .float 0]) (by decide +kernel) rfl (Nat.le_of_ble_eq_true rfl) ?_
    refine r_iload_n (pc2 := 1) 1 dX9_judge_0 rfl rfl rfl ?_
    refine r_callS1 (pc2 := 4) (As := [.int x]) (st := []) kX9_210 dX9_judge_1 rfl rfl (Nat.le_of_ble_eq_true rfl) (by omega) (c_isTray.mono fun r h2 q => ⟨q.1.trans (by rw [if_neg hx]), q.2⟩) rfl (fun h2 hq1 => ?_)
    subst hq1
    refine r_if_eq (tgt := 16) (pc2 := 7) dX9_judge_4 (by decide) rfl (fun b4 => ?_) (fun b4 => ?_)
    · skip
      refine r_bipush (pc2 := 18) (v := -2) dX9_judge_16 (by decide) rfl ?_
      exact r_iret rfl dX9_judge_18 ⟨by unfold judgeF; rw [hno, if_pos (show (-2 : Int32) ≠ 0 by decide)]; split <;> rfl, kd, KQ.rf, hD.1, Gx.rf, c64, c76, h77, hM⟩
    · exact absurd b4 (by decide)
