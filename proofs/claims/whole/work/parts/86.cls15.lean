/-! the class: perform, judge -/
theorem tell1 {a : FR} {v : Int64} (h : whyD a v = 0) : (tell (fun _ => v) 1 0 a).2.2 = doesN a v.toNatClampNeg := by
  unfold tell
  rw [if_pos h]
  rfl
theorem AIN.do1 {a : FR} {v : Int64} (hA : AIN a) (h : whyD a v = 0) : AIN (doesN a v.toNatClampNeg) := by
  have := AIN.telling (F := fun _ => v) 1 0 a hA
  rwa [tell1 h] at this
theorem do1_out {a : FR} {v : Int64} (hA : AIN a) (h : whyD a v = 0) : ∀ i, (i < 22 ∨ 45 ≤ i) → doesN a v.toNatClampNeg i = a i := fun i hi => by
  have := tell_out (F := fun _ => v) 1 0 a hA i hi
  rwa [tell1 h] at this
def Same (a1 a : FR) : Prop := ∀ i, (i < 22 ∨ 45 ≤ i) → a1 i = a i
theorem Same.stat {a1 a b : FR} (x : Same a1 a) (h : Stat a b) : Stat a1 b := fun k hk => (x k (by omega)).trans (h k hk)
theorem Same.do1 {a1 a : FR} {v : Int64} (x : Same a1 a) (hA : AIN a1) (h : whyD a1 v = 0) : Same (doesN a1 v.toNatClampNeg) a := fun i hi => (do1_out hA h i hi).trans (x i hi)
theorem tell_s {F : Nat → Int64} {m k : Nat} {a : FR} (h : whyD a (F k) = 0) : tell F (m + 1) k a = tell F m (k + 1) (doesN a (F k).toNatClampNeg) := by
  rw [tell, if_pos h]
theorem tell_x {F : Nat → Int64} {m k : Nat} {a : FR} (h : ¬ whyD a (F k) = 0) : tell F (m + 1) k a = (k, whyD a (F k), a) := by
  rw [tell, if_neg h]
set_option maxRecDepth 20000 in
set_option maxHeartbeats 1000000 in
theorem cl_perform {E : EnvT} {d : Nat} {h0 : Hp} {ns s w1 w2 : Nat} {wk dt : Value} {Z : Nat → Prop} {reg : Nat → FR} {sg kd : Nat} {a b : FR} {rs rm : Nat → Int32} {nu : Nat → Int64} {x : Int32} (hN : NW h0 s ns w1 w2 wk dt a) (hD : DV Z h0 reg ns s sg kd b) (hA : AIN a) (hst : Stat a b) (hMT : MT h0 rs rm nu) (hT : TOK rs rm) (hd : 7 ≤ d) : Cn E mX9_perform d [.ref 64, .int x] h0 (QN reg s ns w1 w2 wk dt h0 kd (.int (performF a rs rm nu x)) (performA a rs rm nu x)) := by
  obtain ⟨c64, c76, h77, hM⟩ := hN
  obtain ⟨y0, y1, y2, y3, y4, y5, c77⟩ := id h77
  have hn := hD.2.2.2.2.2.2.2.1
  have hk0 : kd = 0 ∨ 139 ≤ kd := by
    by_cases z : kd = 0
    · exact Or.inl z
    · exact Or.inr (hD.1.2.2.2.2 z).1
  have hn0 := hn
  by_cases hx : inR 0 3 x
  · skip
    obtain ⟨t, _, ht3, rfl⟩ := inR_of (by decide) (by decide) hx
    have ht : t < 4 := by omega
    obtain ⟨⟨f, c81, hf⟩, _⟩ := id hMT
    obtain ⟨ms, so, si, vv, ct, cv, q1, q2⟩ := hMT.2 t ht
    generalize hp : 109 + 2 * t = p at ct
    generalize hq : 110 + 2 * t = q at ct cv
    have hn1 : rm t = nI (rowN rm t) := (hT t ht).1
    have hn40 : rowN rm t ≤ 40 := (hT t ht).2
    by_cases hs : rs t = -1
    · have hno : noTrayF rs (nI t) = -6 := by unfold noTrayF; rw [if_pos hx, nI_clamp (by omega), if_pos hs]
      obtain rfl := q1 hs
      refine Cn.go (ls := [.ref 64, .int (nI t), .float 0, .float 0]) (by decide +kernel) rfl (Nat.le_of_ble_eq_true rfl) ?_
      refine r_iload_n (pc2 := 1) 1 dX9_perform_0 rfl rfl rfl ?_
      refine r_callS1 (pc2 := 4) (As := [.int (nI t)]) (st := []) kX9_210 dX9_perform_1 rfl rfl (Nat.le_of_ble_eq_true rfl) (by omega) (c_isTray.mono fun r h2 q => ⟨q.1.trans (by rw [if_pos hx]), q.2⟩) rfl (fun h2 hq1 => ?_)
      subst hq1
      refine r_if_ne (tgt := 10) (pc2 := 7) dX9_perform_4 (by decide) rfl (fun b4 => ?_) (fun b4 => ?_)
      · skip
        refine r_aload_n (pc2 := 11) 0 dX9_perform_10 rfl rfl rfl rfl ?_
        refine r_getf (pc2 := 14) (v := .ref 81) fX9_48 dX9_perform_11 c64 (by decide) rfl rfl ?_
        refine r_iload_n (pc2 := 15) 1 dX9_perform_14 rfl rfl rfl ?_
        refine r_aald (pc2 := 16) dX9_perform_15 c81 (by decide) (by decide) (nI_vp (j := t) rfl (by omega) (by decide)).1 (by rw [nI_clamp (by omega), hf t ht, hp]) (by omega) rfl ?_
        refine r_astore_n (pc2 := 17) (ls2 := [.ref 64, .int (nI t), .ref p, .float 0]) 2 dX9_perform_16 rfl (by decide) rfl rfl rfl rfl ?_
        refine r_aload_n (pc2 := 18) 2 dX9_perform_17 rfl rfl rfl rfl ?_
        refine r_getf (pc2 := 21) (v := .int 1) fX9_213 dX9_perform_18 ct (by omega) rfl rfl ?_
        refine r_if_eq (tgt := 27) (pc2 := 24) dX9_perform_21 (by decide) rfl (fun b21 => ?_) (fun b21 => ?_)
        · exact absurd b21 (by decide)
        · skip
          refine r_bipush (pc2 := 26) (v := -6) dX9_perform_24 (by decide) rfl ?_
          exact r_iret rfl dX9_perform_26 ⟨by unfold performF; rw [hno, if_pos (by decide)], kd, KQ.rf, hD.1, Gx.rf, by unfold performA; rw [if_pos (Or.inl (by rw [hno]; decide))]; exact ⟨c64, c76, h77, hM⟩⟩
      · exact absurd b4 (by decide)
    · skip
      have hno : noTrayF rs (nI t) = 0 := by unfold noTrayF; rw [if_pos hx, nI_clamp (by omega), if_neg hs]
      obtain ⟨rfl, rfl, rfl, q3⟩ := q2 hs
      obtain ⟨n, hnn⟩ : ∃ n, n = rowN rm t := ⟨_, rfl⟩
      have q3 : ∀ j, j < n → vv j = nu (40 * t + j) := fun j hj => q3 j (by rw [hnn] at hj; exact hj)
      rw [← hnn] at hn1 hn40
      rw [hn1] at ct
      have eT : (tellT a rm nu t) = tell (fun j => nu (40 * t + j)) n 0 a := by unfold tellT; rw [hnn]
      have fin : ∀ (k : Nat) (a1 : FR) (h : Hp) (kd1 : Nat), k ≤ n → (tellT a rm nu t).1 = k → (tellT a rm nu t).2.2 = a1 → AIN a1 → Same a1 a → KQ h0 h kd kd1 → DV Z h reg ns s sg kd1 b → Gx (SH kd) h0 h → h.1 64 = some (.inr (9, coL s ns (a 45) w1 w2 wk dt)) → h.1 76 = some (.inr (5, sdL (keepV a1))) → h.1 77 = some (.inr (5, sdL (keepV a))) → MU h a → Fr E mX9_perform d 70 [.ref 64, .int (nI t), .ref p, .int (nI k)] [] h (QN reg s ns w1 w2 wk dt h0 kd (.int (performF a rs rm nu (nI t))) (performA a rs rm nu (nI t))) := by
        intro k a1 h kd1 hkn e1 e2 hA1 hS1 hKQ hD hGx c64 c76 c77 hM
        have hn := hD.2.2.2.2.2.2.2.1
        have h45 : a1 45 ≤ 10 := by rw [hS1 45 (by omega)]; exact hA.nd
        by_cases hk0 : k = 0
        · subst hk0
          refine r_iload_n (pc2 := 71) 3 dX9_perform_70 rfl rfl rfl ?_
          refine r_if_le (tgt := 82) (pc2 := 74) dX9_perform_71 (by decide) rfl (fun b71 => ?_) (fun b71 => ?_)
          · skip
            refine r_iload_n (pc2 := 83) 3 dX9_perform_82 rfl rfl rfl ?_
            exact r_iret rfl dX9_perform_83 ⟨by unfold performF; rw [if_neg (fun q => q hno), nI_clamp (by omega), e1], kd1, hKQ, hD.1, hGx, by unfold performA; rw [if_pos (Or.inr (by rw [nI_clamp (by omega)]; exact e1))]; exact ⟨c64, (by have e9 : a1 = a := e2.symm.trans (tell_0 _ _ _ e1); rw [e9] at c76; exact c76), aSt.of c77, hM⟩⟩
          · exact absurd (by decide) b71
        · have hk0 : 0 < k := Nat.pos_of_ne_zero hk0
          have hMg : MU h a1 := hM.ext (fun i hi _ => hS1 i (by omega)) hA.nd
          rw [← hS1 45 (by omega)] at c64
          refine r_iload_n (pc2 := 71) 3 dX9_perform_70 rfl rfl rfl ?_
          refine r_if_le (tgt := 82) (pc2 := 74) dX9_perform_71 (by decide) rfl (fun b71 => ?_) (fun b71 => ?_)
          · exact absurd b71 (nI_nle (n := k) hk0 (by omega))
          · skip
            refine r_aload_n (pc2 := 75) 0 dX9_perform_74 rfl rfl rfl rfl ?_
            refine r_aload_n (pc2 := 76) 0 dX9_perform_75 rfl rfl rfl rfl ?_
            refine r_getf (pc2 := 79) (v := .ref 77) fX9_32 dX9_perform_76 c64 (by decide) rfl rfl ?_
            refine r_callV0 (pc2 := 82) (As := [.ref 77]) (st := []) kX9_200 rfl rfl dX9_perform_79 c64 (by decide) rfl rfl (Nat.le_of_ble_eq_true rfl) (by omega) (c_keepForUndo (a := a1) (w := (keepV a)) c64 hMg h45 c77 (Or.inr rfl) (by omega)) rfl (fun h hq79 => ?_)
            obtain ⟨hxk, c64, hM2⟩ := hq79
            have c76 := hxk.get (by simp) c76
            have c77 := hxk.get (by simp) c77
            refine r_iload_n (pc2 := 83) 3 dX9_perform_82 rfl rfl rfl ?_
            exact r_iret rfl dX9_perform_83 ⟨by unfold performF; rw [if_neg (fun q => q hno), nI_clamp (by omega), e1], kd1, hKQ.same hxk.1, hD.1.ex hxk (by simp), hGx.ex hxk (by simp), by unfold performA; rw [if_neg (fun q => q.elim (fun q => q hno) (fun q => by rw [nI_clamp (by omega)] at q; exact absurd (e1.symm.trans q) (by omega))), nI_clamp (by omega), e2]; exact ⟨c64, by rw [keepV_notes h45]; exact c76, aSt.of c77, hM2⟩⟩
      have loop : ∀ (m k : Nat) (a1 : FR) (h : Hp) (kd1 : Nat), k + m = n → tell (fun j => nu (40 * t + j)) n 0 a = tell (fun j => nu (40 * t + j)) m k a1 → AIN a1 → Same a1 a → KQ h0 h kd kd1 → DV Z h reg ns s sg kd1 b → Gx (SH kd) h0 h → h.1 64 = some (.inr (9, coL s ns (a 45) w1 w2 wk dt)) → h.1 76 = some (.inr (5, sdL (keepV a1))) → h.1 77 = some (.inr (5, sdL (keepV a))) → MU h a → h.1 p = some (.inr (7, [.int 0, .int (rs t), .int (nI n), .ref q])) → h.1 q = some (aL 40 vv) → Fr E mX9_perform d 40 [.ref 64, .int (nI t), .ref p, .int (nI k)] [] h (QN reg s ns w1 w2 wk dt h0 kd (.int (performF a rs rm nu (nI t))) (performA a rs rm nu (nI t))) := by
        intro m
        induction m with
        | zero =>
          intro k a1 h kd1 hk hT1 hA1 hS1 hKQ hD hGx c64 c76 c77 hM ct cv
          obtain rfl : k = n := by omega
          refine r_iload_n (pc2 := 41) 3 dX9_perform_40 rfl rfl rfl ?_
          refine r_aload_n (pc2 := 42) 2 dX9_perform_41 rfl rfl rfl rfl ?_
          refine r_getf (pc2 := 45) (v := .int (nI k)) fX9_217 dX9_perform_42 ct (by omega) rfl rfl ?_
          refine r_icmp_ge (tgt := 70) (pc2 := 48) dX9_perform_45 (by decide) rfl (fun b45 => ?_) (fun b45 => ?_)
          · skip
            exact fin k a1 h kd1 (by omega) (by rw [eT, hT1]; rfl) (by rw [eT, hT1]; rfl) hA1 hS1 hKQ hD hGx c64 c76 c77 hM
          · exact absurd (nI_le (Nat.le_refl _) (by omega)) b45
        | succ m ih =>
          intro k a1 h kd1 hk hT1 hA1 hS1 hKQ hD hGx c64 c76 c77 hM ct cv
          have hlt : k < n := by omega
          have hn := hD.2.2.2.2.2.2.2.1
          have hk1 : kd1 = 0 ∨ 139 ≤ kd1 := by
            by_cases z : kd1 = 0
            · exact Or.inl z
            · exact Or.inr (hD.1.2.2.2.2 z).1
          by_cases hw : whyD a1 (nu (40 * t + k)) = 0
          · skip
            refine r_iload_n (pc2 := 41) 3 dX9_perform_40 rfl rfl rfl ?_
            refine r_aload_n (pc2 := 42) 2 dX9_perform_41 rfl rfl rfl rfl ?_
            refine r_getf (pc2 := 45) (v := .int (nI n)) fX9_217 dX9_perform_42 ct (by omega) rfl rfl ?_
            refine r_icmp_ge (tgt := 70) (pc2 := 48) dX9_perform_45 (by decide) rfl (fun b45 => ?_) (fun b45 => ?_)
            · exact absurd b45 (nI_ge hlt (by omega))
            · skip
              refine r_aload_n (pc2 := 49) 0 dX9_perform_48 rfl rfl rfl rfl ?_
              refine r_aload_n (pc2 := 50) 0 dX9_perform_49 rfl rfl rfl rfl ?_
              refine r_getf (pc2 := 53) (v := .ref 76) fX9_28 dX9_perform_50 c64 (by decide) rfl rfl ?_
              refine r_aload_n (pc2 := 54) 2 dX9_perform_53 rfl rfl rfl rfl ?_
              refine r_iload_n (pc2 := 55) 3 dX9_perform_54 rfl rfl rfl ?_
              refine r_callV1 (pc2 := 58) (As := [.int (nI k)]) (st := [.ref 76, .ref 64]) kX9_220 rfl rfl dX9_perform_55 ct (by omega) rfl rfl (Nat.le_of_ble_eq_true rfl) (by omega) ((c_tget ct cv (by omega) (by omega) hlt hn40).mono fun r h2 q => ⟨q.1.trans (by rw [q3 k hlt]), q.2⟩) rfl (fun h2 hq55 => ?_)
              subst hq55
              refine r_callV1 (pc2 := 61) (As := [.ref 76, .long (nu (40 * t + k))]) (st := []) kX9_224 rfl rfl dX9_perform_58 c64 (by decide) rfl rfl (Nat.le_of_ble_eq_true rfl) (by omega) (c_doDeed (a := a1) (v := nu (40 * t + k)) c64 c76 (Or.inl rfl) hD hA1 (hS1.stat hst) (by omega)) rfl (fun h hq58 => ?_)
              obtain ⟨kd2, hKQ2, hL2, hg2, c76⟩ := hq58
              have c64 := hg2.get (by simp; omega) (by omega) c64
              have c77 := hg2.get (by simp; omega) (by omega) c77
              have ct := hg2.get (by simp; omega) (by omega) ct
              have cv := hg2.get (by simp; omega) (by omega) cv
              have hM := hM.frame hA.nd (fun q hq => hg2.2 q (by omega) (by simp; omega))
              have hGx := hGx.ds hKQ hg2 (Or.inl rfl)
              have hKQ := hKQ.trans hKQ2 hn0
              have hD := hD.next (Or.inl rfl) hKQ2 hL2 hg2
              rw [if_pos hw] at c76
              refine r_if_ne (tgt := 70) (pc2 := 64) dX9_perform_61 (by decide) rfl (fun b61 => ?_) (fun b61 => ?_)
              · exact absurd (congrArg nI hw) b61
              · skip
                obtain ⟨x64, e64⟩ : ∃ z : Int32, z = (nI k) + (1) := ⟨_, rfl⟩
                refine r_iinc (pc2 := 67) (ls2 := [.ref 64, .int (nI t), .ref p, .int x64]) (v := x64) 3 dX9_perform_64 rfl (by rw [e64]; rfl) rfl rfl rfl ?_
                refine r_goto (pc2 := 40) dX9_perform_67 (by decide) ?_
                rw [e64, nI_1]
                exact ih (k + 1) _ h kd2 (by omega) (hT1.trans (tell_s (F := fun j => nu (40 * t + j)) hw)) (hA1.do1 hw) (hS1.do1 hA1 hw) hKQ hD hGx c64 c76 c77 hM ct cv
          · skip
            refine r_iload_n (pc2 := 41) 3 dX9_perform_40 rfl rfl rfl ?_
            refine r_aload_n (pc2 := 42) 2 dX9_perform_41 rfl rfl rfl rfl ?_
            refine r_getf (pc2 := 45) (v := .int (nI n)) fX9_217 dX9_perform_42 ct (by omega) rfl rfl ?_
            refine r_icmp_ge (tgt := 70) (pc2 := 48) dX9_perform_45 (by decide) rfl (fun b45 => ?_) (fun b45 => ?_)
            · exact absurd b45 (nI_ge hlt (by omega))
            · skip
              refine r_aload_n (pc2 := 49) 0 dX9_perform_48 rfl rfl rfl rfl ?_
              refine r_aload_n (pc2 := 50) 0 dX9_perform_49 rfl rfl rfl rfl ?_
              refine r_getf (pc2 := 53) (v := .ref 76) fX9_28 dX9_perform_50 c64 (by decide) rfl rfl ?_
              refine r_aload_n (pc2 := 54) 2 dX9_perform_53 rfl rfl rfl rfl ?_
              refine r_iload_n (pc2 := 55) 3 dX9_perform_54 rfl rfl rfl ?_
              refine r_callV1 (pc2 := 58) (As := [.int (nI k)]) (st := [.ref 76, .ref 64]) kX9_220 rfl rfl dX9_perform_55 ct (by omega) rfl rfl (Nat.le_of_ble_eq_true rfl) (by omega) ((c_tget ct cv (by omega) (by omega) hlt hn40).mono fun r h2 q => ⟨q.1.trans (by rw [q3 k hlt]), q.2⟩) rfl (fun h2 hq55 => ?_)
              subst hq55
              refine r_callV1 (pc2 := 61) (As := [.ref 76, .long (nu (40 * t + k))]) (st := []) kX9_224 rfl rfl dX9_perform_58 c64 (by decide) rfl rfl (Nat.le_of_ble_eq_true rfl) (by omega) (c_doDeed (a := a1) (v := nu (40 * t + k)) c64 c76 (Or.inl rfl) hD hA1 (hS1.stat hst) (by omega)) rfl (fun h hq58 => ?_)
              obtain ⟨kd2, hKQ2, hL2, hg2, c76⟩ := hq58
              have c64 := hg2.get (by simp; omega) (by omega) c64
              have c77 := hg2.get (by simp; omega) (by omega) c77
              have ct := hg2.get (by simp; omega) (by omega) ct
              have cv := hg2.get (by simp; omega) (by omega) cv
              have hM := hM.frame hA.nd (fun q hq => hg2.2 q (by omega) (by simp; omega))
              have hGx := hGx.ds hKQ hg2 (Or.inl rfl)
              have hKQ := hKQ.trans hKQ2 hn0
              have hD := hD.next (Or.inl rfl) hKQ2 hL2 hg2
              rw [if_neg hw] at c76
              refine r_if_ne (tgt := 70) (pc2 := 64) dX9_perform_61 (by decide) rfl (fun b61 => ?_) (fun b61 => ?_)
              · skip
                exact fin k a1 h kd2 (by omega) (by rw [eT, hT1, tell_x (F := fun j => nu (40 * t + j)) hw]) (by rw [eT, hT1, tell_x (F := fun j => nu (40 * t + j)) hw]) hA1 hS1 hKQ hD hGx c64 c76 c77 hM
              · exact absurd ((nI_eq (b := 0) (by have := whyD_lt a1 (nu (40 * t + k)); omega) (by decide)).mp b61) hw
      refine Cn.go (ls := [.ref 64, .int (nI t), .float 0, .float 0]) (by decide +kernel) rfl (Nat.le_of_ble_eq_true rfl) ?_
      refine r_iload_n (pc2 := 1) 1 dX9_perform_0 rfl rfl rfl ?_
      refine r_callS1 (pc2 := 4) (As := [.int (nI t)]) (st := []) kX9_210 dX9_perform_1 rfl rfl (Nat.le_of_ble_eq_true rfl) (by omega) (c_isTray.mono fun r h2 q => ⟨q.1.trans (by rw [if_pos hx]), q.2⟩) rfl (fun h2 hq1 => ?_)
      subst hq1
      refine r_if_ne (tgt := 10) (pc2 := 7) dX9_perform_4 (by decide) rfl (fun b4 => ?_) (fun b4 => ?_)
      · skip
        refine r_aload_n (pc2 := 11) 0 dX9_perform_10 rfl rfl rfl rfl ?_
        refine r_getf (pc2 := 14) (v := .ref 81) fX9_48 dX9_perform_11 c64 (by decide) rfl rfl ?_
        refine r_iload_n (pc2 := 15) 1 dX9_perform_14 rfl rfl rfl ?_
        refine r_aald (pc2 := 16) dX9_perform_15 c81 (by decide) (by decide) (nI_vp (j := t) rfl (by omega) (by decide)).1 (by rw [nI_clamp (by omega), hf t ht, hp]) (by omega) rfl ?_
        refine r_astore_n (pc2 := 17) (ls2 := [.ref 64, .int (nI t), .ref p, .float 0]) 2 dX9_perform_16 rfl (by decide) rfl rfl rfl rfl ?_
        refine r_aload_n (pc2 := 18) 2 dX9_perform_17 rfl rfl rfl rfl ?_
        refine r_getf (pc2 := 21) (v := .int 0) fX9_213 dX9_perform_18 ct (by omega) rfl rfl ?_
        refine r_if_eq (tgt := 27) (pc2 := 24) dX9_perform_21 (by decide) rfl (fun b21 => ?_) (fun b21 => ?_)
        · skip
          refine r_aload_n (pc2 := 28) 0 dX9_perform_27 rfl rfl rfl rfl ?_
          refine r_getf (pc2 := 31) (v := .ref 77) fX9_32 dX9_perform_28 c64 (by decide) rfl rfl ?_
          refine r_aload_n (pc2 := 32) 0 dX9_perform_31 rfl rfl rfl rfl ?_
          refine r_getf (pc2 := 35) (v := .ref 76) fX9_28 dX9_perform_32 c64 (by decide) rfl rfl ?_
          refine r_callV0 (pc2 := 38) (As := [.ref 76]) (st := []) kX9_81 rfl rfl dX9_perform_35 c77 (by decide) rfl rfl (Nat.le_of_ble_eq_true rfl) (by omega) (c_becomeK h77 c76 (by decide) (by decide) (by decide)) rfl (fun h hq35 => ?_)
          obtain ⟨hxb, c77⟩ := hq35
          have c64 := hxb.get (by simp) c64
          have c76 := hxb.get (by simp) c76
          have c81 := hxb.get (by simp) c81
          have ct := hxb.get (by simp; omega) ct
          have cv := hxb.get (by simp; omega) cv
          have hD := hD.ex (Or.inr rfl) hxb
          have hM := hM.frame hA.nd (fun q hq => hxb.2 q (by simp; omega))
          have hn := hD.2.2.2.2.2.2.2.1
          refine r_iconst (pc2 := 39) (v := 0) dX9_perform_38 (by decide) rfl ?_
          refine r_cast (nI 0) (rfl) ?_
          refine r_istore_n (pc2 := 40) (ls2 := [.ref 64, .int (nI t), .ref p, .int (nI 0)]) 3 dX9_perform_39 rfl (by decide) rfl rfl rfl ?_
          exact loop n 0 a h kd (by omega) rfl hA (fun _ _ => rfl) (KQ.of hxb) hD (hxb.gx.mono (by simp)) c64 c76 c77 hM ct cv
        · exact absurd b21 (by decide)
      · exact absurd b4 (by decide)
  · have hno : noTrayF rs x = -2 := by unfold noTrayF; rw [if_neg hx]
    refine Cn.go (ls := [.ref 64, .int x, .float 0, .float 0]) (by decide +kernel) rfl (Nat.le_of_ble_eq_true rfl) ?_
    refine r_iload_n (pc2 := 1) 1 dX9_perform_0 rfl rfl rfl ?_
    refine r_callS1 (pc2 := 4) (As := [.int x]) (st := []) kX9_210 dX9_perform_1 rfl rfl (Nat.le_of_ble_eq_true rfl) (by omega) (c_isTray.mono fun r h2 q => ⟨q.1.trans (by rw [if_neg hx]), q.2⟩) rfl (fun h2 hq1 => ?_)
    subst hq1
    refine r_if_ne (tgt := 10) (pc2 := 7) dX9_perform_4 (by decide) rfl (fun b4 => ?_) (fun b4 => ?_)
    · exact absurd b4 (by decide)
    · skip
      refine r_bipush (pc2 := 9) (v := -2) dX9_perform_7 (by decide) rfl ?_
      exact r_iret rfl dX9_perform_9 ⟨by unfold performF; rw [hno, if_pos (by decide)], kd, KQ.rf, hD.1, Gx.rf, by unfold performA; rw [if_pos (Or.inl (by rw [hno]; decide))]; exact ⟨c64, c76, h77, hM⟩⟩
