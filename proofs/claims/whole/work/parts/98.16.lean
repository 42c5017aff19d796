/-! the class: walks: what was found, looked at -/
def WKB (a : FR) (s q : Nat) (wst wsd go gh : Int32) (Q : List Nat) (Kf : Nat → Nat) (fb : Nat → Int32) (k : Nat) (h : Hp) : Prop := ∃ (od nz sh ps : Nat → Int32) (op pa : Int32), h.1 q = some (.inr (8, wkL q s (nI (a 27)) wst wsd (nI k) (nI Q.length) go gh op pa)) ∧ h.1 (q + 1) = some (aI 24010 fb) ∧ h.1 (q + 2) = some (aI 24010 od) ∧ h.1 (q + 5) = some (aI 16 nz) ∧ h.1 (q + 6) = some (aI 16 sh) ∧ h.1 (q + 7) = some (aI 16 ps) ∧ (nz 0 = 0 ∧ sh 0 = 0 ∧ ps 0 = 0) ∧ BF (SG a) (okS a) (nxS a) (packS a) Q Kf fb od k
theorem WKB.frame {a : FR} {s q : Nat} {wst wsd go gh : Int32} {Q : List Nat} {Kf : Nat → Nat} {fb : Nat → Int32} {k : Nat} {h h2 : Hp} (x : WKB a s q wst wsd go gh Q Kf fb k h) (e : ∀ y, q ≤ y → y ≤ q + 7 → h2.1 y = h.1 y) : WKB a s q wst wsd go gh Q Kf fb k h2 := by
  obtain ⟨od, nz, sh, ps, op, pa, c1, c2, c3, c4, c5, c6, c7⟩ := x
  exact ⟨od, nz, sh, ps, op, pa, (e q (by omega) (by omega)).trans c1, (e _ (by omega) (by omega)).trans c2, (e _ (by omega) (by omega)).trans c3, (e _ (by omega) (by omega)).trans c4, (e _ (by omega) (by omega)).trans c5, (e _ (by omega) (by omega)).trans c6, c7⟩
theorem WKB.len {a : FR} {s q : Nat} {wst wsd go gh : Int32} {Q : List Nat} {Kf : Nat → Nat} {fb : Nat → Int32} {k : Nat} {h : Hp} (x : WKB a s q wst wsd go gh Q Kf fb k h) (hC : a 1 ≤ 6) : Q.length ≤ 24010 ∧ k ≤ Q.length := by
  obtain ⟨od, nz, sh, ps, op, pa, c1, c2, c3, c4, c5, c6, c7, hB⟩ := x
  exact ⟨hB.1.len (cst_injA hC), hB.2.1⟩
theorem c_lookOnB {E : EnvT} {d : Nat} {h0 : Hp} {Z : Nat → Prop} {reg : Nat → FR} {ns s sg kd : Nat} {a b : FR} {q : Nat} {wst wsd go gh : Int32} {fb : Nat → Int32} {Q : List Nat} {Kf : Nat → Nat} {k : Nat} (hK : WKB a s q wst wsd go gh Q Kf fb k h0) (hW : WQ Z kd q) (hq7 : q + 7 < h0.2.1) (hL : LQ Z h0 reg ns s sg (a 27) kd b) (hA : AIN a) (hst : Stat a b) (hk : k < Q.length) (hd : 4 ≤ d) : Cn E mX8_lookOn d [.ref q] h0 (fun r h2 => r = some (.int 1) ∧ ∃ (Q2 : List Nat) (Kf2 : Nat → Nat) (fb2 : Nat → Int32), WKB a s q wst wsd go gh Q2 Kf2 fb2 (k + 1) h2 ∧ PreL Q Q2 ∧ LQ Z h2 reg ns s sg (a 27) kd b ∧ GQ [q, q + 1, q + 2, q + 5, q + 6, q + 7] kd h0 h2 kd) := by
  obtain ⟨od, nz, sh, ps, op, pa, cq, cfb, cod, cnz, csh, cps, hz0, hB⟩ := id hK
  have hn0 := hL.dv.n
  have hk0 := hL.dv.k0
  have hq139 := hW.1
  have hqk := hW.2.1
  have hQl := hK.len hA.C
  refine (c_lookOn cq cfb cod cnz csh cps hz0 hB hW hq7 hL hA hst hk hd).mono fun r h2 z => ?_
  obtain ⟨z1, Q2, Kf2, fb2, od2, nz2, sh2, ps2, op2, pa2, y1, y2, y3, y4, y5, y6, y7, y8, y9, y10, y11⟩ := z
  exact ⟨z1, Q2, Kf2, fb2, ⟨od2, nz2, sh2, ps2, op2, pa2, y1, y2, y3, y4, y5, y6, y7, y8⟩, y9, y10, y11⟩
set_option maxRecDepth 20000 in
set_option maxHeartbeats 1000000 in
theorem c_lookOn0 {E : EnvT} {d : Nat} {h0 : Hp} {Z : Nat → Prop} {reg : Nat → FR} {ns s sg kd : Nat} {a b : FR} {q : Nat} {wst wsd go gh : Int32} {fb : Nat → Int32} {Q : List Nat} {Kf : Nat → Nat} {k : Nat} (hK : WKB a s q wst wsd go gh Q Kf fb k h0) (hW : WQ Z kd q) (hq7 : q + 7 < h0.2.1) (hL : LQ Z h0 reg ns s sg (a 27) kd b) (hA : AIN a) (hst : Stat a b) (hk : k = Q.length) : Cn E mX8_lookOn d [.ref q] h0 (fun r h2 => r = some (.int 0) ∧ h2 = h0) := by
  obtain ⟨od, nz, sh, ps, op, pa, cq, cfb, cod, cnz, csh, cps, hz0, hB⟩ := id hK
  have hn0 := hL.dv.n
  have hk0 := hL.dv.k0
  have hq139 := hW.1
  have hqk := hW.2.1
  have hQl := hK.len hA.C
  refine Cn.go (ls := [.ref q, .float 0, .float 0, .float 0, .float 0, .float 0]) (by decide +kernel) rfl (Nat.le_of_ble_eq_true rfl) ?_
  refine r_aload_n (pc2 := 1) 0 dX8_lookOn_0 rfl rfl rfl rfl ?_
  refine r_getf (pc2 := 4) (v := .int (nI k)) fX8_59 dX8_lookOn_1 cq (by omega) rfl rfl ?_
  refine r_aload_n (pc2 := 5) 0 dX8_lookOn_4 rfl rfl rfl rfl ?_
  refine r_getf (pc2 := 8) (v := .int (nI Q.length)) fX8_56 dX8_lookOn_5 cq (by omega) rfl rfl ?_
  refine r_icmp_lt (tgt := 13) (pc2 := 11) dX8_lookOn_8 (by decide) rfl (fun b8 => ?_) (fun b8 => ?_)
  · exact absurd b8 (nI_nlt (by omega) (by omega))
  · skip
    refine r_iconst (pc2 := 12) (v := 0) dX8_lookOn_11 (by decide) rfl ?_
    exact r_zret (ty := .boolean) rfl (by decide) dX8_lookOn_12 ⟨rfl, rfl⟩
set_option maxRecDepth 20000 in
set_option maxHeartbeats 1000000 in
theorem c_lookAtAll {E : EnvT} {d : Nat} {h0 : Hp} {Z : Nat → Prop} {reg : Nat → FR} {ns s sg kd : Nat} {a b : FR} {q : Nat} {wst wsd go gh : Int32} {fb : Nat → Int32} {Q : List Nat} {Kf : Nat → Nat} {k : Nat} (hK : WKB a s q wst wsd go gh Q Kf fb k h0) (hW : WQ Z kd q) (hq7 : q + 7 < h0.2.1) (hL : LQ Z h0 reg ns s sg (a 27) kd b) (hA : AIN a) (hst : Stat a b) (hd : 5 ≤ d) : Cn E mX8_lookAtAll d [.ref q] h0 (fun r h2 => r = none ∧ ∃ (Q2 : List Nat) (Kf2 : Nat → Nat) (fb2 : Nat → Int32), WKB a s q wst wsd go gh Q2 Kf2 fb2 Q2.length h2 ∧ PreL Q Q2 ∧ LQ Z h2 reg ns s sg (a 27) kd b ∧ GQ [q, q + 1, q + 2, q + 5, q + 6, q + 7] kd h0 h2 kd) := by
  obtain ⟨od, nz, sh, ps, op, pa, cq, cfb, cod, cnz, csh, cps, hz0, hB⟩ := id hK
  have hn0 := hL.dv.n
  have hk0 := hL.dv.k0
  have hq139 := hW.1
  have hqk := hW.2.1
  have hQl := hK.len hA.C
  have loop : ∀ (m i k : Nat) (h : Hp) (R : List Nat) (Kg : Nat → Nat) (fb : Nat → Int32), i + m = 24010 → i ≤ k → WKB a s q wst wsd go gh R Kg fb k h → PreL Q R → LQ Z h reg ns s sg (a 27) kd b → GQ [q, q + 1, q + 2, q + 5, q + 6, q + 7] kd h0 h kd → Fr E mX8_lookAtAll d 2 [.ref q, .int (nI i)] [] h (fun r h2 => r = none ∧ ∃ (Q2 : List Nat) (Kf2 : Nat → Nat) (fb2 : Nat → Int32), WKB a s q wst wsd go gh Q2 Kf2 fb2 Q2.length h2 ∧ PreL Q Q2 ∧ LQ Z h2 reg ns s sg (a 27) kd b ∧ GQ [q, q + 1, q + 2, q + 5, q + 6, q + 7] kd h0 h2 kd) := by
    intro m
    induction m with
    | zero =>
      intro i k h R Kg fb hi hik hK hP hL hQ
      have hR := hK.len hA.C
      have hke : k = R.length := by omega
      have hKe : WKB a s q wst wsd go gh R Kg fb R.length h := hke ▸ hK
      obtain ⟨od, nz, sh, ps, op, pa, cq, _⟩ := id hK
      refine r_iload_n (pc2 := 3) 1 dX8_lookAtAll_2 rfl rfl rfl ?_
      refine r_sipush (pc2 := 6) (v := 24010) dX8_lookAtAll_3 (by decide) rfl ?_
      refine r_icmp_ge (tgt := 31) (pc2 := 9) dX8_lookAtAll_6 (by decide) rfl (fun b6 => ?_) (fun b6 => ?_)
      · skip
        exact r_vret rfl dX8_lookAtAll_31 ⟨rfl, R, Kg, fb, hKe, hP, hL, hQ⟩
      · skip
        refine r_aload_n (pc2 := 10) 0 dX8_lookAtAll_9 rfl rfl rfl rfl ?_
        refine r_getf (pc2 := 13) (v := .int (nI k)) fX8_59 dX8_lookAtAll_10 cq (by omega) rfl rfl ?_
        refine r_aload_n (pc2 := 14) 0 dX8_lookAtAll_13 rfl rfl rfl rfl ?_
        refine r_getf (pc2 := 17) (v := .int (nI R.length)) fX8_56 dX8_lookAtAll_14 cq (by omega) rfl rfl ?_
        refine r_icmp_ge (tgt := 31) (pc2 := 20) dX8_lookAtAll_17 (by decide) rfl (fun b17 => ?_) (fun b17 => ?_)
        · skip
          exact r_vret rfl dX8_lookAtAll_31 ⟨rfl, R, Kg, fb, hKe, hP, hL, hQ⟩
        · exact absurd (nI_le (by omega) (by omega)) b17
    | succ m ih =>
      intro i k h R Kg fb hi hik hK hP hL hQ
      have hR := hK.len hA.C
      obtain ⟨od, nz, sh, ps, op, pa, cq, _⟩ := id hK
      by_cases hk : k < R.length
      · skip
        refine r_iload_n (pc2 := 3) 1 dX8_lookAtAll_2 rfl rfl rfl ?_
        refine r_sipush (pc2 := 6) (v := 24010) dX8_lookAtAll_3 (by decide) rfl ?_
        refine r_icmp_ge (tgt := 31) (pc2 := 9) dX8_lookAtAll_6 (by decide) rfl (fun b6 => ?_) (fun b6 => ?_)
        · exact absurd b6 (nI_ge (b := 24010) (by omega) (by decide))
        · skip
          refine r_aload_n (pc2 := 10) 0 dX8_lookAtAll_9 rfl rfl rfl rfl ?_
          refine r_getf (pc2 := 13) (v := .int (nI k)) fX8_59 dX8_lookAtAll_10 cq (by omega) rfl rfl ?_
          refine r_aload_n (pc2 := 14) 0 dX8_lookAtAll_13 rfl rfl rfl rfl ?_
          refine r_getf (pc2 := 17) (v := .int (nI R.length)) fX8_56 dX8_lookAtAll_14 cq (by omega) rfl rfl ?_
          refine r_icmp_ge (tgt := 31) (pc2 := 20) dX8_lookAtAll_17 (by decide) rfl (fun b17 => ?_) (fun b17 => ?_)
          · exact absurd b17 (nI_ge hk (by omega))
          · skip
            refine r_aload_n (pc2 := 21) 0 dX8_lookAtAll_20 rfl rfl rfl rfl ?_
            refine r_callV1 (pc2 := 24) (As := []) (st := []) kX8_103 rfl rfl dX8_lookAtAll_21 cq (by omega) rfl rfl (Nat.le_of_ble_eq_true rfl) (by omega) (c_lookOnB hK hW (by have := hQ.2.1; omega) hL hA hst hk (by omega)) rfl (fun h hq21 => ?_)
            obtain ⟨Q2, Kf2, fb2, hK2, hP2, hL, hQ2⟩ := hq21
            have hQ := hQ.trans hQ2 hn0
            refine r_pop (pc2 := 25) dX8_lookAtAll_24 rfl rfl ?_
            obtain ⟨x25, e25⟩ : ∃ z : Int32, z = (nI i) + (1) := ⟨_, rfl⟩
            refine r_iinc (pc2 := 28) (ls2 := [.ref q, .int x25]) (v := x25) 1 dX8_lookAtAll_25 rfl (by rw [e25]; rfl) rfl rfl rfl ?_
            refine r_goto (pc2 := 2) dX8_lookAtAll_28 (by decide) ?_
            rw [e25, nI_1]
            exact ih (i + 1) (k + 1) h Q2 Kf2 fb2 (by omega) (by omega) hK2 (hP.trans hP2) hL hQ
      · have hke : k = R.length := by omega
        have hKe : WKB a s q wst wsd go gh R Kg fb R.length h := hke ▸ hK
        refine r_iload_n (pc2 := 3) 1 dX8_lookAtAll_2 rfl rfl rfl ?_
        refine r_sipush (pc2 := 6) (v := 24010) dX8_lookAtAll_3 (by decide) rfl ?_
        refine r_icmp_ge (tgt := 31) (pc2 := 9) dX8_lookAtAll_6 (by decide) rfl (fun b6 => ?_) (fun b6 => ?_)
        · skip
          exact r_vret rfl dX8_lookAtAll_31 ⟨rfl, R, Kg, fb, hKe, hP, hL, hQ⟩
        · skip
          refine r_aload_n (pc2 := 10) 0 dX8_lookAtAll_9 rfl rfl rfl rfl ?_
          refine r_getf (pc2 := 13) (v := .int (nI k)) fX8_59 dX8_lookAtAll_10 cq (by omega) rfl rfl ?_
          refine r_aload_n (pc2 := 14) 0 dX8_lookAtAll_13 rfl rfl rfl rfl ?_
          refine r_getf (pc2 := 17) (v := .int (nI R.length)) fX8_56 dX8_lookAtAll_14 cq (by omega) rfl rfl ?_
          refine r_icmp_ge (tgt := 31) (pc2 := 20) dX8_lookAtAll_17 (by decide) rfl (fun b17 => ?_) (fun b17 => ?_)
          · skip
            exact r_vret rfl dX8_lookAtAll_31 ⟨rfl, R, Kg, fb, hKe, hP, hL, hQ⟩
          · exact absurd (nI_le (by omega) (by omega)) b17
  refine Cn.go (ls := [.ref q, .float 0]) (by decide +kernel) rfl (Nat.le_of_ble_eq_true rfl) ?_
  refine r_iconst (pc2 := 1) (v := 0) dX8_lookAtAll_0 (by decide) rfl ?_
  refine r_cast (nI 0) (rfl) ?_
  refine r_istore_n (pc2 := 2) (ls2 := [.ref q, .int (nI 0)]) 1 dX8_lookAtAll_1 rfl (by decide) rfl rfl rfl ?_
  exact loop 24010 0 k h0 Q Kf fb (by omega) (by omega) hK PreL.rf hL GQ.rf
theorem dif_past : ∀ t, t < 16 → ∀ p, p < 16 → (dif t p = 0 ↔ p &&& t = t) := by decide +kernel
set_option maxRecDepth 20000 in
set_option maxHeartbeats 1000000 in
theorem c_isReached {E : EnvT} {d : Nat} {h0 : Hp} {Z : Nat → Prop} {reg : Nat → FR} {ns s sg kd : Nat} {a b : FR} {q x t : Nat} {wd wst wsd lk fd go gh op pa X T : Int32} (cq : h0.1 q = some (.inr (8, wkL q s wd wst wsd lk fd go gh op pa))) (hq : 139 ≤ q) (hD : DV Z h0 reg ns s sg kd b) (hA : AIN a) (hst : Stat a b) (hs : SG a x) (ht : t < 16) (eX : X = nI (cst x)) (eT : T = nI t) (hd : 2 ≤ d) : Cn E mX8_isReached d [.ref q, .int X, .int T] h0 (fun r h2 => r = some (.int (if byB a t x then (1 : Int32) else 0)) ∧ h2 = h0) := by
  subst eX eT
  have hcl := cst_lt hs hA.C
  have hcd := cst_d hs.dep
  have hd9 := hs.dep
  have hp16 : (pastN (a 1) x (a 3)) < 16 := pastN_16 (a 1) x hA.G
  obtain ⟨lo, so9, sa, nl, sl, cs⟩ := hD.cs
  by_cases hz : x / 4096 = 0
  · skip
    refine Cn.go (ls := [.ref q, .int (nI (cst x)), .int (nI t)]) (by decide +kernel) rfl (Nat.le_of_ble_eq_true rfl) ?_
    refine r_iload_n (pc2 := 1) 1 dX8_isReached_0 rfl rfl rfl ?_
    refine r_bipush (pc2 := 3) (v := 10) dX8_isReached_1 (by decide) rfl ?_
    refine r_irem (pc2 := 4) dX8_isReached_3 (by decide) rfl ?_
    refine r_cast (nI (x / 4096)) (by rw [rem10 (by omega), hcd.1]) ?_
    refine r_if_le (tgt := 29) (pc2 := 7) dX8_isReached_4 (by decide) rfl (fun b4 => ?_) (fun b4 => ?_)
    · skip
      refine r_iconst (pc2 := 30) (v := 0) dX8_isReached_29 (by decide) rfl ?_
      exact r_zret (ty := .boolean) rfl (by decide) dX8_isReached_30 ⟨by rw [if_neg (fun z => z.1 hz)], rfl⟩
    · exact absurd (by rw [hz]; decide) b4
  · by_cases hdf : dif t (pastN (a 1) x (a 3)) = 0
    · skip
      refine Cn.go (ls := [.ref q, .int (nI (cst x)), .int (nI t)]) (by decide +kernel) rfl (Nat.le_of_ble_eq_true rfl) ?_
      refine r_iload_n (pc2 := 1) 1 dX8_isReached_0 rfl rfl rfl ?_
      refine r_bipush (pc2 := 3) (v := 10) dX8_isReached_1 (by decide) rfl ?_
      refine r_irem (pc2 := 4) dX8_isReached_3 (by decide) rfl ?_
      refine r_cast (nI (x / 4096)) (by rw [rem10 (by omega), hcd.1]) ?_
      refine r_if_le (tgt := 29) (pc2 := 7) dX8_isReached_4 (by decide) rfl (fun b4 => ?_) (fun b4 => ?_)
      · exact absurd b4 (nI_nle (by omega) (by omega))
      · skip
        refine r_iload_n (pc2 := 8) 2 dX8_isReached_7 rfl rfl rfl ?_
        refine r_aload_n (pc2 := 9) 0 dX8_isReached_8 rfl rfl rfl rfl ?_
        refine r_getf (pc2 := 12) (v := .ref s) fX8_48 dX8_isReached_9 cq (by omega) rfl rfl ?_
        refine r_iload_n (pc2 := 13) 1 dX8_isReached_12 rfl rfl rfl ?_
        refine r_bipush (pc2 := 15) (v := 10) dX8_isReached_13 (by decide) rfl ?_
        refine r_idiv (pc2 := 16) dX8_isReached_15 (by decide) rfl ?_
        refine r_cast (nI (tws x)) (by rw [show (10 : Int32) = nI 10 from rfl, pk_div10 (by omega), hcd.2]) ?_
        refine r_callV1 (pc2 := 19) (As := [.int (nI (tws x))]) (st := [.int (nI t)]) kX8_121 rfl rfl dX8_isReached_16 cs hD.s64 rfl rfl (Nat.le_of_ble_eq_true rfl) (by omega) (c_pastQ (s := x) hD hst hs.2.1 rfl) rfl (fun h2 hq16 => ?_)
        obtain rfl := hq16.symm
        refine r_iconst (pc2 := 20) (v := -1) dX8_isReached_19 (by decide) rfl ?_
        refine r_ixor (pc2 := 21) dX8_isReached_20 rfl ?_
        refine r_iand (pc2 := 22) dX8_isReached_21 rfl ?_
        refine r_cast (nI (dif t (pastN (a 1) x (a 3)))) (dif_nI t ht _ hp16) ?_
        refine r_if_ne (tgt := 29) (pc2 := 25) dX8_isReached_22 (by decide) rfl (fun b22 => ?_) (fun b22 => ?_)
        · exact absurd (congrArg nI hdf) b22
        · skip
          refine r_iconst (pc2 := 26) (v := 1) dX8_isReached_25 (by decide) rfl ?_
          refine r_goto (pc2 := 30) dX8_isReached_26 (by decide) ?_
          exact r_zret (ty := .boolean) rfl (by decide) dX8_isReached_30 ⟨by rw [if_pos ⟨hz, (dif_past t ht _ hp16).mp hdf⟩], rfl⟩
    · skip
      refine Cn.go (ls := [.ref q, .int (nI (cst x)), .int (nI t)]) (by decide +kernel) rfl (Nat.le_of_ble_eq_true rfl) ?_
      refine r_iload_n (pc2 := 1) 1 dX8_isReached_0 rfl rfl rfl ?_
      refine r_bipush (pc2 := 3) (v := 10) dX8_isReached_1 (by decide) rfl ?_
      refine r_irem (pc2 := 4) dX8_isReached_3 (by decide) rfl ?_
      refine r_cast (nI (x / 4096)) (by rw [rem10 (by omega), hcd.1]) ?_
      refine r_if_le (tgt := 29) (pc2 := 7) dX8_isReached_4 (by decide) rfl (fun b4 => ?_) (fun b4 => ?_)
      · exact absurd b4 (nI_nle (by omega) (by omega))
      · skip
        refine r_iload_n (pc2 := 8) 2 dX8_isReached_7 rfl rfl rfl ?_
        refine r_aload_n (pc2 := 9) 0 dX8_isReached_8 rfl rfl rfl rfl ?_
        refine r_getf (pc2 := 12) (v := .ref s) fX8_48 dX8_isReached_9 cq (by omega) rfl rfl ?_
        refine r_iload_n (pc2 := 13) 1 dX8_isReached_12 rfl rfl rfl ?_
        refine r_bipush (pc2 := 15) (v := 10) dX8_isReached_13 (by decide) rfl ?_
        refine r_idiv (pc2 := 16) dX8_isReached_15 (by decide) rfl ?_
        refine r_cast (nI (tws x)) (by rw [show (10 : Int32) = nI 10 from rfl, pk_div10 (by omega), hcd.2]) ?_
        refine r_callV1 (pc2 := 19) (As := [.int (nI (tws x))]) (st := [.int (nI t)]) kX8_121 rfl rfl dX8_isReached_16 cs hD.s64 rfl rfl (Nat.le_of_ble_eq_true rfl) (by omega) (c_pastQ (s := x) hD hst hs.2.1 rfl) rfl (fun h2 hq16 => ?_)
        obtain rfl := hq16.symm
        refine r_iconst (pc2 := 20) (v := -1) dX8_isReached_19 (by decide) rfl ?_
        refine r_ixor (pc2 := 21) dX8_isReached_20 rfl ?_
        refine r_iand (pc2 := 22) dX8_isReached_21 rfl ?_
        refine r_cast (nI (dif t (pastN (a 1) x (a 3)))) (dif_nI t ht _ hp16) ?_
        refine r_if_ne (tgt := 29) (pc2 := 25) dX8_isReached_22 (by decide) rfl (fun b22 => ?_) (fun b22 => ?_)
        · skip
          refine r_iconst (pc2 := 30) (v := 0) dX8_isReached_29 (by decide) rfl ?_
          exact r_zret (ty := .boolean) rfl (by decide) dX8_isReached_30 ⟨by rw [if_neg (fun z => hdf ((dif_past t ht _ hp16).mpr z.2))], rfl⟩
        · exact absurd (nI_z0 (by have := dif_le t (pastN (a 1) x (a 3)); omega) b22) hdf
theorem by16 {z c : Nat} (hz : z < 24010) (hc : c < 16) : (nI (16 * z + c + 1) - 1) / 16 = nI z := by
  rw [nI_pred, show (16 : Int32) = nI 16 from rfl, pk_div (d := 16) (by omega) (by decide) (by decide)]
  exact congrArg nI (by omega)
theorem by16r {z c : Nat} (hz : z < 24010) (hc : c < 16) : nI (16 * z + c + 1) - 1 - (nI (16 * z + c + 1) - 1) / 16 * 16 = nI c := by
  rw [nI_pred, show (16 : Int32) = nI 16 from rfl, pk_rem (d := 16) (by omega) (by decide) (by decide)]
  exact congrArg nI (by omega)
set_option maxRecDepth 20000 in
set_option maxHeartbeats 1000000 in
theorem c_hoursOf {E : EnvT} {d : Nat} {h0 : Hp} {ok : Nat → Nat → Prop} {nx : Nat → Nat → Nat} {x0 q s n K x : Nat} {wd wst wsd lk fd go gh op pa X : Int32} {fb : Nat → Int32} (cq : h0.1 q = some (.inr (8, wkL q s wd wst wsd lk fd go gh op pa))) (cfb : h0.1 (q + 1) = some (aI 24010 fb)) (hq : 139 ≤ q) (hw : WB ok nx x0 fb n K x) (hn : n < 24010) (hcl : cst x < 24010) (eX : X = nI (cst x)) : Cn E mX8_hoursOf d [.ref q, .int X] h0 (fun r h2 => r = some (.int (nI n)) ∧ h2 = h0) := by
  subst eX
  have loop : ∀ (m e y K : Nat), e + m = n → WB ok nx x0 fb m K y → Fr E mX8_hoursOf d 9 [.ref q, .int (nI (cst x)), .int (nI e), .int (fb (cst y))] [] h0 (fun r h2 => r = some (.int (nI n)) ∧ h2 = h0) := by
    intro m
    induction m with
    | zero =>
      intro e y K he hw
      refine r_iload_n (pc2 := 10) 3 dX8_hoursOf_9 rfl rfl rfl ?_
      refine r_cast (-1) (hw.2.2) ?_
      refine r_if_le (tgt := 38) (pc2 := 13) dX8_hoursOf_10 (by decide) rfl (fun b10 => ?_) (fun b10 => ?_)
      · skip
        refine r_iload_n (pc2 := 39) 2 dX8_hoursOf_38 rfl rfl rfl ?_
        exact r_iret rfl dX8_hoursOf_39 ⟨congrArg (fun z => some (Value.int (nI z))) (by omega), rfl⟩
      · exact absurd b10 (by decide)
    | succ m ih =>
      intro e y K he hw
      obtain ⟨K2, y2, c, h1, h2, h3, h4, h5, h6, h7⟩ := hw
      refine r_iload_n (pc2 := 10) 3 dX8_hoursOf_9 rfl rfl rfl ?_
      refine r_cast (nI (16 * cst y2 + c + 1)) (h5) ?_
      refine r_if_le (tgt := 38) (pc2 := 13) dX8_hoursOf_10 (by decide) rfl (fun b10 => ?_) (fun b10 => ?_)
      · exact absurd b10 (nI_nle (by omega) (by omega))
      · skip
        refine r_iload_n (pc2 := 14) 2 dX8_hoursOf_13 rfl rfl rfl ?_
        refine r_sipush (pc2 := 17) (v := 24010) dX8_hoursOf_14 (by decide) rfl ?_
        refine r_icmp_ge (tgt := 38) (pc2 := 20) dX8_hoursOf_17 (by decide) rfl (fun b17 => ?_) (fun b17 => ?_)
        · exact absurd b17 (nI_ge (b := 24010) (by omega) (by decide))
        · skip
          refine r_aload_n (pc2 := 21) 0 dX8_hoursOf_20 rfl rfl rfl rfl ?_
          refine r_getf (pc2 := 24) (v := .ref (q + 1)) fX8_15 dX8_hoursOf_21 cq (by omega) rfl rfl ?_
          refine r_iload_n (pc2 := 25) 3 dX8_hoursOf_24 rfl rfl rfl ?_
          refine r_cast (nI (16 * cst y2 + c + 1)) (h5) ?_
          refine r_iconst (pc2 := 26) (v := 1) dX8_hoursOf_25 (by decide) rfl ?_
          refine r_isub (pc2 := 27) dX8_hoursOf_26 rfl ?_
          refine r_bipush (pc2 := 29) (v := 16) dX8_hoursOf_27 (by decide) rfl ?_
          refine r_idiv (pc2 := 30) dX8_hoursOf_29 (by decide) rfl ?_
          refine r_cast (nI (cst y2)) (by16 h6 h1) ?_
          refine r_ialdN (pc2 := 31) (cst y2) dX8_hoursOf_30 cfb (by omega) rfl h6 (by decide) rfl ?_
          refine r_topi (fun x31 e31 => ?_)
          refine r_istore_n (pc2 := 32) (ls2 := [.ref q, .int (nI (cst x)), .int (nI e), .int x31]) 3 dX8_hoursOf_31 rfl (by decide) rfl rfl rfl ?_
          obtain ⟨x32, e32⟩ : ∃ z : Int32, z = (nI e) + (1) := ⟨_, rfl⟩
          refine r_iinc (pc2 := 35) (ls2 := [.ref q, .int (nI (cst x)), .int x32, .int x31]) (v := x32) 2 dX8_hoursOf_32 rfl (by rw [e32]; rfl) rfl rfl rfl ?_
          refine r_goto (pc2 := 9) dX8_hoursOf_35 (by decide) ?_
          rw [e32, nI_1, e31]
          exact ih (e + 1) y2 K2 (by omega) h7
  refine Cn.go (ls := [.ref q, .int (nI (cst x)), .float 0, .float 0]) (by decide +kernel) rfl (Nat.le_of_ble_eq_true rfl) ?_
  refine r_iconst (pc2 := 1) (v := 0) dX8_hoursOf_0 (by decide) rfl ?_
  refine r_cast (nI 0) (rfl) ?_
  refine r_istore_n (pc2 := 2) (ls2 := [.ref q, .int (nI (cst x)), .int (nI 0), .float 0]) 2 dX8_hoursOf_1 rfl (by decide) rfl rfl rfl ?_
  refine r_aload_n (pc2 := 3) 0 dX8_hoursOf_2 rfl rfl rfl rfl ?_
  refine r_getf (pc2 := 6) (v := .ref (q + 1)) fX8_15 dX8_hoursOf_3 cq (by omega) rfl rfl ?_
  refine r_iload_n (pc2 := 7) 1 dX8_hoursOf_6 rfl rfl rfl ?_
  refine r_ialdN (pc2 := 8) (cst x) dX8_hoursOf_7 cfb (by omega) rfl hcl (by decide) rfl ?_
  refine r_topi (fun y0 e8 => ?_)
  refine r_istore_n (pc2 := 9) (ls2 := [.ref q, .int (nI (cst x)), .int (nI 0), .int y0]) 3 dX8_hoursOf_8 rfl (by decide) rfl rfl rfl ?_
  rw [e8]
  exact loop n 0 x K (by omega) hw
set_option maxRecDepth 20000 in
set_option maxHeartbeats 1000000 in
theorem c_stepsAt {E : EnvT} {d : Nat} {h0 : Hp} {ok : Nat → Nat → Prop} {nx : Nat → Nat → Nat} {x0 q s n x i : Nat} {l : List Nat} {wd wst wsd lk fd go gh op pa J : Int32} {fb : Nat → Int32} (cq : h0.1 q = some (.inr (8, wkL q s wd wst wsd lk fd go gh op pa))) (ego : go = nI (cst x)) (egh : gh = nI n) (cfb : h0.1 (q + 1) = some (aI 24010 fb)) (hq : 139 ≤ q) (hw : WB ok nx x0 fb n (cdw 1 l) x) (hl : l.length = n) (halD : alD l) (hn : n < 24010) (hi : i < n) (hcl : cst x < 24010) (eJ : J = nI i) : Cn E mX8_stepsAt d [.ref q, .int J] h0 (fun r h2 => r = some (.int (nI (l.getD i 0))) ∧ h2 = h0) := by
  subst eJ ego egh
  have hd16 : ∀ j, j < n → l.getD j 0 < 16 := by
    intro j hj
    exact halD (l.getD j 0) (getD_mem (by omega))
  have loop : ∀ (m y K : Nat), i ≤ m → m < n → WB ok nx x0 fb (m + 1) K y → K = cdw 1 (l.take (m + 1)) → Fr E mX8_stepsAt d 17 [.ref q, .int (nI i), .int (fb (cst y)), .int (nI m)] [] h0 (fun r h2 => r = some (.int (nI (l.getD i 0))) ∧ h2 = h0) := by
    intro m
    induction m with
    | zero =>
      intro y K hi2 hm hw hK
      obtain ⟨K2, y2, c, h1, h2, h3, h4, h5, h6, h7⟩ := hw
      rw [cdw_take (by omega)] at hK
      have hlt : l.getD 0 0 < 16 := hd16 0 (by omega)
      have hi0 : i = 0 := by omega
      subst hi0
      have hce : c = l.getD 0 0 := by omega
      refine r_iload_n (pc2 := 18) 3 dX8_stepsAt_17 rfl rfl rfl ?_
      refine r_iload_n (pc2 := 19) 1 dX8_stepsAt_18 rfl rfl rfl ?_
      refine r_icmp_le (tgt := 44) (pc2 := 22) dX8_stepsAt_19 (by decide) rfl (fun b19 => ?_) (fun b19 => ?_)
      · skip
        refine r_iload_n (pc2 := 45) 2 dX8_stepsAt_44 rfl rfl rfl ?_
        refine r_cast (nI (16 * cst y2 + c + 1)) (h5) ?_
        refine r_if_le (tgt := 57) (pc2 := 48) dX8_stepsAt_45 (by decide) rfl (fun b45 => ?_) (fun b45 => ?_)
        · exact absurd b45 (nI_nle (by omega) (by omega))
        · skip
          refine r_iload_n (pc2 := 49) 2 dX8_stepsAt_48 rfl rfl rfl ?_
          refine r_cast (nI (16 * cst y2 + c + 1)) (h5) ?_
          refine r_iconst (pc2 := 50) (v := 1) dX8_stepsAt_49 (by decide) rfl ?_
          refine r_isub (pc2 := 51) dX8_stepsAt_50 rfl ?_
          refine r_bipush (pc2 := 53) (v := 16) dX8_stepsAt_51 (by decide) rfl ?_
          refine r_irem (pc2 := 54) dX8_stepsAt_53 (by decide) rfl ?_
          refine r_cast (nI c) (by16r h6 h1) ?_
          refine r_goto (pc2 := 58) dX8_stepsAt_54 (by decide) ?_
          exact r_iret rfl dX8_stepsAt_58 ⟨by rw [hce], rfl⟩
      · exact absurd (nI_le (by omega) (by omega)) b19
    | succ m ih =>
      intro y K hi2 hm hw hK
      obtain ⟨K2, y2, c, h1, h2, h3, h4, h5, h6, h7⟩ := hw
      rw [cdw_take (by omega)] at hK
      have hlt : l.getD (m + 1) 0 < 16 := hd16 (m + 1) (by omega)
      by_cases hie : i = m + 1
      · subst hie
        have hce : c = l.getD (m + 1) 0 := by omega
        refine r_iload_n (pc2 := 18) 3 dX8_stepsAt_17 rfl rfl rfl ?_
        refine r_iload_n (pc2 := 19) 1 dX8_stepsAt_18 rfl rfl rfl ?_
        refine r_icmp_le (tgt := 44) (pc2 := 22) dX8_stepsAt_19 (by decide) rfl (fun b19 => ?_) (fun b19 => ?_)
        · skip
          refine r_iload_n (pc2 := 45) 2 dX8_stepsAt_44 rfl rfl rfl ?_
          refine r_cast (nI (16 * cst y2 + c + 1)) (h5) ?_
          refine r_if_le (tgt := 57) (pc2 := 48) dX8_stepsAt_45 (by decide) rfl (fun b45 => ?_) (fun b45 => ?_)
          · exact absurd b45 (nI_nle (by omega) (by omega))
          · skip
            refine r_iload_n (pc2 := 49) 2 dX8_stepsAt_48 rfl rfl rfl ?_
            refine r_cast (nI (16 * cst y2 + c + 1)) (h5) ?_
            refine r_iconst (pc2 := 50) (v := 1) dX8_stepsAt_49 (by decide) rfl ?_
            refine r_isub (pc2 := 51) dX8_stepsAt_50 rfl ?_
            refine r_bipush (pc2 := 53) (v := 16) dX8_stepsAt_51 (by decide) rfl ?_
            refine r_irem (pc2 := 54) dX8_stepsAt_53 (by decide) rfl ?_
            refine r_cast (nI c) (by16r h6 h1) ?_
            refine r_goto (pc2 := 58) dX8_stepsAt_54 (by decide) ?_
            exact r_iret rfl dX8_stepsAt_58 ⟨by rw [hce], rfl⟩
        · exact absurd (nI_le (by omega) (by omega)) b19
      · have hk2 : K2 = cdw 1 (l.take (m + 1)) := by omega
        refine r_iload_n (pc2 := 18) 3 dX8_stepsAt_17 rfl rfl rfl ?_
        refine r_iload_n (pc2 := 19) 1 dX8_stepsAt_18 rfl rfl rfl ?_
        refine r_icmp_le (tgt := 44) (pc2 := 22) dX8_stepsAt_19 (by decide) rfl (fun b19 => ?_) (fun b19 => ?_)
        · exact absurd b19 (nI_ge (by omega) (by omega))
        · skip
          refine r_iload_n (pc2 := 23) 2 dX8_stepsAt_22 rfl rfl rfl ?_
          refine r_cast (nI (16 * cst y2 + c + 1)) (h5) ?_
          refine r_if_le (tgt := 44) (pc2 := 26) dX8_stepsAt_23 (by decide) rfl (fun b23 => ?_) (fun b23 => ?_)
          · exact absurd b23 (nI_nle (by omega) (by omega))
          · skip
            refine r_aload_n (pc2 := 27) 0 dX8_stepsAt_26 rfl rfl rfl rfl ?_
            refine r_getf (pc2 := 30) (v := .ref (q + 1)) fX8_15 dX8_stepsAt_27 cq (by omega) rfl rfl ?_
            refine r_iload_n (pc2 := 31) 2 dX8_stepsAt_30 rfl rfl rfl ?_
            refine r_cast (nI (16 * cst y2 + c + 1)) (h5) ?_
            refine r_iconst (pc2 := 32) (v := 1) dX8_stepsAt_31 (by decide) rfl ?_
            refine r_isub (pc2 := 33) dX8_stepsAt_32 rfl ?_
            refine r_bipush (pc2 := 35) (v := 16) dX8_stepsAt_33 (by decide) rfl ?_
            refine r_idiv (pc2 := 36) dX8_stepsAt_35 (by decide) rfl ?_
            refine r_cast (nI (cst y2)) (by16 h6 h1) ?_
            refine r_ialdN (pc2 := 37) (cst y2) dX8_stepsAt_36 cfb (by omega) rfl h6 (by decide) rfl ?_
            refine r_topi (fun x37 e37 => ?_)
            refine r_istore_n (pc2 := 38) (ls2 := [.ref q, .int (nI i), .int x37, .int (nI (m + 1))]) 2 dX8_stepsAt_37 rfl (by decide) rfl rfl rfl ?_
            obtain ⟨x38, e38⟩ : ∃ z : Int32, z = (nI (m + 1)) + (-1) := ⟨_, rfl⟩
            refine r_iinc (pc2 := 41) (ls2 := [.ref q, .int (nI i), .int x37, .int x38]) (v := x38) 3 dX8_stepsAt_38 rfl (by rw [e38]; rfl) rfl rfl rfl ?_
            refine r_goto (pc2 := 17) dX8_stepsAt_41 (by decide) ?_
            rw [e37, show x38 = nI m from by rw [e38]; exact (addm1 _).trans (nI_pred m)]
            exact ih y2 K2 (by omega) (by omega) h7 hk2
  refine Cn.go (ls := [.ref q, .int (nI i), .float 0, .float 0]) (by decide +kernel) rfl (Nat.le_of_ble_eq_true rfl) ?_
  refine r_aload_n (pc2 := 1) 0 dX8_stepsAt_0 rfl rfl rfl rfl ?_
  refine r_getf (pc2 := 4) (v := .ref (q + 1)) fX8_15 dX8_stepsAt_1 cq (by omega) rfl rfl ?_
  refine r_aload_n (pc2 := 5) 0 dX8_stepsAt_4 rfl rfl rfl rfl ?_
  refine r_getf (pc2 := 8) (v := .int (nI (cst x))) fX8_112 dX8_stepsAt_5 cq (by omega) rfl rfl ?_
  refine r_ialdN (pc2 := 9) (cst x) dX8_stepsAt_8 cfb (by omega) rfl hcl (by decide) rfl ?_
  refine r_topi (fun x9 e9 => ?_)
  refine r_istore_n (pc2 := 10) (ls2 := [.ref q, .int (nI i), .int x9, .float 0]) 2 dX8_stepsAt_9 rfl (by decide) rfl rfl rfl ?_
  refine r_aload_n (pc2 := 11) 0 dX8_stepsAt_10 rfl rfl rfl rfl ?_
  refine r_getf (pc2 := 14) (v := .int (nI n)) fX8_118 dX8_stepsAt_11 cq (by omega) rfl rfl ?_
  refine r_iconst (pc2 := 15) (v := 1) dX8_stepsAt_14 (by decide) rfl ?_
  refine r_isub (pc2 := 16) dX8_stepsAt_15 rfl ?_
  refine r_cast (nI (n - 1)) (by rw [pm1 (by omega)]) ?_
  refine r_istore_n (pc2 := 17) (ls2 := [.ref q, .int (nI i), .int x9, .int (nI (n - 1))]) 3 dX8_stepsAt_16 rfl (by decide) rfl rfl rfl ?_
  rw [e9]
  exact loop (n - 1) x _ (by omega) (by omega) (by rw [show n - 1 + 1 = n by omega]; exact hw) (by rw [show n - 1 + 1 = n by omega, ← hl, List.take_length])
set_option maxRecDepth 20000 in
set_option maxHeartbeats 1000000 in
theorem c_hoursTo {E : EnvT} {d : Nat} {h0 : Hp} {Z : Nat → Prop} {reg : Nat → FR} {ns s sg kd : Nat} {a b : FR} {q : Nat} {wst wsd go gh : Int32} {fb : Nat → Int32} {Q : List Nat} {Kf : Nat → Nat} {k : Nat} {x t : Nat} {l : List Nat} {T : Int32} (hK : WKB a s q wst wsd go gh Q Kf fb k h0) (hW : WQ Z kd q) (hq7 : q + 7 < h0.2.1) (hL : LQ Z h0 reg ns s sg (a 27) kd b) (hA : AIN a) (hst : Stat a b) (ht : t < 16) (hX : FD a t (packS a) x) (hg : x < 268435456 → grd a t x (packS a) l) (eT : T = nI t) (hd : 5 ≤ d) : Cn E mX8_hoursTo d [.ref q, .int T] h0 (fun r h2 => r = some (.int (if x = 268435456 then -1 else nI x)) ∧ ∃ (Q2 : List Nat) (Kf2 : Nat → Nat) (fb2 : Nat → Int32) (k2 : Nat) (go2 gh2 : Int32), WKB a s q wst wsd go2 gh2 Q2 Kf2 fb2 k2 h2 ∧ LQ Z h2 reg ns s sg (a 27) kd b ∧ GQ [q, q + 1, q + 2, q + 5, q + 6, q + 7] kd h0 h2 kd ∧ (x < 268435456 → ∃ y, go2 = nI (cst y) ∧ gh2 = nI x ∧ cst y < 24010 ∧ WB (okS a) (nxS a) (packS a) fb2 x (cdw 1 l) y ∧ l.length = x ∧ alD l ∧ x < 24010)) := by
  subst eT
  obtain ⟨od, nz, sh, ps, op, pa, cq, cfb, cod, cnz, csh, cps, hz0, hB⟩ := id hK
  have hn0 := hL.dv.n
  have hk0 := hL.dv.k0
  have hq139 := hW.1
  have hqk := hW.2.1
  have hQl := hK.len hA.C
  obtain ⟨k9, ek9⟩ : ∃ k9, k9 = k := ⟨_, rfl⟩
  have loop : ∀ (m i e k : Nat) (h : Hp) (R : List Nat) (Kg : Nat → Nat) (fb : Nat → Int32), i + m = 48020 → i = e + (k - k9) → k9 ≤ k → e ≤ R.length → WKB a s q wst wsd go gh R Kg fb k h → (∀ j, j < e → ¬ byB a t (R.getD j 0)) → LQ Z h reg ns s sg (a 27) kd b → GQ [q, q + 1, q + 2, q + 5, q + 6, q + 7] kd h0 h kd → Fr E mX8_hoursTo d 4 [.ref q, .int (nI t), .int (nI e), .int (nI i)] [] h (fun r h2 => r = some (.int (if x = 268435456 then -1 else nI x)) ∧ ∃ (Q2 : List Nat) (Kf2 : Nat → Nat) (fb2 : Nat → Int32) (k2 : Nat) (go2 gh2 : Int32), WKB a s q wst wsd go2 gh2 Q2 Kf2 fb2 k2 h2 ∧ LQ Z h2 reg ns s sg (a 27) kd b ∧ GQ [q, q + 1, q + 2, q + 5, q + 6, q + 7] kd h0 h2 kd ∧ (x < 268435456 → ∃ y, go2 = nI (cst y) ∧ gh2 = nI x ∧ cst y < 24010 ∧ WB (okS a) (nxS a) (packS a) fb2 x (cdw 1 l) y ∧ l.length = x ∧ alD l ∧ x < 24010)) := by
    intro m
    induction m with
    | zero =>
      intro i e k h R Kg fb hi hie hk0k hel hK hno hL hQ
      have hR := hK.len hA.C
      obtain ⟨od, nz, sh, ps, op, pa, cq, cfb, cod, cnz, csh, cps, hz0, hB⟩ := id hK
      have hke : k = R.length := by omega
      have hxn : x = 268435456 := BF.none (hke ▸ hB) (fun j hj => hno j (by omega)) hX
      have hi48 : i = 48020 := by omega
      subst hi48
      refine r_iload_n (pc2 := 5) 3 dX8_hoursTo_4 rfl rfl rfl ?_
      refine r_ldc (pc2 := 7) (v := 48020) qX8_107 dX8_hoursTo_5 rfl ?_
      refine r_icmp_ge (tgt := 80) (pc2 := 10) dX8_hoursTo_7 (by decide) rfl (fun b7 => ?_) (fun b7 => ?_)
      · skip
        refine r_iconst (pc2 := 81) (v := -1) dX8_hoursTo_80 (by decide) rfl ?_
        exact r_iret rfl dX8_hoursTo_81 ⟨by rw [if_pos hxn], R, Kg, fb, k, go, gh, hK, hL, hQ, fun z => absurd z (by omega)⟩
      · exact absurd (by decide) b7
    | succ m ih =>
      intro i e k h R Kg fb hi hie hk0k hel hK hno hL hQ
      have hR := hK.len hA.C
      obtain ⟨od, nz, sh, ps, op, pa, cq, cfb, cod, cnz, csh, cps, hz0, hB⟩ := id hK
      by_cases he : e < R.length
      · have hse := (hB.1.2.1 _ (getD_mem he)).1
        have hcle := (hB.1.2.1 _ (getD_mem he)).2
        by_cases hby : byB a t (R.getD e 0)
        · have hgo := hB.goal hR.1 he hby hno hX hg
          have hal : alD l := by
            obtain ⟨u, u1, _⟩ := grd_vw _ _ _ (hg (by omega)) (by rcases hX with z | z; exact z.2.1; omega)
            exact vw_al _ _ _ u1
          refine r_iload_n (pc2 := 5) 3 dX8_hoursTo_4 rfl rfl rfl ?_
          refine r_ldc (pc2 := 7) (v := 48020) qX8_107 dX8_hoursTo_5 rfl ?_
          refine r_icmp_ge (tgt := 80) (pc2 := 10) dX8_hoursTo_7 (by decide) rfl (fun b7 => ?_) (fun b7 => ?_)
          · exact absurd b7 (nI_ge (b := 48020) (by omega) (by decide))
          · skip
            refine r_iload_n (pc2 := 11) 2 dX8_hoursTo_10 rfl rfl rfl ?_
            refine r_aload_n (pc2 := 12) 0 dX8_hoursTo_11 rfl rfl rfl rfl ?_
            refine r_getf (pc2 := 15) (v := .int (nI R.length)) fX8_56 dX8_hoursTo_12 cq (by omega) rfl rfl ?_
            refine r_icmp_ge (tgt := 65) (pc2 := 18) dX8_hoursTo_15 (by decide) rfl (fun b15 => ?_) (fun b15 => ?_)
            · exact absurd b15 (nI_ge he (by omega))
            · skip
              refine r_aload_n (pc2 := 19) 0 dX8_hoursTo_18 rfl rfl rfl rfl ?_
              refine r_aload_n (pc2 := 20) 0 dX8_hoursTo_19 rfl rfl rfl rfl ?_
              refine r_getf (pc2 := 23) (v := .ref (q + 2)) fX8_19 dX8_hoursTo_20 cq (by omega) rfl rfl ?_
              refine r_iload_n (pc2 := 24) 2 dX8_hoursTo_23 rfl rfl rfl ?_
              refine r_ialdN (pc2 := 25) e dX8_hoursTo_24 cod (by omega) rfl (by omega) (by decide) rfl ?_
              refine r_cast (nI (cst (R.getD e 0))) (hB.1.2.2.2.1 e he) ?_
              refine r_iload_n (pc2 := 26) 1 dX8_hoursTo_25 rfl rfl rfl ?_
              refine r_callV1 (pc2 := 29) (As := [.int (nI (cst (R.getD e 0))), .int (nI t)]) (st := []) kX8_108 rfl rfl dX8_hoursTo_26 cq (by omega) rfl rfl (Nat.le_of_ble_eq_true rfl) (by omega) ((c_isReached (x := (R.getD e 0)) cq hq139 hL.dv hA hst hse ht rfl rfl (by omega)).mono fun r h2 z => ⟨z.1.trans (by rw [if_pos hby]), z.2⟩) rfl (fun h2 hq26 => ?_)
              obtain rfl := hq26.symm
              refine r_if_eq (tgt := 59) (pc2 := 32) dX8_hoursTo_29 (by decide) rfl (fun b29 => ?_) (fun b29 => ?_)
              · exact absurd b29 (by decide)
              · skip
                refine r_aload_n (pc2 := 33) 0 dX8_hoursTo_32 rfl rfl rfl rfl ?_
                refine r_aload_n (pc2 := 34) 0 dX8_hoursTo_33 rfl rfl rfl rfl ?_
                refine r_getf (pc2 := 37) (v := .ref (q + 2)) fX8_19 dX8_hoursTo_34 cq (by omega) rfl rfl ?_
                refine r_iload_n (pc2 := 38) 2 dX8_hoursTo_37 rfl rfl rfl ?_
                refine r_ialdN (pc2 := 39) e dX8_hoursTo_38 cod (by omega) rfl (by omega) (by decide) rfl ?_
                refine r_cast (nI (cst (R.getD e 0))) (hB.1.2.2.2.1 e he) ?_
                refine r_putfX (pc2 := 42) [.ref 82, .ref s, .int (nI (a 27)), .int wst, .int wsd, .ref (q + 1), .ref (q + 2), .int (nI k), .int (nI R.length), .int (nI (cst (R.getD e 0))), .int gh, .ref (q + 3), .ref (q + 4), .ref (q + 5), .ref (q + 6), .ref (q + 7), .int op, .int pa] fX8_112 dX8_hoursTo_39 cq (by omega) (Nat.le_of_ble_eq_true rfl) rfl rfl rfl (fun h z39 o39 cq => ?_)
                have cfb := (o39 (q + 1) (by omega)).trans cfb
                have cod := (o39 (q + 2) (by omega)).trans cod
                have hxw : Ex [q] _ h := ⟨z39, fun y hy => o39 y (by simpa using hy)⟩
                have hL := hL.ex hxw (hW.off (by simp))
                have hQ := hQ.wr hxw (by simp)
                refine r_aload_n (pc2 := 43) 0 dX8_hoursTo_42 rfl rfl rfl rfl ?_
                refine r_aload_n (pc2 := 44) 0 dX8_hoursTo_43 rfl rfl rfl rfl ?_
                refine r_aload_n (pc2 := 45) 0 dX8_hoursTo_44 rfl rfl rfl rfl ?_
                refine r_getf (pc2 := 48) (v := .int (nI (cst (R.getD e 0)))) fX8_112 dX8_hoursTo_45 cq (by omega) rfl rfl ?_
                refine r_callV1 (pc2 := 51) (As := [.int (nI (cst (R.getD e 0)))]) (st := [.ref q]) kX8_115 rfl rfl dX8_hoursTo_48 cq (by omega) rfl rfl (Nat.le_of_ble_eq_true rfl) (by omega) (c_hoursOf (x := (R.getD e 0)) cq cfb hq139 hgo.2.1 hgo.1 hcle rfl) rfl (fun h2 hq48 => ?_)
                obtain rfl := hq48.symm
                refine r_putfX (pc2 := 54) [.ref 82, .ref s, .int (nI (a 27)), .int wst, .int wsd, .ref (q + 1), .ref (q + 2), .int (nI k), .int (nI R.length), .int (nI (cst (R.getD e 0))), .int (nI x), .ref (q + 3), .ref (q + 4), .ref (q + 5), .ref (q + 6), .ref (q + 7), .int op, .int pa] fX8_118 dX8_hoursTo_51 cq (by omega) (Nat.le_of_ble_eq_true rfl) rfl rfl rfl (fun h z51 o51 cq => ?_)
                have cfb := (o51 (q + 1) (by omega)).trans cfb
                have cod := (o51 (q + 2) (by omega)).trans cod
                have hxw : Ex [q] _ h := ⟨z51, fun y hy => o51 y (by simpa using hy)⟩
                have hL := hL.ex hxw (hW.off (by simp))
                have hQ := hQ.wr hxw (by simp)
                refine r_aload_n (pc2 := 55) 0 dX8_hoursTo_54 rfl rfl rfl rfl ?_
                refine r_getf (pc2 := 58) (v := .int (nI x)) fX8_118 dX8_hoursTo_55 cq (by omega) rfl rfl ?_
                exact r_iret rfl dX8_hoursTo_58 ⟨by rw [if_neg (by omega)], R, Kg, fb, k, _, _, ⟨od, nz, sh, ps, op, pa, cq, cfb, cod, (o51 (q + 5) (by omega)).trans ((o39 (q + 5) (by omega)).trans cnz), (o51 (q + 6) (by omega)).trans ((o39 (q + 6) (by omega)).trans csh), (o51 (q + 7) (by omega)).trans ((o39 (q + 7) (by omega)).trans cps), hz0, hB⟩, hL, hQ, fun _ => ⟨(R.getD e 0), rfl, rfl, hcle, hgo.2.1, hgo.2.2, hal, hgo.1⟩⟩
        · skip
          refine r_iload_n (pc2 := 5) 3 dX8_hoursTo_4 rfl rfl rfl ?_
          refine r_ldc (pc2 := 7) (v := 48020) qX8_107 dX8_hoursTo_5 rfl ?_
          refine r_icmp_ge (tgt := 80) (pc2 := 10) dX8_hoursTo_7 (by decide) rfl (fun b7 => ?_) (fun b7 => ?_)
          · exact absurd b7 (nI_ge (b := 48020) (by omega) (by decide))
          · skip
            refine r_iload_n (pc2 := 11) 2 dX8_hoursTo_10 rfl rfl rfl ?_
            refine r_aload_n (pc2 := 12) 0 dX8_hoursTo_11 rfl rfl rfl rfl ?_
            refine r_getf (pc2 := 15) (v := .int (nI R.length)) fX8_56 dX8_hoursTo_12 cq (by omega) rfl rfl ?_
            refine r_icmp_ge (tgt := 65) (pc2 := 18) dX8_hoursTo_15 (by decide) rfl (fun b15 => ?_) (fun b15 => ?_)
            · exact absurd b15 (nI_ge he (by omega))
            · skip
              refine r_aload_n (pc2 := 19) 0 dX8_hoursTo_18 rfl rfl rfl rfl ?_
              refine r_aload_n (pc2 := 20) 0 dX8_hoursTo_19 rfl rfl rfl rfl ?_
              refine r_getf (pc2 := 23) (v := .ref (q + 2)) fX8_19 dX8_hoursTo_20 cq (by omega) rfl rfl ?_
              refine r_iload_n (pc2 := 24) 2 dX8_hoursTo_23 rfl rfl rfl ?_
              refine r_ialdN (pc2 := 25) e dX8_hoursTo_24 cod (by omega) rfl (by omega) (by decide) rfl ?_
              refine r_cast (nI (cst (R.getD e 0))) (hB.1.2.2.2.1 e he) ?_
              refine r_iload_n (pc2 := 26) 1 dX8_hoursTo_25 rfl rfl rfl ?_
              refine r_callV1 (pc2 := 29) (As := [.int (nI (cst (R.getD e 0))), .int (nI t)]) (st := []) kX8_108 rfl rfl dX8_hoursTo_26 cq (by omega) rfl rfl (Nat.le_of_ble_eq_true rfl) (by omega) ((c_isReached (x := (R.getD e 0)) cq hq139 hL.dv hA hst hse ht rfl rfl (by omega)).mono fun r h2 z => ⟨z.1.trans (by rw [if_neg hby]), z.2⟩) rfl (fun h2 hq26 => ?_)
              obtain rfl := hq26.symm
              refine r_if_eq (tgt := 59) (pc2 := 32) dX8_hoursTo_29 (by decide) rfl (fun b29 => ?_) (fun b29 => ?_)
              · skip
                obtain ⟨x59, e59⟩ : ∃ z : Int32, z = (nI e) + (1) := ⟨_, rfl⟩
                refine r_iinc (pc2 := 62) (ls2 := [.ref q, .int (nI t), .int x59, .int (nI i)]) (v := x59) 2 dX8_hoursTo_59 rfl (by rw [e59]; rfl) rfl rfl rfl ?_
                refine r_goto (pc2 := 74) dX8_hoursTo_62 (by decide) ?_
                obtain ⟨x74, e74⟩ : ∃ z : Int32, z = (nI i) + (1) := ⟨_, rfl⟩
                refine r_iinc (pc2 := 77) (ls2 := [.ref q, .int (nI t), .int x59, .int x74]) (v := x74) 3 dX8_hoursTo_74 rfl (by rw [e74]; rfl) rfl rfl rfl ?_
                refine r_goto (pc2 := 4) dX8_hoursTo_77 (by decide) ?_
                rw [e59, nI_1, e74, nI_1]
                exact ih (i + 1) (e + 1) k h R Kg fb (by omega) (by omega) hk0k (by omega) hK (fun j hj => by rcases Nat.lt_succ_iff_lt_or_eq.mp hj with z | z; exact hno j z; rw [z]; exact hby) hL hQ
              · exact absurd b29 (by decide)
      · by_cases hkl : k < R.length
        · skip
          refine r_iload_n (pc2 := 5) 3 dX8_hoursTo_4 rfl rfl rfl ?_
          refine r_ldc (pc2 := 7) (v := 48020) qX8_107 dX8_hoursTo_5 rfl ?_
          refine r_icmp_ge (tgt := 80) (pc2 := 10) dX8_hoursTo_7 (by decide) rfl (fun b7 => ?_) (fun b7 => ?_)
          · exact absurd b7 (nI_ge (b := 48020) (by omega) (by decide))
          · skip
            refine r_iload_n (pc2 := 11) 2 dX8_hoursTo_10 rfl rfl rfl ?_
            refine r_aload_n (pc2 := 12) 0 dX8_hoursTo_11 rfl rfl rfl rfl ?_
            refine r_getf (pc2 := 15) (v := .int (nI R.length)) fX8_56 dX8_hoursTo_12 cq (by omega) rfl rfl ?_
            refine r_icmp_ge (tgt := 65) (pc2 := 18) dX8_hoursTo_15 (by decide) rfl (fun b15 => ?_) (fun b15 => ?_)
            · skip
              refine r_aload_n (pc2 := 66) 0 dX8_hoursTo_65 rfl rfl rfl rfl ?_
              refine r_callV1 (pc2 := 69) (As := []) (st := []) kX8_103 rfl rfl dX8_hoursTo_66 cq (by omega) rfl rfl (Nat.le_of_ble_eq_true rfl) (by omega) (c_lookOnB hK hW (by have := hQ.2.1; omega) hL hA hst hkl (by omega)) rfl (fun h hq66 => ?_)
              obtain ⟨Q2, Kf2, fb2, hK2, hP2, hL, hQ2⟩ := hq66
              have hQ := hQ.trans hQ2 hn0
              refine r_if_ne (tgt := 74) (pc2 := 72) dX8_hoursTo_69 (by decide) rfl (fun b69 => ?_) (fun b69 => ?_)
              · skip
                obtain ⟨x74, e74⟩ : ∃ z : Int32, z = (nI i) + (1) := ⟨_, rfl⟩
                refine r_iinc (pc2 := 77) (ls2 := [.ref q, .int (nI t), .int (nI e), .int x74]) (v := x74) 3 dX8_hoursTo_74 rfl (by rw [e74]; rfl) rfl rfl rfl ?_
                refine r_goto (pc2 := 4) dX8_hoursTo_77 (by decide) ?_
                rw [e74, nI_1]
                exact ih (i + 1) e (k + 1) h Q2 Kf2 fb2 (by omega) (by omega) (by omega) (by have := hP2.1; omega) hK2 (fun j hj => by rw [hP2.2 j (by omega)]; exact hno j hj) hL hQ
              · exact absurd b69 (by decide)
            · exact absurd (nI_le (by omega) (by omega)) b15
        · have hke : k = R.length := by omega
          have hxn : x = 268435456 := BF.none (hke ▸ hB) (fun j hj => hno j (by omega)) hX
          refine r_iload_n (pc2 := 5) 3 dX8_hoursTo_4 rfl rfl rfl ?_
          refine r_ldc (pc2 := 7) (v := 48020) qX8_107 dX8_hoursTo_5 rfl ?_
          refine r_icmp_ge (tgt := 80) (pc2 := 10) dX8_hoursTo_7 (by decide) rfl (fun b7 => ?_) (fun b7 => ?_)
          · exact absurd b7 (nI_ge (b := 48020) (by omega) (by decide))
          · skip
            refine r_iload_n (pc2 := 11) 2 dX8_hoursTo_10 rfl rfl rfl ?_
            refine r_aload_n (pc2 := 12) 0 dX8_hoursTo_11 rfl rfl rfl rfl ?_
            refine r_getf (pc2 := 15) (v := .int (nI R.length)) fX8_56 dX8_hoursTo_12 cq (by omega) rfl rfl ?_
            refine r_icmp_ge (tgt := 65) (pc2 := 18) dX8_hoursTo_15 (by decide) rfl (fun b15 => ?_) (fun b15 => ?_)
            · skip
              refine r_aload_n (pc2 := 66) 0 dX8_hoursTo_65 rfl rfl rfl rfl ?_
              refine r_callV1 (pc2 := 69) (As := []) (st := []) kX8_103 rfl rfl dX8_hoursTo_66 cq (by omega) rfl rfl (Nat.le_of_ble_eq_true rfl) (by omega) (c_lookOn0 hK hW (by have := hQ.2.1; omega) hL hA hst (by omega)) rfl (fun h2 hq66 => ?_)
              obtain rfl := hq66.symm
              refine r_if_ne (tgt := 74) (pc2 := 72) dX8_hoursTo_69 (by decide) rfl (fun b69 => ?_) (fun b69 => ?_)
              · exact absurd b69 (by decide)
              · skip
                refine r_iconst (pc2 := 73) (v := -1) dX8_hoursTo_72 (by decide) rfl ?_
                exact r_iret rfl dX8_hoursTo_73 ⟨by rw [if_pos hxn], R, Kg, fb, k, go, gh, hK, hL, hQ, fun z => absurd z (by omega)⟩
            · exact absurd (nI_le (by omega) (by omega)) b15
  refine Cn.go (ls := [.ref q, .int (nI t), .float 0, .float 0]) (by decide +kernel) rfl (Nat.le_of_ble_eq_true rfl) ?_
  refine r_iconst (pc2 := 1) (v := 0) dX8_hoursTo_0 (by decide) rfl ?_
  refine r_cast (nI 0) (rfl) ?_
  refine r_istore_n (pc2 := 2) (ls2 := [.ref q, .int (nI t), .int (nI 0), .float 0]) 2 dX8_hoursTo_1 rfl (by decide) rfl rfl rfl ?_
  refine r_iconst (pc2 := 3) (v := 0) dX8_hoursTo_2 (by decide) rfl ?_
  refine r_cast (nI 0) (rfl) ?_
  refine r_istore_n (pc2 := 4) (ls2 := [.ref q, .int (nI t), .int (nI 0), .int (nI 0)]) 3 dX8_hoursTo_3 rfl (by decide) rfl rfl rfl ?_
  exact loop 48020 0 0 k h0 Q Kf fb (by omega) (by omega) (by omega) (Nat.zero_le _) hK (fun j hj => absurd hj (Nat.not_lt_zero _)) hL GQ.rf
