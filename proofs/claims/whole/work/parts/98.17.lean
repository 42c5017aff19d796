/-! the class: walks: everPast, greatestDepth, greatestPast -/
theorem CANk.z (a : FR) (Q : List Nat) : CANk a Q 0 0 := fun g => by
  rw [Nat.zero_testBit]
  exact ⟨fun z => absurd z (by decide), fun ⟨i, hi, _⟩ => absurd hi (Nat.not_lt_zero _)⟩
theorem DEEPk.z (Q : List Nat) : DEEPk Q 0 0 := ⟨fun i hi => absurd hi (Nat.not_lt_zero _), Or.inl rfl⟩
def optN (mo : Option Nat) : Nat := match mo with
  | none => 0
  | some b => b
theorem MOk.lt {a : FR} {Q : List Nat} {k : Nat} {mo : Option Nat} (h : MOk a Q k mo) : optN mo < 16 := by
  match mo with
  | none => show 0 < 16; omega
  | some b => exact h.1
theorem pop_0 : ∀ s, s < 16 → popN s = 0 → s = 0 := by decide +kernel
theorem nI_subgt {x y : Nat} (hx : x ≤ 4) (hy : y ≤ 4) : (0 < nI x - nI y ↔ y < x) ∧ (nI x - nI y = 0 ↔ x = y) := by
  have : ∀ x, x < 5 → ∀ y, y < 5 → (0 < nI x - nI y ↔ y < x) ∧ (nI x - nI y = 0 ↔ x = y) := by decide +kernel
  exact this x (by omega) y (by omega)
/-- one more stand: the set that is kept -/
theorem MOk.go {a : FR} {Q : List Nat} {k : Nat} {mo : Option Nat} {t : Nat} (h : MOk a Q k mo) (hG : a 3 ≤ 4) (ht : t = if Q.getD k 0 / 4096 = 0 then 0 else pastN (a 1) (Q.getD k 0) (a 3)) : ∃ mo2, MOk a Q (k + 1) mo2 ∧ optN mo2 = if popN (optN mo) < popN t ∨ (popN t = popN (optN mo) ∧ t < optN mo) then t else optN mo := by
  have hl := h.lt
  by_cases hz : Q.getD k 0 / 4096 = 0
  · rw [if_pos hz] at ht
    refine ⟨mo, h.skip hz, ?_⟩
    rw [if_neg]
    intro q
    rw [ht] at q
    rcases q with q | q
    · exact absurd q (Nat.not_lt.mpr (Nat.le_trans (show popN 0 ≤ 0 by decide) (Nat.zero_le _)))
    · have := pop_0 _ hl (q.1.symm.trans (by decide)); omega
  · rw [if_neg hz] at ht
    have ht16 : t < 16 := by rw [ht]; exact pastN_16 _ _ hG
    match mo with
    | none =>
      refine ⟨some t, ?_, ?_⟩
      · rw [ht]; exact h.new hG hz (fun b e => by cases e)
      · show t = if popN 0 < popN t ∨ (popN t = popN 0 ∧ t < 0) then t else 0
        by_cases q : popN t = 0
        · rw [pop_0 t ht16 q]; rw [ite_self]
        · have p0 : popN 0 = 0 := (by decide)
          rw [if_pos (Or.inl (show popN 0 < popN t by omega))]
    | some c =>
      show ∃ mo2, MOk a Q (k + 1) mo2 ∧ optN mo2 = if popN c < popN t ∨ (popN t = popN c ∧ t < c) then t else c
      by_cases q : popN c < popN t ∨ (popN t = popN c ∧ t < c)
      · refine ⟨some t, ?_, by rw [if_pos q]; rfl⟩
        rw [ht]
        exact h.new hG hz (fun b e => by cases e; rw [← ht]; unfold bett; omega)
      · refine ⟨some c, h.stay (by rw [← ht]; unfold bett; omega), by rw [if_neg q]; rfl⟩
set_option maxRecDepth 20000 in
set_option maxHeartbeats 1000000 in
theorem c_everPast {E : EnvT} {d : Nat} {h0 : Hp} {Z : Nat → Prop} {reg : Nat → FR} {ns s sg kd : Nat} {a b : FR} {q : Nat} {wst wsd go gh : Int32} {fb : Nat → Int32} {Q : List Nat} {Kf : Nat → Nat} {x : Nat} (hK : WKB a s q wst wsd go gh Q Kf fb Q.length h0) (hq139 : 139 ≤ q) (hD : DV Z h0 reg ns s sg kd b) (hA : AIN a) (hst : Stat a b) (hX : CANr a x) (hd : 2 ≤ d) : Cn E mX8_everPast d [.ref q] h0 (fun r h2 => r = some (.int (nI x)) ∧ h2 = h0) := by
  obtain ⟨od, nz, sh, ps, op, pa, cq, cfb, cod, cnz, csh, cps, hz0, hB⟩ := id hK
  have hQl := hK.len hA.C
  have hm := hB.all
  obtain ⟨lo, so9, sa, nl, sl, cs⟩ := hD.cs
  have loop : ∀ (m i r : Nat), i + m = Q.length → CANk a Q i r → Fr E mX8_everPast d 4 [.ref q, .int (nI r), .int (nI i)] [] h0 (fun r h2 => r = some (.int (nI x)) ∧ h2 = h0) := by
    intro m
    induction m with
    | zero =>
      intro i r hi hc
      have hie : i = Q.length := by omega
      refine r_iload_n (pc2 := 5) 2 dX8_everPast_4 rfl rfl rfl ?_
      refine r_aload_n (pc2 := 6) 0 dX8_everPast_5 rfl rfl rfl rfl ?_
      refine r_getf (pc2 := 9) (v := .int (nI Q.length)) fX8_56 dX8_everPast_6 cq (by omega) rfl rfl ?_
      refine r_icmp_ge (tgt := 49) (pc2 := 12) dX8_everPast_9 (by decide) rfl (fun b9 => ?_) (fun b9 => ?_)
      · skip
        refine r_iload_n (pc2 := 50) 1 dX8_everPast_49 rfl rfl rfl ?_
        exact r_iret rfl dX8_everPast_50 ⟨by rw [CANk.un (r := r) (show CANk a Q Q.length r from hie ▸ hc) hm hX], rfl⟩
      · exact absurd (nI_le (by omega) (by omega)) b9
    | succ m ih =>
      intro i r hi hc
      have hlt : i < Q.length := by omega
      have hs := (hB.1.2.1 _ (getD_mem hlt)).1
      have hcl := (hB.1.2.1 _ (getD_mem hlt)).2
      have hcd := cst_d hs.dep
      have hd9 := hs.dep
      by_cases hz : (Q.getD i 0) / 4096 = 0
      · skip
        refine r_iload_n (pc2 := 5) 2 dX8_everPast_4 rfl rfl rfl ?_
        refine r_aload_n (pc2 := 6) 0 dX8_everPast_5 rfl rfl rfl rfl ?_
        refine r_getf (pc2 := 9) (v := .int (nI Q.length)) fX8_56 dX8_everPast_6 cq (by omega) rfl rfl ?_
        refine r_icmp_ge (tgt := 49) (pc2 := 12) dX8_everPast_9 (by decide) rfl (fun b9 => ?_) (fun b9 => ?_)
        · exact absurd b9 (nI_ge hlt (by omega))
        · skip
          refine r_aload_n (pc2 := 13) 0 dX8_everPast_12 rfl rfl rfl rfl ?_
          refine r_getf (pc2 := 16) (v := .ref (q + 2)) fX8_19 dX8_everPast_13 cq (by omega) rfl rfl ?_
          refine r_iload_n (pc2 := 17) 2 dX8_everPast_16 rfl rfl rfl ?_
          refine r_ialdN (pc2 := 18) i dX8_everPast_17 cod (by omega) rfl (by omega) (by decide) rfl ?_
          refine r_cast (nI (cst (Q.getD i 0))) (hB.1.2.2.2.1 i hlt) ?_
          refine r_bipush (pc2 := 20) (v := 10) dX8_everPast_18 (by decide) rfl ?_
          refine r_irem (pc2 := 21) dX8_everPast_20 (by decide) rfl ?_
          refine r_cast (nI ((Q.getD i 0) / 4096)) (by rw [rem10 (by omega), hcd.1]) ?_
          refine r_if_le (tgt := 43) (pc2 := 24) dX8_everPast_21 (by decide) rfl (fun b21 => ?_) (fun b21 => ?_)
          · skip
            obtain ⟨x43, e43⟩ : ∃ z : Int32, z = (nI i) + (1) := ⟨_, rfl⟩
            refine r_iinc (pc2 := 46) (ls2 := [.ref q, .int (nI r), .int x43]) (v := x43) 2 dX8_everPast_43 rfl (by rw [e43]; rfl) rfl rfl rfl ?_
            refine r_goto (pc2 := 4) dX8_everPast_46 (by decide) ?_
            rw [e43, nI_1]
            exact ih (i + 1) r (by omega) (by have := hc.s; rw [if_pos hz, Nat.or_zero] at this; exact this)
          · exact absurd (by rw [hz]; decide) b21
      · skip
        refine r_iload_n (pc2 := 5) 2 dX8_everPast_4 rfl rfl rfl ?_
        refine r_aload_n (pc2 := 6) 0 dX8_everPast_5 rfl rfl rfl rfl ?_
        refine r_getf (pc2 := 9) (v := .int (nI Q.length)) fX8_56 dX8_everPast_6 cq (by omega) rfl rfl ?_
        refine r_icmp_ge (tgt := 49) (pc2 := 12) dX8_everPast_9 (by decide) rfl (fun b9 => ?_) (fun b9 => ?_)
        · exact absurd b9 (nI_ge hlt (by omega))
        · skip
          refine r_aload_n (pc2 := 13) 0 dX8_everPast_12 rfl rfl rfl rfl ?_
          refine r_getf (pc2 := 16) (v := .ref (q + 2)) fX8_19 dX8_everPast_13 cq (by omega) rfl rfl ?_
          refine r_iload_n (pc2 := 17) 2 dX8_everPast_16 rfl rfl rfl ?_
          refine r_ialdN (pc2 := 18) i dX8_everPast_17 cod (by omega) rfl (by omega) (by decide) rfl ?_
          refine r_cast (nI (cst (Q.getD i 0))) (hB.1.2.2.2.1 i hlt) ?_
          refine r_bipush (pc2 := 20) (v := 10) dX8_everPast_18 (by decide) rfl ?_
          refine r_irem (pc2 := 21) dX8_everPast_20 (by decide) rfl ?_
          refine r_cast (nI ((Q.getD i 0) / 4096)) (by rw [rem10 (by omega), hcd.1]) ?_
          refine r_if_le (tgt := 43) (pc2 := 24) dX8_everPast_21 (by decide) rfl (fun b21 => ?_) (fun b21 => ?_)
          · exact absurd b21 (nI_nle (by omega) (by omega))
          · skip
            refine r_iload_n (pc2 := 25) 1 dX8_everPast_24 rfl rfl rfl ?_
            refine r_aload_n (pc2 := 26) 0 dX8_everPast_25 rfl rfl rfl rfl ?_
            refine r_getf (pc2 := 29) (v := .ref s) fX8_48 dX8_everPast_26 cq (by omega) rfl rfl ?_
            refine r_aload_n (pc2 := 30) 0 dX8_everPast_29 rfl rfl rfl rfl ?_
            refine r_getf (pc2 := 33) (v := .ref (q + 2)) fX8_19 dX8_everPast_30 cq (by omega) rfl rfl ?_
            refine r_iload_n (pc2 := 34) 2 dX8_everPast_33 rfl rfl rfl ?_
            refine r_ialdN (pc2 := 35) i dX8_everPast_34 cod (by omega) rfl (by omega) (by decide) rfl ?_
            refine r_cast (nI (cst (Q.getD i 0))) (hB.1.2.2.2.1 i hlt) ?_
            refine r_bipush (pc2 := 37) (v := 10) dX8_everPast_35 (by decide) rfl ?_
            refine r_idiv (pc2 := 38) dX8_everPast_37 (by decide) rfl ?_
            refine r_cast (nI (tws (Q.getD i 0))) (by rw [show (10 : Int32) = nI 10 from rfl, pk_div10 (by omega), hcd.2]) ?_
            refine r_callV1 (pc2 := 41) (As := [.int (nI (tws (Q.getD i 0)))]) (st := [.int (nI r)]) kX8_121 rfl rfl dX8_everPast_38 cs hD.s64 rfl rfl (Nat.le_of_ble_eq_true rfl) (by omega) (c_pastQ (s := (Q.getD i 0)) hD hst hs.2.1 rfl) rfl (fun h2 hq38 => ?_)
            obtain rfl := hq38.symm
            refine r_ior (pc2 := 42) dX8_everPast_41 rfl ?_
            refine r_cast (nI (r ||| (pastN (a 1) (Q.getD i 0) (a 3)))) (nI_or _ _) ?_
            refine r_istore_n (pc2 := 43) (ls2 := [.ref q, .int (nI (r ||| (pastN (a 1) (Q.getD i 0) (a 3)))), .int (nI i)]) 1 dX8_everPast_42 rfl (by decide) rfl rfl rfl ?_
            obtain ⟨x43, e43⟩ : ∃ z : Int32, z = (nI i) + (1) := ⟨_, rfl⟩
            refine r_iinc (pc2 := 46) (ls2 := [.ref q, .int (nI (r ||| (pastN (a 1) (Q.getD i 0) (a 3)))), .int x43]) (v := x43) 2 dX8_everPast_43 rfl (by rw [e43]; rfl) rfl rfl rfl ?_
            refine r_goto (pc2 := 4) dX8_everPast_46 (by decide) ?_
            rw [e43, nI_1]
            exact ih (i + 1) (r ||| (pastN (a 1) (Q.getD i 0) (a 3))) (by omega) (by have := hc.s; rw [if_neg hz] at this; exact this)
  refine Cn.go (ls := [.ref q, .float 0, .float 0]) (by decide +kernel) rfl (Nat.le_of_ble_eq_true rfl) ?_
  refine r_iconst (pc2 := 1) (v := 0) dX8_everPast_0 (by decide) rfl ?_
  refine r_cast (nI 0) (rfl) ?_
  refine r_istore_n (pc2 := 2) (ls2 := [.ref q, .int (nI 0), .float 0]) 1 dX8_everPast_1 rfl (by decide) rfl rfl rfl ?_
  refine r_iconst (pc2 := 3) (v := 0) dX8_everPast_2 (by decide) rfl ?_
  refine r_cast (nI 0) (rfl) ?_
  refine r_istore_n (pc2 := 4) (ls2 := [.ref q, .int (nI 0), .int (nI 0)]) 2 dX8_everPast_3 rfl (by decide) rfl rfl rfl ?_
  exact loop Q.length 0 0 (by omega) (CANk.z a Q)
set_option maxRecDepth 20000 in
set_option maxHeartbeats 1000000 in
theorem c_greatestDepth {E : EnvT} {d : Nat} {h0 : Hp} {Z : Nat → Prop} {reg : Nat → FR} {ns s sg kd : Nat} {a b : FR} {q : Nat} {wst wsd go gh : Int32} {fb : Nat → Int32} {Q : List Nat} {Kf : Nat → Nat} {x : Nat} (hK : WKB a s q wst wsd go gh Q Kf fb Q.length h0) (hq139 : 139 ≤ q) (hD : DV Z h0 reg ns s sg kd b) (hA : AIN a) (hst : Stat a b) (hX : DEEPr a x) (hd : 2 ≤ d) : Cn E mX8_greatestDepth d [.ref q] h0 (fun r h2 => r = some (.int (nI x)) ∧ h2 = h0) := by
  obtain ⟨od, nz, sh, ps, op, pa, cq, cfb, cod, cnz, csh, cps, hz0, hB⟩ := id hK
  have hQl := hK.len hA.C
  have hm := hB.all
  obtain ⟨lo, so9, sa, nl, sl, cs⟩ := hD.cs
  have loop : ∀ (m i r : Nat), i + m = Q.length → (DEEPk Q i r ∧ r ≤ 9) → Fr E mX8_greatestDepth d 4 [.ref q, .int (nI r), .int (nI i)] [] h0 (fun r h2 => r = some (.int (nI x)) ∧ h2 = h0) := by
    intro m
    induction m with
    | zero =>
      intro i r hi hc
      have hie : i = Q.length := by omega
      refine r_iload_n (pc2 := 5) 2 dX8_greatestDepth_4 rfl rfl rfl ?_
      refine r_aload_n (pc2 := 6) 0 dX8_greatestDepth_5 rfl rfl rfl rfl ?_
      refine r_getf (pc2 := 9) (v := .int (nI Q.length)) fX8_56 dX8_greatestDepth_6 cq (by omega) rfl rfl ?_
      refine r_icmp_ge (tgt := 32) (pc2 := 12) dX8_greatestDepth_9 (by decide) rfl (fun b9 => ?_) (fun b9 => ?_)
      · skip
        refine r_iload_n (pc2 := 33) 1 dX8_greatestDepth_32 rfl rfl rfl ?_
        exact r_iret rfl dX8_greatestDepth_33 ⟨by rw [DEEPk.un (m := r) (show DEEPk Q Q.length r from hie ▸ hc.1) hm hX], rfl⟩
      · exact absurd (nI_le (by omega) (by omega)) b9
    | succ m ih =>
      intro i r hi hc
      have hlt : i < Q.length := by omega
      have hs := (hB.1.2.1 _ (getD_mem hlt)).1
      have hcl := (hB.1.2.1 _ (getD_mem hlt)).2
      have hcd := cst_d hs.dep
      have hd9 := hs.dep
      refine r_iload_n (pc2 := 5) 2 dX8_greatestDepth_4 rfl rfl rfl ?_
      refine r_aload_n (pc2 := 6) 0 dX8_greatestDepth_5 rfl rfl rfl rfl ?_
      refine r_getf (pc2 := 9) (v := .int (nI Q.length)) fX8_56 dX8_greatestDepth_6 cq (by omega) rfl rfl ?_
      refine r_icmp_ge (tgt := 32) (pc2 := 12) dX8_greatestDepth_9 (by decide) rfl (fun b9 => ?_) (fun b9 => ?_)
      · exact absurd b9 (nI_ge hlt (by omega))
      · skip
        refine r_iload_n (pc2 := 13) 1 dX8_greatestDepth_12 rfl rfl rfl ?_
        refine r_aload_n (pc2 := 14) 0 dX8_greatestDepth_13 rfl rfl rfl rfl ?_
        refine r_getf (pc2 := 17) (v := .ref (q + 2)) fX8_19 dX8_greatestDepth_14 cq (by omega) rfl rfl ?_
        refine r_iload_n (pc2 := 18) 2 dX8_greatestDepth_17 rfl rfl rfl ?_
        refine r_ialdN (pc2 := 19) i dX8_greatestDepth_18 cod (by omega) rfl (by omega) (by decide) rfl ?_
        refine r_cast (nI (cst (Q.getD i 0))) (hB.1.2.2.2.1 i hlt) ?_
        refine r_bipush (pc2 := 21) (v := 10) dX8_greatestDepth_19 (by decide) rfl ?_
        refine r_irem (pc2 := 22) dX8_greatestDepth_21 (by decide) rfl ?_
        refine r_cast (nI ((Q.getD i 0) / 4096)) (by rw [rem10 (by omega), hcd.1]) ?_
        refine r_callS1 (pc2 := 25) (As := [.int (nI r), .int (nI ((Q.getD i 0) / 4096))]) (st := []) kX8_124 dX8_greatestDepth_22 rfl rfl (Nat.le_of_ble_eq_true rfl) (by omega) ((c_max _ _).mono fun r h2 z => ⟨z.1.trans (by rw [maxNN (by omega) (by omega)]), z.2⟩) rfl (fun h2 hq22 => ?_)
        obtain rfl := hq22.symm
        refine r_istore_n (pc2 := 26) (ls2 := [.ref q, .int (nI (max r ((Q.getD i 0) / 4096))), .int (nI i)]) 1 dX8_greatestDepth_25 rfl (by decide) rfl rfl rfl ?_
        obtain ⟨x26, e26⟩ : ∃ z : Int32, z = (nI i) + (1) := ⟨_, rfl⟩
        refine r_iinc (pc2 := 29) (ls2 := [.ref q, .int (nI (max r ((Q.getD i 0) / 4096))), .int x26]) (v := x26) 2 dX8_greatestDepth_26 rfl (by rw [e26]; rfl) rfl rfl rfl ?_
        refine r_goto (pc2 := 4) dX8_greatestDepth_29 (by decide) ?_
        rw [e26, nI_1]
        exact ih (i + 1) _ (by omega) ⟨by have := hc.1.s; rw [show max r ((Q.getD i 0) / 4096) = if r < (Q.getD i 0) / 4096 then (Q.getD i 0) / 4096 else r by split <;> omega]; exact this, by have := hc.2; omega⟩
  refine Cn.go (ls := [.ref q, .float 0, .float 0]) (by decide +kernel) rfl (Nat.le_of_ble_eq_true rfl) ?_
  refine r_iconst (pc2 := 1) (v := 0) dX8_greatestDepth_0 (by decide) rfl ?_
  refine r_cast (nI 0) (rfl) ?_
  refine r_istore_n (pc2 := 2) (ls2 := [.ref q, .int (nI 0), .float 0]) 1 dX8_greatestDepth_1 rfl (by decide) rfl rfl rfl ?_
  refine r_iconst (pc2 := 3) (v := 0) dX8_greatestDepth_2 (by decide) rfl ?_
  refine r_cast (nI 0) (rfl) ?_
  refine r_istore_n (pc2 := 4) (ls2 := [.ref q, .int (nI 0), .int (nI 0)]) 2 dX8_greatestDepth_3 rfl (by decide) rfl rfl rfl ?_
  exact loop Q.length 0 0 (by omega) ⟨DEEPk.z Q, by omega⟩
set_option maxRecDepth 20000 in
set_option maxHeartbeats 1000000 in
theorem c_greatestPast {E : EnvT} {d : Nat} {h0 : Hp} {Z : Nat → Prop} {reg : Nat → FR} {ns s sg kd : Nat} {a b : FR} {q : Nat} {wst wsd go gh : Int32} {fb : Nat → Int32} {Q : List Nat} {Kf : Nat → Nat} {x : Option Nat} (hK : WKB a s q wst wsd go gh Q Kf fb Q.length h0) (hq139 : 139 ≤ q) (hD : DV Z h0 reg ns s sg kd b) (hA : AIN a) (hst : Stat a b) (hX : MOSTr a x) (hd : 2 ≤ d) : Cn E mX8_greatestPast d [.ref q] h0 (fun r h2 => r = some (.int (nI (optN x))) ∧ h2 = h0) := by
  obtain ⟨od, nz, sh, ps, op, pa, cq, cfb, cod, cnz, csh, cps, hz0, hB⟩ := id hK
  have hQl := hK.len hA.C
  have hm := hB.all
  obtain ⟨lo, so9, sa, nl, sl, cs⟩ := hD.cs
  have loop : ∀ (m i : Nat) (mo : Option Nat) (u3 u4 : Value), i + m = Q.length → MOk a Q i mo → Fr E mX8_greatestPast d 4 [.ref q, .int (nI (optN mo)), .int (nI i), u3, u4] [] h0 (fun r h2 => r = some (.int (nI (optN x))) ∧ h2 = h0) := by
    intro m
    induction m with
    | zero =>
      intro i mo u3 u4 hi hc
      have hie : i = Q.length := by omega
      refine r_iload_n (pc2 := 5) 2 dX8_greatestPast_4 rfl rfl rfl ?_
      refine r_aload_n (pc2 := 6) 0 dX8_greatestPast_5 rfl rfl rfl rfl ?_
      refine r_getf (pc2 := 9) (v := .int (nI Q.length)) fX8_56 dX8_greatestPast_6 cq (by omega) rfl rfl ?_
      refine r_icmp_ge (tgt := 79) (pc2 := 12) dX8_greatestPast_9 (by decide) rfl (fun b9 => ?_) (fun b9 => ?_)
      · skip
        refine r_iload_n (pc2 := 80) 1 dX8_greatestPast_79 rfl rfl rfl ?_
        exact r_iret rfl dX8_greatestPast_80 ⟨by rw [MOk.un (mo := mo) (show MOk a Q Q.length mo from hie ▸ hc) hm hX], rfl⟩
      · exact absurd (nI_le (by omega) (by omega)) b9
    | succ m ih =>
      intro i mo u3 u4 hi hc
      have hlt : i < Q.length := by omega
      have hs := (hB.1.2.1 _ (getD_mem hlt)).1
      have hcl := (hB.1.2.1 _ (getD_mem hlt)).2
      have hcd := cst_d hs.dep
      have hd9 := hs.dep
      have hol := hc.lt
      have hG := hA.G
      have tl : ∀ (t : Nat) (u4 : Value), t = (if (Q.getD i 0) / 4096 = 0 then 0 else (pastN (a 1) (Q.getD i 0) (a 3))) → Fr E mX8_greatestPast d 45 [.ref q, .int (nI (optN mo)), .int (nI i), .int (nI t), u4] [] h0 (fun r h2 => r = some (.int (nI (optN x))) ∧ h2 = h0) := by
        intro t u4 ht
        have ht16 : t < 16 := by
          rw [ht]
          split
          · omega
          · exact pastN_16 _ _ hG
        obtain ⟨mo2, hc2, eo⟩ := hc.go hG ht
        by_cases hgt : popN (optN mo) < popN t
        · skip
          refine r_iload_n (pc2 := 46) 3 dX8_greatestPast_45 rfl rfl rfl ?_
          refine r_callS1 (pc2 := 49) (As := [.int (nI t)]) (st := []) kX8_87 dX8_greatestPast_46 rfl rfl (Nat.le_of_ble_eq_true rfl) (by omega) (c_bitCount (s := t) (by omega)) rfl (fun h2 hq46 => ?_)
          obtain rfl := hq46.symm
          refine r_iload_n (pc2 := 50) 1 dX8_greatestPast_49 rfl rfl rfl ?_
          refine r_callS1 (pc2 := 53) (As := [.int (nI (optN mo))]) (st := [.int (nI (popN t))]) kX8_87 dX8_greatestPast_50 rfl rfl (Nat.le_of_ble_eq_true rfl) (by omega) (c_bitCount (s := (optN mo)) (by omega)) rfl (fun h2 hq50 => ?_)
          obtain rfl := hq50.symm
          refine r_isub (pc2 := 54) dX8_greatestPast_53 rfl ?_
          refine r_topi (fun x54 e54 => ?_)
          refine r_istore (pc2 := 56) (ls2 := [.ref q, .int (nI (optN mo)), .int (nI i), .int (nI t), .int x54]) 4 dX8_greatestPast_54 (by decide) rfl rfl rfl ?_
          refine r_iload (pc2 := 58) 4 dX8_greatestPast_56 rfl rfl ?_
          refine r_if_gt (tgt := 71) (pc2 := 61) dX8_greatestPast_58 (by decide) rfl (fun b58 => ?_) (fun b58 => ?_)
          · skip
            refine r_iload_n (pc2 := 72) 3 dX8_greatestPast_71 rfl rfl rfl ?_
            refine r_istore_n (pc2 := 73) (ls2 := [.ref q, .int (nI t), .int (nI i), .int (nI t), .int x54]) 1 dX8_greatestPast_72 rfl (by decide) rfl rfl rfl ?_
            obtain ⟨x73, e73⟩ : ∃ z : Int32, z = (nI i) + (1) := ⟨_, rfl⟩
            refine r_iinc (pc2 := 76) (ls2 := [.ref q, .int (nI t), .int x73, .int (nI t), .int x54]) (v := x73) 2 dX8_greatestPast_73 rfl (by rw [e73]; rfl) rfl rfl rfl ?_
            refine r_goto (pc2 := 4) dX8_greatestPast_76 (by decide) ?_
            rw [e73, nI_1]
            have t9 := ih (i + 1) mo2 (.int (nI t)) (.int x54) (by omega) hc2
            rw [eo, if_pos (Or.inl hgt)] at t9
            exact t9
          · exact absurd (e54 ▸ ((nI_subgt (popN_le t) (popN_le (optN mo))).1).mpr hgt) b58
        · by_cases heq : popN t = popN (optN mo)
          · by_cases hlt2 : t < optN mo
            · skip
              refine r_iload_n (pc2 := 46) 3 dX8_greatestPast_45 rfl rfl rfl ?_
              refine r_callS1 (pc2 := 49) (As := [.int (nI t)]) (st := []) kX8_87 dX8_greatestPast_46 rfl rfl (Nat.le_of_ble_eq_true rfl) (by omega) (c_bitCount (s := t) (by omega)) rfl (fun h2 hq46 => ?_)
              obtain rfl := hq46.symm
              refine r_iload_n (pc2 := 50) 1 dX8_greatestPast_49 rfl rfl rfl ?_
              refine r_callS1 (pc2 := 53) (As := [.int (nI (optN mo))]) (st := [.int (nI (popN t))]) kX8_87 dX8_greatestPast_50 rfl rfl (Nat.le_of_ble_eq_true rfl) (by omega) (c_bitCount (s := (optN mo)) (by omega)) rfl (fun h2 hq50 => ?_)
              obtain rfl := hq50.symm
              refine r_isub (pc2 := 54) dX8_greatestPast_53 rfl ?_
              refine r_topi (fun x54 e54 => ?_)
              refine r_istore (pc2 := 56) (ls2 := [.ref q, .int (nI (optN mo)), .int (nI i), .int (nI t), .int x54]) 4 dX8_greatestPast_54 (by decide) rfl rfl rfl ?_
              refine r_iload (pc2 := 58) 4 dX8_greatestPast_56 rfl rfl ?_
              refine r_if_gt (tgt := 71) (pc2 := 61) dX8_greatestPast_58 (by decide) rfl (fun b58 => ?_) (fun b58 => ?_)
              · exact absurd (((nI_subgt (popN_le t) (popN_le (optN mo))).1).mp (e54 ▸ b58)) (by omega)
              · skip
                refine r_iload (pc2 := 63) 4 dX8_greatestPast_61 rfl rfl ?_
                refine r_if_ne (tgt := 73) (pc2 := 66) dX8_greatestPast_63 (by decide) rfl (fun b63 => ?_) (fun b63 => ?_)
                · exact absurd (e54 ▸ ((nI_subgt (popN_le t) (popN_le (optN mo))).2).mpr heq) b63
                · skip
                  refine r_iload_n (pc2 := 67) 3 dX8_greatestPast_66 rfl rfl rfl ?_
                  refine r_iload_n (pc2 := 68) 1 dX8_greatestPast_67 rfl rfl rfl ?_
                  refine r_icmp_ge (tgt := 73) (pc2 := 71) dX8_greatestPast_68 (by decide) rfl (fun b68 => ?_) (fun b68 => ?_)
                  · exact absurd b68 (nI_ge hlt2 (by omega))
                  · skip
                    refine r_iload_n (pc2 := 72) 3 dX8_greatestPast_71 rfl rfl rfl ?_
                    refine r_istore_n (pc2 := 73) (ls2 := [.ref q, .int (nI t), .int (nI i), .int (nI t), .int x54]) 1 dX8_greatestPast_72 rfl (by decide) rfl rfl rfl ?_
                    obtain ⟨x73, e73⟩ : ∃ z : Int32, z = (nI i) + (1) := ⟨_, rfl⟩
                    refine r_iinc (pc2 := 76) (ls2 := [.ref q, .int (nI t), .int x73, .int (nI t), .int x54]) (v := x73) 2 dX8_greatestPast_73 rfl (by rw [e73]; rfl) rfl rfl rfl ?_
                    refine r_goto (pc2 := 4) dX8_greatestPast_76 (by decide) ?_
                    rw [e73, nI_1]
                    have t9 := ih (i + 1) mo2 (.int (nI t)) (.int x54) (by omega) hc2
                    rw [eo, if_pos (Or.inr ⟨heq, hlt2⟩)] at t9
                    exact t9
            · skip
              refine r_iload_n (pc2 := 46) 3 dX8_greatestPast_45 rfl rfl rfl ?_
              refine r_callS1 (pc2 := 49) (As := [.int (nI t)]) (st := []) kX8_87 dX8_greatestPast_46 rfl rfl (Nat.le_of_ble_eq_true rfl) (by omega) (c_bitCount (s := t) (by omega)) rfl (fun h2 hq46 => ?_)
              obtain rfl := hq46.symm
              refine r_iload_n (pc2 := 50) 1 dX8_greatestPast_49 rfl rfl rfl ?_
              refine r_callS1 (pc2 := 53) (As := [.int (nI (optN mo))]) (st := [.int (nI (popN t))]) kX8_87 dX8_greatestPast_50 rfl rfl (Nat.le_of_ble_eq_true rfl) (by omega) (c_bitCount (s := (optN mo)) (by omega)) rfl (fun h2 hq50 => ?_)
              obtain rfl := hq50.symm
              refine r_isub (pc2 := 54) dX8_greatestPast_53 rfl ?_
              refine r_topi (fun x54 e54 => ?_)
              refine r_istore (pc2 := 56) (ls2 := [.ref q, .int (nI (optN mo)), .int (nI i), .int (nI t), .int x54]) 4 dX8_greatestPast_54 (by decide) rfl rfl rfl ?_
              refine r_iload (pc2 := 58) 4 dX8_greatestPast_56 rfl rfl ?_
              refine r_if_gt (tgt := 71) (pc2 := 61) dX8_greatestPast_58 (by decide) rfl (fun b58 => ?_) (fun b58 => ?_)
              · exact absurd (((nI_subgt (popN_le t) (popN_le (optN mo))).1).mp (e54 ▸ b58)) (by omega)
              · skip
                refine r_iload (pc2 := 63) 4 dX8_greatestPast_61 rfl rfl ?_
                refine r_if_ne (tgt := 73) (pc2 := 66) dX8_greatestPast_63 (by decide) rfl (fun b63 => ?_) (fun b63 => ?_)
                · exact absurd (e54 ▸ ((nI_subgt (popN_le t) (popN_le (optN mo))).2).mpr heq) b63
                · skip
                  refine r_iload_n (pc2 := 67) 3 dX8_greatestPast_66 rfl rfl rfl ?_
                  refine r_iload_n (pc2 := 68) 1 dX8_greatestPast_67 rfl rfl rfl ?_
                  refine r_icmp_ge (tgt := 73) (pc2 := 71) dX8_greatestPast_68 (by decide) rfl (fun b68 => ?_) (fun b68 => ?_)
                  · skip
                    obtain ⟨x73, e73⟩ : ∃ z : Int32, z = (nI i) + (1) := ⟨_, rfl⟩
                    refine r_iinc (pc2 := 76) (ls2 := [.ref q, .int (nI (optN mo)), .int x73, .int (nI t), .int x54]) (v := x73) 2 dX8_greatestPast_73 rfl (by rw [e73]; rfl) rfl rfl rfl ?_
                    refine r_goto (pc2 := 4) dX8_greatestPast_76 (by decide) ?_
                    rw [e73, nI_1]
                    have t9 := ih (i + 1) mo2 (.int (nI t)) (.int x54) (by omega) hc2
                    rw [eo, if_neg (by omega)] at t9
                    exact t9
                  · exact absurd (nI_le (by omega) (by omega)) b68
          · skip
            refine r_iload_n (pc2 := 46) 3 dX8_greatestPast_45 rfl rfl rfl ?_
            refine r_callS1 (pc2 := 49) (As := [.int (nI t)]) (st := []) kX8_87 dX8_greatestPast_46 rfl rfl (Nat.le_of_ble_eq_true rfl) (by omega) (c_bitCount (s := t) (by omega)) rfl (fun h2 hq46 => ?_)
            obtain rfl := hq46.symm
            refine r_iload_n (pc2 := 50) 1 dX8_greatestPast_49 rfl rfl rfl ?_
            refine r_callS1 (pc2 := 53) (As := [.int (nI (optN mo))]) (st := [.int (nI (popN t))]) kX8_87 dX8_greatestPast_50 rfl rfl (Nat.le_of_ble_eq_true rfl) (by omega) (c_bitCount (s := (optN mo)) (by omega)) rfl (fun h2 hq50 => ?_)
            obtain rfl := hq50.symm
            refine r_isub (pc2 := 54) dX8_greatestPast_53 rfl ?_
            refine r_topi (fun x54 e54 => ?_)
            refine r_istore (pc2 := 56) (ls2 := [.ref q, .int (nI (optN mo)), .int (nI i), .int (nI t), .int x54]) 4 dX8_greatestPast_54 (by decide) rfl rfl rfl ?_
            refine r_iload (pc2 := 58) 4 dX8_greatestPast_56 rfl rfl ?_
            refine r_if_gt (tgt := 71) (pc2 := 61) dX8_greatestPast_58 (by decide) rfl (fun b58 => ?_) (fun b58 => ?_)
            · exact absurd (((nI_subgt (popN_le t) (popN_le (optN mo))).1).mp (e54 ▸ b58)) (by omega)
            · skip
              refine r_iload (pc2 := 63) 4 dX8_greatestPast_61 rfl rfl ?_
              refine r_if_ne (tgt := 73) (pc2 := 66) dX8_greatestPast_63 (by decide) rfl (fun b63 => ?_) (fun b63 => ?_)
              · skip
                obtain ⟨x73, e73⟩ : ∃ z : Int32, z = (nI i) + (1) := ⟨_, rfl⟩
                refine r_iinc (pc2 := 76) (ls2 := [.ref q, .int (nI (optN mo)), .int x73, .int (nI t), .int x54]) (v := x73) 2 dX8_greatestPast_73 rfl (by rw [e73]; rfl) rfl rfl rfl ?_
                refine r_goto (pc2 := 4) dX8_greatestPast_76 (by decide) ?_
                rw [e73, nI_1]
                have t9 := ih (i + 1) mo2 (.int (nI t)) (.int x54) (by omega) hc2
                rw [eo, if_neg (by omega)] at t9
                exact t9
              · exact absurd (((nI_subgt (popN_le t) (popN_le (optN mo))).2).mp (e54 ▸ b63)) (by omega)
      by_cases hz : (Q.getD i 0) / 4096 = 0
      · skip
        refine r_iload_n (pc2 := 5) 2 dX8_greatestPast_4 rfl rfl rfl ?_
        refine r_aload_n (pc2 := 6) 0 dX8_greatestPast_5 rfl rfl rfl rfl ?_
        refine r_getf (pc2 := 9) (v := .int (nI Q.length)) fX8_56 dX8_greatestPast_6 cq (by omega) rfl rfl ?_
        refine r_icmp_ge (tgt := 79) (pc2 := 12) dX8_greatestPast_9 (by decide) rfl (fun b9 => ?_) (fun b9 => ?_)
        · exact absurd b9 (nI_ge hlt (by omega))
        · skip
          refine r_aload_n (pc2 := 13) 0 dX8_greatestPast_12 rfl rfl rfl rfl ?_
          refine r_getf (pc2 := 16) (v := .ref (q + 2)) fX8_19 dX8_greatestPast_13 cq (by omega) rfl rfl ?_
          refine r_iload_n (pc2 := 17) 2 dX8_greatestPast_16 rfl rfl rfl ?_
          refine r_ialdN (pc2 := 18) i dX8_greatestPast_17 cod (by omega) rfl (by omega) (by decide) rfl ?_
          refine r_cast (nI (cst (Q.getD i 0))) (hB.1.2.2.2.1 i hlt) ?_
          refine r_bipush (pc2 := 20) (v := 10) dX8_greatestPast_18 (by decide) rfl ?_
          refine r_irem (pc2 := 21) dX8_greatestPast_20 (by decide) rfl ?_
          refine r_cast (nI ((Q.getD i 0) / 4096)) (by rw [rem10 (by omega), hcd.1]) ?_
          refine r_if_le (tgt := 43) (pc2 := 24) dX8_greatestPast_21 (by decide) rfl (fun b21 => ?_) (fun b21 => ?_)
          · skip
            refine r_iconst (pc2 := 44) (v := 0) dX8_greatestPast_43 (by decide) rfl ?_
            refine r_cast (nI 0) (rfl) ?_
            refine r_istore_n (pc2 := 45) (ls2 := [.ref q, .int (nI (optN mo)), .int (nI i), .int (nI 0), u4]) 3 dX8_greatestPast_44 rfl (by decide) rfl rfl rfl ?_
            exact tl 0 u4 (by rw [if_pos hz])
          · exact absurd (by rw [hz]; decide) b21
      · skip
        refine r_iload_n (pc2 := 5) 2 dX8_greatestPast_4 rfl rfl rfl ?_
        refine r_aload_n (pc2 := 6) 0 dX8_greatestPast_5 rfl rfl rfl rfl ?_
        refine r_getf (pc2 := 9) (v := .int (nI Q.length)) fX8_56 dX8_greatestPast_6 cq (by omega) rfl rfl ?_
        refine r_icmp_ge (tgt := 79) (pc2 := 12) dX8_greatestPast_9 (by decide) rfl (fun b9 => ?_) (fun b9 => ?_)
        · exact absurd b9 (nI_ge hlt (by omega))
        · skip
          refine r_aload_n (pc2 := 13) 0 dX8_greatestPast_12 rfl rfl rfl rfl ?_
          refine r_getf (pc2 := 16) (v := .ref (q + 2)) fX8_19 dX8_greatestPast_13 cq (by omega) rfl rfl ?_
          refine r_iload_n (pc2 := 17) 2 dX8_greatestPast_16 rfl rfl rfl ?_
          refine r_ialdN (pc2 := 18) i dX8_greatestPast_17 cod (by omega) rfl (by omega) (by decide) rfl ?_
          refine r_cast (nI (cst (Q.getD i 0))) (hB.1.2.2.2.1 i hlt) ?_
          refine r_bipush (pc2 := 20) (v := 10) dX8_greatestPast_18 (by decide) rfl ?_
          refine r_irem (pc2 := 21) dX8_greatestPast_20 (by decide) rfl ?_
          refine r_cast (nI ((Q.getD i 0) / 4096)) (by rw [rem10 (by omega), hcd.1]) ?_
          refine r_if_le (tgt := 43) (pc2 := 24) dX8_greatestPast_21 (by decide) rfl (fun b21 => ?_) (fun b21 => ?_)
          · exact absurd b21 (nI_nle (by omega) (by omega))
          · skip
            refine r_aload_n (pc2 := 25) 0 dX8_greatestPast_24 rfl rfl rfl rfl ?_
            refine r_getf (pc2 := 28) (v := .ref s) fX8_48 dX8_greatestPast_25 cq (by omega) rfl rfl ?_
            refine r_aload_n (pc2 := 29) 0 dX8_greatestPast_28 rfl rfl rfl rfl ?_
            refine r_getf (pc2 := 32) (v := .ref (q + 2)) fX8_19 dX8_greatestPast_29 cq (by omega) rfl rfl ?_
            refine r_iload_n (pc2 := 33) 2 dX8_greatestPast_32 rfl rfl rfl ?_
            refine r_ialdN (pc2 := 34) i dX8_greatestPast_33 cod (by omega) rfl (by omega) (by decide) rfl ?_
            refine r_cast (nI (cst (Q.getD i 0))) (hB.1.2.2.2.1 i hlt) ?_
            refine r_bipush (pc2 := 36) (v := 10) dX8_greatestPast_34 (by decide) rfl ?_
            refine r_idiv (pc2 := 37) dX8_greatestPast_36 (by decide) rfl ?_
            refine r_cast (nI (tws (Q.getD i 0))) (by rw [show (10 : Int32) = nI 10 from rfl, pk_div10 (by omega), hcd.2]) ?_
            refine r_callV1 (pc2 := 40) (As := [.int (nI (tws (Q.getD i 0)))]) (st := []) kX8_121 rfl rfl dX8_greatestPast_37 cs hD.s64 rfl rfl (Nat.le_of_ble_eq_true rfl) (by omega) (c_pastQ (s := (Q.getD i 0)) hD hst hs.2.1 rfl) rfl (fun h2 hq37 => ?_)
            obtain rfl := hq37.symm
            refine r_goto (pc2 := 44) dX8_greatestPast_40 (by decide) ?_
            refine r_istore_n (pc2 := 45) (ls2 := [.ref q, .int (nI (optN mo)), .int (nI i), .int (nI (pastN (a 1) (Q.getD i 0) (a 3))), u4]) 3 dX8_greatestPast_44 rfl (by decide) rfl rfl rfl ?_
            exact tl (pastN (a 1) (Q.getD i 0) (a 3)) u4 (by rw [if_neg hz])
  refine Cn.go (ls := [.ref q, .float 0, .float 0, .float 0, .float 0]) (by decide +kernel) rfl (Nat.le_of_ble_eq_true rfl) ?_
  refine r_iconst (pc2 := 1) (v := 0) dX8_greatestPast_0 (by decide) rfl ?_
  refine r_cast (nI 0) (rfl) ?_
  refine r_istore_n (pc2 := 2) (ls2 := [.ref q, .int (nI 0), .float 0, .float 0, .float 0]) 1 dX8_greatestPast_1 rfl (by decide) rfl rfl rfl ?_
  refine r_iconst (pc2 := 3) (v := 0) dX8_greatestPast_2 (by decide) rfl ?_
  refine r_cast (nI 0) (rfl) ?_
  refine r_istore_n (pc2 := 4) (ls2 := [.ref q, .int (nI 0), .int (nI 0), .float 0, .float 0]) 2 dX8_greatestPast_3 rfl (by decide) rfl rfl rfl ?_
  exact loop Q.length 0 none _ _ (by omega) (fun i hi => absurd hi (Nat.not_lt_zero _))
