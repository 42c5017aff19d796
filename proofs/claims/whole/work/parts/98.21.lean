/-! the class: soonest, way, can, most, deepest, stands -/
def wkIn (wk : Value) (y : Nat) : Prop := ∃ q : Nat, wk = .ref q ∧ q ≤ y ∧ y ≤ q + 7
def FrW (T : List Nat) (wk : Value) (kd : Nat) (h0 h2 : Hp) : Prop := h0.2.1 ≤ h2.2.1 ∧ ∀ y, y < h0.2.1 → y ∉ T → y ≠ 64 → ¬ wkIn wk y → (y ≠ 82 ∧ y ≠ 87 ∧ y ≠ 88 ∧ y ≠ 89 ∧ y ≠ kd) → h2.1 y = h0.1 y
/-- the answer of a call that walks -/
def QWk (T : List Nat) (Z : Nat → Prop) (reg : Nat → FR) (s ns sg w1 w2 : Nat) (wk dt : Value) (h0 : Hp) (kd : Nat) (a b : FR) (r0 : Value) : Option Value → Hp → Prop := fun r h2 => r = some r0 ∧ ∃ (wk2 : Value) (kd2 : Nat), RmE 0 0 h0 h2 wk dt kd wk2 dt kd2 ∧ MKw Z h2 reg ns kd2 wk2 ∧ DV Z h2 reg ns s sg kd2 b ∧ FrW T wk kd h0 h2 ∧ NW h2 s ns w1 w2 wk2 dt a
theorem RmE.rf {c e : Nat} {h : Hp} {wk dt : Value} {kd : Nat} : RmE c e h h wk dt kd wk dt kd := ⟨Nat.le_refl _, Nat.le_add_right _ _, Nat.le_add_right _ _, Or.inl rfl, fun z => z⟩
theorem QWk.same {T : List Nat} {Z : Nat → Prop} {reg : Nat → FR} {s ns sg w1 w2 : Nat} {wk dt : Value} {h0 : Hp} {kd : Nat} {a b : FR} {r0 : Value} (hM : MKw Z h0 reg ns kd wk) (hD : DV Z h0 reg ns s sg kd b) (hN : NW h0 s ns w1 w2 wk dt a) : QWk T Z reg s ns sg w1 w2 wk dt h0 kd a b r0 (some r0) h0 := ⟨rfl, wk, kd, RmE.rf, hM, hD, ⟨Nat.le_refl _, fun _ _ _ _ _ _ => rfl⟩, hN⟩
theorem WKR.fin {T : List Nat} {Z : Nat → Prop} {reg : Nat → FR} {s ns sg w1 w2 : Nat} {wk dt : Value} {h0 h1 h2 : Hp} {kd : Nat} {a b : FR} {r0 : Value} {q kd2 : Nat} {go gh : Int32} {Q : List Nat} {Kf : Nat → Nat} {fb : Nat → Int32} {k : Nat} {rt rh : Nat → Int64} (hR : WKR T Z s ns w1 w2 wk dt h0 kd a q kd2 h1) (hL1 : LQ Z h1 reg ns s sg (a 27) kd2 b) (hQ : GQ [q, q + 1, q + 2, q + 5, q + 6, q + 7] kd2 h1 h2 kd2) (hK : WKB a s q (nI (tws (packS a))) (nI (a 26)) go gh Q Kf fb k h2) (crt : h1.1 (q + 3) = some (aL 24010 rt)) (crh : h1.1 (q + 4) = some (aL 10 rh)) (hrt : ∀ x, x < 24010 → rt x = 0) (hL2 : LQ Z h2 reg ns s sg (a 27) kd2 b) (hA : AIN a) (hst : Stat a b) (hN : NW h0 s ns w1 w2 wk dt a) (hT : ∀ y ∈ T, 109 ≤ y ∧ y ≤ 116) (hn0 : 139 ≤ h0.2.1) (hk0 : kd = 0 ∨ 139 ≤ kd) : QWk T Z reg s ns sg w1 w2 wk dt h0 kd a b r0 (some r0) h2 := by
  have hq139 := hR.1.1
  have hqk := hR.1.2.1
  have hq7 := hR.2.1
  have hg := hQ.2.1
  have hS := hR.step hQ (fun y m => Or.inl (by simp at m; omega)) hL1.dv.n hL1.dv.k0
  have hW : WKP Z h2 reg ns q := hK.keep (by omega) (hQ.get (by omega) (by simp) (by omega) crt) (hQ.get (by omega) (by simp) (by omega) crh) hrt hL2 hA hst
  obtain ⟨s1, s2, s3, s4, s5, s6, s7⟩ := hS
  have hF : FrW T wk kd h0 h2 := ⟨s5.1, fun y hy hyT h64 hw h5 => s5.2 y hy (fun m => by
    rcases List.mem_append.mp m with z | z
    · exact hyT z
    · rcases s3 with v | v
      · exact hw ⟨q, v, by simp at z; omega, by simp at z; omega⟩
      · simp at z; omega)⟩
  have hw0 : ∀ y, y < 139 → ¬ wkIn wk y := fun y hy ⟨q9, e9, l9, _⟩ => by
    rcases s3 with v | v
    · rw [v] at e9; have e8 : q = q9 := Value.ref.inj e9; omega
    · rw [v.1] at e9; cases e9
  refine ⟨rfl, .ref q, kd2, s4, Or.inr ⟨q, rfl, s1, hW⟩, hL2.dv, hF, s6, s7, hN.2.2.1.ex (hF.2 77 (by omega) (fun m => by have := hT _ m; omega) (by omega) (hw0 77 (by omega)) (by omega)), hN.2.2.2.frame hA.nd (fun y hy => hF.2 y (by omega) (fun m => by have := hT _ m; omega) (by omega) (hw0 y (by omega)) (by omega))⟩
set_option maxRecDepth 20000 in
set_option maxHeartbeats 1000000 in
theorem cl_soonest {E : EnvT} {d : Nat} {h0 : Hp} {ns s w1 w2 : Nat} {wk dt : Value} {Z : Nat → Prop} {reg : Nat → FR} {sg kd : Nat} {a b : FR} {dx : Nat → Nat} {gl : Nat → List Nat} {y : Int32} (hN : NW h0 s ns w1 w2 wk dt a) (hD : DV Z h0 reg ns s sg kd b) (hA : AIN a) (hst : Stat a b) (hMK : MKw Z h0 reg ns kd wk) (hkl : kd < h0.2.1) (hX : DX a dx gl) (hd : 7 ≤ d) : Cn E mX9_soonest d [.ref 64, .int y] h0 (QWk [] Z reg s ns sg w1 w2 wk dt h0 kd a b (.int (soonF a dx y))) := by
  obtain ⟨c64, c76, _, _⟩ := id hN
  have hn0 := hD.n
  have hk0 := hD.k0
  have hs64 := hD.s64
  have hG9 := hD.G
  have hG := hA.G
  have hp16 := pw16 hA.G
  have st3 : a 3 = b 3 := hst 3 (by omega)
  obtain ⟨lo, so9, sa, nl, sl, cs⟩ := hD.cs
  by_cases hv : vS (a 3) y.toInt64
  · obtain ⟨t, ht1, ht16, rfl⟩ := vS_i hA.G hv
    refine Cn.go (ls := [.ref 64, .int (nI t)]) (by decide +kernel) rfl (Nat.le_of_ble_eq_true rfl) ?_
    refine r_aload_n (pc2 := 1) 0 dX9_soonest_0 rfl rfl rfl rfl ?_
    refine r_iload_n (pc2 := 2) 1 dX9_soonest_1 rfl rfl rfl ?_
    refine r_i2l (pc2 := 3) dX9_soonest_2 rfl ?_
    refine r_callV1 (pc2 := 6) (As := [.long (Int32.toInt64 (nI t))]) (st := []) kX9_144 rfl rfl dX9_soonest_3 c64 (by decide) rfl rfl (Nat.le_of_ble_eq_true rfl) (by omega) ((c_isSetC c64 cs hs64 hG9).mono fun r h2 q => ⟨q.1.trans (by rw [← st3, if_pos hv]), q.2⟩) rfl (fun h2 hq3 => ?_)
    obtain rfl := hq3.symm
    refine r_if_ne (tgt := 12) (pc2 := 9) dX9_soonest_6 (by decide) rfl (fun b6 => ?_) (fun b6 => ?_)
    · skip
      refine r_aload_n (pc2 := 13) 0 dX9_soonest_12 rfl rfl rfl rfl ?_
      refine r_callV2 (pc2 := 16) (As := []) (st := []) kX9_248 rfl rfl dX9_soonest_13 c64 (by decide) rfl rfl (Nat.le_of_ble_eq_true rfl) (by omega) (c_layWalks hN hD hA hst hMK hkl (by omega)) rfl (fun v13 h hq13 => ?_)
      obtain ⟨q, kd2, Q, Kf, fb, k, go, gh, rt, rh, rfl, hR, hK, crt, crh, hrt, hL⟩ := hq13
      obtain ⟨od, nz, sh, ps, op, pa, cq, _⟩ := id hK
      have hq139 := hR.1.1
      have hqk := hR.1.2.1
      have hq7 := hR.2.1
      refine r_iload_n (pc2 := 17) 1 dX9_soonest_16 rfl rfl rfl ?_
      refine r_callV1 (pc2 := 20) (As := [.int (nI t)]) (st := []) kX9_252 rfl rfl dX9_soonest_17 cq (by omega) rfl rfl (Nat.le_of_ble_eq_true rfl) (by omega) (c_hoursTo (x := dx t) (l := gl t) hK hR.1 hR.2.1 hL hA hst (by omega) (hX t).1 (hX t).2 rfl (by omega)) rfl (fun h hq17 => ?_)
      obtain ⟨Q2, Kf2, fb2, k2, go2, gh2, hK2, hL2, hQ2, hgl⟩ := hq17
      exact r_iret rfl dX9_soonest_20 (by rw [show soonF a dx (nI t) = (if dx t = 268435456 then -1 else nI (dx t)) by unfold soonF; rw [if_pos hv, nI_clamp (by omega)]]; exact hR.fin hL hQ2 hK2 crt crh hrt hL2 hA hst hN (by simp) hn0 hk0)
    · exact absurd b6 (by decide)
  · skip
    refine Cn.go (ls := [.ref 64, .int y]) (by decide +kernel) rfl (Nat.le_of_ble_eq_true rfl) ?_
    refine r_aload_n (pc2 := 1) 0 dX9_soonest_0 rfl rfl rfl rfl ?_
    refine r_iload_n (pc2 := 2) 1 dX9_soonest_1 rfl rfl rfl ?_
    refine r_i2l (pc2 := 3) dX9_soonest_2 rfl ?_
    refine r_callV1 (pc2 := 6) (As := [.long (Int32.toInt64 y)]) (st := []) kX9_144 rfl rfl dX9_soonest_3 c64 (by decide) rfl rfl (Nat.le_of_ble_eq_true rfl) (by omega) ((c_isSetC c64 cs hs64 hG9).mono fun r h2 q => ⟨q.1.trans (by rw [← st3, if_neg hv]), q.2⟩) rfl (fun h2 hq3 => ?_)
    obtain rfl := hq3.symm
    refine r_if_ne (tgt := 12) (pc2 := 9) dX9_soonest_6 (by decide) rfl (fun b6 => ?_) (fun b6 => ?_)
    · exact absurd b6 (by decide)
    · skip
      refine r_bipush (pc2 := 11) (v := -3) dX9_soonest_9 (by decide) rfl ?_
      exact r_iret rfl dX9_soonest_11 (by rw [show soonF a dx y = -3 by unfold soonF; rw [if_neg hv]]; exact QWk.same hMK hD hN)
set_option maxRecDepth 20000 in
set_option maxHeartbeats 1000000 in
theorem cl_way {E : EnvT} {d : Nat} {h0 : Hp} {ns s w1 w2 : Nat} {wk dt : Value} {Z : Nat → Prop} {reg : Nat → FR} {sg kd : Nat} {a b : FR} {dx : Nat → Nat} {gl : Nat → List Nat} {y z : Int32} (hN : NW h0 s ns w1 w2 wk dt a) (hD : DV Z h0 reg ns s sg kd b) (hA : AIN a) (hst : Stat a b) (hMK : MKw Z h0 reg ns kd wk) (hkl : kd < h0.2.1) (hX : DX a dx gl) (hd : 7 ≤ d) : Cn E mX9_way d [.ref 64, .int y, .int z] h0 (QWk [] Z reg s ns sg w1 w2 wk dt h0 kd a b (.int (wayF a dx gl y z))) := by
  obtain ⟨c64, c76, _, _⟩ := id hN
  have hn0 := hD.n
  have hk0 := hD.k0
  have hs64 := hD.s64
  have hG9 := hD.G
  have hG := hA.G
  have hp16 := pw16 hA.G
  have st3 : a 3 = b 3 := hst 3 (by omega)
  obtain ⟨lo, so9, sa, nl, sl, cs⟩ := hD.cs
  by_cases hv1 : vS (a 3) y.toInt64
  · by_cases hz : 0 ≤ z
    · obtain ⟨t, ht1, ht16, rfl⟩ := vS_i hA.G hv1
      obtain ⟨i, hi, rfl⟩ := nI_of (Int32.not_lt.mpr hz)
      by_cases hdx : dx t = 268435456
      · skip
        refine Cn.go (ls := [.ref 64, .int (nI t), .int (nI i), .float 0, .float 0]) (by decide +kernel) rfl (Nat.le_of_ble_eq_true rfl) ?_
        refine r_aload_n (pc2 := 1) 0 dX9_way_0 rfl rfl rfl rfl ?_
        refine r_iload_n (pc2 := 2) 1 dX9_way_1 rfl rfl rfl ?_
        refine r_i2l (pc2 := 3) dX9_way_2 rfl ?_
        refine r_callV1 (pc2 := 6) (As := [.long (Int32.toInt64 (nI t))]) (st := []) kX9_144 rfl rfl dX9_way_3 c64 (by decide) rfl rfl (Nat.le_of_ble_eq_true rfl) (by omega) ((c_isSetC c64 cs hs64 hG9).mono fun r h2 q => ⟨q.1.trans (by rw [← st3, if_pos hv1]), q.2⟩) rfl (fun h2 hq3 => ?_)
        obtain rfl := hq3.symm
        refine r_if_eq (tgt := 13) (pc2 := 9) dX9_way_6 (by decide) rfl (fun b6 => ?_) (fun b6 => ?_)
        · exact absurd b6 (by decide)
        · skip
          refine r_iload_n (pc2 := 10) 2 dX9_way_9 rfl rfl rfl ?_
          refine r_if_ge (tgt := 16) (pc2 := 13) dX9_way_10 (by decide) rfl (fun b10 => ?_) (fun b10 => ?_)
          · skip
            refine r_aload_n (pc2 := 17) 0 dX9_way_16 rfl rfl rfl rfl ?_
            refine r_callV2 (pc2 := 20) (As := []) (st := []) kX9_248 rfl rfl dX9_way_17 c64 (by decide) rfl rfl (Nat.le_of_ble_eq_true rfl) (by omega) (c_layWalks hN hD hA hst hMK hkl (by omega)) rfl (fun v17 h hq17 => ?_)
            obtain ⟨q, kd2, Q, Kf, fb, k, go, gh, rt, rh, rfl, hR, hK, crt, crh, hrt, hL⟩ := hq17
            obtain ⟨od, nz, sh, ps, op, pa, cq, _⟩ := id hK
            have hq139 := hR.1.1
            have hqk := hR.1.2.1
            have hq7 := hR.2.1
            refine r_astore_n (pc2 := 21) (ls2 := [.ref 64, .int (nI t), .int (nI i), .ref q, .float 0]) 3 dX9_way_20 rfl (by decide) rfl rfl rfl rfl ?_
            refine r_aload_n (pc2 := 22) 3 dX9_way_21 rfl rfl rfl rfl ?_
            refine r_iload_n (pc2 := 23) 1 dX9_way_22 rfl rfl rfl ?_
            refine r_callV1 (pc2 := 26) (As := [.int (nI t)]) (st := []) kX9_252 rfl rfl dX9_way_23 cq (by omega) rfl rfl (Nat.le_of_ble_eq_true rfl) (by omega) ((c_hoursTo (x := dx t) (l := gl t) hK hR.1 hR.2.1 hL hA hst (by omega) (hX t).1 (hX t).2 rfl (by omega)).mono fun r h2 z => ⟨z.1.trans (by rw [if_pos hdx]), z.2⟩) rfl (fun h hq23 => ?_)
            obtain ⟨Q2, Kf2, fb2, k2, go2, gh2, hK2, hL2, hQ2, hgl⟩ := hq23
            refine r_istore (pc2 := 28) (ls2 := [.ref 64, .int (nI t), .int (nI i), .ref q, .int (-1)]) 4 dX9_way_26 (by decide) rfl rfl rfl ?_
            refine r_iload_n (pc2 := 29) 2 dX9_way_28 rfl rfl rfl ?_
            refine r_iload (pc2 := 31) 4 dX9_way_29 rfl rfl ?_
            refine r_icmp_lt (tgt := 38) (pc2 := 34) dX9_way_31 (by decide) rfl (fun b31 => ?_) (fun b31 => ?_)
            · exact absurd b31 (Int32.not_lt.mpr (Int32.le_trans (by decide) (nI_pos' hi)))
            · skip
              refine r_iconst (pc2 := 35) (v := -1) dX9_way_34 (by decide) rfl ?_
              refine r_goto (pc2 := 43) dX9_way_35 (by decide) ?_
              exact r_iret rfl dX9_way_43 (by rw [show wayF a dx gl (nI t) (nI i) = -1 by unfold wayF stI; rw [if_pos ⟨hv1, hz⟩, nI_clamp (by omega), nI_clamp hi, if_neg (fun z9 => absurd z9.1 (by omega))]]; exact hR.fin hL hQ2 hK2 crt crh hrt hL2 hA hst hN (by simp) hn0 hk0)
          · exact absurd (nI_pos' (by omega)) b10
      · have hd28 : dx t < 268435456 := by have := (hX t).1.le; omega
        by_cases hil : i < dx t
        · skip
          refine Cn.go (ls := [.ref 64, .int (nI t), .int (nI i), .float 0, .float 0]) (by decide +kernel) rfl (Nat.le_of_ble_eq_true rfl) ?_
          refine r_aload_n (pc2 := 1) 0 dX9_way_0 rfl rfl rfl rfl ?_
          refine r_iload_n (pc2 := 2) 1 dX9_way_1 rfl rfl rfl ?_
          refine r_i2l (pc2 := 3) dX9_way_2 rfl ?_
          refine r_callV1 (pc2 := 6) (As := [.long (Int32.toInt64 (nI t))]) (st := []) kX9_144 rfl rfl dX9_way_3 c64 (by decide) rfl rfl (Nat.le_of_ble_eq_true rfl) (by omega) ((c_isSetC c64 cs hs64 hG9).mono fun r h2 q => ⟨q.1.trans (by rw [← st3, if_pos hv1]), q.2⟩) rfl (fun h2 hq3 => ?_)
          obtain rfl := hq3.symm
          refine r_if_eq (tgt := 13) (pc2 := 9) dX9_way_6 (by decide) rfl (fun b6 => ?_) (fun b6 => ?_)
          · exact absurd b6 (by decide)
          · skip
            refine r_iload_n (pc2 := 10) 2 dX9_way_9 rfl rfl rfl ?_
            refine r_if_ge (tgt := 16) (pc2 := 13) dX9_way_10 (by decide) rfl (fun b10 => ?_) (fun b10 => ?_)
            · skip
              refine r_aload_n (pc2 := 17) 0 dX9_way_16 rfl rfl rfl rfl ?_
              refine r_callV2 (pc2 := 20) (As := []) (st := []) kX9_248 rfl rfl dX9_way_17 c64 (by decide) rfl rfl (Nat.le_of_ble_eq_true rfl) (by omega) (c_layWalks hN hD hA hst hMK hkl (by omega)) rfl (fun v17 h hq17 => ?_)
              obtain ⟨q, kd2, Q, Kf, fb, k, go, gh, rt, rh, rfl, hR, hK, crt, crh, hrt, hL⟩ := hq17
              obtain ⟨od, nz, sh, ps, op, pa, cq, _⟩ := id hK
              have hq139 := hR.1.1
              have hqk := hR.1.2.1
              have hq7 := hR.2.1
              refine r_astore_n (pc2 := 21) (ls2 := [.ref 64, .int (nI t), .int (nI i), .ref q, .float 0]) 3 dX9_way_20 rfl (by decide) rfl rfl rfl rfl ?_
              refine r_aload_n (pc2 := 22) 3 dX9_way_21 rfl rfl rfl rfl ?_
              refine r_iload_n (pc2 := 23) 1 dX9_way_22 rfl rfl rfl ?_
              refine r_callV1 (pc2 := 26) (As := [.int (nI t)]) (st := []) kX9_252 rfl rfl dX9_way_23 cq (by omega) rfl rfl (Nat.le_of_ble_eq_true rfl) (by omega) ((c_hoursTo (x := dx t) (l := gl t) hK hR.1 hR.2.1 hL hA hst (by omega) (hX t).1 (hX t).2 rfl (by omega)).mono fun r h2 z => ⟨z.1.trans (by rw [if_neg hdx]), z.2⟩) rfl (fun h hq23 => ?_)
              obtain ⟨Q2, Kf2, fb2, k2, go2, gh2, hK2, hL2, hQ2, hgl⟩ := hq23
              obtain ⟨od, nz, sh, ps, op, pa, cq, cfb, _⟩ := id hK2
              obtain ⟨y9, hg1, hg2, hg3, hg4, hg5, hg6, hg7⟩ := hgl hd28
              refine r_istore (pc2 := 28) (ls2 := [.ref 64, .int (nI t), .int (nI i), .ref q, .int (nI (dx t))]) 4 dX9_way_26 (by decide) rfl rfl rfl ?_
              refine r_iload_n (pc2 := 29) 2 dX9_way_28 rfl rfl rfl ?_
              refine r_iload (pc2 := 31) 4 dX9_way_29 rfl rfl ?_
              refine r_icmp_lt (tgt := 38) (pc2 := 34) dX9_way_31 (by decide) rfl (fun b31 => ?_) (fun b31 => ?_)
              · skip
                refine r_aload_n (pc2 := 39) 3 dX9_way_38 rfl rfl rfl rfl ?_
                refine r_iload_n (pc2 := 40) 2 dX9_way_39 rfl rfl rfl ?_
                refine r_callV1 (pc2 := 43) (As := [.int (nI i)]) (st := []) kX9_255 rfl rfl dX9_way_40 cq (by omega) rfl rfl (Nat.le_of_ble_eq_true rfl) (by omega) (c_stepsAt (i := i) (l := gl t) cq hg1 hg2 cfb hq139 hg4 hg5 hg6 hg7 hil hg3 rfl) rfl (fun h2 hq40 => ?_)
                obtain rfl := hq40.symm
                exact r_iret rfl dX9_way_43 (by rw [show wayF a dx gl (nI t) (nI i) = nI ((gl t).getD i 0) by unfold wayF stI; rw [if_pos ⟨hv1, hz⟩, nI_clamp (by omega), nI_clamp hi, if_pos ⟨hd28, hil⟩]]; exact hR.fin hL hQ2 hK2 crt crh hrt hL2 hA hst hN (by simp) hn0 hk0)
              · exact absurd (nI_lt hil (by omega)) b31
            · exact absurd (nI_pos' (by omega)) b10
        · skip
          refine Cn.go (ls := [.ref 64, .int (nI t), .int (nI i), .float 0, .float 0]) (by decide +kernel) rfl (Nat.le_of_ble_eq_true rfl) ?_
          refine r_aload_n (pc2 := 1) 0 dX9_way_0 rfl rfl rfl rfl ?_
          refine r_iload_n (pc2 := 2) 1 dX9_way_1 rfl rfl rfl ?_
          refine r_i2l (pc2 := 3) dX9_way_2 rfl ?_
          refine r_callV1 (pc2 := 6) (As := [.long (Int32.toInt64 (nI t))]) (st := []) kX9_144 rfl rfl dX9_way_3 c64 (by decide) rfl rfl (Nat.le_of_ble_eq_true rfl) (by omega) ((c_isSetC c64 cs hs64 hG9).mono fun r h2 q => ⟨q.1.trans (by rw [← st3, if_pos hv1]), q.2⟩) rfl (fun h2 hq3 => ?_)
          obtain rfl := hq3.symm
          refine r_if_eq (tgt := 13) (pc2 := 9) dX9_way_6 (by decide) rfl (fun b6 => ?_) (fun b6 => ?_)
          · exact absurd b6 (by decide)
          · skip
            refine r_iload_n (pc2 := 10) 2 dX9_way_9 rfl rfl rfl ?_
            refine r_if_ge (tgt := 16) (pc2 := 13) dX9_way_10 (by decide) rfl (fun b10 => ?_) (fun b10 => ?_)
            · skip
              refine r_aload_n (pc2 := 17) 0 dX9_way_16 rfl rfl rfl rfl ?_
              refine r_callV2 (pc2 := 20) (As := []) (st := []) kX9_248 rfl rfl dX9_way_17 c64 (by decide) rfl rfl (Nat.le_of_ble_eq_true rfl) (by omega) (c_layWalks hN hD hA hst hMK hkl (by omega)) rfl (fun v17 h hq17 => ?_)
              obtain ⟨q, kd2, Q, Kf, fb, k, go, gh, rt, rh, rfl, hR, hK, crt, crh, hrt, hL⟩ := hq17
              obtain ⟨od, nz, sh, ps, op, pa, cq, _⟩ := id hK
              have hq139 := hR.1.1
              have hqk := hR.1.2.1
              have hq7 := hR.2.1
              refine r_astore_n (pc2 := 21) (ls2 := [.ref 64, .int (nI t), .int (nI i), .ref q, .float 0]) 3 dX9_way_20 rfl (by decide) rfl rfl rfl rfl ?_
              refine r_aload_n (pc2 := 22) 3 dX9_way_21 rfl rfl rfl rfl ?_
              refine r_iload_n (pc2 := 23) 1 dX9_way_22 rfl rfl rfl ?_
              refine r_callV1 (pc2 := 26) (As := [.int (nI t)]) (st := []) kX9_252 rfl rfl dX9_way_23 cq (by omega) rfl rfl (Nat.le_of_ble_eq_true rfl) (by omega) ((c_hoursTo (x := dx t) (l := gl t) hK hR.1 hR.2.1 hL hA hst (by omega) (hX t).1 (hX t).2 rfl (by omega)).mono fun r h2 z => ⟨z.1.trans (by rw [if_neg hdx]), z.2⟩) rfl (fun h hq23 => ?_)
              obtain ⟨Q2, Kf2, fb2, k2, go2, gh2, hK2, hL2, hQ2, hgl⟩ := hq23
              obtain ⟨od, nz, sh, ps, op, pa, cq, cfb, _⟩ := id hK2
              obtain ⟨y9, hg1, hg2, hg3, hg4, hg5, hg6, hg7⟩ := hgl hd28
              refine r_istore (pc2 := 28) (ls2 := [.ref 64, .int (nI t), .int (nI i), .ref q, .int (nI (dx t))]) 4 dX9_way_26 (by decide) rfl rfl rfl ?_
              refine r_iload_n (pc2 := 29) 2 dX9_way_28 rfl rfl rfl ?_
              refine r_iload (pc2 := 31) 4 dX9_way_29 rfl rfl ?_
              refine r_icmp_lt (tgt := 38) (pc2 := 34) dX9_way_31 (by decide) rfl (fun b31 => ?_) (fun b31 => ?_)
              · exact absurd b31 (nI_nlt (by omega) (by omega))
              · skip
                refine r_iconst (pc2 := 35) (v := -1) dX9_way_34 (by decide) rfl ?_
                refine r_goto (pc2 := 43) dX9_way_35 (by decide) ?_
                exact r_iret rfl dX9_way_43 (by rw [show wayF a dx gl (nI t) (nI i) = -1 by unfold wayF stI; rw [if_pos ⟨hv1, hz⟩, nI_clamp (by omega), nI_clamp hi, if_neg (fun z9 => hil z9.2)]]; exact hR.fin hL hQ2 hK2 crt crh hrt hL2 hA hst hN (by simp) hn0 hk0)
            · exact absurd (nI_pos' (by omega)) b10
    · have hv : ¬ (vS (a 3) y.toInt64 ∧ 0 ≤ z) := fun q => hz q.2
      refine Cn.go (ls := [.ref 64, .int y, .int z, .float 0, .float 0]) (by decide +kernel) rfl (Nat.le_of_ble_eq_true rfl) ?_
      refine r_aload_n (pc2 := 1) 0 dX9_way_0 rfl rfl rfl rfl ?_
      refine r_iload_n (pc2 := 2) 1 dX9_way_1 rfl rfl rfl ?_
      refine r_i2l (pc2 := 3) dX9_way_2 rfl ?_
      refine r_callV1 (pc2 := 6) (As := [.long (Int32.toInt64 y)]) (st := []) kX9_144 rfl rfl dX9_way_3 c64 (by decide) rfl rfl (Nat.le_of_ble_eq_true rfl) (by omega) ((c_isSetC c64 cs hs64 hG9).mono fun r h2 q => ⟨q.1.trans (by rw [← st3, if_pos hv1]), q.2⟩) rfl (fun h2 hq3 => ?_)
      obtain rfl := hq3.symm
      refine r_if_eq (tgt := 13) (pc2 := 9) dX9_way_6 (by decide) rfl (fun b6 => ?_) (fun b6 => ?_)
      · exact absurd b6 (by decide)
      · skip
        refine r_iload_n (pc2 := 10) 2 dX9_way_9 rfl rfl rfl ?_
        refine r_if_ge (tgt := 16) (pc2 := 13) dX9_way_10 (by decide) rfl (fun b10 => ?_) (fun b10 => ?_)
        · exact absurd b10 hz
        · skip
          refine r_bipush (pc2 := 15) (v := -3) dX9_way_13 (by decide) rfl ?_
          exact r_iret rfl dX9_way_15 (by rw [show wayF a dx gl y z = -3 by unfold wayF; rw [if_neg hv]]; exact QWk.same hMK hD hN)
  · have hv : ¬ (vS (a 3) y.toInt64 ∧ 0 ≤ z) := fun q => hv1 q.1
    refine Cn.go (ls := [.ref 64, .int y, .int z, .float 0, .float 0]) (by decide +kernel) rfl (Nat.le_of_ble_eq_true rfl) ?_
    refine r_aload_n (pc2 := 1) 0 dX9_way_0 rfl rfl rfl rfl ?_
    refine r_iload_n (pc2 := 2) 1 dX9_way_1 rfl rfl rfl ?_
    refine r_i2l (pc2 := 3) dX9_way_2 rfl ?_
    refine r_callV1 (pc2 := 6) (As := [.long (Int32.toInt64 y)]) (st := []) kX9_144 rfl rfl dX9_way_3 c64 (by decide) rfl rfl (Nat.le_of_ble_eq_true rfl) (by omega) ((c_isSetC c64 cs hs64 hG9).mono fun r h2 q => ⟨q.1.trans (by rw [← st3, if_neg hv1]), q.2⟩) rfl (fun h2 hq3 => ?_)
    obtain rfl := hq3.symm
    refine r_if_eq (tgt := 13) (pc2 := 9) dX9_way_6 (by decide) rfl (fun b6 => ?_) (fun b6 => ?_)
    · skip
      refine r_bipush (pc2 := 15) (v := -3) dX9_way_13 (by decide) rfl ?_
      exact r_iret rfl dX9_way_15 (by rw [show wayF a dx gl y z = -3 by unfold wayF; rw [if_neg hv]]; exact QWk.same hMK hD hN)
    · exact absurd b6 (by decide)
set_option maxRecDepth 20000 in
set_option maxHeartbeats 1000000 in
theorem cl_can {E : EnvT} {d : Nat} {h0 : Hp} {ns s w1 w2 : Nat} {wk dt : Value} {Z : Nat → Prop} {reg : Nat → FR} {sg kd : Nat} {a b : FR} {x : Nat} (hN : NW h0 s ns w1 w2 wk dt a) (hD : DV Z h0 reg ns s sg kd b) (hA : AIN a) (hst : Stat a b) (hMK : MKw Z h0 reg ns kd wk) (hkl : kd < h0.2.1) (hX : CANr a x) (hd : 8 ≤ d) : Cn E mX9_can d [.ref 64] h0 (QWk [] Z reg s ns sg w1 w2 wk dt h0 kd a b (.int (nI x))) := by
  obtain ⟨c64, c76, _, _⟩ := id hN
  have hn0 := hD.n
  have hk0 := hD.k0
  have hs64 := hD.s64
  have hG9 := hD.G
  have hG := hA.G
  have hp16 := pw16 hA.G
  have st3 : a 3 = b 3 := hst 3 (by omega)
  obtain ⟨lo, so9, sa, nl, sl, cs⟩ := hD.cs
  refine Cn.go (ls := [.ref 64, .float 0]) (by decide +kernel) rfl (Nat.le_of_ble_eq_true rfl) ?_
  refine r_aload_n (pc2 := 1) 0 dX9_can_0 rfl rfl rfl rfl ?_
  refine r_callV2 (pc2 := 4) (As := []) (st := []) kX9_248 rfl rfl dX9_can_1 c64 (by decide) rfl rfl (Nat.le_of_ble_eq_true rfl) (by omega) (c_layWalks hN hD hA hst hMK hkl (by omega)) rfl (fun v1 h hq1 => ?_)
  obtain ⟨q, kd2, Q, Kf, fb, k, go, gh, rt, rh, rfl, hR, hK, crt, crh, hrt, hL⟩ := hq1
  obtain ⟨od, nz, sh, ps, op, pa, cq, _⟩ := id hK
  have hq139 := hR.1.1
  have hqk := hR.1.2.1
  have hq7 := hR.2.1
  refine r_astore_n (pc2 := 5) (ls2 := [.ref 64, .ref q]) 1 dX9_can_4 rfl (by decide) rfl rfl rfl rfl ?_
  refine r_aload_n (pc2 := 6) 1 dX9_can_5 rfl rfl rfl rfl ?_
  refine r_callV0 (pc2 := 9) (As := []) (st := []) kX9_264 rfl rfl dX9_can_6 cq (by omega) rfl rfl (Nat.le_of_ble_eq_true rfl) (by omega) (c_lookAtAll hK hR.1 hR.2.1 hL hA hst (by omega)) rfl (fun h hq6 => ?_)
  obtain ⟨Q2, Kf2, fb2, hK2, hP2, hL2, hQ2⟩ := hq6
  obtain ⟨od, nz, sh, ps, op, pa, cq, _, _, _, _, _, _, hB2⟩ := id hK2
  refine r_aload_n (pc2 := 10) 1 dX9_can_9 rfl rfl rfl rfl ?_
  refine r_callV1 (pc2 := 13) (As := []) (st := []) kX9_267 rfl rfl dX9_can_10 cq (by omega) rfl rfl (Nat.le_of_ble_eq_true rfl) (by omega) (c_everPast hK2 hq139 hL2.dv hA hst hX (by omega)) rfl (fun h2 hq10 => ?_)
  obtain rfl := hq10.symm
  exact r_iret rfl dX9_can_13 (hR.fin hL hQ2 hK2 crt crh hrt hL2 hA hst hN (by simp) hn0 hk0)
set_option maxRecDepth 20000 in
set_option maxHeartbeats 1000000 in
theorem cl_deepest {E : EnvT} {d : Nat} {h0 : Hp} {ns s w1 w2 : Nat} {wk dt : Value} {Z : Nat → Prop} {reg : Nat → FR} {sg kd : Nat} {a b : FR} {x : Nat} (hN : NW h0 s ns w1 w2 wk dt a) (hD : DV Z h0 reg ns s sg kd b) (hA : AIN a) (hst : Stat a b) (hMK : MKw Z h0 reg ns kd wk) (hkl : kd < h0.2.1) (hX : DEEPr a x) (hd : 8 ≤ d) : Cn E mX9_deepest d [.ref 64] h0 (QWk [] Z reg s ns sg w1 w2 wk dt h0 kd a b (.int (nI x))) := by
  obtain ⟨c64, c76, _, _⟩ := id hN
  have hn0 := hD.n
  have hk0 := hD.k0
  have hs64 := hD.s64
  have hG9 := hD.G
  have hG := hA.G
  have hp16 := pw16 hA.G
  have st3 : a 3 = b 3 := hst 3 (by omega)
  obtain ⟨lo, so9, sa, nl, sl, cs⟩ := hD.cs
  refine Cn.go (ls := [.ref 64, .float 0]) (by decide +kernel) rfl (Nat.le_of_ble_eq_true rfl) ?_
  refine r_aload_n (pc2 := 1) 0 dX9_deepest_0 rfl rfl rfl rfl ?_
  refine r_callV2 (pc2 := 4) (As := []) (st := []) kX9_248 rfl rfl dX9_deepest_1 c64 (by decide) rfl rfl (Nat.le_of_ble_eq_true rfl) (by omega) (c_layWalks hN hD hA hst hMK hkl (by omega)) rfl (fun v1 h hq1 => ?_)
  obtain ⟨q, kd2, Q, Kf, fb, k, go, gh, rt, rh, rfl, hR, hK, crt, crh, hrt, hL⟩ := hq1
  obtain ⟨od, nz, sh, ps, op, pa, cq, _⟩ := id hK
  have hq139 := hR.1.1
  have hqk := hR.1.2.1
  have hq7 := hR.2.1
  refine r_astore_n (pc2 := 5) (ls2 := [.ref 64, .ref q]) 1 dX9_deepest_4 rfl (by decide) rfl rfl rfl rfl ?_
  refine r_aload_n (pc2 := 6) 1 dX9_deepest_5 rfl rfl rfl rfl ?_
  refine r_callV0 (pc2 := 9) (As := []) (st := []) kX9_264 rfl rfl dX9_deepest_6 cq (by omega) rfl rfl (Nat.le_of_ble_eq_true rfl) (by omega) (c_lookAtAll hK hR.1 hR.2.1 hL hA hst (by omega)) rfl (fun h hq6 => ?_)
  obtain ⟨Q2, Kf2, fb2, hK2, hP2, hL2, hQ2⟩ := hq6
  obtain ⟨od, nz, sh, ps, op, pa, cq, _, _, _, _, _, _, hB2⟩ := id hK2
  refine r_aload_n (pc2 := 10) 1 dX9_deepest_9 rfl rfl rfl rfl ?_
  refine r_callV1 (pc2 := 13) (As := []) (st := []) kX9_278 rfl rfl dX9_deepest_10 cq (by omega) rfl rfl (Nat.le_of_ble_eq_true rfl) (by omega) (c_greatestDepth hK2 hq139 hL2.dv hA hst hX (by omega)) rfl (fun h2 hq10 => ?_)
  obtain rfl := hq10.symm
  exact r_iret rfl dX9_deepest_13 (hR.fin hL hQ2 hK2 crt crh hrt hL2 hA hst hN (by simp) hn0 hk0)
set_option maxRecDepth 20000 in
set_option maxHeartbeats 1000000 in
theorem cl_stands {E : EnvT} {d : Nat} {h0 : Hp} {ns s w1 w2 : Nat} {wk dt : Value} {Z : Nat → Prop} {reg : Nat → FR} {sg kd : Nat} {a b : FR} {x : Nat} (hN : NW h0 s ns w1 w2 wk dt a) (hD : DV Z h0 reg ns s sg kd b) (hA : AIN a) (hst : Stat a b) (hMK : MKw Z h0 reg ns kd wk) (hkl : kd < h0.2.1) (hX : STr a x) (hd : 8 ≤ d) : Cn E mX9_stands d [.ref 64] h0 (QWk [] Z reg s ns sg w1 w2 wk dt h0 kd a b (.int (nI x))) := by
  obtain ⟨c64, c76, _, _⟩ := id hN
  have hn0 := hD.n
  have hk0 := hD.k0
  have hs64 := hD.s64
  have hG9 := hD.G
  have hG := hA.G
  have hp16 := pw16 hA.G
  have st3 : a 3 = b 3 := hst 3 (by omega)
  obtain ⟨lo, so9, sa, nl, sl, cs⟩ := hD.cs
  refine Cn.go (ls := [.ref 64, .float 0]) (by decide +kernel) rfl (Nat.le_of_ble_eq_true rfl) ?_
  refine r_aload_n (pc2 := 1) 0 dX9_stands_0 rfl rfl rfl rfl ?_
  refine r_callV2 (pc2 := 4) (As := []) (st := []) kX9_248 rfl rfl dX9_stands_1 c64 (by decide) rfl rfl (Nat.le_of_ble_eq_true rfl) (by omega) (c_layWalks hN hD hA hst hMK hkl (by omega)) rfl (fun v1 h hq1 => ?_)
  obtain ⟨q, kd2, Q, Kf, fb, k, go, gh, rt, rh, rfl, hR, hK, crt, crh, hrt, hL⟩ := hq1
  obtain ⟨od, nz, sh, ps, op, pa, cq, _⟩ := id hK
  have hq139 := hR.1.1
  have hqk := hR.1.2.1
  have hq7 := hR.2.1
  refine r_astore_n (pc2 := 5) (ls2 := [.ref 64, .ref q]) 1 dX9_stands_4 rfl (by decide) rfl rfl rfl rfl ?_
  refine r_aload_n (pc2 := 6) 1 dX9_stands_5 rfl rfl rfl rfl ?_
  refine r_callV0 (pc2 := 9) (As := []) (st := []) kX9_264 rfl rfl dX9_stands_6 cq (by omega) rfl rfl (Nat.le_of_ble_eq_true rfl) (by omega) (c_lookAtAll hK hR.1 hR.2.1 hL hA hst (by omega)) rfl (fun h hq6 => ?_)
  obtain ⟨Q2, Kf2, fb2, hK2, hP2, hL2, hQ2⟩ := hq6
  obtain ⟨od, nz, sh, ps, op, pa, cq, _, _, _, _, _, _, hB2⟩ := id hK2
  refine r_aload_n (pc2 := 10) 1 dX9_stands_9 rfl rfl rfl rfl ?_
  refine r_getf (pc2 := 13) (v := .int (nI Q2.length)) fX9_281 dX9_stands_10 cq (by omega) rfl rfl ?_
  exact r_iret rfl dX9_stands_13 (by rw [← hX.un hB2.1.1 hB2.all]; exact hR.fin hL hQ2 hK2 crt crh hrt hL2 hA hst hN (by simp) hn0 hk0)
set_option maxRecDepth 20000 in
set_option maxHeartbeats 1000000 in
theorem cl_most {E : EnvT} {d : Nat} {h0 : Hp} {ns s w1 w2 : Nat} {wk dt : Value} {Z : Nat → Prop} {reg : Nat → FR} {sg kd : Nat} {a b : FR} {x : Option Nat} {w : Int32} (hN : NW h0 s ns w1 w2 wk dt a) (hD : DV Z h0 reg ns s sg kd b) (hA : AIN a) (hst : Stat a b) (hMK : MKw Z h0 reg ns kd wk) (hkl : kd < h0.2.1) (hX : MOSTr a x) (hd : 8 ≤ d) : Cn E mX9_most d [.ref 64, .int w] h0 (QWk [] Z reg s ns sg w1 w2 wk dt h0 kd a b (.int (mostF x w))) := by
  obtain ⟨c64, c76, _, _⟩ := id hN
  have hn0 := hD.n
  have hk0 := hD.k0
  have hs64 := hD.s64
  have hG9 := hD.G
  have hG := hA.G
  have hp16 := pw16 hA.G
  have st3 : a 3 = b 3 := hst 3 (by omega)
  obtain ⟨lo, so9, sa, nl, sl, cs⟩ := hD.cs
  by_cases hw : inR 0 1 w
  · have hw2 := (inR_iff (l := 0) (h := 1) (by decide) (by decide) w).mp hw
    by_cases hz : a 26 = 0
    · have hxn : x = none := by
        match x, hX with
        | none, _ => rfl
        | some c, hX =>
          obtain ⟨⟨s9, ⟨n, hs9⟩, hd9, _⟩, _⟩ := hX
          have key : ∀ n t, rc a n t → t = packS a := by
            intro n
            induction n with
            | zero => intro t ht; exact ht
            | succ n ih =>
              intro t ht
              obtain ⟨s8, c8, h1, h2, h3, h4⟩ := ht
              have := (okS_dig (ih s8 h1 ▸ SG.now hA) hA.G h3).2
              rw [ih s8 h1, hA.pdep] at this
              exact absurd hz this
          rw [key n s9 hs9, hA.pdep] at hd9
          exact absurd hz hd9
      refine Cn.go (ls := [.ref 64, .int w, .float 0, .float 0]) (by decide +kernel) rfl (Nat.le_of_ble_eq_true rfl) ?_
      refine r_iload_n (pc2 := 1) 1 dX9_most_0 rfl rfl rfl ?_
      refine r_if_lt (tgt := 9) (pc2 := 4) dX9_most_1 (by decide) rfl (fun b1 => ?_) (fun b1 => ?_)
      · exact absurd b1 (Int32.not_lt.mpr hw2.1)
      · skip
        refine r_iload_n (pc2 := 5) 1 dX9_most_4 rfl rfl rfl ?_
        refine r_iconst (pc2 := 6) (v := 1) dX9_most_5 (by decide) rfl ?_
        refine r_icmp_le (tgt := 12) (pc2 := 9) dX9_most_6 (by decide) rfl (fun b6 => ?_) (fun b6 => ?_)
        · skip
          refine r_aload_n (pc2 := 13) 0 dX9_most_12 rfl rfl rfl rfl ?_
          refine r_getf (pc2 := 16) (v := .ref 76) fX9_28 dX9_most_13 c64 (by decide) rfl rfl ?_
          refine r_getf (pc2 := 19) (v := .int (nI ((keepV a) 4))) fX9_137 dX9_most_16 c76 (by decide) rfl rfl ?_
          refine r_if_ne (tgt := 24) (pc2 := 22) dX9_most_19 (by decide) rfl (fun b19 => ?_) (fun b19 => ?_)
          · exact absurd (congrArg nI hz) b19
          · skip
            refine r_iconst (pc2 := 23) (v := -1) dX9_most_22 (by decide) rfl ?_
            exact r_iret rfl dX9_most_23 (by rw [show mostF x w = -1 by unfold mostF; rw [if_pos hw, hxn]]; exact QWk.same hMK hD hN)
        · exact absurd hw2.2 b6
    · match x, hX with
      | none, hX => exact absurd (by rw [← hA.pdep]; exact hX _ Rch.now) hz
      | some b9, hX =>
        have hb16 : b9 < 16 := by
          obtain ⟨⟨s9, _, _, e9⟩, _⟩ := id hX
          rw [← e9]
          exact pastN_16 _ _ hA.G
        by_cases hw0 : w = 0
        · skip
          refine Cn.go (ls := [.ref 64, .int w, .float 0, .float 0]) (by decide +kernel) rfl (Nat.le_of_ble_eq_true rfl) ?_
          refine r_iload_n (pc2 := 1) 1 dX9_most_0 rfl rfl rfl ?_
          refine r_if_lt (tgt := 9) (pc2 := 4) dX9_most_1 (by decide) rfl (fun b1 => ?_) (fun b1 => ?_)
          · exact absurd b1 (Int32.not_lt.mpr hw2.1)
          · skip
            refine r_iload_n (pc2 := 5) 1 dX9_most_4 rfl rfl rfl ?_
            refine r_iconst (pc2 := 6) (v := 1) dX9_most_5 (by decide) rfl ?_
            refine r_icmp_le (tgt := 12) (pc2 := 9) dX9_most_6 (by decide) rfl (fun b6 => ?_) (fun b6 => ?_)
            · skip
              refine r_aload_n (pc2 := 13) 0 dX9_most_12 rfl rfl rfl rfl ?_
              refine r_getf (pc2 := 16) (v := .ref 76) fX9_28 dX9_most_13 c64 (by decide) rfl rfl ?_
              refine r_getf (pc2 := 19) (v := .int (nI ((keepV a) 4))) fX9_137 dX9_most_16 c76 (by decide) rfl rfl ?_
              refine r_if_ne (tgt := 24) (pc2 := 22) dX9_most_19 (by decide) rfl (fun b19 => ?_) (fun b19 => ?_)
              · skip
                refine r_aload_n (pc2 := 25) 0 dX9_most_24 rfl rfl rfl rfl ?_
                refine r_callV2 (pc2 := 28) (As := []) (st := []) kX9_248 rfl rfl dX9_most_25 c64 (by decide) rfl rfl (Nat.le_of_ble_eq_true rfl) (by omega) (c_layWalks hN hD hA hst hMK hkl (by omega)) rfl (fun v25 h hq25 => ?_)
                obtain ⟨q, kd2, Q, Kf, fb, k, go, gh, rt, rh, rfl, hR, hK, crt, crh, hrt, hL⟩ := hq25
                obtain ⟨od, nz, sh, ps, op, pa, cq, _⟩ := id hK
                have hq139 := hR.1.1
                have hqk := hR.1.2.1
                have hq7 := hR.2.1
                refine r_astore_n (pc2 := 29) (ls2 := [.ref 64, .int w, .ref q, .float 0]) 2 dX9_most_28 rfl (by decide) rfl rfl rfl rfl ?_
                refine r_aload_n (pc2 := 30) 2 dX9_most_29 rfl rfl rfl rfl ?_
                refine r_callV0 (pc2 := 33) (As := []) (st := []) kX9_264 rfl rfl dX9_most_30 cq (by omega) rfl rfl (Nat.le_of_ble_eq_true rfl) (by omega) (c_lookAtAll hK hR.1 hR.2.1 hL hA hst (by omega)) rfl (fun h hq30 => ?_)
                obtain ⟨Q2, Kf2, fb2, hK2, hP2, hL2, hQ2⟩ := hq30
                obtain ⟨od, nz, sh, ps, op, pa, cq, _, _, _, _, _, _, hB2⟩ := id hK2
                refine r_aload_n (pc2 := 34) 2 dX9_most_33 rfl rfl rfl rfl ?_
                refine r_callV1 (pc2 := 37) (As := []) (st := []) kX9_270 rfl rfl dX9_most_34 cq (by omega) rfl rfl (Nat.le_of_ble_eq_true rfl) (by omega) ((c_greatestPast hK2 hq139 hL2.dv hA hst hX (by omega)).mono fun r h2 z => ⟨z.1.trans rfl, z.2⟩) rfl (fun h2 hq34 => ?_)
                obtain rfl := hq34.symm
                refine r_istore_n (pc2 := 38) (ls2 := [.ref 64, .int w, .ref q, .int (nI b9)]) 3 dX9_most_37 rfl (by decide) rfl rfl rfl ?_
                refine r_iload_n (pc2 := 39) 1 dX9_most_38 rfl rfl rfl ?_
                refine r_if_ne (tgt := 49) (pc2 := 42) dX9_most_39 (by decide) rfl (fun b39 => ?_) (fun b39 => ?_)
                · exact absurd hw0 b39
                · skip
                  refine r_iload_n (pc2 := 43) 3 dX9_most_42 rfl rfl rfl ?_
                  refine r_callS1 (pc2 := 46) (As := [.int (nI b9)]) (st := []) kX9_273 dX9_most_43 rfl rfl (Nat.le_of_ble_eq_true rfl) (by omega) (c_bitCount (s := b9) hb16) rfl (fun h2 hq43 => ?_)
                  obtain rfl := hq43.symm
                  refine r_goto (pc2 := 50) dX9_most_46 (by decide) ?_
                  exact r_iret rfl dX9_most_50 (by rw [show mostF (some b9) w = nI (popN b9) by unfold mostF; rw [if_pos hw]; exact if_neg (by rw [hw0]; decide)]; exact hR.fin hL hQ2 hK2 crt crh hrt hL2 hA hst hN (by simp) hn0 hk0)
              · exact absurd (nI_z0 (by have := hA.dp; omega) (show nI (a 26) = 0 from b19)) hz
            · exact absurd hw2.2 b6
        · have hw1 : w = 1 := by
            obtain ⟨k9, _, hk9, rfl⟩ := inR_of (by decide) (by decide) hw
            match k9, hk9 with
            | 0, _ => exact absurd rfl hw0
            | 1, _ => rfl
          refine Cn.go (ls := [.ref 64, .int w, .float 0, .float 0]) (by decide +kernel) rfl (Nat.le_of_ble_eq_true rfl) ?_
          refine r_iload_n (pc2 := 1) 1 dX9_most_0 rfl rfl rfl ?_
          refine r_if_lt (tgt := 9) (pc2 := 4) dX9_most_1 (by decide) rfl (fun b1 => ?_) (fun b1 => ?_)
          · exact absurd b1 (Int32.not_lt.mpr hw2.1)
          · skip
            refine r_iload_n (pc2 := 5) 1 dX9_most_4 rfl rfl rfl ?_
            refine r_iconst (pc2 := 6) (v := 1) dX9_most_5 (by decide) rfl ?_
            refine r_icmp_le (tgt := 12) (pc2 := 9) dX9_most_6 (by decide) rfl (fun b6 => ?_) (fun b6 => ?_)
            · skip
              refine r_aload_n (pc2 := 13) 0 dX9_most_12 rfl rfl rfl rfl ?_
              refine r_getf (pc2 := 16) (v := .ref 76) fX9_28 dX9_most_13 c64 (by decide) rfl rfl ?_
              refine r_getf (pc2 := 19) (v := .int (nI ((keepV a) 4))) fX9_137 dX9_most_16 c76 (by decide) rfl rfl ?_
              refine r_if_ne (tgt := 24) (pc2 := 22) dX9_most_19 (by decide) rfl (fun b19 => ?_) (fun b19 => ?_)
              · skip
                refine r_aload_n (pc2 := 25) 0 dX9_most_24 rfl rfl rfl rfl ?_
                refine r_callV2 (pc2 := 28) (As := []) (st := []) kX9_248 rfl rfl dX9_most_25 c64 (by decide) rfl rfl (Nat.le_of_ble_eq_true rfl) (by omega) (c_layWalks hN hD hA hst hMK hkl (by omega)) rfl (fun v25 h hq25 => ?_)
                obtain ⟨q, kd2, Q, Kf, fb, k, go, gh, rt, rh, rfl, hR, hK, crt, crh, hrt, hL⟩ := hq25
                obtain ⟨od, nz, sh, ps, op, pa, cq, _⟩ := id hK
                have hq139 := hR.1.1
                have hqk := hR.1.2.1
                have hq7 := hR.2.1
                refine r_astore_n (pc2 := 29) (ls2 := [.ref 64, .int w, .ref q, .float 0]) 2 dX9_most_28 rfl (by decide) rfl rfl rfl rfl ?_
                refine r_aload_n (pc2 := 30) 2 dX9_most_29 rfl rfl rfl rfl ?_
                refine r_callV0 (pc2 := 33) (As := []) (st := []) kX9_264 rfl rfl dX9_most_30 cq (by omega) rfl rfl (Nat.le_of_ble_eq_true rfl) (by omega) (c_lookAtAll hK hR.1 hR.2.1 hL hA hst (by omega)) rfl (fun h hq30 => ?_)
                obtain ⟨Q2, Kf2, fb2, hK2, hP2, hL2, hQ2⟩ := hq30
                obtain ⟨od, nz, sh, ps, op, pa, cq, _, _, _, _, _, _, hB2⟩ := id hK2
                refine r_aload_n (pc2 := 34) 2 dX9_most_33 rfl rfl rfl rfl ?_
                refine r_callV1 (pc2 := 37) (As := []) (st := []) kX9_270 rfl rfl dX9_most_34 cq (by omega) rfl rfl (Nat.le_of_ble_eq_true rfl) (by omega) ((c_greatestPast hK2 hq139 hL2.dv hA hst hX (by omega)).mono fun r h2 z => ⟨z.1.trans rfl, z.2⟩) rfl (fun h2 hq34 => ?_)
                obtain rfl := hq34.symm
                refine r_istore_n (pc2 := 38) (ls2 := [.ref 64, .int w, .ref q, .int (nI b9)]) 3 dX9_most_37 rfl (by decide) rfl rfl rfl ?_
                refine r_iload_n (pc2 := 39) 1 dX9_most_38 rfl rfl rfl ?_
                refine r_if_ne (tgt := 49) (pc2 := 42) dX9_most_39 (by decide) rfl (fun b39 => ?_) (fun b39 => ?_)
                · skip
                  refine r_iload_n (pc2 := 50) 3 dX9_most_49 rfl rfl rfl ?_
                  exact r_iret rfl dX9_most_50 (by rw [show mostF (some b9) w = nI b9 by unfold mostF; rw [if_pos hw]; exact if_pos hw1]; exact hR.fin hL hQ2 hK2 crt crh hrt hL2 hA hst hN (by simp) hn0 hk0)
                · exact absurd b39 hw0
              · exact absurd (nI_z0 (by have := hA.dp; omega) (show nI (a 26) = 0 from b19)) hz
            · exact absurd hw2.2 b6
  · skip
    refine Cn.go (ls := [.ref 64, .int w, .float 0, .float 0]) (by decide +kernel) rfl (Nat.le_of_ble_eq_true rfl) ?_
    refine r_iload_n (pc2 := 1) 1 dX9_most_0 rfl rfl rfl ?_
    refine r_if_lt (tgt := 9) (pc2 := 4) dX9_most_1 (by decide) rfl (fun b1 => ?_) (fun b1 => ?_)
    · skip
      refine r_bipush (pc2 := 11) (v := -2) dX9_most_9 (by decide) rfl ?_
      exact r_iret rfl dX9_most_11 (by rw [show mostF x w = -2 by unfold mostF; rw [if_neg hw]]; exact QWk.same hMK hD hN)
    · skip
      refine r_iload_n (pc2 := 5) 1 dX9_most_4 rfl rfl rfl ?_
      refine r_iconst (pc2 := 6) (v := 1) dX9_most_5 (by decide) rfl ?_
      refine r_icmp_le (tgt := 12) (pc2 := 9) dX9_most_6 (by decide) rfl (fun b6 => ?_) (fun b6 => ?_)
      · exact absurd ((inR_iff (l := 0) (h := 1) (by decide) (by decide) w).mpr ⟨Int32.not_lt.mp b1, b6⟩) hw
      · skip
        refine r_bipush (pc2 := 11) (v := -2) dX9_most_9 (by decide) rfl ?_
        exact r_iret rfl dX9_most_11 (by rw [show mostF x w = -2 by unfold mostF; rw [if_neg hw]]; exact QWk.same hMK hD hN)
