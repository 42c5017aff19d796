/-! the class: lists -/
theorem cut16 : ∀ c, c < 16 → ((lN c).toInt32.toInt8.toInt32.toInt64 = lN c ∧ (lN c).toInt32.toInt16.toInt32.toInt64 = lN c) ∧ (lN c).toInt32.toInt64 = lN c := by decide +kernel
theorem cutN16 {c : Nat} (h : c < 16) (so : Int32) : cutN (lN c) so = lN c := by
  unfold cutN
  rw [(cut16 c h).1.1, (cut16 c h).1.2, (cut16 c h).2]
  repeat' split
  all_goals rfl
theorem fillN_up {f : Nat → Int64} {k : Nat} {g : Nat → Int64} : vp_updL (fillN f 0 k g) k (g k) = fillN f 0 (k + 1) g := by
  funext j
  show (if j = k then g k else fillN f 0 k g j) = fillN f 0 (k + 1) g j
  unfold fillN
  by_cases z : j = k
  · subst z
    rw [if_pos rfl, if_pos (by omega), Nat.sub_zero]
  · rw [if_neg z]
    by_cases y : j < k
    · rw [if_pos (by omega), if_pos (by omega)]
    · rw [if_neg (by omega), if_neg (by omega)]
theorem WKR.mono {T T2 : List Nat} {Z : Nat → Prop} {s ns w1 w2 : Nat} {wk dt : Value} {h0 h2 : Hp} {kd : Nat} {a : FR} {q kd2 : Nat} (x : WKR T Z s ns w1 w2 wk dt h0 kd a q kd2 h2) (hT : ∀ y ∈ T, y ∈ T2) : WKR T2 Z s ns w1 w2 wk dt h0 kd a q kd2 h2 := ⟨x.1, x.2.1, x.2.2.1, x.2.2.2.1, x.2.2.2.2.1.mono (fun y m => by
  rcases List.mem_append.mp m with z | z
  · exact List.mem_append_left _ (hT y z)
  · exact List.mem_append_right _ z), x.2.2.2.2.2⟩
theorem QWk.mono {T T2 : List Nat} {Z : Nat → Prop} {reg : Nat → FR} {s ns sg w1 w2 : Nat} {wk dt : Value} {h0 : Hp} {kd : Nat} {a b : FR} {r0 : Value} {r : Option Value} {h2 : Hp} (x : QWk T Z reg s ns sg w1 w2 wk dt h0 kd a b r0 r h2) (hT : ∀ y ∈ T, y ∈ T2) : QWk T2 Z reg s ns sg w1 w2 wk dt h0 kd a b r0 r h2 := by
  obtain ⟨x1, wk2, kd2, x2, x3, x4, x5, x6⟩ := x
  exact ⟨x1, wk2, kd2, x2, x3, x4, ⟨x5.1, fun y hy h1 h2 h3 h4 => x5.2 y hy (fun m => h1 (hT y m)) h2 h3 h4⟩, x6⟩
theorem minNN {c d : Nat} (hc : c < 2 ^ 31) (hd : d < 2 ^ 31) : (if nI c ≤ nI d then nI c else nI d) = nI (min c d) := by
  by_cases w : c ≤ d
  · rw [if_pos (nI_le w hd), Nat.min_eq_left w]
  · rw [if_neg (nI_ge (by omega) hc), Nat.min_eq_right (by omega)]
set_option maxRecDepth 20000 in
set_option maxHeartbeats 1000000 in
theorem cl_lists {E : EnvT} {d : Nat} {h0 : Hp} {ns s w1 w2 : Nat} {wk dt : Value} {Z : Nat → Prop} {reg : Nat → FR} {sg kd : Nat} {a b : FR} {rs rm : Nat → Int32} {nu : Nat → Int64} {dx : Nat → Nat} {gl : Nat → List Nat} {x y : Int32} (hN : NW h0 s ns w1 w2 wk dt a) (hD : DV Z h0 reg ns s sg kd b) (hA : AIN a) (hst : Stat a b) (hMK : MKw Z h0 reg ns kd wk) (hkl : kd < h0.2.1) (hX : DX a dx gl) (hMT : MT h0 rs rm nu) (hT : TOK rs rm) (hd : 7 ≤ d) : Cn E mX9_lists d [.ref 64, .int x, .int y] h0 (fun r h2 => QWk TR Z reg s ns sg w1 w2 wk dt h0 kd a b (.int (lisF a dx rs rm x y)) r h2 ∧ MT h2 rs rm (lisV a dx gl rs rm nu x y)) := by
  obtain ⟨c64, c76, _, _⟩ := id hN
  have hn0 := hD.n
  have hk0 := hD.k0
  have hs64 := hD.s64
  have hG9 := hD.G
  have hG := hA.G
  have hp16 := pw16 hA.G
  have st3 : a 3 = b 3 := hst 3 (by omega)
  obtain ⟨lo, so9, sa, nl, sl, cs⟩ := hD.cs
  by_cases hx : inR 0 3 x
  · skip
    obtain ⟨t, _, ht3, rfl⟩ := inR_of (by decide) (by decide) hx
    have ht : t < 4 := by omega
    obtain ⟨⟨f, c81, hf⟩, _⟩ := id hMT
    obtain ⟨ms, so, si, vv, ct, cv, q1, q2⟩ := hMT.2 t ht
    generalize hp : 109 + 2 * t = tp at ct
    generalize hq : 110 + 2 * t = tq at ct cv
    have hn1 : rm t = nI (rowN rm t) := (hT t ht).1
    have hn40 : rowN rm t ≤ 40 := (hT t ht).2
    by_cases hs : rs t = -1
    · have hno : noTrayF rs (nI t) = -6 := by unfold noTrayF; rw [if_pos hx, nI_clamp (by omega), if_pos hs]
      obtain rfl := q1 hs
      refine Cn.go (ls := [.ref 64, .int (nI t), .int y, .float 0, .float 0, .float 0, .float 0, .float 0]) (by decide +kernel) rfl (Nat.le_of_ble_eq_true rfl) ?_
      refine r_iload_n (pc2 := 1) 1 dX9_lists_0 rfl rfl rfl ?_
      refine r_callS1 (pc2 := 4) (As := [.int (nI t)]) (st := []) kX9_210 dX9_lists_1 rfl rfl (Nat.le_of_ble_eq_true rfl) (by omega) (c_isTray.mono fun r h2 q => ⟨q.1.trans (by rw [if_pos hx]), q.2⟩) rfl (fun h2 hq1 => ?_)
      obtain rfl := hq1.symm
      refine r_if_ne (tgt := 10) (pc2 := 7) dX9_lists_4 (by decide) rfl (fun b4 => ?_) (fun b4 => ?_)
      · skip
        refine r_aload_n (pc2 := 11) 0 dX9_lists_10 rfl rfl rfl rfl ?_
        refine r_getf (pc2 := 14) (v := .ref 81) fX9_48 dX9_lists_11 c64 (by decide) rfl rfl ?_
        refine r_iload_n (pc2 := 15) 1 dX9_lists_14 rfl rfl rfl ?_
        refine r_aald (pc2 := 16) dX9_lists_15 c81 (by decide) (by decide) (nI_vp (j := t) rfl (by omega) (by decide)).1 (by rw [nI_clamp (by omega), hf t ht, hp]) (by omega) rfl ?_
        refine r_astore_n (pc2 := 17) (ls2 := [.ref 64, .int (nI t), .int y, .ref tp, .float 0, .float 0, .float 0, .float 0]) 3 dX9_lists_16 rfl (by decide) rfl rfl rfl rfl ?_
        refine r_aload_n (pc2 := 18) 3 dX9_lists_17 rfl rfl rfl rfl ?_
        refine r_getf (pc2 := 21) (v := .int 1) fX9_213 dX9_lists_18 ct (by omega) rfl rfl ?_
        refine r_if_eq (tgt := 27) (pc2 := 24) dX9_lists_21 (by decide) rfl (fun b21 => ?_) (fun b21 => ?_)
        · exact absurd b21 (by decide)
        · skip
          refine r_bipush (pc2 := 26) (v := -6) dX9_lists_24 (by decide) rfl ?_
          exact r_iret rfl dX9_lists_26 ⟨by rw [show lisF a dx rs rm (nI t) y = -6 by unfold lisF; rw [hno, if_pos (by decide)]]; exact QWk.same hMK hD hN, by rw [show lisV a dx gl rs rm nu (nI t) y = nu by unfold lisV; rw [if_neg (fun z => absurd (hno.symm.trans z.1.1) (by decide))]]; exact hMT⟩
      · exact absurd b4 (by decide)
    · skip
      have hno : noTrayF rs (nI t) = 0 := by unfold noTrayF; rw [if_pos hx, nI_clamp (by omega), if_neg hs]
      obtain ⟨rfl, rfl, rfl, q3⟩ := q2 hs
      obtain ⟨n, hnn⟩ : ∃ n, n = rowN rm t := ⟨_, rfl⟩
      have q3 : ∀ j, j < n → vv j = nu (40 * t + j) := fun j hj => q3 j (by rw [hnn] at hj; exact hj)
      rw [← hnn] at hn1 hn40
      rw [hn1] at ct
      by_cases hv : vS (a 3) y.toInt64
      · obtain ⟨u, hu1, hu16, rfl⟩ := vS_i hA.G hv
        by_cases hdx : dx u = 268435456
        · skip
          refine Cn.go (ls := [.ref 64, .int (nI t), .int (nI u), .float 0, .float 0, .float 0, .float 0, .float 0]) (by decide +kernel) rfl (Nat.le_of_ble_eq_true rfl) ?_
          refine r_iload_n (pc2 := 1) 1 dX9_lists_0 rfl rfl rfl ?_
          refine r_callS1 (pc2 := 4) (As := [.int (nI t)]) (st := []) kX9_210 dX9_lists_1 rfl rfl (Nat.le_of_ble_eq_true rfl) (by omega) (c_isTray.mono fun r h2 q => ⟨q.1.trans (by rw [if_pos hx]), q.2⟩) rfl (fun h2 hq1 => ?_)
          obtain rfl := hq1.symm
          refine r_if_ne (tgt := 10) (pc2 := 7) dX9_lists_4 (by decide) rfl (fun b4 => ?_) (fun b4 => ?_)
          · skip
            refine r_aload_n (pc2 := 11) 0 dX9_lists_10 rfl rfl rfl rfl ?_
            refine r_getf (pc2 := 14) (v := .ref 81) fX9_48 dX9_lists_11 c64 (by decide) rfl rfl ?_
            refine r_iload_n (pc2 := 15) 1 dX9_lists_14 rfl rfl rfl ?_
            refine r_aald (pc2 := 16) dX9_lists_15 c81 (by decide) (by decide) (nI_vp (j := t) rfl (by omega) (by decide)).1 (by rw [nI_clamp (by omega), hf t ht, hp]) (by omega) rfl ?_
            refine r_astore_n (pc2 := 17) (ls2 := [.ref 64, .int (nI t), .int (nI u), .ref tp, .float 0, .float 0, .float 0, .float 0]) 3 dX9_lists_16 rfl (by decide) rfl rfl rfl rfl ?_
            refine r_aload_n (pc2 := 18) 3 dX9_lists_17 rfl rfl rfl rfl ?_
            refine r_getf (pc2 := 21) (v := .int 0) fX9_213 dX9_lists_18 ct (by omega) rfl rfl ?_
            refine r_if_eq (tgt := 27) (pc2 := 24) dX9_lists_21 (by decide) rfl (fun b21 => ?_) (fun b21 => ?_)
            · skip
              refine r_aload_n (pc2 := 28) 0 dX9_lists_27 rfl rfl rfl rfl ?_
              refine r_iload_n (pc2 := 29) 2 dX9_lists_28 rfl rfl rfl ?_
              refine r_i2l (pc2 := 30) dX9_lists_29 rfl ?_
              refine r_callV1 (pc2 := 33) (As := [.long (Int32.toInt64 (nI u))]) (st := []) kX9_144 rfl rfl dX9_lists_30 c64 (by decide) rfl rfl (Nat.le_of_ble_eq_true rfl) (by omega) ((c_isSetC c64 cs hs64 hG9).mono fun r h2 q => ⟨q.1.trans (by rw [← st3, if_pos hv]), q.2⟩) rfl (fun h2 hq30 => ?_)
              obtain rfl := hq30.symm
              refine r_if_ne (tgt := 39) (pc2 := 36) dX9_lists_33 (by decide) rfl (fun b33 => ?_) (fun b33 => ?_)
              · skip
                refine r_aload_n (pc2 := 40) 0 dX9_lists_39 rfl rfl rfl rfl ?_
                refine r_callV2 (pc2 := 43) (As := []) (st := []) kX9_248 rfl rfl dX9_lists_40 c64 (by decide) rfl rfl (Nat.le_of_ble_eq_true rfl) (by omega) (c_layWalks hN hD hA hst hMK hkl (by omega)) rfl (fun v40 h hq40 => ?_)
                obtain ⟨q, kd2, Q, Kf, fb, k, go, gh, rt, rh, rfl, hR, hK, crt, crh, hrt, hL⟩ := hq40
                obtain ⟨od, nz, sh, ps, op, pa, cq, _⟩ := id hK
                have hq139 := hR.1.1
                have hqk := hR.1.2.1
                have hq7 := hR.2.1
                have hk2 := hL.dv.k0
                refine r_astore (pc2 := 45) (ls2 := [.ref 64, .int (nI t), .int (nI u), .ref tp, .ref q, .float 0, .float 0, .float 0]) 4 dX9_lists_43 (by decide) rfl rfl rfl rfl ?_
                refine r_aload (pc2 := 47) 4 dX9_lists_45 rfl rfl rfl ?_
                refine r_iload_n (pc2 := 48) 2 dX9_lists_47 rfl rfl rfl ?_
                refine r_callV1 (pc2 := 51) (As := [.int (nI u)]) (st := []) kX9_252 rfl rfl dX9_lists_48 cq (by omega) rfl rfl (Nat.le_of_ble_eq_true rfl) (by omega) ((c_hoursTo (x := dx u) (l := gl u) hK hR.1 hR.2.1 hL hA hst (by omega) (hX u).1 (hX u).2 rfl (by omega)).mono fun r h2 z => ⟨z.1.trans (by rw [if_pos hdx]), z.2⟩) rfl (fun h hq48 => ?_)
                obtain ⟨Q2, Kf2, fb2, k2, go2, gh2, hK2, hL2, hQ2, hgl⟩ := hq48
                clear hgl
                refine r_istore (pc2 := 53) (ls2 := [.ref 64, .int (nI t), .int (nI u), .ref tp, .ref q, .int (-1), .float 0, .float 0]) 5 dX9_lists_51 (by decide) rfl rfl rfl ?_
                refine r_iload (pc2 := 55) 5 dX9_lists_53 rfl rfl ?_
                refine r_iconst (pc2 := 56) (v := -1) dX9_lists_55 (by decide) rfl ?_
                refine r_icmp_ne (tgt := 62) (pc2 := 59) dX9_lists_56 (by decide) rfl (fun b56 => ?_) (fun b56 => ?_)
                · exact absurd b56 (by decide)
                · skip
                  refine r_bipush (pc2 := 61) (v := -5) dX9_lists_59 (by decide) rfl ?_
                  exact r_iret rfl dX9_lists_61 ⟨by rw [show lisF a dx rs rm (nI t) (nI u) = -5 by unfold lisF; rw [if_neg (fun z => z hno), if_pos hv, nI_clamp (by omega), if_neg (by omega)]]; exact (hR.fin hL hQ2 hK2 crt crh hrt hL2 hA hst hN (by simp) hn0 hk0).mono (T2 := TR) (by simp), by rw [show lisV a dx gl rs rm nu (nI t) (nI u) = nu by unfold lisV; rw [if_neg (fun z => absurd z.2 (by rw [nI_clamp (by omega)]; omega))]]; exact (hMT.frame (fun y hy => (hQ2.get (e := _) (by have := hR.2.2.2.2.1.1; omega) (by simp; omega) (by omega) rfl).trans (hR.2.2.2.2.1.2 y (by omega) (by simp; omega))))⟩
              · exact absurd b33 (by decide)
            · exact absurd b21 (by decide)
          · exact absurd b4 (by decide)
        · have hd28 : dx u < 268435456 := by have := (hX u).1.le; omega
          refine Cn.go (ls := [.ref 64, .int (nI t), .int (nI u), .float 0, .float 0, .float 0, .float 0, .float 0]) (by decide +kernel) rfl (Nat.le_of_ble_eq_true rfl) ?_
          refine r_iload_n (pc2 := 1) 1 dX9_lists_0 rfl rfl rfl ?_
          refine r_callS1 (pc2 := 4) (As := [.int (nI t)]) (st := []) kX9_210 dX9_lists_1 rfl rfl (Nat.le_of_ble_eq_true rfl) (by omega) (c_isTray.mono fun r h2 q => ⟨q.1.trans (by rw [if_pos hx]), q.2⟩) rfl (fun h2 hq1 => ?_)
          obtain rfl := hq1.symm
          refine r_if_ne (tgt := 10) (pc2 := 7) dX9_lists_4 (by decide) rfl (fun b4 => ?_) (fun b4 => ?_)
          · skip
            refine r_aload_n (pc2 := 11) 0 dX9_lists_10 rfl rfl rfl rfl ?_
            refine r_getf (pc2 := 14) (v := .ref 81) fX9_48 dX9_lists_11 c64 (by decide) rfl rfl ?_
            refine r_iload_n (pc2 := 15) 1 dX9_lists_14 rfl rfl rfl ?_
            refine r_aald (pc2 := 16) dX9_lists_15 c81 (by decide) (by decide) (nI_vp (j := t) rfl (by omega) (by decide)).1 (by rw [nI_clamp (by omega), hf t ht, hp]) (by omega) rfl ?_
            refine r_astore_n (pc2 := 17) (ls2 := [.ref 64, .int (nI t), .int (nI u), .ref tp, .float 0, .float 0, .float 0, .float 0]) 3 dX9_lists_16 rfl (by decide) rfl rfl rfl rfl ?_
            refine r_aload_n (pc2 := 18) 3 dX9_lists_17 rfl rfl rfl rfl ?_
            refine r_getf (pc2 := 21) (v := .int 0) fX9_213 dX9_lists_18 ct (by omega) rfl rfl ?_
            refine r_if_eq (tgt := 27) (pc2 := 24) dX9_lists_21 (by decide) rfl (fun b21 => ?_) (fun b21 => ?_)
            · skip
              refine r_aload_n (pc2 := 28) 0 dX9_lists_27 rfl rfl rfl rfl ?_
              refine r_iload_n (pc2 := 29) 2 dX9_lists_28 rfl rfl rfl ?_
              refine r_i2l (pc2 := 30) dX9_lists_29 rfl ?_
              refine r_callV1 (pc2 := 33) (As := [.long (Int32.toInt64 (nI u))]) (st := []) kX9_144 rfl rfl dX9_lists_30 c64 (by decide) rfl rfl (Nat.le_of_ble_eq_true rfl) (by omega) ((c_isSetC c64 cs hs64 hG9).mono fun r h2 q => ⟨q.1.trans (by rw [← st3, if_pos hv]), q.2⟩) rfl (fun h2 hq30 => ?_)
              obtain rfl := hq30.symm
              refine r_if_ne (tgt := 39) (pc2 := 36) dX9_lists_33 (by decide) rfl (fun b33 => ?_) (fun b33 => ?_)
              · skip
                refine r_aload_n (pc2 := 40) 0 dX9_lists_39 rfl rfl rfl rfl ?_
                refine r_callV2 (pc2 := 43) (As := []) (st := []) kX9_248 rfl rfl dX9_lists_40 c64 (by decide) rfl rfl (Nat.le_of_ble_eq_true rfl) (by omega) (c_layWalks hN hD hA hst hMK hkl (by omega)) rfl (fun v40 h hq40 => ?_)
                obtain ⟨q, kd2, Q, Kf, fb, k, go, gh, rt, rh, rfl, hR, hK, crt, crh, hrt, hL⟩ := hq40
                obtain ⟨od, nz, sh, ps, op, pa, cq, _⟩ := id hK
                have hq139 := hR.1.1
                have hqk := hR.1.2.1
                have hq7 := hR.2.1
                have hk2 := hL.dv.k0
                have hgl0 := hR.2.2.2.2.1.1
                have ct := hR.2.2.2.2.1.get (by simp <;> omega) (by omega) ct
                have cv := hR.2.2.2.2.1.get (by simp <;> omega) (by omega) cv
                refine r_astore (pc2 := 45) (ls2 := [.ref 64, .int (nI t), .int (nI u), .ref tp, .ref q, .float 0, .float 0, .float 0]) 4 dX9_lists_43 (by decide) rfl rfl rfl rfl ?_
                refine r_aload (pc2 := 47) 4 dX9_lists_45 rfl rfl rfl ?_
                refine r_iload_n (pc2 := 48) 2 dX9_lists_47 rfl rfl rfl ?_
                refine r_callV1 (pc2 := 51) (As := [.int (nI u)]) (st := []) kX9_252 rfl rfl dX9_lists_48 cq (by omega) rfl rfl (Nat.le_of_ble_eq_true rfl) (by omega) ((c_hoursTo (x := dx u) (l := gl u) hK hR.1 hR.2.1 hL hA hst (by omega) (hX u).1 (hX u).2 rfl (by omega)).mono fun r h2 z => ⟨z.1.trans (by rw [if_neg hdx]), z.2⟩) rfl (fun h hq48 => ?_)
                obtain ⟨Q2, Kf2, fb2, k2, go2, gh2, hK2, hL2, hQ2, hgl⟩ := hq48
                obtain ⟨od, nz, sh, ps, op, pa, cq, cfb, _⟩ := id hK2
                obtain ⟨y9, hg1, hg2, hg3, hg4, hg5, hg6, hg7⟩ := hgl hd28
                clear hgl
                have ct := hQ2.get (by omega) (by simp <;> omega) (by omega) ct
                have cv := hQ2.get (by omega) (by simp <;> omega) (by omega) cv
                refine r_istore (pc2 := 53) (ls2 := [.ref 64, .int (nI t), .int (nI u), .ref tp, .ref q, .int (nI (dx u)), .float 0, .float 0]) 5 dX9_lists_51 (by decide) rfl rfl rfl ?_
                refine r_iload (pc2 := 55) 5 dX9_lists_53 rfl rfl ?_
                refine r_iconst (pc2 := 56) (v := -1) dX9_lists_55 (by decide) rfl ?_
                refine r_icmp_ne (tgt := 62) (pc2 := 59) dX9_lists_56 (by decide) rfl (fun b56 => ?_) (fun b56 => ?_)
                · skip
                  refine r_iload (pc2 := 64) 5 dX9_lists_62 rfl rfl ?_
                  refine r_aload_n (pc2 := 65) 3 dX9_lists_64 rfl rfl rfl rfl ?_
                  refine r_getf (pc2 := 68) (v := .int (nI n)) fX9_217 dX9_lists_65 ct (by omega) rfl rfl ?_
                  refine r_callS1 (pc2 := 71) (As := [.int (nI (dx u)), .int (nI n)]) (st := []) kX9_391 dX9_lists_68 rfl rfl (Nat.le_of_ble_eq_true rfl) (by omega) ((c_min _ _).mono fun r h2 z => ⟨z.1.trans (by rw [minNN (by omega) (by omega)]), z.2⟩) rfl (fun h2 hq68 => ?_)
                  obtain rfl := hq68.symm
                  refine r_istore (pc2 := 73) (ls2 := [.ref 64, .int (nI t), .int (nI u), .ref tp, .ref q, .int (nI (dx u)), .int (nI (min (dx u) n)), .float 0]) 6 dX9_lists_71 (by decide) rfl rfl rfl ?_
                  refine r_iconst (pc2 := 74) (v := 0) dX9_lists_73 (by decide) rfl ?_
                  refine r_cast (nI 0) (rfl) ?_
                  refine r_istore (pc2 := 76) (ls2 := [.ref 64, .int (nI t), .int (nI u), .ref tp, .ref q, .int (nI (dx u)), .int (nI (min (dx u) n)), .int (nI 0)]) 7 dX9_lists_74 (by decide) rfl rfl rfl ?_
                  obtain ⟨W, eW⟩ : ∃ W, W = min (dx u) n := ⟨_, rfl⟩
                  rw [← eW]
                  have hfin : ∀ (h' : Hp), Ex [tq] h h' → h'.1 tq = some (aL 40 (fillN vv 0 W (fun j => lN ((gl u).getD j 0)))) → ((fun r h2 => QWk TR Z reg s ns sg w1 w2 wk dt h0 kd a b (.int (lisF a dx rs rm (nI t) (nI u))) r h2 ∧ MT h2 rs rm (lisV a dx gl rs rm nu (nI t) (nI u))) (some (.int (nI W))) h') := by
                    intro h' hx' cv'
                    have hRT := (hR.mono (T2 := TR) (by simp)).step (hQ2) (fun y m => Or.inl (by simp at m; omega)) hL.dv.n hL.dv.k0
                    have hR2 := hRT.step ((GQ.rf (S := [tq]) (kd := kd2) (h := h)).wr hx' (by simp)) (fun y m => Or.inr (by simp at m; rw [m]; exact ⟨by simp; omega, by omega, by omega⟩)) hL2.dv.n hL2.dv.k0
                    have hL3 := hL2.ex hx' (hL2.dv.offl (by simp; omega))
                    have hK3 := hK2.frame (h2 := h') (fun y h1 h2 => hx'.2 y (by simp; omega))
                    have hMT2 : MT h rs rm nu := (hMT.frame (fun y hy => (hQ2.get (e := _) (by have := hR.2.2.2.2.1.1; omega) (by simp; omega) (by omega) rfl).trans (hR.2.2.2.2.1.2 y (by omega) (by simp; omega))))
                    refine ⟨?_, ?_⟩
                    · rw [show lisF a dx rs rm (nI t) (nI u) = nI W by unfold lisF lisN; rw [if_neg (fun z => z hno), if_pos hv, nI_clamp (by omega), if_pos hd28, nI_clamp (by omega), ← hnn, eW]]
                      exact hR2.fin hL3 GQ.rf hK3 (hx'.get (by simp; omega) (hQ2.get (by omega) (by simp) (by omega) crt)) (hx'.get (by simp; omega) (hQ2.get (by omega) (by simp) (by omega) crh)) hrt hL3 hA hst hN (by simp) hn0 hk0
                    · rw [show lisV a dx gl rs rm nu (nI t) (nI u) = fillN nu (40 * t) W (fun j => lN ((gl u).getD j 0)) by unfold lisV lisN; rw [if_pos ⟨⟨hno, hv⟩, by rw [nI_clamp (by omega)]; exact hd28⟩, nI_clamp (by omega), nI_clamp (by omega), ← hnn, eW]]
                      refine hMT2.set (t := t) ht hT (hx'.mono (fun y m => by simp at m ⊢; omega)) ?_ (fun v hv4 hvt => ⟨rfl, rfl, fun j hj => fillN_out (by omega)⟩)
                      refine ⟨0, rs t, nI n, fillN vv 0 W (fun j => lN ((gl u).getD j 0)), by rw [hp, hq]; exact hx'.get (by simp; omega) ct, by rw [hq]; exact cv', fun z => absurd z hs, fun _ => ⟨rfl, rfl, hn1.symm, fun j hj => ?_⟩⟩
                      rw [hn1, nI_clamp (by omega)] at hj
                      show fillN vv 0 W (fun j => lN ((gl u).getD j 0)) j = fillN nu (40 * t) W (fun j => lN ((gl u).getD j 0)) (40 * t + j)
                      by_cases z : j < W
                      · have e1 := @fillN_in Int64 vv 0 W j (fun j => lN ((gl u).getD j 0)) z
                        have e2 := @fillN_in Int64 nu (40 * t) W j (fun j => lN ((gl u).getD j 0)) z
                        rw [Nat.zero_add] at e1
                        rw [e1, e2]
                      · rw [fillN_out (by omega), fillN_out (by omega)]
                        exact q3 j hj
                  have hg16 : ∀ j, j < dx u → (gl u).getD j 0 < 16 := fun j hj => hg6 _ (getD_mem (by omega))
                  have loop : ∀ (m k : Nat) (h9 : Hp), k + m = W → Ex [tq] h h9 → h9.1 tq = some (aL 40 (fillN vv 0 k (fun j => lN ((gl u).getD j 0)))) → Fr E mX9_lists d 76 [.ref 64, .int (nI t), .int (nI u), .ref tp, .ref q, .int (nI (dx u)), .int (nI W), .int (nI k)] [] h9 (fun r h2 => QWk TR Z reg s ns sg w1 w2 wk dt h0 kd a b (.int (lisF a dx rs rm (nI t) (nI u))) r h2 ∧ MT h2 rs rm (lisV a dx gl rs rm nu (nI t) (nI u))) := by
                    intro m
                    induction m with
                    | zero =>
                      intro k h9 hk hx9 cv
                      have ct := hx9.get (by simp <;> omega) ct
                      refine r_iload (pc2 := 78) 7 dX9_lists_76 rfl rfl ?_
                      refine r_iload (pc2 := 80) 6 dX9_lists_78 rfl rfl ?_
                      refine r_icmp_ge (tgt := 103) (pc2 := 83) dX9_lists_80 (by decide) rfl (fun b80 => ?_) (fun b80 => ?_)
                      · skip
                        refine r_iload (pc2 := 105) 6 dX9_lists_103 rfl rfl ?_
                        exact r_iret rfl dX9_lists_105 (hfin h9 hx9 (by rw [show W = k by omega]; exact cv))
                      · exact absurd (nI_le (by omega) (by omega)) b80
                    | succ m ih =>
                      intro k h9 hk hx9 cv
                      have hlt : k < W := by omega
                      have ct := hx9.get (by simp <;> omega) ct
                      have cq := hx9.get (by simp <;> omega) cq
                      have cfb := hx9.get (by simp <;> omega) cfb
                      refine r_iload (pc2 := 78) 7 dX9_lists_76 rfl rfl ?_
                      refine r_iload (pc2 := 80) 6 dX9_lists_78 rfl rfl ?_
                      refine r_icmp_ge (tgt := 103) (pc2 := 83) dX9_lists_80 (by decide) rfl (fun b80 => ?_) (fun b80 => ?_)
                      · exact absurd b80 (nI_ge hlt (by omega))
                      · skip
                        refine r_aload_n (pc2 := 84) 3 dX9_lists_83 rfl rfl rfl rfl ?_
                        refine r_iload (pc2 := 86) 7 dX9_lists_84 rfl rfl ?_
                        refine r_aload (pc2 := 88) 4 dX9_lists_86 rfl rfl rfl ?_
                        refine r_iload (pc2 := 90) 7 dX9_lists_88 rfl rfl ?_
                        refine r_callV1 (pc2 := 93) (As := [.int (nI k)]) (st := [.int (nI k), .ref tp]) kX9_255 rfl rfl dX9_lists_90 cq (by omega) rfl rfl (Nat.le_of_ble_eq_true rfl) (by omega) (c_stepsAt (i := k) (l := gl u) cq hg1 hg2 cfb hq139 hg4 hg5 hg6 hg7 (by omega) hg3 rfl) rfl (fun h2 hq90 => ?_)
                        obtain rfl := hq90.symm
                        refine r_i2l (pc2 := 94) dX9_lists_93 rfl ?_
                        refine r_castl (lN ((gl u).getD k 0)) (nI_l (by have := hg16 k (by omega); omega)) ?_
                        refine r_callV0 (pc2 := 97) (As := [.int (nI k), .long (lN ((gl u).getD k 0))]) (st := []) kX9_387 rfl rfl dX9_lists_94 ct (by omega) rfl rfl (Nat.le_of_ble_eq_true rfl) (by omega) (c_tput (i := k) (z := lN ((gl u).getD k 0)) ct cv (by omega) (by omega) (by omega) (by omega) hn40 (by omega)) rfl (fun h hq94 => ?_)
                        obtain ⟨hxp, cv⟩ := hq94
                        have cq := hxp.get (by simp <;> omega) cq
                        have cfb := hxp.get (by simp <;> omega) cfb
                        have ct := hxp.get (by simp <;> omega) ct
                        rw [cutN16 (hg16 k (by omega)), fillN_up (g := (fun j => lN ((gl u).getD j 0)))] at cv
                        have hx9 := hx9.trans hxp (by simp)
                        obtain ⟨x97, e97⟩ : ∃ z : Int32, z = (nI k) + (1) := ⟨_, rfl⟩
                        refine r_iinc (pc2 := 100) (ls2 := [.ref 64, .int (nI t), .int (nI u), .ref tp, .ref q, .int (nI (dx u)), .int (nI W), .int x97]) (v := x97) 7 dX9_lists_97 rfl (by rw [e97]; rfl) rfl rfl rfl ?_
                        refine r_goto (pc2 := 76) dX9_lists_100 (by decide) ?_
                        rw [e97, nI_1]
                        exact ih (k + 1) h (by omega) hx9 cv
                  exact loop W 0 h (by omega) Ex.rf (by rw [fillN_0]; exact cv)
                · exact absurd b56 (nI_nm1 (by omega))
              · exact absurd b33 (by decide)
            · exact absurd b21 (by decide)
          · exact absurd b4 (by decide)
      · skip
        refine Cn.go (ls := [.ref 64, .int (nI t), .int y, .float 0, .float 0, .float 0, .float 0, .float 0]) (by decide +kernel) rfl (Nat.le_of_ble_eq_true rfl) ?_
        refine r_iload_n (pc2 := 1) 1 dX9_lists_0 rfl rfl rfl ?_
        refine r_callS1 (pc2 := 4) (As := [.int (nI t)]) (st := []) kX9_210 dX9_lists_1 rfl rfl (Nat.le_of_ble_eq_true rfl) (by omega) (c_isTray.mono fun r h2 q => ⟨q.1.trans (by rw [if_pos hx]), q.2⟩) rfl (fun h2 hq1 => ?_)
        obtain rfl := hq1.symm
        refine r_if_ne (tgt := 10) (pc2 := 7) dX9_lists_4 (by decide) rfl (fun b4 => ?_) (fun b4 => ?_)
        · skip
          refine r_aload_n (pc2 := 11) 0 dX9_lists_10 rfl rfl rfl rfl ?_
          refine r_getf (pc2 := 14) (v := .ref 81) fX9_48 dX9_lists_11 c64 (by decide) rfl rfl ?_
          refine r_iload_n (pc2 := 15) 1 dX9_lists_14 rfl rfl rfl ?_
          refine r_aald (pc2 := 16) dX9_lists_15 c81 (by decide) (by decide) (nI_vp (j := t) rfl (by omega) (by decide)).1 (by rw [nI_clamp (by omega), hf t ht, hp]) (by omega) rfl ?_
          refine r_astore_n (pc2 := 17) (ls2 := [.ref 64, .int (nI t), .int y, .ref tp, .float 0, .float 0, .float 0, .float 0]) 3 dX9_lists_16 rfl (by decide) rfl rfl rfl rfl ?_
          refine r_aload_n (pc2 := 18) 3 dX9_lists_17 rfl rfl rfl rfl ?_
          refine r_getf (pc2 := 21) (v := .int 0) fX9_213 dX9_lists_18 ct (by omega) rfl rfl ?_
          refine r_if_eq (tgt := 27) (pc2 := 24) dX9_lists_21 (by decide) rfl (fun b21 => ?_) (fun b21 => ?_)
          · skip
            refine r_aload_n (pc2 := 28) 0 dX9_lists_27 rfl rfl rfl rfl ?_
            refine r_iload_n (pc2 := 29) 2 dX9_lists_28 rfl rfl rfl ?_
            refine r_i2l (pc2 := 30) dX9_lists_29 rfl ?_
            refine r_callV1 (pc2 := 33) (As := [.long (Int32.toInt64 y)]) (st := []) kX9_144 rfl rfl dX9_lists_30 c64 (by decide) rfl rfl (Nat.le_of_ble_eq_true rfl) (by omega) ((c_isSetC c64 cs hs64 hG9).mono fun r h2 q => ⟨q.1.trans (by rw [← st3, if_neg hv]), q.2⟩) rfl (fun h2 hq30 => ?_)
            obtain rfl := hq30.symm
            refine r_if_ne (tgt := 39) (pc2 := 36) dX9_lists_33 (by decide) rfl (fun b33 => ?_) (fun b33 => ?_)
            · exact absurd b33 (by decide)
            · skip
              refine r_bipush (pc2 := 38) (v := -3) dX9_lists_36 (by decide) rfl ?_
              exact r_iret rfl dX9_lists_38 ⟨by rw [show lisF a dx rs rm (nI t) y = -3 by unfold lisF; rw [if_neg (fun z => z hno), if_neg hv]]; exact QWk.same hMK hD hN, by rw [show lisV a dx gl rs rm nu (nI t) y = nu by unfold lisV; rw [if_neg (fun z => hv z.1.2)]]; exact hMT⟩
          · exact absurd b21 (by decide)
        · exact absurd b4 (by decide)
  · have hno : noTrayF rs x = -2 := by unfold noTrayF; rw [if_neg hx]
    refine Cn.go (ls := [.ref 64, .int x, .int y, .float 0, .float 0, .float 0, .float 0, .float 0]) (by decide +kernel) rfl (Nat.le_of_ble_eq_true rfl) ?_
    refine r_iload_n (pc2 := 1) 1 dX9_lists_0 rfl rfl rfl ?_
    refine r_callS1 (pc2 := 4) (As := [.int x]) (st := []) kX9_210 dX9_lists_1 rfl rfl (Nat.le_of_ble_eq_true rfl) (by omega) (c_isTray.mono fun r h2 q => ⟨q.1.trans (by rw [if_neg hx]), q.2⟩) rfl (fun h2 hq1 => ?_)
    obtain rfl := hq1.symm
    refine r_if_ne (tgt := 10) (pc2 := 7) dX9_lists_4 (by decide) rfl (fun b4 => ?_) (fun b4 => ?_)
    · exact absurd b4 (by decide)
    · skip
      refine r_bipush (pc2 := 9) (v := -2) dX9_lists_7 (by decide) rfl ?_
      exact r_iret rfl dX9_lists_9 ⟨by rw [show lisF a dx rs rm x y = -2 by unfold lisF; rw [hno, if_pos (by decide)]]; exact QWk.same hMK hD hN, by rw [show lisV a dx gl rs rm nu x y = nu by unfold lisV; rw [if_neg (fun z => absurd (hno.symm.trans z.1.1) (by decide))]]; exact hMT⟩
