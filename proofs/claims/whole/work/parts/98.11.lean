/-! the class: refuseChance, chance, mean -/
theorem past_ok {a : FR} {s c : Nat} (hs : SG a s) (hc : c < 2 ^ (a 3)) (hG : a 3 ≤ 4) : pastN (a 1) s (a 3) &&& c = 0 ↔ ∀ g, g < a 3 → c.testBit g = true → s / 8 ^ g % 8 < a 1 := by
  constructor
  · intro h g hg hb
    have h1 : (pastN (a 1) s (a 3) &&& c).testBit g = false := by rw [h, Nat.zero_testBit]
    rw [Nat.testBit_and, pastN_bit _ _ _ _ hg, hb, Bool.and_true] at h1
    have h2 := of_decide_eq_false h1
    have h3 := hs.2.1 g (by omega)
    omega
  · intro h
    refine Nat.eq_of_testBit_eq (fun g => ?_)
    rw [Nat.zero_testBit, Nat.testBit_and]
    rcases Nat.lt_or_ge g (a 3) with q | q
    · rw [pastN_bit _ _ _ _ q]
      by_cases z : c.testBit g = true
      · have := h g q z
        rw [z, Bool.and_true]
        exact decide_eq_false (by omega)
      · rw [Bool.not_eq_true] at z
        rw [z, Bool.and_false]
    · rw [Nat.testBit_lt_two_pow (Nat.lt_of_lt_of_le hc (Nat.pow_le_pow_right (by decide) q)), Bool.and_false]
theorem okC_no {a : FR} {F : Nat → Nat} {n k x : Nat} (hx : ∀ g, g < a 3 → x / 8 ^ g % 8 = a (22 + g) + ctN F g k) (hk : k < n) (hn : ¬ ∀ g, g < a 3 → (F k).testBit g = true → x / 8 ^ g % 8 < a 1) : ¬ okC a F n (a 3) := fun z => hn (fun g hg hb => by
  have h1 := z g hg
  have h2 := ct_rm F g (n - (k + 1)) (k + 1)
  rw [show k + 1 + (n - (k + 1)) = n by omega] at h2
  have h3 : ctN F g (k + 1) = ctN F g k + 1 := by
    show ctN F g k + _ = _
    rw [if_pos hb]
  have h4 := hx g hg
  omega)
theorem okC_go {a : FR} {F : Nat → Nat} {k x o dr : Nat} (hG : a 3 ≤ 4) (hC : a 1 ≤ 6) (hx : ∀ g, g < a 3 → x / 8 ^ g % 8 = a (22 + g) + ctN F g k) (hn : ∀ g, g < a 3 → (F k).testBit g = true → x / 8 ^ g % 8 < a 1) : ∀ g, g < a 3 → hourN a x (F k) o dr / 8 ^ g % 8 = a (22 + g) + ctN F g (k + 1) := fun g hg => by
  rw [hourN_dig hG hC hn (by omega), hx g hg]
  show _ = _ + (ctN F g k + _)
  by_cases z : (F k).testBit g = true
  · rw [if_pos ⟨hg, z⟩, if_pos z]; omega
  · rw [if_neg (fun q => z q.2), if_neg z]; omega
def MW (h : Hp) (w1 w2 : Nat) : Prop := ((w1 = 95 ∧ w2 = 96) ∨ (w1 = 96 ∧ w2 = 95)) ∧ (∃ f, h.1 w1 = some (aL 10 f)) ∧ ∃ g, h.1 w2 = some (aL 10 g)
set_option maxRecDepth 20000 in
set_option maxHeartbeats 1000000 in
theorem c_refuseChance {E : EnvT} {d : Nat} {h0 : Hp} {ns s w1 w2 : Nat} {wk dt : Value} {Z : Nat → Prop} {reg : Nat → FR} {sg kd : Nat} {a b : FR} {rs rm : Nat → Int32} {nu : Nat → Int64} {un : Nat} {x w : Int32} (c64 : h0.1 64 = some (.inr (9, coL s ns un w1 w2 wk dt))) (c76 : h0.1 76 = some (.inr (5, sdL (keepV a)))) (hMT : MT h0 rs rm nu) (hT : TOK rs rm) (hD : DV Z h0 reg ns s sg kd b) (hA : AIN a) (hst : Stat a b) (hd : 2 ≤ d) : Cn E mX9_refuseChance d [.ref 64, .int x, .int w] h0 (fun r h2 => r = some (.int (ncF a rs rm nu x w)) ∧ h2 = h0) := by
  have hG := hA.G
  have hp16 := pw16 hA.G
  have st3 : a 3 = b 3 := hst 3 (by omega)
  have hG9 := hD.G
  have hs64 := hD.s64
  obtain ⟨lo, so9, sa, nl, sl, cs⟩ := hD.cs
  by_cases hx : inR 0 3 x
  · by_cases hw : inR 0 1 w
    · have hw2 := (inR_iff (l := 0) (h := 1) (by decide) (by decide) w).mp hw
      obtain ⟨t, _, ht3, rfl⟩ := inR_of (by decide) (by decide) hx
      have ht : t < 4 := by omega
      obtain ⟨⟨f, c81, hf⟩, _⟩ := id hMT
      obtain ⟨ms, so, si, vv, ct, cv, q1, q2⟩ := hMT.2 t ht
      generalize hp : 109 + 2 * t = p at ct
      generalize hq : 110 + 2 * t = q at ct cv
      have hn1 : rm t = nI (rowN rm t) := (hT t ht).1
      have hn40 : rowN rm t ≤ 40 := (hT t ht).2
      by_cases hs : rs t = -1
      · have hno : noTrayF rs (nI t) = -6 := by unfold noTrayF; rw [if_pos hx, nI_clamp (by omega), if_pos hs]
        obtain rfl := q1 hs
        refine Cn.go (ls := [.ref 64, .int (nI t), .int w, .float 0, .float 0, .float 0, .float 0]) (by decide +kernel) rfl (Nat.le_of_ble_eq_true rfl) ?_
        refine r_iload_n (pc2 := 1) 1 dX9_refuseChance_0 rfl rfl rfl ?_
        refine r_callS1 (pc2 := 4) (As := [.int (nI t)]) (st := []) kX9_210 dX9_refuseChance_1 rfl rfl (Nat.le_of_ble_eq_true rfl) (by omega) (c_isTray.mono fun r h2 q => ⟨q.1.trans (by rw [if_pos hx]), q.2⟩) rfl (fun h2 hq1 => ?_)
        obtain rfl := hq1.symm
        refine r_if_eq (tgt := 16) (pc2 := 7) dX9_refuseChance_4 (by decide) rfl (fun b4 => ?_) (fun b4 => ?_)
        · exact absurd b4 (by decide)
        · skip
          refine r_iload_n (pc2 := 8) 2 dX9_refuseChance_7 rfl rfl rfl ?_
          refine r_if_lt (tgt := 16) (pc2 := 11) dX9_refuseChance_8 (by decide) rfl (fun b8 => ?_) (fun b8 => ?_)
          · exact absurd b8 (Int32.not_lt.mpr hw2.1)
          · skip
            refine r_iload_n (pc2 := 12) 2 dX9_refuseChance_11 rfl rfl rfl ?_
            refine r_iconst (pc2 := 13) (v := 1) dX9_refuseChance_12 (by decide) rfl ?_
            refine r_icmp_le (tgt := 19) (pc2 := 16) dX9_refuseChance_13 (by decide) rfl (fun b13 => ?_) (fun b13 => ?_)
            · skip
              refine r_aload_n (pc2 := 20) 0 dX9_refuseChance_19 rfl rfl rfl rfl ?_
              refine r_getf (pc2 := 23) (v := .ref 81) fX9_48 dX9_refuseChance_20 c64 (by decide) rfl rfl ?_
              refine r_iload_n (pc2 := 24) 1 dX9_refuseChance_23 rfl rfl rfl ?_
              refine r_aald (pc2 := 25) dX9_refuseChance_24 c81 (by decide) (by decide) (nI_vp (j := t) rfl (by omega) (by decide)).1 (by rw [nI_clamp (by omega), hf t ht, hp]) (by omega) rfl ?_
              refine r_astore_n (pc2 := 26) (ls2 := [.ref 64, .int (nI t), .int w, .ref p, .float 0, .float 0, .float 0]) 3 dX9_refuseChance_25 rfl (by decide) rfl rfl rfl rfl ?_
              refine r_aload_n (pc2 := 27) 3 dX9_refuseChance_26 rfl rfl rfl rfl ?_
              refine r_getf (pc2 := 30) (v := .int 1) fX9_213 dX9_refuseChance_27 ct (by omega) rfl rfl ?_
              refine r_if_eq (tgt := 36) (pc2 := 33) dX9_refuseChance_30 (by decide) rfl (fun b30 => ?_) (fun b30 => ?_)
              · exact absurd b30 (by decide)
              · skip
                refine r_bipush (pc2 := 35) (v := -6) dX9_refuseChance_33 (by decide) rfl ?_
                exact r_iret rfl dX9_refuseChance_35 ⟨by unfold ncF; rw [if_pos ⟨hx, hw⟩, hno, if_pos (by decide)], rfl⟩
            · exact absurd hw2.2 b13
      · skip
        have hno : noTrayF rs (nI t) = 0 := by unfold noTrayF; rw [if_pos hx, nI_clamp (by omega), if_neg hs]
        obtain ⟨rfl, rfl, rfl, q3⟩ := q2 hs
        obtain ⟨n, hnn⟩ : ∃ n, n = rowN rm t := ⟨_, rfl⟩
        have q3 : ∀ j, j < n → vv j = nu (40 * t + j) := fun j hj => q3 j (by rw [hnn] at hj; exact hj)
        rw [← hnn] at hn1 hn40
        rw [hn1] at ct
        by_cases hin : inR 1 6 (nI n)
        · have hi2 := (inR_iff (l := 1) (h := 6) (by decide) (by decide) (nI n)).mp hin
          have hi3 := inR_toNat (l := 1) (h := 6) (k := n) (by decide) (by decide) (by omega) |>.mp hin
          have loop2 : ∀ m k x9 (u6 : Value), okV (a 3) nu t n → k + m = n → SG a x9 → (∀ g, g < a 3 → x9 / 8 ^ g % 8 = a (22 + g) + ctN (sv nu t) g k) → Fr E mX9_refuseChance d 102 [.ref 64, .int (nI t), .int w, .ref p, .int (nI (tws x9)), .int (nI k), u6] [] h0 (fun r h2 => r = some (.int (ncF a rs rm nu (nI t) w)) ∧ h2 = h0) := by
            intro m k x9 u6 hV9
            induction m generalizing k x9 u6 with
            | zero =>
              intro hk hs9 hx9
              obtain rfl : k = n := by omega
              refine r_iload (pc2 := 104) 5 dX9_refuseChance_102 rfl rfl ?_
              refine r_aload_n (pc2 := 105) 3 dX9_refuseChance_104 rfl rfl rfl rfl ?_
              refine r_getf (pc2 := 108) (v := .int (nI k)) fX9_217 dX9_refuseChance_105 ct (by omega) rfl rfl ?_
              refine r_icmp_ge (tgt := 154) (pc2 := 111) dX9_refuseChance_108 (by decide) rfl (fun b108 => ?_) (fun b108 => ?_)
              · skip
                refine r_iconst (pc2 := 155) (v := 0) dX9_refuseChance_154 (by decide) rfl ?_
                exact r_iret rfl dX9_refuseChance_155 ⟨by unfold ncF; rw [if_pos ⟨hx, hw⟩, if_neg (fun z => z hno), nI_clamp (by omega), hn1, if_pos hin, if_pos (hnn ▸ hV9), if_pos (hnn ▸ fun g hg => by rw [← hx9 g hg]; exact hs9.2.1 g (by omega))], rfl⟩
              · exact absurd (nI_le (Nat.le_refl _) (by omega)) b108
            | succ m ih =>
              intro hk hs9 hx9
              have hlt : k < n := by omega
              have hsv := okV_sv hA.G hV9 hlt
              by_cases hst9 : ∀ g, g < a 3 → (sv nu t k).testBit g = true → x9 / 8 ^ g % 8 < a 1
              · skip
                refine r_iload (pc2 := 104) 5 dX9_refuseChance_102 rfl rfl ?_
                refine r_aload_n (pc2 := 105) 3 dX9_refuseChance_104 rfl rfl rfl rfl ?_
                refine r_getf (pc2 := 108) (v := .int (nI n)) fX9_217 dX9_refuseChance_105 ct (by omega) rfl rfl ?_
                refine r_icmp_ge (tgt := 154) (pc2 := 111) dX9_refuseChance_108 (by decide) rfl (fun b108 => ?_) (fun b108 => ?_)
                · exact absurd b108 (nI_ge hlt (by omega))
                · skip
                  refine r_aload_n (pc2 := 112) 3 dX9_refuseChance_111 rfl rfl rfl rfl ?_
                  refine r_iload (pc2 := 114) 5 dX9_refuseChance_112 rfl rfl ?_
                  refine r_callV1 (pc2 := 117) (As := [.int (nI k)]) (st := []) kX9_220 rfl rfl dX9_refuseChance_114 ct (by omega) rfl rfl (Nat.le_of_ble_eq_true rfl) (by omega) ((c_tget ct cv (by omega) (by omega) hlt hn40).mono fun r h2 q => ⟨q.1.trans (by rw [q3 k hlt]), q.2⟩) rfl (fun h2 hq114 => ?_)
                  obtain rfl := hq114.symm
                  refine r_l2i (pc2 := 118) dX9_refuseChance_117 rfl ?_
                  refine r_cast (nI (sv nu t k)) (by rw [hsv.1]; exact lN_i _) ?_
                  refine r_istore (pc2 := 120) (ls2 := [.ref 64, .int (nI t), .int w, .ref p, .int (nI (tws x9)), .int (nI k), .int (nI (sv nu t k))]) 6 dX9_refuseChance_118 (by decide) rfl rfl rfl ?_
                  refine r_iload (pc2 := 122) 6 dX9_refuseChance_120 rfl rfl ?_
                  refine r_aload_n (pc2 := 123) 0 dX9_refuseChance_122 rfl rfl rfl rfl ?_
                  refine r_getf (pc2 := 126) (v := .ref s) fX9_21 dX9_refuseChance_123 c64 (by decide) rfl rfl ?_
                  refine r_iload (pc2 := 128) 4 dX9_refuseChance_126 rfl rfl ?_
                  refine r_callV1 (pc2 := 131) (As := [.int (nI (tws x9))]) (st := [.int (nI (sv nu t k))]) kX9_156 rfl rfl dX9_refuseChance_128 cs hs64 rfl rfl (Nat.le_of_ble_eq_true rfl) (by omega) (c_pastQ (s := x9) hD hst hs9.2.1 rfl) rfl (fun h2 hq128 => ?_)
                  obtain rfl := hq128.symm
                  refine r_iand (pc2 := 132) dX9_refuseChance_131 rfl ?_
                  refine r_cast (nI ((sv nu t k) &&& (pastN (a 1) x9 (a 3)))) (nI_and _ _) ?_
                  refine r_if_eq (tgt := 138) (pc2 := 135) dX9_refuseChance_132 (by decide) rfl (fun b132 => ?_) (fun b132 => ?_)
                  · skip
                    refine r_iload (pc2 := 140) 4 dX9_refuseChance_138 rfl rfl ?_
                    refine r_iload (pc2 := 142) 6 dX9_refuseChance_140 rfl rfl ?_
                    refine r_callS1 (pc2 := 145) (As := [.int (nI (sv nu t k))]) (st := [.int (nI (tws x9))]) kX9_160 dX9_refuseChance_142 rfl rfl (Nat.le_of_ble_eq_true rfl) (by omega) (c_shiftOf (sn := (sv nu t k)) (by omega)) rfl (fun h2 hq142 => ?_)
                    obtain rfl := hq142.symm
                    refine r_iadd (pc2 := 146) dX9_refuseChance_145 rfl ?_
                    refine r_cast (nI (tws (hourN a x9 (sv nu t k) 0 (a 27)))) (by rw [nI_add, tws_hour hA.G hA.C hst9 hsv.2]) ?_
                    refine r_istore (pc2 := 148) (ls2 := [.ref 64, .int (nI t), .int w, .ref p, .int (nI (tws (hourN a x9 (sv nu t k) 0 (a 27)))), .int (nI k), .int (nI (sv nu t k))]) 4 dX9_refuseChance_146 (by decide) rfl rfl rfl ?_
                    obtain ⟨x148, e148⟩ : ∃ z : Int32, z = (nI k) + (1) := ⟨_, rfl⟩
                    refine r_iinc (pc2 := 151) (ls2 := [.ref 64, .int (nI t), .int w, .ref p, .int (nI (tws (hourN a x9 (sv nu t k) 0 (a 27)))), .int x148, .int (nI (sv nu t k))]) (v := x148) 5 dX9_refuseChance_148 rfl (by rw [e148]; rfl) rfl rfl rfl ?_
                    refine r_goto (pc2 := 102) dX9_refuseChance_151 (by decide) ?_
                    rw [e148, nI_1]
                    exact ih (k + 1) _ _ (by omega) (hs9.hour hA.G hA.C hst9) (okC_go hA.G hA.C hx9 hst9)
                  · exact absurd (congrArg nI (by rw [Nat.and_comm]; exact (past_ok hs9 hsv.2 hA.G).mpr hst9)) b132
              · skip
                refine r_iload (pc2 := 104) 5 dX9_refuseChance_102 rfl rfl ?_
                refine r_aload_n (pc2 := 105) 3 dX9_refuseChance_104 rfl rfl rfl rfl ?_
                refine r_getf (pc2 := 108) (v := .int (nI n)) fX9_217 dX9_refuseChance_105 ct (by omega) rfl rfl ?_
                refine r_icmp_ge (tgt := 154) (pc2 := 111) dX9_refuseChance_108 (by decide) rfl (fun b108 => ?_) (fun b108 => ?_)
                · exact absurd b108 (nI_ge hlt (by omega))
                · skip
                  refine r_aload_n (pc2 := 112) 3 dX9_refuseChance_111 rfl rfl rfl rfl ?_
                  refine r_iload (pc2 := 114) 5 dX9_refuseChance_112 rfl rfl ?_
                  refine r_callV1 (pc2 := 117) (As := [.int (nI k)]) (st := []) kX9_220 rfl rfl dX9_refuseChance_114 ct (by omega) rfl rfl (Nat.le_of_ble_eq_true rfl) (by omega) ((c_tget ct cv (by omega) (by omega) hlt hn40).mono fun r h2 q => ⟨q.1.trans (by rw [q3 k hlt]), q.2⟩) rfl (fun h2 hq114 => ?_)
                  obtain rfl := hq114.symm
                  refine r_l2i (pc2 := 118) dX9_refuseChance_117 rfl ?_
                  refine r_cast (nI (sv nu t k)) (by rw [hsv.1]; exact lN_i _) ?_
                  refine r_istore (pc2 := 120) (ls2 := [.ref 64, .int (nI t), .int w, .ref p, .int (nI (tws x9)), .int (nI k), .int (nI (sv nu t k))]) 6 dX9_refuseChance_118 (by decide) rfl rfl rfl ?_
                  refine r_iload (pc2 := 122) 6 dX9_refuseChance_120 rfl rfl ?_
                  refine r_aload_n (pc2 := 123) 0 dX9_refuseChance_122 rfl rfl rfl rfl ?_
                  refine r_getf (pc2 := 126) (v := .ref s) fX9_21 dX9_refuseChance_123 c64 (by decide) rfl rfl ?_
                  refine r_iload (pc2 := 128) 4 dX9_refuseChance_126 rfl rfl ?_
                  refine r_callV1 (pc2 := 131) (As := [.int (nI (tws x9))]) (st := [.int (nI (sv nu t k))]) kX9_156 rfl rfl dX9_refuseChance_128 cs hs64 rfl rfl (Nat.le_of_ble_eq_true rfl) (by omega) (c_pastQ (s := x9) hD hst hs9.2.1 rfl) rfl (fun h2 hq128 => ?_)
                  obtain rfl := hq128.symm
                  refine r_iand (pc2 := 132) dX9_refuseChance_131 rfl ?_
                  refine r_cast (nI ((sv nu t k) &&& (pastN (a 1) x9 (a 3)))) (nI_and _ _) ?_
                  refine r_if_eq (tgt := 138) (pc2 := 135) dX9_refuseChance_132 (by decide) rfl (fun b132 => ?_) (fun b132 => ?_)
                  · exact absurd ((past_ok hs9 hsv.2 hA.G).mp (by rw [Nat.and_comm]; exact nI_z0 (by have := Nat.and_le_left (n := (sv nu t k)) (m := (pastN (a 1) x9 (a 3))); omega) b132)) hst9
                  · skip
                    refine r_bipush (pc2 := 137) (v := -5) dX9_refuseChance_135 (by decide) rfl ?_
                    exact r_iret rfl dX9_refuseChance_137 ⟨by unfold ncF; rw [if_pos ⟨hx, hw⟩, if_neg (fun z => z hno), nI_clamp (by omega), hn1, if_pos hin, if_pos (hnn ▸ hV9), if_neg (hnn ▸ okC_no hx9 hlt hst9)], rfl⟩
          have loop : ∀ m k (u5 u6 : Value), k + m = n → (∀ i, i < k → vS (a 3) (nu (40 * t + i))) → Fr E mX9_refuseChance d 59 [.ref 64, .int (nI t), .int w, .ref p, .int (nI k), u5, u6] [] h0 (fun r h2 => r = some (.int (ncF a rs rm nu (nI t) w)) ∧ h2 = h0) := by
            intro m
            induction m with
            | zero =>
              intro k u5 u6 hk hok
              obtain rfl : k = n := by omega
              refine r_iload (pc2 := 61) 4 dX9_refuseChance_59 rfl rfl ?_
              refine r_aload_n (pc2 := 62) 3 dX9_refuseChance_61 rfl rfl rfl rfl ?_
              refine r_getf (pc2 := 65) (v := .int (nI k)) fX9_217 dX9_refuseChance_62 ct (by omega) rfl rfl ?_
              refine r_icmp_ge (tgt := 90) (pc2 := 68) dX9_refuseChance_65 (by decide) rfl (fun b65 => ?_) (fun b65 => ?_)
              · skip
                refine r_aload_n (pc2 := 91) 0 dX9_refuseChance_90 rfl rfl rfl rfl ?_
                refine r_getf (pc2 := 94) (v := .ref 76) fX9_28 dX9_refuseChance_91 c64 (by decide) rfl rfl ?_
                refine r_getf (pc2 := 97) (v := .int (nI (tow (keepV a)))) fX9_114 dX9_refuseChance_94 c76 (by decide) rfl rfl ?_
                refine r_cast (nI (tws (packS a))) (by rw [tow_tws hA]) ?_
                refine r_istore (pc2 := 99) (ls2 := [.ref 64, .int (nI t), .int w, .ref p, .int (nI (tws (packS a))), u5, u6]) 4 dX9_refuseChance_97 (by decide) rfl rfl rfl ?_
                refine r_iconst (pc2 := 100) (v := 0) dX9_refuseChance_99 (by decide) rfl ?_
                refine r_cast (nI 0) (rfl) ?_
                refine r_istore (pc2 := 102) (ls2 := [.ref 64, .int (nI t), .int w, .ref p, .int (nI (tws (packS a))), .int (nI 0), u6]) 5 dX9_refuseChance_100 (by decide) rfl rfl rfl ?_
                exact loop2 k 0 (packS a) _ hok (by omega) (SG.now hA) (fun g hg => by rw [hA.pdig g (by omega)]; rfl)
              · exact absurd (nI_le (Nat.le_refl _) (by omega)) b65
            | succ m ih =>
              intro k u5 u6 hk hok
              have hlt : k < n := by omega
              by_cases hw3 : vS (a 3) (nu (40 * t + k))
              · skip
                refine r_iload (pc2 := 61) 4 dX9_refuseChance_59 rfl rfl ?_
                refine r_aload_n (pc2 := 62) 3 dX9_refuseChance_61 rfl rfl rfl rfl ?_
                refine r_getf (pc2 := 65) (v := .int (nI n)) fX9_217 dX9_refuseChance_62 ct (by omega) rfl rfl ?_
                refine r_icmp_ge (tgt := 90) (pc2 := 68) dX9_refuseChance_65 (by decide) rfl (fun b65 => ?_) (fun b65 => ?_)
                · exact absurd b65 (nI_ge hlt (by omega))
                · skip
                  refine r_aload_n (pc2 := 69) 0 dX9_refuseChance_68 rfl rfl rfl rfl ?_
                  refine r_aload_n (pc2 := 70) 3 dX9_refuseChance_69 rfl rfl rfl rfl ?_
                  refine r_iload (pc2 := 72) 4 dX9_refuseChance_70 rfl rfl ?_
                  refine r_callV1 (pc2 := 75) (As := [.int (nI k)]) (st := [.ref 64]) kX9_220 rfl rfl dX9_refuseChance_72 ct (by omega) rfl rfl (Nat.le_of_ble_eq_true rfl) (by omega) ((c_tget ct cv (by omega) (by omega) hlt hn40).mono fun r h2 q => ⟨q.1.trans (by rw [q3 k hlt]), q.2⟩) rfl (fun h2 hq72 => ?_)
                  obtain rfl := hq72.symm
                  refine r_callV1 (pc2 := 78) (As := [.long (nu (40 * t + k))]) (st := []) kX9_144 rfl rfl dX9_refuseChance_75 c64 (by decide) rfl rfl (Nat.le_of_ble_eq_true rfl) (by omega) ((c_isSetC c64 cs hs64 hG9).mono fun r h2 q => ⟨q.1.trans (by rw [← st3, if_pos hw3]), q.2⟩) rfl (fun h2 hq75 => ?_)
                  obtain rfl := hq75.symm
                  refine r_if_ne (tgt := 84) (pc2 := 81) dX9_refuseChance_78 (by decide) rfl (fun b78 => ?_) (fun b78 => ?_)
                  · skip
                    obtain ⟨x84, e84⟩ : ∃ z : Int32, z = (nI k) + (1) := ⟨_, rfl⟩
                    refine r_iinc (pc2 := 87) (ls2 := [.ref 64, .int (nI t), .int w, .ref p, .int x84, u5, u6]) (v := x84) 4 dX9_refuseChance_84 rfl (by rw [e84]; rfl) rfl rfl rfl ?_
                    refine r_goto (pc2 := 59) dX9_refuseChance_87 (by decide) ?_
                    rw [e84, nI_1]
                    exact ih (k + 1) _ _ (by omega) (fun i hi => by rcases Nat.lt_succ_iff_lt_or_eq.mp hi with z | z; exact hok i z; rw [z]; exact hw3)
                  · exact absurd b78 (by decide)
              · skip
                refine r_iload (pc2 := 61) 4 dX9_refuseChance_59 rfl rfl ?_
                refine r_aload_n (pc2 := 62) 3 dX9_refuseChance_61 rfl rfl rfl rfl ?_
                refine r_getf (pc2 := 65) (v := .int (nI n)) fX9_217 dX9_refuseChance_62 ct (by omega) rfl rfl ?_
                refine r_icmp_ge (tgt := 90) (pc2 := 68) dX9_refuseChance_65 (by decide) rfl (fun b65 => ?_) (fun b65 => ?_)
                · exact absurd b65 (nI_ge hlt (by omega))
                · skip
                  refine r_aload_n (pc2 := 69) 0 dX9_refuseChance_68 rfl rfl rfl rfl ?_
                  refine r_aload_n (pc2 := 70) 3 dX9_refuseChance_69 rfl rfl rfl rfl ?_
                  refine r_iload (pc2 := 72) 4 dX9_refuseChance_70 rfl rfl ?_
                  refine r_callV1 (pc2 := 75) (As := [.int (nI k)]) (st := [.ref 64]) kX9_220 rfl rfl dX9_refuseChance_72 ct (by omega) rfl rfl (Nat.le_of_ble_eq_true rfl) (by omega) ((c_tget ct cv (by omega) (by omega) hlt hn40).mono fun r h2 q => ⟨q.1.trans (by rw [q3 k hlt]), q.2⟩) rfl (fun h2 hq72 => ?_)
                  obtain rfl := hq72.symm
                  refine r_callV1 (pc2 := 78) (As := [.long (nu (40 * t + k))]) (st := []) kX9_144 rfl rfl dX9_refuseChance_75 c64 (by decide) rfl rfl (Nat.le_of_ble_eq_true rfl) (by omega) ((c_isSetC c64 cs hs64 hG9).mono fun r h2 q => ⟨q.1.trans (by rw [← st3, if_neg hw3]), q.2⟩) rfl (fun h2 hq75 => ?_)
                  obtain rfl := hq75.symm
                  refine r_if_ne (tgt := 84) (pc2 := 81) dX9_refuseChance_78 (by decide) rfl (fun b78 => ?_) (fun b78 => ?_)
                  · exact absurd b78 (by decide)
                  · skip
                    refine r_bipush (pc2 := 83) (v := -3) dX9_refuseChance_81 (by decide) rfl ?_
                    exact r_iret rfl dX9_refuseChance_83 ⟨by unfold ncF; rw [if_pos ⟨hx, hw⟩, if_neg (fun z => z hno), nI_clamp (by omega), hn1, if_pos hin, if_neg (fun z => hw3 (z k (hnn ▸ hlt)))], rfl⟩
          refine Cn.go (ls := [.ref 64, .int (nI t), .int w, .float 0, .float 0, .float 0, .float 0]) (by decide +kernel) rfl (Nat.le_of_ble_eq_true rfl) ?_
          refine r_iload_n (pc2 := 1) 1 dX9_refuseChance_0 rfl rfl rfl ?_
          refine r_callS1 (pc2 := 4) (As := [.int (nI t)]) (st := []) kX9_210 dX9_refuseChance_1 rfl rfl (Nat.le_of_ble_eq_true rfl) (by omega) (c_isTray.mono fun r h2 q => ⟨q.1.trans (by rw [if_pos hx]), q.2⟩) rfl (fun h2 hq1 => ?_)
          obtain rfl := hq1.symm
          refine r_if_eq (tgt := 16) (pc2 := 7) dX9_refuseChance_4 (by decide) rfl (fun b4 => ?_) (fun b4 => ?_)
          · exact absurd b4 (by decide)
          · skip
            refine r_iload_n (pc2 := 8) 2 dX9_refuseChance_7 rfl rfl rfl ?_
            refine r_if_lt (tgt := 16) (pc2 := 11) dX9_refuseChance_8 (by decide) rfl (fun b8 => ?_) (fun b8 => ?_)
            · exact absurd b8 (Int32.not_lt.mpr hw2.1)
            · skip
              refine r_iload_n (pc2 := 12) 2 dX9_refuseChance_11 rfl rfl rfl ?_
              refine r_iconst (pc2 := 13) (v := 1) dX9_refuseChance_12 (by decide) rfl ?_
              refine r_icmp_le (tgt := 19) (pc2 := 16) dX9_refuseChance_13 (by decide) rfl (fun b13 => ?_) (fun b13 => ?_)
              · skip
                refine r_aload_n (pc2 := 20) 0 dX9_refuseChance_19 rfl rfl rfl rfl ?_
                refine r_getf (pc2 := 23) (v := .ref 81) fX9_48 dX9_refuseChance_20 c64 (by decide) rfl rfl ?_
                refine r_iload_n (pc2 := 24) 1 dX9_refuseChance_23 rfl rfl rfl ?_
                refine r_aald (pc2 := 25) dX9_refuseChance_24 c81 (by decide) (by decide) (nI_vp (j := t) rfl (by omega) (by decide)).1 (by rw [nI_clamp (by omega), hf t ht, hp]) (by omega) rfl ?_
                refine r_astore_n (pc2 := 26) (ls2 := [.ref 64, .int (nI t), .int w, .ref p, .float 0, .float 0, .float 0]) 3 dX9_refuseChance_25 rfl (by decide) rfl rfl rfl rfl ?_
                refine r_aload_n (pc2 := 27) 3 dX9_refuseChance_26 rfl rfl rfl rfl ?_
                refine r_getf (pc2 := 30) (v := .int 0) fX9_213 dX9_refuseChance_27 ct (by omega) rfl rfl ?_
                refine r_if_eq (tgt := 36) (pc2 := 33) dX9_refuseChance_30 (by decide) rfl (fun b30 => ?_) (fun b30 => ?_)
                · skip
                  refine r_aload_n (pc2 := 37) 3 dX9_refuseChance_36 rfl rfl rfl rfl ?_
                  refine r_getf (pc2 := 40) (v := .int (nI n)) fX9_217 dX9_refuseChance_37 ct (by omega) rfl rfl ?_
                  refine r_iconst (pc2 := 41) (v := 1) dX9_refuseChance_40 (by decide) rfl ?_
                  refine r_icmp_lt (tgt := 53) (pc2 := 44) dX9_refuseChance_41 (by decide) rfl (fun b41 => ?_) (fun b41 => ?_)
                  · exact absurd b41 (nI_nlt (b := 1) (by omega) (by omega))
                  · skip
                    refine r_aload_n (pc2 := 45) 3 dX9_refuseChance_44 rfl rfl rfl rfl ?_
                    refine r_getf (pc2 := 48) (v := .int (nI n)) fX9_217 dX9_refuseChance_45 ct (by omega) rfl rfl ?_
                    refine r_bipush (pc2 := 50) (v := 6) dX9_refuseChance_48 (by decide) rfl ?_
                    refine r_icmp_le (tgt := 56) (pc2 := 53) dX9_refuseChance_50 (by decide) rfl (fun b50 => ?_) (fun b50 => ?_)
                    · skip
                      refine r_iconst (pc2 := 57) (v := 0) dX9_refuseChance_56 (by decide) rfl ?_
                      refine r_cast (nI 0) (rfl) ?_
                      refine r_istore (pc2 := 59) (ls2 := [.ref 64, .int (nI t), .int w, .ref p, .int (nI 0), .float 0, .float 0]) 4 dX9_refuseChance_57 (by decide) rfl rfl rfl ?_
                      exact loop n 0 _ _ (by omega) (fun i hi => absurd hi (Nat.not_lt_zero _))
                    · exact absurd (nI_le (b := 6) (by omega) (by decide)) b50
                · exact absurd b30 (by decide)
              · exact absurd hw2.2 b13
        · skip
          refine Cn.go (ls := [.ref 64, .int (nI t), .int w, .float 0, .float 0, .float 0, .float 0]) (by decide +kernel) rfl (Nat.le_of_ble_eq_true rfl) ?_
          refine r_iload_n (pc2 := 1) 1 dX9_refuseChance_0 rfl rfl rfl ?_
          refine r_callS1 (pc2 := 4) (As := [.int (nI t)]) (st := []) kX9_210 dX9_refuseChance_1 rfl rfl (Nat.le_of_ble_eq_true rfl) (by omega) (c_isTray.mono fun r h2 q => ⟨q.1.trans (by rw [if_pos hx]), q.2⟩) rfl (fun h2 hq1 => ?_)
          obtain rfl := hq1.symm
          refine r_if_eq (tgt := 16) (pc2 := 7) dX9_refuseChance_4 (by decide) rfl (fun b4 => ?_) (fun b4 => ?_)
          · exact absurd b4 (by decide)
          · skip
            refine r_iload_n (pc2 := 8) 2 dX9_refuseChance_7 rfl rfl rfl ?_
            refine r_if_lt (tgt := 16) (pc2 := 11) dX9_refuseChance_8 (by decide) rfl (fun b8 => ?_) (fun b8 => ?_)
            · exact absurd b8 (Int32.not_lt.mpr hw2.1)
            · skip
              refine r_iload_n (pc2 := 12) 2 dX9_refuseChance_11 rfl rfl rfl ?_
              refine r_iconst (pc2 := 13) (v := 1) dX9_refuseChance_12 (by decide) rfl ?_
              refine r_icmp_le (tgt := 19) (pc2 := 16) dX9_refuseChance_13 (by decide) rfl (fun b13 => ?_) (fun b13 => ?_)
              · skip
                refine r_aload_n (pc2 := 20) 0 dX9_refuseChance_19 rfl rfl rfl rfl ?_
                refine r_getf (pc2 := 23) (v := .ref 81) fX9_48 dX9_refuseChance_20 c64 (by decide) rfl rfl ?_
                refine r_iload_n (pc2 := 24) 1 dX9_refuseChance_23 rfl rfl rfl ?_
                refine r_aald (pc2 := 25) dX9_refuseChance_24 c81 (by decide) (by decide) (nI_vp (j := t) rfl (by omega) (by decide)).1 (by rw [nI_clamp (by omega), hf t ht, hp]) (by omega) rfl ?_
                refine r_astore_n (pc2 := 26) (ls2 := [.ref 64, .int (nI t), .int w, .ref p, .float 0, .float 0, .float 0]) 3 dX9_refuseChance_25 rfl (by decide) rfl rfl rfl rfl ?_
                refine r_aload_n (pc2 := 27) 3 dX9_refuseChance_26 rfl rfl rfl rfl ?_
                refine r_getf (pc2 := 30) (v := .int 0) fX9_213 dX9_refuseChance_27 ct (by omega) rfl rfl ?_
                refine r_if_eq (tgt := 36) (pc2 := 33) dX9_refuseChance_30 (by decide) rfl (fun b30 => ?_) (fun b30 => ?_)
                · skip
                  refine r_aload_n (pc2 := 37) 3 dX9_refuseChance_36 rfl rfl rfl rfl ?_
                  refine r_getf (pc2 := 40) (v := .int (nI n)) fX9_217 dX9_refuseChance_37 ct (by omega) rfl rfl ?_
                  refine r_iconst (pc2 := 41) (v := 1) dX9_refuseChance_40 (by decide) rfl ?_
                  refine r_icmp_lt (tgt := 53) (pc2 := 44) dX9_refuseChance_41 (by decide) rfl (fun b41 => ?_) (fun b41 => ?_)
                  · skip
                    refine r_bipush (pc2 := 55) (v := -4) dX9_refuseChance_53 (by decide) rfl ?_
                    exact r_iret rfl dX9_refuseChance_55 ⟨by unfold ncF; rw [if_pos ⟨hx, hw⟩, if_neg (fun z => z hno), nI_clamp (by omega), hn1, if_neg hin], rfl⟩
                  · skip
                    refine r_aload_n (pc2 := 45) 3 dX9_refuseChance_44 rfl rfl rfl rfl ?_
                    refine r_getf (pc2 := 48) (v := .int (nI n)) fX9_217 dX9_refuseChance_45 ct (by omega) rfl rfl ?_
                    refine r_bipush (pc2 := 50) (v := 6) dX9_refuseChance_48 (by decide) rfl ?_
                    refine r_icmp_le (tgt := 56) (pc2 := 53) dX9_refuseChance_50 (by decide) rfl (fun b50 => ?_) (fun b50 => ?_)
                    · exact absurd (inR_of2 b41 b50) hin
                    · skip
                      refine r_bipush (pc2 := 55) (v := -4) dX9_refuseChance_53 (by decide) rfl ?_
                      exact r_iret rfl dX9_refuseChance_55 ⟨by unfold ncF; rw [if_pos ⟨hx, hw⟩, if_neg (fun z => z hno), nI_clamp (by omega), hn1, if_neg hin], rfl⟩
                · exact absurd b30 (by decide)
              · exact absurd hw2.2 b13
    · skip
      refine Cn.go (ls := [.ref 64, .int x, .int w, .float 0, .float 0, .float 0, .float 0]) (by decide +kernel) rfl (Nat.le_of_ble_eq_true rfl) ?_
      refine r_iload_n (pc2 := 1) 1 dX9_refuseChance_0 rfl rfl rfl ?_
      refine r_callS1 (pc2 := 4) (As := [.int x]) (st := []) kX9_210 dX9_refuseChance_1 rfl rfl (Nat.le_of_ble_eq_true rfl) (by omega) (c_isTray.mono fun r h2 q => ⟨q.1.trans (by rw [if_pos hx]), q.2⟩) rfl (fun h2 hq1 => ?_)
      obtain rfl := hq1.symm
      refine r_if_eq (tgt := 16) (pc2 := 7) dX9_refuseChance_4 (by decide) rfl (fun b4 => ?_) (fun b4 => ?_)
      · exact absurd b4 (by decide)
      · skip
        refine r_iload_n (pc2 := 8) 2 dX9_refuseChance_7 rfl rfl rfl ?_
        refine r_if_lt (tgt := 16) (pc2 := 11) dX9_refuseChance_8 (by decide) rfl (fun b8 => ?_) (fun b8 => ?_)
        · skip
          refine r_bipush (pc2 := 18) (v := -2) dX9_refuseChance_16 (by decide) rfl ?_
          exact r_iret rfl dX9_refuseChance_18 ⟨by unfold ncF; rw [if_neg (fun z => hw z.2)], rfl⟩
        · skip
          refine r_iload_n (pc2 := 12) 2 dX9_refuseChance_11 rfl rfl rfl ?_
          refine r_iconst (pc2 := 13) (v := 1) dX9_refuseChance_12 (by decide) rfl ?_
          refine r_icmp_le (tgt := 19) (pc2 := 16) dX9_refuseChance_13 (by decide) rfl (fun b13 => ?_) (fun b13 => ?_)
          · exact absurd ((inR_iff (l := 0) (h := 1) (by decide) (by decide) w).mpr ⟨Int32.not_lt.mp b8, b13⟩) hw
          · skip
            refine r_bipush (pc2 := 18) (v := -2) dX9_refuseChance_16 (by decide) rfl ?_
            exact r_iret rfl dX9_refuseChance_18 ⟨by unfold ncF; rw [if_neg (fun z => hw z.2)], rfl⟩
  · skip
    refine Cn.go (ls := [.ref 64, .int x, .int w, .float 0, .float 0, .float 0, .float 0]) (by decide +kernel) rfl (Nat.le_of_ble_eq_true rfl) ?_
    refine r_iload_n (pc2 := 1) 1 dX9_refuseChance_0 rfl rfl rfl ?_
    refine r_callS1 (pc2 := 4) (As := [.int x]) (st := []) kX9_210 dX9_refuseChance_1 rfl rfl (Nat.le_of_ble_eq_true rfl) (by omega) (c_isTray.mono fun r h2 q => ⟨q.1.trans (by rw [if_neg hx]), q.2⟩) rfl (fun h2 hq1 => ?_)
    obtain rfl := hq1.symm
    refine r_if_eq (tgt := 16) (pc2 := 7) dX9_refuseChance_4 (by decide) rfl (fun b4 => ?_) (fun b4 => ?_)
    · skip
      refine r_bipush (pc2 := 18) (v := -2) dX9_refuseChance_16 (by decide) rfl ?_
      exact r_iret rfl dX9_refuseChance_18 ⟨by unfold ncF; rw [if_neg (fun z => hx z.1)], rfl⟩
    · exact absurd b4 (by decide)
set_option maxRecDepth 20000 in
set_option maxHeartbeats 1000000 in
theorem cl_chance {E : EnvT} {d : Nat} {h0 : Hp} {ns s w1 w2 : Nat} {wk dt : Value} {Z : Nat → Prop} {reg : Nat → FR} {sg kd : Nat} {a b : FR} {rs rm : Nat → Int32} {nu : Nat → Int64} {x w : Int32} (hN : NW h0 s ns w1 w2 wk dt a) (hD : DV Z h0 reg ns s sg kd b) (hA : AIN a) (hst : Stat a b) (hMT : MT h0 rs rm nu) (hT : TOK rs rm) (hMW : MW h0 w1 w2) (hd : 7 ≤ d) : Cn E mX9_chance d [.ref 64, .int x, .int w] h0 (fun r h2 => r = some (.int (chF a rs rm nu x w)) ∧ ∃ w3 w4 kd2, MW h2 w3 w4 ∧ h2.1 64 = some (.inr (9, coL s ns (a 45) w3 w4 wk dt)) ∧ DV Z h2 reg ns s sg kd2 b ∧ GQ [64, 95, 96] kd h0 h2 kd2) := by
  obtain ⟨c64, c76, _, _⟩ := id hN
  have hn0 := hD.n
  have hk0 := hD.k0
  obtain ⟨hw9, ⟨f9, cw1⟩, ⟨g9, cw2⟩⟩ := id hMW
  by_cases hns0 : ncF a rs rm nu x w ≠ 0
  · skip
    refine Cn.go (ls := [.ref 64, .int x, .int w, .float 0, .float 0, .float 0]) (by decide +kernel) rfl (Nat.le_of_ble_eq_true rfl) ?_
    refine r_aload_n (pc2 := 1) 0 dX9_chance_0 rfl rfl rfl rfl ?_
    refine r_iload_n (pc2 := 2) 1 dX9_chance_1 rfl rfl rfl ?_
    refine r_iload_n (pc2 := 3) 2 dX9_chance_2 rfl rfl rfl ?_
    refine r_callV1 (pc2 := 6) (As := [.int x, .int w]) (st := []) kX9_357 rfl rfl dX9_chance_3 c64 (by decide) rfl rfl (Nat.le_of_ble_eq_true rfl) (by omega) (c_refuseChance c64 c76 hMT hT hD hA hst (by omega)) rfl (fun h2 hq3 => ?_)
    obtain rfl := hq3.symm
    refine r_topi (fun x6 e6 => ?_)
    refine r_istore_n (pc2 := 7) (ls2 := [.ref 64, .int x, .int w, .int x6, .float 0, .float 0]) 3 dX9_chance_6 rfl (by decide) rfl rfl rfl ?_
    refine r_iload_n (pc2 := 8) 3 dX9_chance_7 rfl rfl rfl ?_
    refine r_if_eq (tgt := 13) (pc2 := 11) dX9_chance_8 (by decide) rfl (fun b8 => ?_) (fun b8 => ?_)
    · exact absurd (e6.symm.trans b8) hns0
    · skip
      refine r_iload_n (pc2 := 12) 3 dX9_chance_11 rfl rfl rfl ?_
      exact r_iret rfl dX9_chance_12 ⟨by unfold chF; rw [if_pos hns0, e6], w1, w2, kd, hMW, c64, hD, GQ.rf⟩
  · have hns : ncF a rs rm nu x w = 0 := Decidable.not_not.mp hns0
    obtain ⟨t, ht, rfl, hn1, hge, hle, hV9, hC9⟩ := ncF_0 hT hns
    obtain ⟨⟨f, c81, hf⟩, _⟩ := id hMT
    obtain ⟨ms, so, si, vv, ct, cv, q1, q2⟩ := hMT.2 t ht
    generalize hp : 109 + 2 * t = p at ct
    generalize hq : 110 + 2 * t = q at ct cv
    have hs : rs t ≠ -1 := fun z => by
      unfold ncF noTrayF at hns
      by_cases y : inR 0 3 (nI t) ∧ inR 0 1 w
      · rw [if_pos y, if_pos y.1, nI_clamp (by omega), if_pos z, if_pos (by decide)] at hns
        exact absurd hns (by decide)
      · rw [if_neg y] at hns
        exact absurd hns (by decide)
    obtain ⟨rfl, rfl, rfl, q3⟩ := q2 hs
    obtain ⟨n, hnn⟩ : ∃ n, n = rowN rm t := ⟨_, rfl⟩
    have q3 : ∀ j, j < n → vv j = nu (40 * t + j) := fun j hj => q3 j (by rw [hnn] at hj; exact hj)
    rw [← hnn] at hn1 hge hle hV9 hC9
    have hn40 : n ≤ 40 := by omega
    rw [hn1] at ct
    have hgl := gS_le (F := sv nu t) hA.G hA.C hA.ct.1 n 0 (packS a) 1 (LEG.now hA hC9)
    rw [gS_1, gS_2] at hgl
    have hpw : 10 ^ n ≤ 1000000 := Nat.le_trans (Nat.pow_le_pow_right (n := 10) (by decide) hle) (by decide)
    have hpw0 : 0 < 10 ^ n := Nat.pow_pos (by decide)
    refine Cn.go (ls := [.ref 64, .int (nI t), .int w, .float 0, .float 0, .float 0]) (by decide +kernel) rfl (Nat.le_of_ble_eq_true rfl) ?_
    refine r_aload_n (pc2 := 1) 0 dX9_chance_0 rfl rfl rfl rfl ?_
    refine r_iload_n (pc2 := 2) 1 dX9_chance_1 rfl rfl rfl ?_
    refine r_iload_n (pc2 := 3) 2 dX9_chance_2 rfl rfl rfl ?_
    refine r_callV1 (pc2 := 6) (As := [.int (nI t), .int w]) (st := []) kX9_357 rfl rfl dX9_chance_3 c64 (by decide) rfl rfl (Nat.le_of_ble_eq_true rfl) (by omega) ((c_refuseChance c64 c76 hMT hT hD hA hst (by omega)).mono fun r h2 z => ⟨z.1.trans (by rw [hns]), z.2⟩) rfl (fun h2 hq3 => ?_)
    obtain rfl := hq3.symm
    refine r_istore_n (pc2 := 7) (ls2 := [.ref 64, .int (nI t), .int w, .int 0, .float 0, .float 0]) 3 dX9_chance_6 rfl (by decide) rfl rfl rfl ?_
    refine r_iload_n (pc2 := 8) 3 dX9_chance_7 rfl rfl rfl ?_
    refine r_if_eq (tgt := 13) (pc2 := 11) dX9_chance_8 (by decide) rfl (fun b8 => ?_) (fun b8 => ?_)
    · skip
      refine r_aload_n (pc2 := 14) 0 dX9_chance_13 rfl rfl rfl rfl ?_
      refine r_aload_n (pc2 := 15) 0 dX9_chance_14 rfl rfl rfl rfl ?_
      refine r_getf (pc2 := 18) (v := .ref 81) fX9_48 dX9_chance_15 c64 (by decide) rfl rfl ?_
      refine r_iload_n (pc2 := 19) 1 dX9_chance_18 rfl rfl rfl ?_
      refine r_aald (pc2 := 20) dX9_chance_19 c81 (by decide) (by decide) (nI_vp (j := t) rfl (by omega) (by decide)).1 (by rw [nI_clamp (by omega), hf t ht, hp]) (by omega) rfl ?_
      refine r_callV1 (pc2 := 23) (As := [.ref p]) (st := []) kX9_360 rfl rfl dX9_chance_20 c64 (by decide) rfl rfl (Nat.le_of_ble_eq_true rfl) (by omega) (c_weighHours c64 c76 cw1 cw2 hw9 ct cv (by omega) (by omega) q3 hn40 hle hV9 hC9 hD hA hst (by omega)) rfl (fun h hq20 => ?_)
      obtain ⟨w3, w4, kd2, W, f2, g2, hw3, c64, cw3, cw4, hf2, hS, ⟨x9, hK⟩, hD2, hQ2⟩ := hq20
      have hK1 := hK (fun _ => 1)
      have hK2 := hK (fun d => d)
      have hE1 := wt_end1 (a := a) (F := sv nu t) (W := W) (i := n) (x := x9)
      have hE2 := wt_end2 (a := a) (F := sv nu t) (W := W) (i := n) (x := x9)
      rw [hK1, hS] at hE1
      rw [hK2] at hE2
      refine r_lstore (pc2 := 25) (ls2 := [.ref 64, .int (nI t), .int w, .int 0, .long (lN (10 ^ n)), .float 0]) 4 dX9_chance_23 (by decide) rfl rfl rfl ?_
      refine r_lload (pc2 := 27) 4 dX9_chance_25 rfl rfl ?_
      refine r_aload_n (pc2 := 28) 0 dX9_chance_27 rfl rfl rfl rfl ?_
      refine r_getf (pc2 := 31) (v := .ref w3) fX9_70 dX9_chance_28 c64 (by decide) rfl rfl ?_
      refine r_iconst (pc2 := 32) (v := 0) dX9_chance_31 (by decide) rfl ?_
      refine r_laldN (pc2 := 33) 0 dX9_chance_32 cw3 (by omega) rfl (by decide) (by decide) rfl ?_
      refine r_castl (lN (W 0)) (hf2 0 (by decide)) ?_
      refine r_lsub (pc2 := 34) dX9_chance_33 rfl ?_
      refine r_castl (lN (gK a (sv nu t) (fun _ => 1) n 0 (packS a))) ((lN_sub (by omega)).trans (by rw [show 10 ^ n - W 0 = (gK a (sv nu t) (fun _ => 1) n 0 (packS a)) by omega])) ?_
      refine r_lload (pc2 := 36) 4 dX9_chance_34 rfl rfl ?_
      refine r_iload_n (pc2 := 37) 2 dX9_chance_36 rfl rfl rfl ?_
      refine r_callS1 (pc2 := 40) (As := [.long (lN (gK a (sv nu t) (fun _ => 1) n 0 (packS a))), .long (lN (10 ^ n)), .int w]) (st := []) kX9_301 dX9_chance_37 rfl rfl (Nat.le_of_ble_eq_true rfl) (by omega) (c_partOf (X := (gK a (sv nu t) (fun _ => 1) n 0 (packS a))) (Y := 10 ^ n) (w := w) (by omega) (by omega) hpw0) rfl (fun h2 hq37 => ?_)
      obtain rfl := hq37.symm
      exact r_iret rfl dX9_chance_40 ⟨by unfold chF; rw [if_neg (fun z => z hns), nI_clamp (by omega), ← hnn, gS_1, Nat.one_mul], w3, w4, kd2, ⟨hw3, ⟨_, cw3⟩, ⟨_, cw4⟩⟩, c64, hD2, hQ2⟩
    · exact absurd b8 (by decide)
set_option maxRecDepth 20000 in
set_option maxHeartbeats 1000000 in
theorem cl_mean {E : EnvT} {d : Nat} {h0 : Hp} {ns s w1 w2 : Nat} {wk dt : Value} {Z : Nat → Prop} {reg : Nat → FR} {sg kd : Nat} {a b : FR} {rs rm : Nat → Int32} {nu : Nat → Int64} {x w : Int32} (hN : NW h0 s ns w1 w2 wk dt a) (hD : DV Z h0 reg ns s sg kd b) (hA : AIN a) (hst : Stat a b) (hMT : MT h0 rs rm nu) (hT : TOK rs rm) (hMW : MW h0 w1 w2) (hd : 7 ≤ d) : Cn E mX9_mean d [.ref 64, .int x, .int w] h0 (fun r h2 => r = some (.int (meF a rs rm nu x w)) ∧ ∃ w3 w4 kd2, MW h2 w3 w4 ∧ h2.1 64 = some (.inr (9, coL s ns (a 45) w3 w4 wk dt)) ∧ DV Z h2 reg ns s sg kd2 b ∧ GQ [64, 95, 96] kd h0 h2 kd2) := by
  obtain ⟨c64, c76, _, _⟩ := id hN
  have hn0 := hD.n
  have hk0 := hD.k0
  obtain ⟨hw9, ⟨f9, cw1⟩, ⟨g9, cw2⟩⟩ := id hMW
  by_cases hns0 : ncF a rs rm nu x w ≠ 0
  · skip
    refine Cn.go (ls := [.ref 64, .int x, .int w, .float 0, .float 0, .float 0, .float 0, .float 0, .float 0]) (by decide +kernel) rfl (Nat.le_of_ble_eq_true rfl) ?_
    refine r_aload_n (pc2 := 1) 0 dX9_mean_0 rfl rfl rfl rfl ?_
    refine r_iload_n (pc2 := 2) 1 dX9_mean_1 rfl rfl rfl ?_
    refine r_iload_n (pc2 := 3) 2 dX9_mean_2 rfl rfl rfl ?_
    refine r_callV1 (pc2 := 6) (As := [.int x, .int w]) (st := []) kX9_357 rfl rfl dX9_mean_3 c64 (by decide) rfl rfl (Nat.le_of_ble_eq_true rfl) (by omega) (c_refuseChance c64 c76 hMT hT hD hA hst (by omega)) rfl (fun h2 hq3 => ?_)
    obtain rfl := hq3.symm
    refine r_topi (fun x6 e6 => ?_)
    refine r_istore_n (pc2 := 7) (ls2 := [.ref 64, .int x, .int w, .int x6, .float 0, .float 0, .float 0, .float 0, .float 0]) 3 dX9_mean_6 rfl (by decide) rfl rfl rfl ?_
    refine r_iload_n (pc2 := 8) 3 dX9_mean_7 rfl rfl rfl ?_
    refine r_if_eq (tgt := 13) (pc2 := 11) dX9_mean_8 (by decide) rfl (fun b8 => ?_) (fun b8 => ?_)
    · exact absurd (e6.symm.trans b8) hns0
    · skip
      refine r_iload_n (pc2 := 12) 3 dX9_mean_11 rfl rfl rfl ?_
      exact r_iret rfl dX9_mean_12 ⟨by unfold meF; rw [if_pos hns0, e6], w1, w2, kd, hMW, c64, hD, GQ.rf⟩
  · have hns : ncF a rs rm nu x w = 0 := Decidable.not_not.mp hns0
    obtain ⟨t, ht, rfl, hn1, hge, hle, hV9, hC9⟩ := ncF_0 hT hns
    obtain ⟨⟨f, c81, hf⟩, _⟩ := id hMT
    obtain ⟨ms, so, si, vv, ct, cv, q1, q2⟩ := hMT.2 t ht
    generalize hp : 109 + 2 * t = p at ct
    generalize hq : 110 + 2 * t = q at ct cv
    have hs : rs t ≠ -1 := fun z => by
      unfold ncF noTrayF at hns
      by_cases y : inR 0 3 (nI t) ∧ inR 0 1 w
      · rw [if_pos y, if_pos y.1, nI_clamp (by omega), if_pos z, if_pos (by decide)] at hns
        exact absurd hns (by decide)
      · rw [if_neg y] at hns
        exact absurd hns (by decide)
    obtain ⟨rfl, rfl, rfl, q3⟩ := q2 hs
    obtain ⟨n, hnn⟩ : ∃ n, n = rowN rm t := ⟨_, rfl⟩
    have q3 : ∀ j, j < n → vv j = nu (40 * t + j) := fun j hj => q3 j (by rw [hnn] at hj; exact hj)
    rw [← hnn] at hn1 hge hle hV9 hC9
    have hn40 : n ≤ 40 := by omega
    rw [hn1] at ct
    have hgl := gS_le (F := sv nu t) hA.G hA.C hA.ct.1 n 0 (packS a) 1 (LEG.now hA hC9)
    rw [gS_1, gS_2] at hgl
    have hpw : 10 ^ n ≤ 1000000 := Nat.le_trans (Nat.pow_le_pow_right (n := 10) (by decide) hle) (by decide)
    have hpw0 : 0 < 10 ^ n := Nat.pow_pos (by decide)
    refine Cn.go (ls := [.ref 64, .int (nI t), .int w, .float 0, .float 0, .float 0, .float 0, .float 0, .float 0]) (by decide +kernel) rfl (Nat.le_of_ble_eq_true rfl) ?_
    refine r_aload_n (pc2 := 1) 0 dX9_mean_0 rfl rfl rfl rfl ?_
    refine r_iload_n (pc2 := 2) 1 dX9_mean_1 rfl rfl rfl ?_
    refine r_iload_n (pc2 := 3) 2 dX9_mean_2 rfl rfl rfl ?_
    refine r_callV1 (pc2 := 6) (As := [.int (nI t), .int w]) (st := []) kX9_357 rfl rfl dX9_mean_3 c64 (by decide) rfl rfl (Nat.le_of_ble_eq_true rfl) (by omega) ((c_refuseChance c64 c76 hMT hT hD hA hst (by omega)).mono fun r h2 z => ⟨z.1.trans (by rw [hns]), z.2⟩) rfl (fun h2 hq3 => ?_)
    obtain rfl := hq3.symm
    refine r_istore_n (pc2 := 7) (ls2 := [.ref 64, .int (nI t), .int w, .int 0, .float 0, .float 0, .float 0, .float 0, .float 0]) 3 dX9_mean_6 rfl (by decide) rfl rfl rfl ?_
    refine r_iload_n (pc2 := 8) 3 dX9_mean_7 rfl rfl rfl ?_
    refine r_if_eq (tgt := 13) (pc2 := 11) dX9_mean_8 (by decide) rfl (fun b8 => ?_) (fun b8 => ?_)
    · skip
      refine r_aload_n (pc2 := 14) 0 dX9_mean_13 rfl rfl rfl rfl ?_
      refine r_aload_n (pc2 := 15) 0 dX9_mean_14 rfl rfl rfl rfl ?_
      refine r_getf (pc2 := 18) (v := .ref 81) fX9_48 dX9_mean_15 c64 (by decide) rfl rfl ?_
      refine r_iload_n (pc2 := 19) 1 dX9_mean_18 rfl rfl rfl ?_
      refine r_aald (pc2 := 20) dX9_mean_19 c81 (by decide) (by decide) (nI_vp (j := t) rfl (by omega) (by decide)).1 (by rw [nI_clamp (by omega), hf t ht, hp]) (by omega) rfl ?_
      refine r_callV1 (pc2 := 23) (As := [.ref p]) (st := []) kX9_360 rfl rfl dX9_mean_20 c64 (by decide) rfl rfl (Nat.le_of_ble_eq_true rfl) (by omega) (c_weighHours c64 c76 cw1 cw2 hw9 ct cv (by omega) (by omega) q3 hn40 hle hV9 hC9 hD hA hst (by omega)) rfl (fun h hq20 => ?_)
      obtain ⟨w3, w4, kd2, W, f2, g2, hw3, c64, cw3, cw4, hf2, hS, ⟨x9, hK⟩, hD2, hQ2⟩ := hq20
      have hK1 := hK (fun _ => 1)
      have hK2 := hK (fun d => d)
      have hE1 := wt_end1 (a := a) (F := sv nu t) (W := W) (i := n) (x := x9)
      have hE2 := wt_end2 (a := a) (F := sv nu t) (W := W) (i := n) (x := x9)
      rw [hK1, hS] at hE1
      rw [hK2] at hE2
      refine r_lstore (pc2 := 25) (ls2 := [.ref 64, .int (nI t), .int w, .int 0, .long (lN (10 ^ n)), .float 0, .float 0, .float 0, .float 0]) 4 dX9_mean_23 (by decide) rfl rfl rfl ?_
      refine r_lconst (pc2 := 26) (v := 0) dX9_mean_25 (by decide) rfl ?_
      refine r_castl (lN (sC (fun e => e * W e) 1)) (by show (0 : Int64) = lN (0 + 0 * W 0); rw [Nat.zero_mul]; rfl) ?_
      refine r_lstore (pc2 := 28) (ls2 := [.ref 64, .int (nI t), .int w, .int 0, .long (lN (10 ^ n)), .float 0, .long (lN (sC (fun e => e * W e) 1)), .float 0, .float 0]) 6 dX9_mean_26 (by decide) rfl rfl rfl ?_
      refine r_iconst (pc2 := 29) (v := 1) dX9_mean_28 (by decide) rfl ?_
      refine r_cast (nI 1) (rfl) ?_
      refine r_istore (pc2 := 31) (ls2 := [.ref 64, .int (nI t), .int w, .int 0, .long (lN (10 ^ n)), .float 0, .long (lN (sC (fun e => e * W e) 1)), .float 0, .int (nI 1)]) 8 dX9_mean_29 (by decide) rfl rfl rfl ?_
      have loop : ∀ m k, k + m = 10 → Fr E mX9_mean d 31 [.ref 64, .int (nI t), .int w, .int 0, .long (lN (10 ^ n)), .float 0, .long (lN (sC (fun e => e * W e) k)), .float 0, .int (nI k)] [] h (fun r h2 => r = some (.int (meF a rs rm nu (nI t) w)) ∧ ∃ w3 w4 kd2, MW h2 w3 w4 ∧ h2.1 64 = some (.inr (9, coL s ns (a 45) w3 w4 wk dt)) ∧ DV Z h2 reg ns s sg kd2 b ∧ GQ [64, 95, 96] kd h0 h2 kd2) := by
        intro m
        induction m with
        | zero =>
          intro k hk
          obtain rfl : k = 10 := by omega
          refine r_iload (pc2 := 33) 8 dX9_mean_31 rfl rfl ?_
          refine r_bipush (pc2 := 35) (v := 10) dX9_mean_33 (by decide) rfl ?_
          refine r_icmp_ge (tgt := 60) (pc2 := 38) dX9_mean_35 (by decide) rfl (fun b35 => ?_) (fun b35 => ?_)
          · skip
            refine r_lload (pc2 := 62) 6 dX9_mean_60 rfl rfl ?_
            refine r_lload (pc2 := 64) 4 dX9_mean_62 rfl rfl ?_
            refine r_iload_n (pc2 := 65) 2 dX9_mean_64 rfl rfl rfl ?_
            refine r_callS1 (pc2 := 68) (As := [.long (lN (sC (fun e => e * W e) 10)), .long (lN (10 ^ n)), .int w]) (st := []) kX9_301 dX9_mean_65 rfl rfl (Nat.le_of_ble_eq_true rfl) (by omega) (c_partOf (X := (sC (fun e => e * W e) 10)) (Y := 10 ^ n) (w := w) (by omega) (by omega) hpw0) rfl (fun h2 hq65 => ?_)
            obtain rfl := hq65.symm
            exact r_iret rfl dX9_mean_68 ⟨by unfold meF; rw [if_neg (fun z => z hns), nI_clamp (by omega), ← hnn, gS_2, Nat.one_mul, hE2], w3, w4, kd2, ⟨hw3, ⟨_, cw3⟩, ⟨_, cw4⟩⟩, c64, hD2, hQ2⟩
          · exact absurd (by decide) b35
        | succ m ih =>
          intro k hk
          have hlt : k < 10 := by omega
          refine r_iload (pc2 := 33) 8 dX9_mean_31 rfl rfl ?_
          refine r_bipush (pc2 := 35) (v := 10) dX9_mean_33 (by decide) rfl ?_
          refine r_icmp_ge (tgt := 60) (pc2 := 38) dX9_mean_35 (by decide) rfl (fun b35 => ?_) (fun b35 => ?_)
          · exact absurd b35 (nI_ge (b := 10) hlt (by decide))
          · skip
            refine r_lload (pc2 := 40) 6 dX9_mean_38 rfl rfl ?_
            refine r_iload (pc2 := 42) 8 dX9_mean_40 rfl rfl ?_
            refine r_i2l (pc2 := 43) dX9_mean_42 rfl ?_
            refine r_castl (lN k) (nI_l (by omega)) ?_
            refine r_aload_n (pc2 := 44) 0 dX9_mean_43 rfl rfl rfl rfl ?_
            refine r_getf (pc2 := 47) (v := .ref w3) fX9_70 dX9_mean_44 c64 (by decide) rfl rfl ?_
            refine r_iload (pc2 := 49) 8 dX9_mean_47 rfl rfl ?_
            refine r_laldN (pc2 := 50) k dX9_mean_49 cw3 (by omega) rfl (by omega) (by decide) rfl ?_
            refine r_castl (lN (W k)) (hf2 k (by omega)) ?_
            refine r_lmul (pc2 := 51) dX9_mean_50 rfl ?_
            refine r_castl (lN (k * W k)) (lN_mul _ _) ?_
            refine r_ladd (pc2 := 52) dX9_mean_51 rfl ?_
            refine r_castl (lN (sC (fun e => e * W e) (k + 1))) (lN_add _ _) ?_
            refine r_lstore (pc2 := 54) (ls2 := [.ref 64, .int (nI t), .int w, .int 0, .long (lN (10 ^ n)), .float 0, .long (lN (sC (fun e => e * W e) (k + 1))), .float 0, .int (nI k)]) 6 dX9_mean_52 (by decide) rfl rfl rfl ?_
            obtain ⟨x54, e54⟩ : ∃ z : Int32, z = (nI k) + (1) := ⟨_, rfl⟩
            refine r_iinc (pc2 := 57) (ls2 := [.ref 64, .int (nI t), .int w, .int 0, .long (lN (10 ^ n)), .float 0, .long (lN (sC (fun e => e * W e) (k + 1))), .float 0, .int x54]) (v := x54) 8 dX9_mean_54 rfl (by rw [e54]; rfl) rfl rfl rfl ?_
            refine r_goto (pc2 := 31) dX9_mean_57 (by decide) ?_
            rw [e54, nI_1]
            exact ih (k + 1) (by omega)
      exact loop 9 1 (by omega)
    · exact absurd b8 (by decide)
