/-! the class: feed -/
theorem i8_and (y : Int32) : (y &&& 255).toInt8 = y.toInt8 := by
  apply Int8.toInt_inj.mp
  rw [Int32.toInt_toInt8, Int32.toInt_toInt8, and255, nI_toInt (by omega), Int.toNat_of_nonneg (by omega)]
  exact Int.emod_bmod ..
theorem bt8 (x : Int32) (k : Nat) (hk : k < 4) : (x >>> ((24 - 8 * nI k) &&& 31)).toInt8.toInt32 = (nI (btN x k)).toInt8.toInt32 := by
  rw [← sh_bt x k hk, i8_and]
theorem i8_twice (y : Int32) : y.toInt8.toInt32.toInt8.toInt32 = y.toInt8.toInt32 := by simp
theorem feed5 (tp : Nat → Nat) (t : Nat) (x1 x2 x3 x4 x5 : Int32) (j : Nat) : fillN (fillN (fillN (fillN (fillN tp (t + 0) 4 (btN x1)) (t + 4) 4 (btN x2)) (t + 8) 4 (btN x3)) (t + 12) 4 (btN x4)) (t + 16) 4 (btN x5) j = fillN tp t 20 (feedB x1 x2 x3 x4 x5) j := by
  unfold fillN feedB selV
  by_cases r0 : t + 0 ≤ j ∧ j < t + 4
  · rw [if_neg (by omega), if_neg (by omega), if_neg (by omega), if_neg (by omega), if_pos (by omega), if_pos (by omega), if_pos (by omega), show (j - t) % 4 = j - (t + 0) by omega]
  by_cases r1 : t + 4 ≤ j ∧ j < t + 8
  · rw [if_neg (by omega), if_neg (by omega), if_neg (by omega), if_pos (by omega), if_pos (by omega), if_neg (by omega), if_pos (by omega), show (j - t) % 4 = j - (t + 4) by omega]
  by_cases r2 : t + 8 ≤ j ∧ j < t + 12
  · rw [if_neg (by omega), if_neg (by omega), if_pos (by omega), if_pos (by omega), if_neg (by omega), if_neg (by omega), if_pos (by omega), show (j - t) % 4 = j - (t + 8) by omega]
  by_cases r3 : t + 12 ≤ j ∧ j < t + 16
  · rw [if_neg (by omega), if_pos (by omega), if_pos (by omega), if_neg (by omega), if_neg (by omega), if_neg (by omega), if_pos (by omega), show (j - t) % 4 = j - (t + 12) by omega]
  by_cases r4 : t + 16 ≤ j ∧ j < t + 20
  · rw [if_pos (by omega), if_pos (by omega), if_neg (by omega), if_neg (by omega), if_neg (by omega), if_neg (by omega), show (j - t) % 4 = j - (t + 16) by omega]
  · rw [if_neg (by omega), if_neg (by omega), if_neg (by omega), if_neg (by omega), if_neg (by omega), if_neg (by omega)]
theorem sv_k : ∀ k, k < 4 → (24 - 8 * nI k : Int32) + -8 = 24 - 8 * nI (k + 1) := by decide
theorem sv_0 : ∀ k, k < 4 → ¬ (24 - 8 * nI k : Int32) < 0 := by decide
set_option maxRecDepth 20000 in
set_option maxHeartbeats 1000000 in
theorem c_putBytes {E : EnvT} {d : Nat} {h0 : Hp} {fk fp x : Int32} {t : Nat} {tp : Nat → Nat} {tb : Nat → Int32} {y4 y5 y6 y7 y8 y9 y10 y12 y13 : Value} (c65 : h0.1 65 = some (.inr (3, [.int fk, .int fp, .int (nI t), .ref 66, y4, y5, y6, y7, y8, y9, y10, .ref 67, y12, y13]))) (c66 : h0.1 66 = some (aB 900 tb)) (htb : ∀ j, j < 900 → tb j = (nI (tp j)).toInt8.toInt32) (ht : t + 4 ≤ 900) : Cn E mX3_putBytes d [.ref 65, .int x] h0 (fun r h2 => r = none ∧ Ex [65, 66] h0 h2 ∧ h2.1 65 = some (.inr (3, [.int fk, .int fp, .int (nI (t + 4)), .ref 66, y4, y5, y6, y7, y8, y9, y10, .ref 67, y12, y13])) ∧ ∃ tb, h2.1 66 = some (aB 900 tb) ∧ ∀ j, j < 900 → tb j = (nI (fillN tp t 4 (btN x) j)).toInt8.toInt32) := by
  have loop : ∀ (m k : Nat) (h : Hp) (tb : Nat → Int32) (sv : Int32), k + m = 4 → sv = 24 - 8 * nI k → Ex [65, 66] h0 h → h.1 65 = some (.inr (3, [.int fk, .int fp, .int (nI (t + k)), .ref 66, y4, y5, y6, y7, y8, y9, y10, .ref 67, y12, y13])) → h.1 66 = some (aB 900 tb) → (∀ j, j < 900 → tb j = (nI (fillN tp t k (btN x) j)).toInt8.toInt32) → Fr E mX3_putBytes d 3 [.ref 65, .int x, .int sv] [] h (fun r h2 => r = none ∧ Ex [65, 66] h0 h2 ∧ h2.1 65 = some (.inr (3, [.int fk, .int fp, .int (nI (t + 4)), .ref 66, y4, y5, y6, y7, y8, y9, y10, .ref 67, y12, y13])) ∧ ∃ tb, h2.1 66 = some (aB 900 tb) ∧ ∀ j, j < 900 → tb j = (nI (fillN tp t 4 (btN x) j)).toInt8.toInt32) := by
    intro m
    induction m with
    | zero =>
      intro k h tb sv hk hsv hx c65 c66 htb
      obtain rfl : k = 4 := by omega
      refine r_iload_n (pc2 := 4) 2 dX3_putBytes_3 rfl rfl rfl ?_
      refine r_if_lt (tgt := 46) (pc2 := 7) dX3_putBytes_4 (by decide) rfl (fun b4 => ?_) (fun b4 => ?_)
      · skip
        exact r_vret rfl dX3_putBytes_46 ⟨rfl, hx, c65, tb, c66, htb⟩
      · exact absurd (by rw [hsv]; decide) b4
    | succ m ih =>
      intro k h tb sv hk hsv hx c65 c66 htb
      have hk4 : k < 4 := by omega
      have hs0 : ¬ sv < 0 := by rw [hsv]; exact sv_0 k hk4
      refine r_iload_n (pc2 := 4) 2 dX3_putBytes_3 rfl rfl rfl ?_
      refine r_if_lt (tgt := 46) (pc2 := 7) dX3_putBytes_4 (by decide) rfl (fun b4 => ?_) (fun b4 => ?_)
      · exact absurd b4 hs0
      · skip
        refine r_aload_n (pc2 := 8) 0 dX3_putBytes_7 rfl rfl rfl rfl ?_
        refine r_getf (pc2 := 11) (v := .int (nI (t + k))) fX3_32 dX3_putBytes_8 c65 (by decide) rfl rfl ?_
        refine r_sipush (pc2 := 14) (v := 900) dX3_putBytes_11 (by decide) rfl ?_
        refine r_icmp_ge (tgt := 46) (pc2 := 17) dX3_putBytes_14 (by decide) rfl (fun b14 => ?_) (fun b14 => ?_)
        · exact absurd b14 (nI_ge (b := 900) (by omega) (by decide))
        · skip
          refine r_aload_n (pc2 := 18) 0 dX3_putBytes_17 rfl rfl rfl rfl ?_
          refine r_getf (pc2 := 21) (v := .ref 66) fX3_15 dX3_putBytes_18 c65 (by decide) rfl rfl ?_
          refine r_aload_n (pc2 := 22) 0 dX3_putBytes_21 rfl rfl rfl rfl ?_
          refine r_getf (pc2 := 25) (v := .int (nI (t + k))) fX3_32 dX3_putBytes_22 c65 (by decide) rfl rfl ?_
          refine r_iload_n (pc2 := 26) 1 dX3_putBytes_25 rfl rfl rfl ?_
          refine r_iload_n (pc2 := 27) 2 dX3_putBytes_26 rfl rfl rfl ?_
          refine r_ishr (pc2 := 28) dX3_putBytes_27 rfl ?_
          refine r_i2b (pc2 := 29) dX3_putBytes_28 rfl ?_
          refine r_cast ((nI (btN x k)).toInt8.toInt32) (by rw [hsv]; exact bt8 x k hk4) ?_
          refine r_topi (fun y29 ey29 => ?_)
          refine r_bastN (pc2 := 30) (t + k) dX3_putBytes_29 c66 (by decide) rfl (by omega) (by decide) rfl (fun h z29 o29 c66 => ?_)
          have c65 := (o29 65 (by decide)).trans c65
          have hx := hx.step (a := 66) (by simp) z29 o29
          refine r_aload_n (pc2 := 31) 0 dX3_putBytes_30 rfl rfl rfl rfl ?_
          refine r_dup (pc2 := 32) dX3_putBytes_31 rfl rfl ?_
          refine r_getf (pc2 := 35) (v := .int (nI (t + k))) fX3_32 dX3_putBytes_32 c65 (by decide) rfl rfl ?_
          refine r_iconst (pc2 := 36) (v := 1) dX3_putBytes_35 (by decide) rfl ?_
          refine r_iadd (pc2 := 37) dX3_putBytes_36 rfl ?_
          refine r_cast (nI (t + (k + 1))) (nI_1 (t + k)) ?_
          refine r_putfX (pc2 := 40) [.int fk, .int fp, .int (nI (t + (k + 1))), .ref 66, y4, y5, y6, y7, y8, y9, y10, .ref 67, y12, y13] fX3_32 dX3_putBytes_37 c65 (by decide) (Nat.le_of_ble_eq_true rfl) rfl rfl rfl (fun h z37 o37 c65 => ?_)
          have c66 := (o37 66 (by decide)).trans c66
          have hx := hx.step (a := 65) (by simp) z37 o37
          obtain ⟨x40, e40⟩ : ∃ z : Int32, z = sv + (-8) := ⟨_, rfl⟩
          refine r_iinc (pc2 := 43) (ls2 := [.ref 65, .int x, .int x40]) (v := x40) 2 dX3_putBytes_40 rfl (by rw [e40]; rfl) rfl rfl rfl ?_
          refine r_goto (pc2 := 3) dX3_putBytes_43 (by decide) ?_
          exact ih (k + 1) h _ x40 (by omega) (by rw [e40, hsv]; exact sv_k k hk4) hx c65 c66 (fun j hj => by
            rw [← fillN_s]
            show (if j = t + k then (Int32.toInt8 y29).toInt32 else tb j) = (nI (if j = t + k then btN x k else fillN tp t k (btN x) j)).toInt8.toInt32
            by_cases w : j = t + k
            · rw [if_pos w, if_pos w, ey29, i8_twice]
            · rw [if_neg w, if_neg w]; exact htb j hj)
  refine Cn.go (ls := [.ref 65, .int x, .float 0]) (by decide +kernel) rfl (Nat.le_of_ble_eq_true rfl) ?_
  refine r_bipush (pc2 := 2) (v := 24) dX3_putBytes_0 (by decide) rfl ?_
  refine r_istore_n (pc2 := 3) (ls2 := [.ref 65, .int x, .int 24]) 2 dX3_putBytes_2 rfl (by decide) rfl rfl rfl ?_
  exact loop 4 0 h0 tb 24 (by omega) (by decide) Ex.rf c65 c66 (fun j hj => by rw [fillN_0]; exact htb j hj)
theorem nI_nle9 {k : Nat} (h : 900 < k) (hk : k < 2 ^ 31) : ¬ nI k ≤ 900 := fun q => by
  have q : nI k ≤ nI 900 := q
  rw [nI_leI hk (by decide)] at q
  omega
set_option maxRecDepth 20000 in
set_option maxHeartbeats 1000000 in
theorem cl_feed {E : EnvT} {d : Nat} {h0 : Hp} {ns s un w1 w2 : Nat} {wk dt : Value} {fk fp : Int32} {t : Nat} {tp : Nat → Nat} {x1 x2 x3 x4 x5 : Int32} (c64 : h0.1 64 = some (.inr (9, coL s ns un w1 w2 wk dt))) (hRd : MR h0 fk fp t tp) (ht9 : t ≤ 900) (hd : 1 ≤ d) : Cn E mX9_feed d [.ref 64, .int x1, .int x2, .int x3, .int x4, .int x5] h0 (fun r h2 => r = some (.int (feedF t)) ∧ Ex [65, 66] h0 h2 ∧ MR h2 fk fp (feedT t) (feedP tp t x1 x2 x3 x4 x5)) := by
  obtain ⟨⟨y4, y5, y6, y7, y8, y9, y10, y12, y13, c65⟩, ⟨tb, c66, htb⟩, cd, c67⟩ := id hRd
  by_cases ht : t + 20 ≤ 900
  · have hx : Ex [65, 66] h0 h0 := Ex.rf
    refine Cn.go (ls := [.ref 64, .int x1, .int x2, .int x3, .int x4, .int x5]) (by decide +kernel) rfl (Nat.le_of_ble_eq_true rfl) ?_
    refine r_aload_n (pc2 := 1) 0 dX9_feed_0 rfl rfl rfl rfl ?_
    refine r_getf (pc2 := 4) (v := .ref 65) fX9_10 dX9_feed_1 c64 (by decide) rfl rfl ?_
    refine r_getf (pc2 := 7) (v := .int (nI t)) fX9_85 dX9_feed_4 c65 (by decide) rfl rfl ?_
    refine r_bipush (pc2 := 9) (v := 20) dX9_feed_7 (by decide) rfl ?_
    refine r_iadd (pc2 := 10) dX9_feed_9 rfl ?_
    refine r_cast (nI (t + 20)) (nI_add t 20) ?_
    refine r_sipush (pc2 := 13) (v := 900) dX9_feed_10 (by decide) rfl ?_
    refine r_icmp_le (tgt := 19) (pc2 := 16) dX9_feed_13 (by decide) rfl (fun b13 => ?_) (fun b13 => ?_)
    · skip
      refine r_aload_n (pc2 := 20) 0 dX9_feed_19 rfl rfl rfl rfl ?_
      refine r_getf (pc2 := 23) (v := .ref 65) fX9_10 dX9_feed_20 c64 (by decide) rfl rfl ?_
      refine r_iload_n (pc2 := 24) 1 dX9_feed_23 rfl rfl rfl ?_
      refine r_callV0 (pc2 := 27) (As := [.int x1]) (st := []) kX9_89 rfl rfl dX9_feed_24 c65 (by decide) rfl rfl (Nat.le_of_ble_eq_true rfl) (by omega) (c_putBytes (t := t + 0) (tp := tp) (x := x1) c65 c66 htb (by omega)) rfl (fun h hq24 => ?_)
      obtain ⟨hxp, c65, tb, c66, htb⟩ := hq24
      have c64 := hxp.get (by decide) c64
      have hx := hx.trans hxp (by decide)
      refine r_aload_n (pc2 := 28) 0 dX9_feed_27 rfl rfl rfl rfl ?_
      refine r_getf (pc2 := 31) (v := .ref 65) fX9_10 dX9_feed_28 c64 (by decide) rfl rfl ?_
      refine r_iload_n (pc2 := 32) 2 dX9_feed_31 rfl rfl rfl ?_
      refine r_callV0 (pc2 := 35) (As := [.int x2]) (st := []) kX9_89 rfl rfl dX9_feed_32 c65 (by decide) rfl rfl (Nat.le_of_ble_eq_true rfl) (by omega) (c_putBytes (t := t + 4) (tp := fillN tp (t + 0) 4 (btN x1)) (x := x2) c65 c66 htb (by omega)) rfl (fun h hq32 => ?_)
      obtain ⟨hxp, c65, tb, c66, htb⟩ := hq32
      have c64 := hxp.get (by decide) c64
      have hx := hx.trans hxp (by decide)
      refine r_aload_n (pc2 := 36) 0 dX9_feed_35 rfl rfl rfl rfl ?_
      refine r_getf (pc2 := 39) (v := .ref 65) fX9_10 dX9_feed_36 c64 (by decide) rfl rfl ?_
      refine r_iload_n (pc2 := 40) 3 dX9_feed_39 rfl rfl rfl ?_
      refine r_callV0 (pc2 := 43) (As := [.int x3]) (st := []) kX9_89 rfl rfl dX9_feed_40 c65 (by decide) rfl rfl (Nat.le_of_ble_eq_true rfl) (by omega) (c_putBytes (t := t + 8) (tp := fillN (fillN tp (t + 0) 4 (btN x1)) (t + 4) 4 (btN x2)) (x := x3) c65 c66 htb (by omega)) rfl (fun h hq40 => ?_)
      obtain ⟨hxp, c65, tb, c66, htb⟩ := hq40
      have c64 := hxp.get (by decide) c64
      have hx := hx.trans hxp (by decide)
      refine r_aload_n (pc2 := 44) 0 dX9_feed_43 rfl rfl rfl rfl ?_
      refine r_getf (pc2 := 47) (v := .ref 65) fX9_10 dX9_feed_44 c64 (by decide) rfl rfl ?_
      refine r_iload (pc2 := 49) 4 dX9_feed_47 rfl rfl ?_
      refine r_callV0 (pc2 := 52) (As := [.int x4]) (st := []) kX9_89 rfl rfl dX9_feed_49 c65 (by decide) rfl rfl (Nat.le_of_ble_eq_true rfl) (by omega) (c_putBytes (t := t + 12) (tp := fillN (fillN (fillN tp (t + 0) 4 (btN x1)) (t + 4) 4 (btN x2)) (t + 8) 4 (btN x3)) (x := x4) c65 c66 htb (by omega)) rfl (fun h hq49 => ?_)
      obtain ⟨hxp, c65, tb, c66, htb⟩ := hq49
      have c64 := hxp.get (by decide) c64
      have hx := hx.trans hxp (by decide)
      refine r_aload_n (pc2 := 53) 0 dX9_feed_52 rfl rfl rfl rfl ?_
      refine r_getf (pc2 := 56) (v := .ref 65) fX9_10 dX9_feed_53 c64 (by decide) rfl rfl ?_
      refine r_iload (pc2 := 58) 5 dX9_feed_56 rfl rfl ?_
      refine r_callV0 (pc2 := 61) (As := [.int x5]) (st := []) kX9_89 rfl rfl dX9_feed_58 c65 (by decide) rfl rfl (Nat.le_of_ble_eq_true rfl) (by omega) (c_putBytes (t := t + 16) (tp := fillN (fillN (fillN (fillN tp (t + 0) 4 (btN x1)) (t + 4) 4 (btN x2)) (t + 8) 4 (btN x3)) (t + 12) 4 (btN x4)) (x := x5) c65 c66 htb (by omega)) rfl (fun h hq58 => ?_)
      obtain ⟨hxp, c65, tb, c66, htb⟩ := hq58
      have c64 := hxp.get (by decide) c64
      have hx := hx.trans hxp (by decide)
      refine r_aload_n (pc2 := 62) 0 dX9_feed_61 rfl rfl rfl rfl ?_
      refine r_getf (pc2 := 65) (v := .ref 65) fX9_10 dX9_feed_62 c64 (by decide) rfl rfl ?_
      refine r_getf (pc2 := 68) (v := .int (nI (t + 16 + 4))) fX9_85 dX9_feed_65 c65 (by decide) rfl rfl ?_
      exact r_iret rfl dX9_feed_68 ⟨by unfold feedF; rw [if_pos ht], hx, by unfold feedT feedP; rw [if_pos ht, if_pos ht]; exact ⟨⟨_, _, _, _, _, _, _, _, _, c65⟩, ⟨tb, c66, fun j hj => by rw [htb j hj, feed5]⟩, cd, hx.get (by decide) c67⟩⟩
    · exact absurd (nI_le (b := 900) ht (by decide)) b13
  · skip
    refine Cn.go (ls := [.ref 64, .int x1, .int x2, .int x3, .int x4, .int x5]) (by decide +kernel) rfl (Nat.le_of_ble_eq_true rfl) ?_
    refine r_aload_n (pc2 := 1) 0 dX9_feed_0 rfl rfl rfl rfl ?_
    refine r_getf (pc2 := 4) (v := .ref 65) fX9_10 dX9_feed_1 c64 (by decide) rfl rfl ?_
    refine r_getf (pc2 := 7) (v := .int (nI t)) fX9_85 dX9_feed_4 c65 (by decide) rfl rfl ?_
    refine r_bipush (pc2 := 9) (v := 20) dX9_feed_7 (by decide) rfl ?_
    refine r_iadd (pc2 := 10) dX9_feed_9 rfl ?_
    refine r_cast (nI (t + 20)) (nI_add t 20) ?_
    refine r_sipush (pc2 := 13) (v := 900) dX9_feed_10 (by decide) rfl ?_
    refine r_icmp_le (tgt := 19) (pc2 := 16) dX9_feed_13 (by decide) rfl (fun b13 => ?_) (fun b13 => ?_)
    · exact absurd b13 (nI_nle9 (by omega) (by omega))
    · skip
      refine r_bipush (pc2 := 18) (v := -5) dX9_feed_16 (by decide) rfl ?_
      exact r_iret rfl dX9_feed_18 ⟨by unfold feedF; rw [if_neg ht], Ex.rf, by unfold feedT feedP; rw [if_neg ht, if_neg ht]; exact hRd⟩
