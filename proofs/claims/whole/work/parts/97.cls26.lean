/-! the class: partOf, odds -/
def eK : Nat → Nat → Nat → Prop
  | 0, _, y => y = 0
  | m + 1, x, y => y = 0 ∨ eK m y (x % y)
theorem eK_of : ∀ k x y, y < 2 ^ k → eK (2 * k) x y
  | 0, x, y, h => by show y = 0; omega
  | k + 1, x, y, h => by
    show eK (2 * k + 1 + 1) x y
    by_cases h0 : y = 0
    · exact Or.inl h0
    · refine Or.inr ?_
      by_cases h1 : x % y = 0
      · exact Or.inl h1
      · refine Or.inr (eK_of k _ _ ?_)
        have hr : x % y < y := Nat.mod_lt _ (by omega)
        have h2 : y % (x % y) < x % y := Nat.mod_lt _ (by omega)
        have h3 : y % (x % y) ≤ y - x % y := by
          rw [Nat.mod_eq_sub_mod (by omega)]
          exact Nat.mod_le _ _
        rw [Nat.pow_succ] at h
        omega
set_option maxRecDepth 20000 in
set_option maxHeartbeats 1000000 in
theorem c_partOf {E : EnvT} {d : Nat} {h0 : Hp} {X Y : Nat} {w : Int32} (hX : X < 2 ^ 31) (hY : Y < 2 ^ 31) (hY0 : 0 < Y) : Cn E mX9_partOf d [.long (lN X), .long (lN Y), .int w] h0 (fun r h2 => r = some (.int (nI (partN X Y w))) ∧ h2 = h0) := by
  obtain ⟨g, hgd⟩ : ∃ g, Nat.gcd X Y = g := ⟨_, rfl⟩
  have hg0 : 0 < g := by rw [← hgd]; exact Nat.gcd_pos_of_pos_right _ hY0
  have hg1 : g < 2 ^ 31 := by
    have := Nat.le_of_dvd hY0 (Nat.gcd_dvd_right X Y)
    omega
  have fin : ∀ (x y i : Nat) (u10 u11 : Value), x = g → Fr E mX9_partOf d 44 [.long (lN X), .float 0, .long (lN Y), .float 0, .int w, .long (lN x), .float 0, .long (lN y), .float 0, .int (nI i), u10, u11] [] h0 (fun r h2 => r = some (.int (nI (partN X Y w))) ∧ h2 = h0) := by
    intro x y i u10 u11 hxg
    subst hxg
    by_cases hw : w = 0
    · skip
      refine r_lload (pc2 := 46) 5 dX9_partOf_44 rfl rfl ?_
      refine r_lconst (pc2 := 47) (v := 0) dX9_partOf_46 (by decide) rfl ?_
      refine r_lcmp (pc2 := 48) dX9_partOf_47 rfl ?_
      refine r_if_ne (tgt := 53) (pc2 := 51) dX9_partOf_48 (by decide) rfl (fun b48 => ?_) (fun b48 => ?_)
      · skip
        refine r_iload (pc2 := 55) 4 dX9_partOf_53 rfl rfl ?_
        refine r_if_ne (tgt := 62) (pc2 := 58) dX9_partOf_55 (by decide) rfl (fun b55 => ?_) (fun b55 => ?_)
        · exact absurd hw b55
        · skip
          refine r_lload_n (pc2 := 59) 0 dX9_partOf_58 rfl rfl rfl ?_
          refine r_goto (pc2 := 63) dX9_partOf_59 (by decide) ?_
          refine r_lload (pc2 := 65) 5 dX9_partOf_63 rfl rfl ?_
          refine r_ldiv (pc2 := 66) dX9_partOf_65 (fun z => absurd ((pk_lEQ (b := 0) (by omega) (by decide)).mp z) (by omega)) rfl ?_
          refine r_castl (lN (X / x)) (pk_lDiv (by omega) hg0 (by omega)) ?_
          refine r_l2i (pc2 := 67) dX9_partOf_66 rfl ?_
          refine r_cast (nI (X / x)) (lN_iB _) ?_
          exact r_iret rfl dX9_partOf_67 ⟨by unfold partN; rw [if_pos hw, hgd], rfl⟩
      · exact absurd ((pk_lEQ (b := 0) (by omega) (by decide)).mp ((lgc_eq _ _).mp b48)) (by omega)
    · skip
      refine r_lload (pc2 := 46) 5 dX9_partOf_44 rfl rfl ?_
      refine r_lconst (pc2 := 47) (v := 0) dX9_partOf_46 (by decide) rfl ?_
      refine r_lcmp (pc2 := 48) dX9_partOf_47 rfl ?_
      refine r_if_ne (tgt := 53) (pc2 := 51) dX9_partOf_48 (by decide) rfl (fun b48 => ?_) (fun b48 => ?_)
      · skip
        refine r_iload (pc2 := 55) 4 dX9_partOf_53 rfl rfl ?_
        refine r_if_ne (tgt := 62) (pc2 := 58) dX9_partOf_55 (by decide) rfl (fun b55 => ?_) (fun b55 => ?_)
        · skip
          refine r_lload_n (pc2 := 63) 2 dX9_partOf_62 rfl rfl rfl ?_
          refine r_lload (pc2 := 65) 5 dX9_partOf_63 rfl rfl ?_
          refine r_ldiv (pc2 := 66) dX9_partOf_65 (fun z => absurd ((pk_lEQ (b := 0) (by omega) (by decide)).mp z) (by omega)) rfl ?_
          refine r_castl (lN (Y / x)) (pk_lDiv (by omega) hg0 (by omega)) ?_
          refine r_l2i (pc2 := 67) dX9_partOf_66 rfl ?_
          refine r_cast (nI (Y / x)) (lN_iB _) ?_
          exact r_iret rfl dX9_partOf_67 ⟨by unfold partN; rw [if_neg hw, hgd], rfl⟩
        · exact absurd b55 hw
      · exact absurd ((pk_lEQ (b := 0) (by omega) (by decide)).mp ((lgc_eq _ _).mp b48)) (by omega)
  have loop : ∀ (m x y i : Nat) (u10 u11 : Value), eK m x y → i + m ≤ 99 → x < 2 ^ 31 → y < 2 ^ 31 → Nat.gcd x y = g → Fr E mX9_partOf d 9 [.long (lN X), .float 0, .long (lN Y), .float 0, .int w, .long (lN x), .float 0, .long (lN y), .float 0, .int (nI i), u10, u11] [] h0 (fun r h2 => r = some (.int (nI (partN X Y w))) ∧ h2 = h0) := by
    intro m
    induction m with
    | zero =>
      intro x y i u10 u11 hk hi hx hyy hg
      have hy : y = 0 := hk
      refine r_iload (pc2 := 11) 9 dX9_partOf_9 rfl rfl ?_
      refine r_bipush (pc2 := 13) (v := 100) dX9_partOf_11 (by decide) rfl ?_
      refine r_icmp_ge (tgt := 44) (pc2 := 16) dX9_partOf_13 (by decide) rfl (fun b13 => ?_) (fun b13 => ?_)
      · exact absurd b13 (nI_ge (b := 100) (by omega) (by decide))
      · skip
        refine r_lload (pc2 := 18) 7 dX9_partOf_16 rfl rfl ?_
        refine r_lconst (pc2 := 19) (v := 0) dX9_partOf_18 (by decide) rfl ?_
        refine r_lcmp (pc2 := 20) dX9_partOf_19 rfl ?_
        refine r_if_eq (tgt := 44) (pc2 := 23) dX9_partOf_20 (by decide) rfl (fun b20 => ?_) (fun b20 => ?_)
        · skip
          exact fin x y i u10 u11 (by rw [hy, Nat.gcd_zero_right] at hg; exact hg)
        · exact absurd ((lgc_eq _ _).mpr (by rw [hy]; rfl)) b20
    | succ m ih =>
      intro x y i u10 u11 hk hi hx hyy hg
      by_cases hy : y = 0
      · skip
        refine r_iload (pc2 := 11) 9 dX9_partOf_9 rfl rfl ?_
        refine r_bipush (pc2 := 13) (v := 100) dX9_partOf_11 (by decide) rfl ?_
        refine r_icmp_ge (tgt := 44) (pc2 := 16) dX9_partOf_13 (by decide) rfl (fun b13 => ?_) (fun b13 => ?_)
        · exact absurd b13 (nI_ge (b := 100) (by omega) (by decide))
        · skip
          refine r_lload (pc2 := 18) 7 dX9_partOf_16 rfl rfl ?_
          refine r_lconst (pc2 := 19) (v := 0) dX9_partOf_18 (by decide) rfl ?_
          refine r_lcmp (pc2 := 20) dX9_partOf_19 rfl ?_
          refine r_if_eq (tgt := 44) (pc2 := 23) dX9_partOf_20 (by decide) rfl (fun b20 => ?_) (fun b20 => ?_)
          · skip
            exact fin x y i u10 u11 (by rw [hy, Nat.gcd_zero_right] at hg; exact hg)
          · exact absurd ((lgc_eq _ _).mpr (by rw [hy]; rfl)) b20
      · skip
        refine r_iload (pc2 := 11) 9 dX9_partOf_9 rfl rfl ?_
        refine r_bipush (pc2 := 13) (v := 100) dX9_partOf_11 (by decide) rfl ?_
        refine r_icmp_ge (tgt := 44) (pc2 := 16) dX9_partOf_13 (by decide) rfl (fun b13 => ?_) (fun b13 => ?_)
        · exact absurd b13 (nI_ge (b := 100) (by omega) (by decide))
        · skip
          refine r_lload (pc2 := 18) 7 dX9_partOf_16 rfl rfl ?_
          refine r_lconst (pc2 := 19) (v := 0) dX9_partOf_18 (by decide) rfl ?_
          refine r_lcmp (pc2 := 20) dX9_partOf_19 rfl ?_
          refine r_if_eq (tgt := 44) (pc2 := 23) dX9_partOf_20 (by decide) rfl (fun b20 => ?_) (fun b20 => ?_)
          · exact absurd ((pk_lEQ (b := 0) (by omega) (by decide)).mp ((lgc_eq _ _).mp b20)) hy
          · skip
            refine r_lload (pc2 := 25) 5 dX9_partOf_23 rfl rfl ?_
            refine r_lload (pc2 := 27) 7 dX9_partOf_25 rfl rfl ?_
            refine r_lrem (pc2 := 28) dX9_partOf_27 (fun z => hy ((pk_lEQ (b := 0) (by omega) (by decide)).mp z)) rfl ?_
            refine r_castl (lN (x % y)) (pk_lRem (by omega) (by omega) (by omega)) ?_
            refine r_lstore (pc2 := 30) (ls2 := [.long (lN X), .float 0, .long (lN Y), .float 0, .int w, .long (lN x), .float 0, .long (lN y), .float 0, .int (nI i), .long (lN (x % y)), .float 0]) 10 dX9_partOf_28 (by decide) rfl rfl rfl ?_
            refine r_lload (pc2 := 32) 7 dX9_partOf_30 rfl rfl ?_
            refine r_lstore (pc2 := 34) (ls2 := [.long (lN X), .float 0, .long (lN Y), .float 0, .int w, .long (lN y), .float 0, .long (lN y), .float 0, .int (nI i), .long (lN (x % y)), .float 0]) 5 dX9_partOf_32 (by decide) rfl rfl rfl ?_
            refine r_lload (pc2 := 36) 10 dX9_partOf_34 rfl rfl ?_
            refine r_lstore (pc2 := 38) (ls2 := [.long (lN X), .float 0, .long (lN Y), .float 0, .int w, .long (lN y), .float 0, .long (lN (x % y)), .float 0, .int (nI i), .long (lN (x % y)), .float 0]) 7 dX9_partOf_36 (by decide) rfl rfl rfl ?_
            obtain ⟨x38, e38⟩ : ∃ z : Int32, z = (nI i) + (1) := ⟨_, rfl⟩
            refine r_iinc (pc2 := 41) (ls2 := [.long (lN X), .float 0, .long (lN Y), .float 0, .int w, .long (lN y), .float 0, .long (lN (x % y)), .float 0, .int x38, .long (lN (x % y)), .float 0]) (v := x38) 9 dX9_partOf_38 rfl (by rw [e38]; rfl) rfl rfl rfl ?_
            refine r_goto (pc2 := 9) dX9_partOf_41 (by decide) ?_
            rw [e38, nI_1]
            exact ih y (x % y) (i + 1) _ _ (hk.resolve_left hy) (by omega) (by omega) (by have := Nat.mod_lt x (Nat.pos_of_ne_zero hy); omega) (by rw [← hg, Nat.gcd_comm x y, Nat.gcd_rec y x, Nat.gcd_comm])
  refine Cn.go (ls := [.long (lN X), .float 0, .long (lN Y), .float 0, .int w, .float 0, .float 0, .float 0, .float 0, .float 0, .float 0, .float 0]) (by decide +kernel) rfl (Nat.le_of_ble_eq_true rfl) ?_
  refine r_lload_n (pc2 := 1) 0 dX9_partOf_0 rfl rfl rfl ?_
  refine r_lstore (pc2 := 3) (ls2 := [.long (lN X), .float 0, .long (lN Y), .float 0, .int w, .long (lN X), .float 0, .float 0, .float 0, .float 0, .float 0, .float 0]) 5 dX9_partOf_1 (by decide) rfl rfl rfl ?_
  refine r_lload_n (pc2 := 4) 2 dX9_partOf_3 rfl rfl rfl ?_
  refine r_lstore (pc2 := 6) (ls2 := [.long (lN X), .float 0, .long (lN Y), .float 0, .int w, .long (lN X), .float 0, .long (lN Y), .float 0, .float 0, .float 0, .float 0]) 7 dX9_partOf_4 (by decide) rfl rfl rfl ?_
  refine r_iconst (pc2 := 7) (v := 0) dX9_partOf_6 (by decide) rfl ?_
  refine r_cast (nI 0) (rfl) ?_
  refine r_istore (pc2 := 9) (ls2 := [.long (lN X), .float 0, .long (lN Y), .float 0, .int w, .long (lN X), .float 0, .long (lN Y), .float 0, .int (nI 0), .float 0, .float 0]) 9 dX9_partOf_7 (by decide) rfl rfl rfl ?_
  exact loop 62 X Y 0 _ _ (eK_of 31 X Y hY) (by omega) (by omega) (by omega) hgd
set_option maxRecDepth 20000 in
set_option maxHeartbeats 1000000 in
theorem cl_odds {E : EnvT} {d : Nat} {h0 : Hp} {ns s w1 w2 : Nat} {wk dt : Value} {Z : Nat → Prop} {reg : Nat → FR} {sg kd : Nat} {a b : FR} {x y w : Int32} (hN : NW h0 s ns w1 w2 wk dt a) (hD : DV Z h0 reg ns s sg kd b) (hA : AIN a) (hst : Stat a b) (hY : MY h0) (hd : 14 ≤ d) : Cn E mX9_odds d [.ref 64, .int x, .int y, .int w] h0 (fun r h2 => r = some (.int (oddsF a x y w)) ∧ Ex XS h0 h2 ∧ MY h2) := by
  obtain ⟨c64, c76, h77, hM⟩ := id hN
  obtain ⟨hL, hS, hZ, hb, hreg, hsg, hns, hn, zs⟩ := id hD
  have hs64 := (hZ.zl s zs).1
  obtain ⟨lo, so, sa, nl, sl, _, cs, _⟩ := id hS
  have st4 : a 4 = b 4 := hst 4 (by omega)
  have ha := hA.hb
  have h8 := ha.1
  by_cases hx : inP (a 4) x
  · by_cases hy : inP (a 4) y
    · by_cases hxy : x = y
      · have hc : ¬ hintC a x y w := fun z => (hintC_iff.mp z).1.2 hxy
        refine Cn.go (ls := [.ref 64, .int x, .int y, .int w, .float 0]) (by decide +kernel) rfl (Nat.le_of_ble_eq_true rfl) ?_
        refine r_aload_n (pc2 := 1) 0 dX9_odds_0 rfl rfl rfl rfl ?_
        refine r_iload_n (pc2 := 2) 1 dX9_odds_1 rfl rfl rfl ?_
        refine r_callV1 (pc2 := 5) (As := [.int x]) (st := []) kX9_169 rfl rfl dX9_odds_2 c64 (by decide) rfl rfl (Nat.le_of_ble_eq_true rfl) (by omega) ((c_isPersonC c64 cs hs64 hb.1.2.2.2.1).mono fun r h2 q => ⟨q.1.trans (by rw [← st4, if_pos hx]), q.2⟩) rfl (fun h2 hq2 => ?_)
        subst hq2
        refine r_if_eq (tgt := 30) (pc2 := 8) dX9_odds_5 (by decide) rfl (fun b5 => ?_) (fun b5 => ?_)
        · exact absurd b5 (by decide)
        · skip
          refine r_aload_n (pc2 := 9) 0 dX9_odds_8 rfl rfl rfl rfl ?_
          refine r_iload_n (pc2 := 10) 2 dX9_odds_9 rfl rfl rfl ?_
          refine r_callV1 (pc2 := 13) (As := [.int y]) (st := []) kX9_169 rfl rfl dX9_odds_10 c64 (by decide) rfl rfl (Nat.le_of_ble_eq_true rfl) (by omega) ((c_isPersonC c64 cs hs64 hb.1.2.2.2.1).mono fun r h2 q => ⟨q.1.trans (by rw [← st4, if_pos hy]), q.2⟩) rfl (fun h2 hq10 => ?_)
          subst hq10
          refine r_if_eq (tgt := 30) (pc2 := 16) dX9_odds_13 (by decide) rfl (fun b13 => ?_) (fun b13 => ?_)
          · exact absurd b13 (by decide)
          · skip
            refine r_iload_n (pc2 := 17) 1 dX9_odds_16 rfl rfl rfl ?_
            refine r_iload_n (pc2 := 18) 2 dX9_odds_17 rfl rfl rfl ?_
            refine r_icmp_eq (tgt := 30) (pc2 := 21) dX9_odds_18 (by decide) rfl (fun b18 => ?_) (fun b18 => ?_)
            · skip
              refine r_bipush (pc2 := 32) (v := -2) dX9_odds_30 (by decide) rfl ?_
              exact r_iret rfl dX9_odds_32 ⟨by unfold oddsF; rw [if_neg hc], Ex.rf, hY⟩
            · exact absurd hxy b18
      · by_cases hw : inR 0 1 w
        · have hc : hintC a x y w := hintC_iff.mpr ⟨⟨⟨hx, hy⟩, hxy⟩, hw⟩
          have hw2 := (inR_iff (l := 0) (h := 1) (by decide) (by decide) w).mp hw
          obtain ⟨p, hp, rfl⟩ := inP_of (by omega) hx
          obtain ⟨q, hq, rfl⟩ := inP_of (by omega) hy
          by_cases he : WL a = []
          · skip
            refine Cn.go (ls := [.ref 64, .int (nI p), .int (nI q), .int w, .float 0]) (by decide +kernel) rfl (Nat.le_of_ble_eq_true rfl) ?_
            refine r_aload_n (pc2 := 1) 0 dX9_odds_0 rfl rfl rfl rfl ?_
            refine r_iload_n (pc2 := 2) 1 dX9_odds_1 rfl rfl rfl ?_
            refine r_callV1 (pc2 := 5) (As := [.int (nI p)]) (st := []) kX9_169 rfl rfl dX9_odds_2 c64 (by decide) rfl rfl (Nat.le_of_ble_eq_true rfl) (by omega) ((c_isPersonC c64 cs hs64 hb.1.2.2.2.1).mono fun r h2 q => ⟨q.1.trans (by rw [← st4, if_pos hx]), q.2⟩) rfl (fun h2 hq2 => ?_)
            subst hq2
            refine r_if_eq (tgt := 30) (pc2 := 8) dX9_odds_5 (by decide) rfl (fun b5 => ?_) (fun b5 => ?_)
            · exact absurd b5 (by decide)
            · skip
              refine r_aload_n (pc2 := 9) 0 dX9_odds_8 rfl rfl rfl rfl ?_
              refine r_iload_n (pc2 := 10) 2 dX9_odds_9 rfl rfl rfl ?_
              refine r_callV1 (pc2 := 13) (As := [.int (nI q)]) (st := []) kX9_169 rfl rfl dX9_odds_10 c64 (by decide) rfl rfl (Nat.le_of_ble_eq_true rfl) (by omega) ((c_isPersonC c64 cs hs64 hb.1.2.2.2.1).mono fun r h2 q => ⟨q.1.trans (by rw [← st4, if_pos hy]), q.2⟩) rfl (fun h2 hq10 => ?_)
              subst hq10
              refine r_if_eq (tgt := 30) (pc2 := 16) dX9_odds_13 (by decide) rfl (fun b13 => ?_) (fun b13 => ?_)
              · exact absurd b13 (by decide)
              · skip
                refine r_iload_n (pc2 := 17) 1 dX9_odds_16 rfl rfl rfl ?_
                refine r_iload_n (pc2 := 18) 2 dX9_odds_17 rfl rfl rfl ?_
                refine r_icmp_eq (tgt := 30) (pc2 := 21) dX9_odds_18 (by decide) rfl (fun b18 => ?_) (fun b18 => ?_)
                · exact absurd b18 hxy
                · skip
                  refine r_iload_n (pc2 := 22) 3 dX9_odds_21 rfl rfl rfl ?_
                  refine r_if_lt (tgt := 30) (pc2 := 25) dX9_odds_22 (by decide) rfl (fun b22 => ?_) (fun b22 => ?_)
                  · exact absurd b22 (Int32.not_lt.mpr hw2.1)
                  · skip
                    refine r_iload_n (pc2 := 26) 3 dX9_odds_25 rfl rfl rfl ?_
                    refine r_iconst (pc2 := 27) (v := 1) dX9_odds_26 (by decide) rfl ?_
                    refine r_icmp_le (tgt := 33) (pc2 := 30) dX9_odds_27 (by decide) rfl (fun b27 => ?_) (fun b27 => ?_)
                    · skip
                      refine r_aload_n (pc2 := 34) 0 dX9_odds_33 rfl rfl rfl rfl ?_
                      refine r_callV1 (pc2 := 37) (As := []) (st := []) kX9_203 rfl rfl dX9_odds_34 c64 (by decide) rfl rfl (Nat.le_of_ble_eq_true rfl) (by omega) (c_learnSays hN hD hA hst hY (by omega)) rfl (fun h hq34 => ?_)
                      obtain ⟨hxl, hSY⟩ := hq34
                      have c64 := hxl.get (by decide) c64
                      have cs := hxl.get (by have := hZ s zs; simp; omega) cs
                      obtain ⟨f, pa, tg, ⟨c90, c91, c92, c93⟩, hf, ht0, htg⟩ := id hSY
                      refine r_astore (pc2 := 39) (ls2 := [.ref 64, .int (nI p), .int (nI q), .int w, .ref 90]) 4 dX9_odds_37 (by decide) rfl rfl rfl rfl ?_
                      refine r_aload (pc2 := 41) 4 dX9_odds_39 rfl rfl rfl ?_
                      refine r_getf (pc2 := 44) (v := .int (nI (WL a).length)) fX9_207 dX9_odds_41 c90 (by decide) rfl rfl ?_
                      refine r_if_ne (tgt := 49) (pc2 := 47) dX9_odds_44 (by decide) rfl (fun b44 => ?_) (fun b44 => ?_)
                      · exact absurd (by rw [he]; rfl) b44
                      · skip
                        refine r_iconst (pc2 := 48) (v := -1) dX9_odds_47 (by decide) rfl ?_
                        exact r_iret rfl dX9_odds_48 ⟨by unfold oddsF; rw [if_pos hc, if_pos he], hxl, Or.inr ⟨a, ha, hSY⟩⟩
                    · exact absurd hw2.2 b27
          · skip
            refine Cn.go (ls := [.ref 64, .int (nI p), .int (nI q), .int w, .float 0]) (by decide +kernel) rfl (Nat.le_of_ble_eq_true rfl) ?_
            refine r_aload_n (pc2 := 1) 0 dX9_odds_0 rfl rfl rfl rfl ?_
            refine r_iload_n (pc2 := 2) 1 dX9_odds_1 rfl rfl rfl ?_
            refine r_callV1 (pc2 := 5) (As := [.int (nI p)]) (st := []) kX9_169 rfl rfl dX9_odds_2 c64 (by decide) rfl rfl (Nat.le_of_ble_eq_true rfl) (by omega) ((c_isPersonC c64 cs hs64 hb.1.2.2.2.1).mono fun r h2 q => ⟨q.1.trans (by rw [← st4, if_pos hx]), q.2⟩) rfl (fun h2 hq2 => ?_)
            subst hq2
            refine r_if_eq (tgt := 30) (pc2 := 8) dX9_odds_5 (by decide) rfl (fun b5 => ?_) (fun b5 => ?_)
            · exact absurd b5 (by decide)
            · skip
              refine r_aload_n (pc2 := 9) 0 dX9_odds_8 rfl rfl rfl rfl ?_
              refine r_iload_n (pc2 := 10) 2 dX9_odds_9 rfl rfl rfl ?_
              refine r_callV1 (pc2 := 13) (As := [.int (nI q)]) (st := []) kX9_169 rfl rfl dX9_odds_10 c64 (by decide) rfl rfl (Nat.le_of_ble_eq_true rfl) (by omega) ((c_isPersonC c64 cs hs64 hb.1.2.2.2.1).mono fun r h2 q => ⟨q.1.trans (by rw [← st4, if_pos hy]), q.2⟩) rfl (fun h2 hq10 => ?_)
              subst hq10
              refine r_if_eq (tgt := 30) (pc2 := 16) dX9_odds_13 (by decide) rfl (fun b13 => ?_) (fun b13 => ?_)
              · exact absurd b13 (by decide)
              · skip
                refine r_iload_n (pc2 := 17) 1 dX9_odds_16 rfl rfl rfl ?_
                refine r_iload_n (pc2 := 18) 2 dX9_odds_17 rfl rfl rfl ?_
                refine r_icmp_eq (tgt := 30) (pc2 := 21) dX9_odds_18 (by decide) rfl (fun b18 => ?_) (fun b18 => ?_)
                · exact absurd b18 hxy
                · skip
                  refine r_iload_n (pc2 := 22) 3 dX9_odds_21 rfl rfl rfl ?_
                  refine r_if_lt (tgt := 30) (pc2 := 25) dX9_odds_22 (by decide) rfl (fun b22 => ?_) (fun b22 => ?_)
                  · exact absurd b22 (Int32.not_lt.mpr hw2.1)
                  · skip
                    refine r_iload_n (pc2 := 26) 3 dX9_odds_25 rfl rfl rfl ?_
                    refine r_iconst (pc2 := 27) (v := 1) dX9_odds_26 (by decide) rfl ?_
                    refine r_icmp_le (tgt := 33) (pc2 := 30) dX9_odds_27 (by decide) rfl (fun b27 => ?_) (fun b27 => ?_)
                    · skip
                      refine r_aload_n (pc2 := 34) 0 dX9_odds_33 rfl rfl rfl rfl ?_
                      refine r_callV1 (pc2 := 37) (As := []) (st := []) kX9_203 rfl rfl dX9_odds_34 c64 (by decide) rfl rfl (Nat.le_of_ble_eq_true rfl) (by omega) (c_learnSays hN hD hA hst hY (by omega)) rfl (fun h hq34 => ?_)
                      obtain ⟨hxl, hSY⟩ := hq34
                      have c64 := hxl.get (by decide) c64
                      have cs := hxl.get (by have := hZ s zs; simp; omega) cs
                      obtain ⟨f, pa, tg, ⟨c90, c91, c92, c93⟩, hf, ht0, htg⟩ := id hSY
                      refine r_astore (pc2 := 39) (ls2 := [.ref 64, .int (nI p), .int (nI q), .int w, .ref 90]) 4 dX9_odds_37 (by decide) rfl rfl rfl rfl ?_
                      refine r_aload (pc2 := 41) 4 dX9_odds_39 rfl rfl rfl ?_
                      refine r_getf (pc2 := 44) (v := .int (nI (WL a).length)) fX9_207 dX9_odds_41 c90 (by decide) rfl rfl ?_
                      refine r_if_ne (tgt := 49) (pc2 := 47) dX9_odds_44 (by decide) rfl (fun b44 => ?_) (fun b44 => ?_)
                      · skip
                        refine r_aload (pc2 := 51) 4 dX9_odds_49 rfl rfl rfl ?_
                        refine r_iload_n (pc2 := 52) 1 dX9_odds_51 rfl rfl rfl ?_
                        refine r_iload_n (pc2 := 53) 2 dX9_odds_52 rfl rfl rfl ?_
                        refine r_callV1 (pc2 := 56) (As := [.int (nI p), .int (nI q)]) (st := []) kX9_298 rfl rfl dX9_odds_53 c90 (by decide) rfl rfl (Nat.le_of_ble_eq_true rfl) (by omega) ((c_waysWith (p := p) (q := q) c90 c93 (by omega) (by omega)).mono fun r h2 z => ⟨z.1.trans (by rw [htg p q hp hq (fun e => hxy (by rw [e]))]), z.2⟩) rfl (fun h2 hq53 => ?_)
                        subst hq53
                        refine r_i2l (pc2 := 57) dX9_odds_56 rfl ?_
                        refine r_castl (lN (cntW a (nI p) (nI q))) (nI_l (by have := cntW_le (a := a) (o := nI p) (q := nI q); have := WL_len ha.1; omega)) ?_
                        refine r_aload (pc2 := 59) 4 dX9_odds_57 rfl rfl rfl ?_
                        refine r_getf (pc2 := 62) (v := .int (nI (WL a).length)) fX9_207 dX9_odds_59 c90 (by decide) rfl rfl ?_
                        refine r_i2l (pc2 := 63) dX9_odds_62 rfl ?_
                        refine r_castl (lN (WL a).length) (nI_l (by have := WL_len ha.1; omega)) ?_
                        refine r_iload_n (pc2 := 64) 3 dX9_odds_63 rfl rfl rfl ?_
                        refine r_callS1 (pc2 := 67) (As := [.long (lN (cntW a (nI p) (nI q))), .long (lN (WL a).length), .int w]) (st := []) kX9_301 dX9_odds_64 rfl rfl (Nat.le_of_ble_eq_true rfl) (by omega) (c_partOf (by have := cntW_le (a := a) (o := nI p) (q := nI q); have := WL_len ha.1; omega) (by have := WL_len ha.1; omega) (List.length_pos_iff.mpr he)) rfl (fun h2 hq64 => ?_)
                        subst hq64
                        exact r_iret rfl dX9_odds_67 ⟨by unfold oddsF; rw [if_pos hc, if_neg he], hxl, Or.inr ⟨a, ha, hSY⟩⟩
                      · exact absurd (List.length_eq_zero_iff.mp ((nI_eq (b := 0) (by have := WL_len ha.1; omega) (by decide)).mp b44)) he
                    · exact absurd hw2.2 b27
        · have hc : ¬ hintC a x y w := fun z => hw z.2
          refine Cn.go (ls := [.ref 64, .int x, .int y, .int w, .float 0]) (by decide +kernel) rfl (Nat.le_of_ble_eq_true rfl) ?_
          refine r_aload_n (pc2 := 1) 0 dX9_odds_0 rfl rfl rfl rfl ?_
          refine r_iload_n (pc2 := 2) 1 dX9_odds_1 rfl rfl rfl ?_
          refine r_callV1 (pc2 := 5) (As := [.int x]) (st := []) kX9_169 rfl rfl dX9_odds_2 c64 (by decide) rfl rfl (Nat.le_of_ble_eq_true rfl) (by omega) ((c_isPersonC c64 cs hs64 hb.1.2.2.2.1).mono fun r h2 q => ⟨q.1.trans (by rw [← st4, if_pos hx]), q.2⟩) rfl (fun h2 hq2 => ?_)
          subst hq2
          refine r_if_eq (tgt := 30) (pc2 := 8) dX9_odds_5 (by decide) rfl (fun b5 => ?_) (fun b5 => ?_)
          · exact absurd b5 (by decide)
          · skip
            refine r_aload_n (pc2 := 9) 0 dX9_odds_8 rfl rfl rfl rfl ?_
            refine r_iload_n (pc2 := 10) 2 dX9_odds_9 rfl rfl rfl ?_
            refine r_callV1 (pc2 := 13) (As := [.int y]) (st := []) kX9_169 rfl rfl dX9_odds_10 c64 (by decide) rfl rfl (Nat.le_of_ble_eq_true rfl) (by omega) ((c_isPersonC c64 cs hs64 hb.1.2.2.2.1).mono fun r h2 q => ⟨q.1.trans (by rw [← st4, if_pos hy]), q.2⟩) rfl (fun h2 hq10 => ?_)
            subst hq10
            refine r_if_eq (tgt := 30) (pc2 := 16) dX9_odds_13 (by decide) rfl (fun b13 => ?_) (fun b13 => ?_)
            · exact absurd b13 (by decide)
            · skip
              refine r_iload_n (pc2 := 17) 1 dX9_odds_16 rfl rfl rfl ?_
              refine r_iload_n (pc2 := 18) 2 dX9_odds_17 rfl rfl rfl ?_
              refine r_icmp_eq (tgt := 30) (pc2 := 21) dX9_odds_18 (by decide) rfl (fun b18 => ?_) (fun b18 => ?_)
              · skip
                refine r_bipush (pc2 := 32) (v := -2) dX9_odds_30 (by decide) rfl ?_
                exact r_iret rfl dX9_odds_32 ⟨by unfold oddsF; rw [if_neg hc], Ex.rf, hY⟩
              · skip
                refine r_iload_n (pc2 := 22) 3 dX9_odds_21 rfl rfl rfl ?_
                refine r_if_lt (tgt := 30) (pc2 := 25) dX9_odds_22 (by decide) rfl (fun b22 => ?_) (fun b22 => ?_)
                · skip
                  refine r_bipush (pc2 := 32) (v := -2) dX9_odds_30 (by decide) rfl ?_
                  exact r_iret rfl dX9_odds_32 ⟨by unfold oddsF; rw [if_neg hc], Ex.rf, hY⟩
                · skip
                  refine r_iload_n (pc2 := 26) 3 dX9_odds_25 rfl rfl rfl ?_
                  refine r_iconst (pc2 := 27) (v := 1) dX9_odds_26 (by decide) rfl ?_
                  refine r_icmp_le (tgt := 33) (pc2 := 30) dX9_odds_27 (by decide) rfl (fun b27 => ?_) (fun b27 => ?_)
                  · exact absurd ((inR_iff (l := 0) (h := 1) (by decide) (by decide) w).mpr ⟨Int32.not_lt.mp b22, b27⟩) hw
                  · skip
                    refine r_bipush (pc2 := 32) (v := -2) dX9_odds_30 (by decide) rfl ?_
                    exact r_iret rfl dX9_odds_32 ⟨by unfold oddsF; rw [if_neg hc], Ex.rf, hY⟩
    · have hc : ¬ hintC a x y w := fun z => hy (hintC_iff.mp z).1.1.2
      refine Cn.go (ls := [.ref 64, .int x, .int y, .int w, .float 0]) (by decide +kernel) rfl (Nat.le_of_ble_eq_true rfl) ?_
      refine r_aload_n (pc2 := 1) 0 dX9_odds_0 rfl rfl rfl rfl ?_
      refine r_iload_n (pc2 := 2) 1 dX9_odds_1 rfl rfl rfl ?_
      refine r_callV1 (pc2 := 5) (As := [.int x]) (st := []) kX9_169 rfl rfl dX9_odds_2 c64 (by decide) rfl rfl (Nat.le_of_ble_eq_true rfl) (by omega) ((c_isPersonC c64 cs hs64 hb.1.2.2.2.1).mono fun r h2 q => ⟨q.1.trans (by rw [← st4, if_pos hx]), q.2⟩) rfl (fun h2 hq2 => ?_)
      subst hq2
      refine r_if_eq (tgt := 30) (pc2 := 8) dX9_odds_5 (by decide) rfl (fun b5 => ?_) (fun b5 => ?_)
      · exact absurd b5 (by decide)
      · skip
        refine r_aload_n (pc2 := 9) 0 dX9_odds_8 rfl rfl rfl rfl ?_
        refine r_iload_n (pc2 := 10) 2 dX9_odds_9 rfl rfl rfl ?_
        refine r_callV1 (pc2 := 13) (As := [.int y]) (st := []) kX9_169 rfl rfl dX9_odds_10 c64 (by decide) rfl rfl (Nat.le_of_ble_eq_true rfl) (by omega) ((c_isPersonC c64 cs hs64 hb.1.2.2.2.1).mono fun r h2 q => ⟨q.1.trans (by rw [← st4, if_neg hy]), q.2⟩) rfl (fun h2 hq10 => ?_)
        subst hq10
        refine r_if_eq (tgt := 30) (pc2 := 16) dX9_odds_13 (by decide) rfl (fun b13 => ?_) (fun b13 => ?_)
        · skip
          refine r_bipush (pc2 := 32) (v := -2) dX9_odds_30 (by decide) rfl ?_
          exact r_iret rfl dX9_odds_32 ⟨by unfold oddsF; rw [if_neg hc], Ex.rf, hY⟩
        · exact absurd b13 (by decide)
  · have hc : ¬ hintC a x y w := fun z => hx (hintC_iff.mp z).1.1.1
    refine Cn.go (ls := [.ref 64, .int x, .int y, .int w, .float 0]) (by decide +kernel) rfl (Nat.le_of_ble_eq_true rfl) ?_
    refine r_aload_n (pc2 := 1) 0 dX9_odds_0 rfl rfl rfl rfl ?_
    refine r_iload_n (pc2 := 2) 1 dX9_odds_1 rfl rfl rfl ?_
    refine r_callV1 (pc2 := 5) (As := [.int x]) (st := []) kX9_169 rfl rfl dX9_odds_2 c64 (by decide) rfl rfl (Nat.le_of_ble_eq_true rfl) (by omega) ((c_isPersonC c64 cs hs64 hb.1.2.2.2.1).mono fun r h2 q => ⟨q.1.trans (by rw [← st4, if_neg hx]), q.2⟩) rfl (fun h2 hq2 => ?_)
    subst hq2
    refine r_if_eq (tgt := 30) (pc2 := 8) dX9_odds_5 (by decide) rfl (fun b5 => ?_) (fun b5 => ?_)
    · skip
      refine r_bipush (pc2 := 32) (v := -2) dX9_odds_30 (by decide) rfl ?_
      exact r_iret rfl dX9_odds_32 ⟨by unfold oddsF; rw [if_neg hc], Ex.rf, hY⟩
    · exact absurd b5 (by decide)
