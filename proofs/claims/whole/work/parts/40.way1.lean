/-! goesBind, laysWays -/
set_option maxRecDepth 20000 in
set_option maxHeartbeats 1000000 in
theorem c_goesBind {E : EnvT} {v : Nat → Int32} {a : Nat → Nat} {o q : Int32} (ho3 : v 33 = o) (hq4 : v 34 = q) (hor : o = -1 ∨ ∃ k, k < 8 ∧ o = nI k) (hP : a 4 ≤ 8) (hb : ∀ p, p < 8 → a (29 + p) < 256) (hu : ∀ p, p < 8 → a (37 + p) < 256) : ∀ m : Nat, ∀ (p lf d : Nat) (b : Nat → Int32) (t : WT) (h0 : Hp), p + m = a 4 → lf ≤ 1 → 2 * m + 2 ≤ d → t.1 + (wl a m p lf b).length < 2 ^ 31 → h0.1 117 = some (mO (wv v (nI t.1) (nI t.2.1))) → h0.1 118 = some (aI 3531 (nA a)) → h0.1 131 = some (aI 8 b) → h0.1 132 = some (aI 8 (t.2.2.1)) → h0.1 133 = some (aI 8 (t.2.2.2)) → Cn E mX10_goesBind d [.ref 117, .int (nI p), .int (nI lf)] h0 (PBq h0 v b (FW o q (wl a m p lf b) t)) := by
  intro m
  induction m with
  | zero =>
    intro p lf d b t h0 hpm hlf hd hlen c117 c118 c131 c132 c133
    obtain rfl : p = a 4 := by omega
    have hx : Ex [117, 131, 132, 133] h0 h0 := Ex.rf
    refine Cn.go (ls := [.ref 117, .int (nI (a 4)), .int (nI lf), .float 0]) (by decide +kernel) rfl (Nat.le_of_ble_eq_true rfl) ?_
    refine r_iload_n (pc2 := 1) 1 dX10_goesBind_0 rfl rfl rfl ?_
    refine r_aload_n (pc2 := 2) 0 dX10_goesBind_1 rfl rfl rfl rfl ?_
    refine r_getf (pc2 := 5) (v := .ref 118) fX10_13 dX10_goesBind_2 c117 (by decide) rfl rfl ?_
    refine r_iconst (pc2 := 6) (v := 4) dX10_goesBind_5 (by decide) rfl ?_
    refine r_ialdA (pc2 := 7) 4 dX10_goesBind_6 c118 (by decide) rfl (by decide) (by decide) rfl ?_
    refine r_icmp_ne (tgt := 15) (pc2 := 10) dX10_goesBind_7 (by decide) rfl (fun b7 => ?_) (fun b7 => ?_)
    · exact absurd rfl b7
    · skip
      refine r_aload_n (pc2 := 11) 0 dX10_goesBind_10 rfl rfl rfl rfl ?_
      refine r_callV0 (pc2 := 14) (As := []) (st := []) kX10_383 rfl rfl dX10_goesBind_11 c117 (by decide) rfl rfl (Nat.le_of_ble_eq_true rfl) (by omega) (c_isWay (n := t.1) (w := t.2.1) c117 c131 c132 c133 ho3 hq4 hor hlen) rfl (fun h hq11 => ?_)
      obtain ⟨hxw, c117, c131, c132, c133⟩ := hq11
      have c118 := hxw.get (by decide) c118
      have hx := hx.trans hxw (by decide)
      exact r_vret rfl dX10_goesBind_14 ⟨rfl, hx, c117, c131, c132, c133⟩
  | succ m ih =>
    intro p lf d b t h0 hpm hlf hd hlen c117 c118 c131 c132 c133
    have hp8 : p < 8 := by omega
    have hx : Ex [117, 131, 132, 133] h0 h0 := Ex.rf
    have left : ∀ (d : Nat) (b : Nat → Int32) (t : WT) (h0 : Hp), b p = -1 → 2 * m + 3 ≤ d → t.1 + (wl a m (p + 1) 0 (upd b p (nI p))).length < 2 ^ 31 → h0.1 117 = some (mO (wv v (nI t.1) (nI t.2.1))) → h0.1 118 = some (aI 3531 (nA a)) → h0.1 131 = some (aI 8 b) → h0.1 132 = some (aI 8 (t.2.2.1)) → h0.1 133 = some (aI 8 (t.2.2.2)) → Cn E mX10_goesBindLeft d [.ref 117, .int (nI p)] h0 (PBq h0 v b (FW o q (wl a m (p + 1) 0 (upd b p (nI p))) t)) := by
      intro d b t h0 hbp hd hlen c117 c118 c131 c132 c133
      have hx : Ex [117, 131, 132, 133] h0 h0 := Ex.rf
      refine Cn.go (ls := [.ref 117, .int (nI p)]) (by decide +kernel) rfl (Nat.le_of_ble_eq_true rfl) ?_
      refine r_aload_n (pc2 := 1) 0 dX10_goesBindLeft_0 rfl rfl rfl rfl ?_
      refine r_getf (pc2 := 4) (v := .ref 131) fX10_60 dX10_goesBindLeft_1 c117 (by decide) rfl rfl ?_
      refine r_iload_n (pc2 := 5) 1 dX10_goesBindLeft_4 rfl rfl rfl ?_
      refine r_iload_n (pc2 := 6) 1 dX10_goesBindLeft_5 rfl rfl rfl ?_
      refine r_iastN (pc2 := 7) p dX10_goesBindLeft_6 c131 (by decide) rfl (by omega) (by decide) rfl (fun h z6 o6 c131 => ?_)
      have c117 := (o6 117 (by decide)).trans c117
      have c118 := (o6 118 (by decide)).trans c118
      have c132 := (o6 132 (by decide)).trans c132
      have c133 := (o6 133 (by decide)).trans c133
      have hx := hx.step (a := 131) (by decide) z6 o6
      refine r_aload_n (pc2 := 8) 0 dX10_goesBindLeft_7 rfl rfl rfl rfl ?_
      refine r_iload_n (pc2 := 9) 1 dX10_goesBindLeft_8 rfl rfl rfl ?_
      refine r_iconst (pc2 := 10) (v := 1) dX10_goesBindLeft_9 (by decide) rfl ?_
      refine r_iadd (pc2 := 11) dX10_goesBindLeft_10 rfl ?_
      refine r_cast (nI (p + 1)) (nI_1 _) ?_
      refine r_iconst (pc2 := 12) (v := 0) dX10_goesBindLeft_11 (by decide) rfl ?_
      refine r_callV0 (pc2 := 15) (As := [.int (nI (p + 1)), .int 0]) (st := []) kX10_386 rfl rfl dX10_goesBindLeft_12 c117 (by decide) rfl rfl (Nat.le_of_ble_eq_true rfl) (by omega) (ih (p + 1) 0 (d - 1) (upd b p (nI p)) t _ (by omega) (by omega) (by omega) hlen c117 c118 c131 c132 c133) rfl (fun h hq12 => ?_)
      obtain ⟨hxb, c117, c131, c132, c133⟩ := hq12
      have c118 := hxb.get (by decide) c118
      have hx := hx.trans hxb (by decide)
      refine r_aload_n (pc2 := 16) 0 dX10_goesBindLeft_15 rfl rfl rfl rfl ?_
      refine r_getf (pc2 := 19) (v := .ref 131) fX10_60 dX10_goesBindLeft_16 c117 (by decide) rfl rfl ?_
      refine r_iload_n (pc2 := 20) 1 dX10_goesBindLeft_19 rfl rfl rfl ?_
      refine r_iconst (pc2 := 21) (v := -1) dX10_goesBindLeft_20 (by decide) rfl ?_
      refine r_iastN (pc2 := 22) p dX10_goesBindLeft_21 c131 (by decide) rfl (by omega) (by decide) rfl (fun h z21 o21 c131 => ?_)
      have c117 := (o21 117 (by decide)).trans c117
      have c118 := (o21 118 (by decide)).trans c118
      have c132 := (o21 132 (by decide)).trans c132
      have c133 := (o21 133 (by decide)).trans c133
      have hx := hx.step (a := 131) (by decide) z21 o21
      exact r_vret rfl dX10_goesBindLeft_22 ⟨rfl, hx, c117, by rw [c131, updR1 hbp], c132, c133⟩
    by_cases hbp : b p = -1
    · skip
      have hw : wl a (m + 1) p lf b = wq a (fun b2 => wl a m (p + 1) lf b2) b p m (p + 1) ++ (if lf ≠ 0 ∧ a (29 + p) = 0 then wl a m (p + 1) 0 (upd b p (nI p)) else []) := by
        rw [wl, if_neg (fun z => z hbp)]
      rw [hw] at hlen
      rw [hw]
      obtain ⟨tl, htl⟩ : ∃ z, z = (if lf ≠ 0 ∧ a (29 + p) = 0 then wl a m (p + 1) 0 (upd b p (nI p)) else []) := ⟨_, rfl⟩
      rw [← htl] at hlen ⊢
      have loop : ∀ (i j : Nat) (t : WT) (h1 : Hp), j + i = a 4 → p < j → t.1 + (wq a (fun b2 => wl a m (p + 1) lf b2) b p i j ++ tl).length < 2 ^ 31 → Ex [117, 131, 132, 133] h0 h1 → h1.1 117 = some (mO (wv v (nI t.1) (nI t.2.1))) → h1.1 118 = some (aI 3531 (nA a)) → h1.1 131 = some (aI 8 b) → h1.1 132 = some (aI 8 (t.2.2.1)) → h1.1 133 = some (aI 8 (t.2.2.2)) → Fr E mX10_goesBind d 38 [.ref 117, .int (nI p), .int (nI lf), .int (nI j)] [] h1 (PBq h0 v b (FW o q (wq a (fun b2 => wl a m (p + 1) lf b2) b p i j ++ tl) t)) := by
        intro i
        induction i with
        | zero =>
          intro j t h hj hpj hlen hx c117 c118 c131 c132 c133
          obtain rfl : j = a 4 := by omega
          show Fr E mX10_goesBind d 38 [.ref 117, .int (nI p), .int (nI lf), .int (nI (a 4))] [] h (PBq h0 v b (FW o q tl t))
          by_cases hl0 : lf = 0
          · have : tl = [] := by rw [htl, if_neg (fun z => z.1 hl0)]
            rw [this]
            show Fr E mX10_goesBind d 38 [.ref 117, .int (nI p), .int (nI lf), .int (nI (a 4))] [] h (PBq h0 v b t)
            refine r_iload_n (pc2 := 39) 3 dX10_goesBind_38 rfl rfl rfl ?_
            refine r_aload_n (pc2 := 40) 0 dX10_goesBind_39 rfl rfl rfl rfl ?_
            refine r_getf (pc2 := 43) (v := .ref 118) fX10_13 dX10_goesBind_40 c117 (by decide) rfl rfl ?_
            refine r_iconst (pc2 := 44) (v := 4) dX10_goesBind_43 (by decide) rfl ?_
            refine r_ialdA (pc2 := 45) 4 dX10_goesBind_44 c118 (by decide) rfl (by decide) (by decide) rfl ?_
            refine r_icmp_ge (tgt := 112) (pc2 := 48) dX10_goesBind_45 (by decide) rfl (fun b45 => ?_) (fun b45 => ?_)
            · skip
              refine r_iload_n (pc2 := 113) 2 dX10_goesBind_112 rfl rfl rfl ?_
              refine r_if_eq (tgt := 133) (pc2 := 116) dX10_goesBind_113 (by decide) rfl (fun b113 => ?_) (fun b113 => ?_)
              · skip
                exact r_vret rfl dX10_goesBind_133 ⟨rfl, hx, c117, c131, c132, c133⟩
              · exact absurd (by rw [hl0]; rfl) b113
            · exact absurd (nI_le (Nat.le_refl _) (by omega)) b45
          · have ha29 := hb p hp8
            by_cases hbz : a (29 + p) = 0
            · have etl : tl = wl a m (p + 1) 0 (upd b p (nI p)) := by rw [htl, if_pos ⟨hl0, hbz⟩]
              have hlen : t.1 + (wl a m (p + 1) 0 (upd b p (nI p))).length < 2 ^ 31 := by rw [← etl]; exact hlen
              rw [etl]
              refine r_iload_n (pc2 := 39) 3 dX10_goesBind_38 rfl rfl rfl ?_
              refine r_aload_n (pc2 := 40) 0 dX10_goesBind_39 rfl rfl rfl rfl ?_
              refine r_getf (pc2 := 43) (v := .ref 118) fX10_13 dX10_goesBind_40 c117 (by decide) rfl rfl ?_
              refine r_iconst (pc2 := 44) (v := 4) dX10_goesBind_43 (by decide) rfl ?_
              refine r_ialdA (pc2 := 45) 4 dX10_goesBind_44 c118 (by decide) rfl (by decide) (by decide) rfl ?_
              refine r_icmp_ge (tgt := 112) (pc2 := 48) dX10_goesBind_45 (by decide) rfl (fun b45 => ?_) (fun b45 => ?_)
              · skip
                refine r_iload_n (pc2 := 113) 2 dX10_goesBind_112 rfl rfl rfl ?_
                refine r_if_eq (tgt := 133) (pc2 := 116) dX10_goesBind_113 (by decide) rfl (fun b113 => ?_) (fun b113 => ?_)
                · exact absurd b113 (nI_ne0 (by omega) (by omega))
                · skip
                  refine r_aload_n (pc2 := 117) 0 dX10_goesBind_116 rfl rfl rfl rfl ?_
                  refine r_getf (pc2 := 120) (v := .ref 118) fX10_13 dX10_goesBind_117 c117 (by decide) rfl rfl ?_
                  refine r_bipush (pc2 := 122) (v := 29) dX10_goesBind_120 (by decide) rfl ?_
                  refine r_iload_n (pc2 := 123) 1 dX10_goesBind_122 rfl rfl rfl ?_
                  refine r_iadd (pc2 := 124) dX10_goesBind_123 rfl ?_
                  refine r_cast (nI (29 + p)) (nI_add 29 p) ?_
                  refine r_ialdA (pc2 := 125) (29 + p) dX10_goesBind_124 c118 (by decide) rfl (by omega) (by decide) rfl ?_
                  refine r_if_ne (tgt := 133) (pc2 := 128) dX10_goesBind_125 (by decide) rfl (fun b125 => ?_) (fun b125 => ?_)
                  · exact absurd (by rw [hbz]; rfl) b125
                  · skip
                    refine r_aload_n (pc2 := 129) 0 dX10_goesBind_128 rfl rfl rfl rfl ?_
                    refine r_iload_n (pc2 := 130) 1 dX10_goesBind_129 rfl rfl rfl ?_
                    refine r_callV0 (pc2 := 133) (As := [.int (nI p)]) (st := []) kX10_393 rfl rfl dX10_goesBind_130 c117 (by decide) rfl rfl (Nat.le_of_ble_eq_true rfl) (by omega) (left (d - 1) b t _ hbp (by omega) hlen c117 c118 c131 c132 c133) rfl (fun h hq130 => ?_)
                    obtain ⟨hxb, c117, c131, c132, c133⟩ := hq130
                    have c118 := hxb.get (by decide) c118
                    have hx := hx.trans hxb (by decide)
                    exact r_vret rfl dX10_goesBind_133 ⟨rfl, hx, c117, c131, c132, c133⟩
              · exact absurd (nI_le (Nat.le_refl _) (by omega)) b45
            · have : tl = [] := by rw [htl, if_neg (fun z => hbz z.2)]
              rw [this]
              show Fr E mX10_goesBind d 38 [.ref 117, .int (nI p), .int (nI lf), .int (nI (a 4))] [] h (PBq h0 v b t)
              refine r_iload_n (pc2 := 39) 3 dX10_goesBind_38 rfl rfl rfl ?_
              refine r_aload_n (pc2 := 40) 0 dX10_goesBind_39 rfl rfl rfl rfl ?_
              refine r_getf (pc2 := 43) (v := .ref 118) fX10_13 dX10_goesBind_40 c117 (by decide) rfl rfl ?_
              refine r_iconst (pc2 := 44) (v := 4) dX10_goesBind_43 (by decide) rfl ?_
              refine r_ialdA (pc2 := 45) 4 dX10_goesBind_44 c118 (by decide) rfl (by decide) (by decide) rfl ?_
              refine r_icmp_ge (tgt := 112) (pc2 := 48) dX10_goesBind_45 (by decide) rfl (fun b45 => ?_) (fun b45 => ?_)
              · skip
                refine r_iload_n (pc2 := 113) 2 dX10_goesBind_112 rfl rfl rfl ?_
                refine r_if_eq (tgt := 133) (pc2 := 116) dX10_goesBind_113 (by decide) rfl (fun b113 => ?_) (fun b113 => ?_)
                · exact absurd b113 (nI_ne0 (by omega) (by omega))
                · skip
                  refine r_aload_n (pc2 := 117) 0 dX10_goesBind_116 rfl rfl rfl rfl ?_
                  refine r_getf (pc2 := 120) (v := .ref 118) fX10_13 dX10_goesBind_117 c117 (by decide) rfl rfl ?_
                  refine r_bipush (pc2 := 122) (v := 29) dX10_goesBind_120 (by decide) rfl ?_
                  refine r_iload_n (pc2 := 123) 1 dX10_goesBind_122 rfl rfl rfl ?_
                  refine r_iadd (pc2 := 124) dX10_goesBind_123 rfl ?_
                  refine r_cast (nI (29 + p)) (nI_add 29 p) ?_
                  refine r_ialdA (pc2 := 125) (29 + p) dX10_goesBind_124 c118 (by decide) rfl (by omega) (by decide) rfl ?_
                  refine r_if_ne (tgt := 133) (pc2 := 128) dX10_goesBind_125 (by decide) rfl (fun b125 => ?_) (fun b125 => ?_)
                  · skip
                    exact r_vret rfl dX10_goesBind_133 ⟨rfl, hx, c117, c131, c132, c133⟩
                  · exact absurd (nI_z0 (by omega) b125) hbz
              · exact absurd (nI_le (Nat.le_refl _) (by omega)) b45
        | succ i ih2 =>
          intro j t h hj hpj hlen hx c117 c118 c131 c132 c133
          have hjl : j < a 4 := by omega
          have hj8 : j < 8 := by omega
          by_cases hbj : b j = -1
          · by_cases hmb : mbP a p j
            · have hwq : wq a (fun b2 => wl a m (p + 1) lf b2) b p (i + 1) j = wl a m (p + 1) lf (upd (upd b p (nI j)) j (nI p)) ++ wq a (fun b2 => wl a m (p + 1) lf b2) b p i (j + 1) := by rw [wq, if_pos ⟨hbj, hmb⟩]
              rw [hwq, List.append_assoc, FW_app]
              refine r_iload_n (pc2 := 39) 3 dX10_goesBind_38 rfl rfl rfl ?_
              refine r_aload_n (pc2 := 40) 0 dX10_goesBind_39 rfl rfl rfl rfl ?_
              refine r_getf (pc2 := 43) (v := .ref 118) fX10_13 dX10_goesBind_40 c117 (by decide) rfl rfl ?_
              refine r_iconst (pc2 := 44) (v := 4) dX10_goesBind_43 (by decide) rfl ?_
              refine r_ialdA (pc2 := 45) 4 dX10_goesBind_44 c118 (by decide) rfl (by decide) (by decide) rfl ?_
              refine r_icmp_ge (tgt := 112) (pc2 := 48) dX10_goesBind_45 (by decide) rfl (fun b45 => ?_) (fun b45 => ?_)
              · exact absurd b45 (nI_ge hjl (by omega))
              · skip
                refine r_aload_n (pc2 := 49) 0 dX10_goesBind_48 rfl rfl rfl rfl ?_
                refine r_getf (pc2 := 52) (v := .ref 131) fX10_60 dX10_goesBind_49 c117 (by decide) rfl rfl ?_
                refine r_iload_n (pc2 := 53) 3 dX10_goesBind_52 rfl rfl rfl ?_
                refine r_ialdN (pc2 := 54) j dX10_goesBind_53 c131 (by decide) rfl (by omega) (by decide) rfl ?_
                refine r_iconst (pc2 := 55) (v := -1) dX10_goesBind_54 (by decide) rfl ?_
                refine r_icmp_ne (tgt := 106) (pc2 := 58) dX10_goesBind_55 (by decide) rfl (fun b55 => ?_) (fun b55 => ?_)
                · exact absurd hbj b55
                · skip
                  refine r_aload_n (pc2 := 59) 0 dX10_goesBind_58 rfl rfl rfl rfl ?_
                  refine r_iload_n (pc2 := 60) 1 dX10_goesBind_59 rfl rfl rfl ?_
                  refine r_iload_n (pc2 := 61) 3 dX10_goesBind_60 rfl rfl rfl ?_
                  refine r_callV1 (pc2 := 64) (As := [.int (nI p), .int (nI j)]) (st := []) kX10_390 rfl rfl dX10_goesBind_61 c117 (by decide) rfl rfl (Nat.le_of_ble_eq_true rfl) (by omega) (c_mayBind (p := p) (q := j) c117 c118 (by omega) (by omega) hb hu (by omega)) rfl (fun h2 hq61 => ?_)
                  subst hq61
                  refine r_if_ne (tgt := 70) (pc2 := 67) dX10_goesBind_64 (by decide) rfl (fun b64 => ?_) (fun b64 => ?_)
                  · skip
                    refine r_aload_n (pc2 := 71) 0 dX10_goesBind_70 rfl rfl rfl rfl ?_
                    refine r_getf (pc2 := 74) (v := .ref 131) fX10_60 dX10_goesBind_71 c117 (by decide) rfl rfl ?_
                    refine r_iload_n (pc2 := 75) 1 dX10_goesBind_74 rfl rfl rfl ?_
                    refine r_iload_n (pc2 := 76) 3 dX10_goesBind_75 rfl rfl rfl ?_
                    refine r_iastN (pc2 := 77) p dX10_goesBind_76 c131 (by decide) rfl (by omega) (by decide) rfl (fun h z76 o76 c131 => ?_)
                    have c117 := (o76 117 (by decide)).trans c117
                    have c118 := (o76 118 (by decide)).trans c118
                    have c132 := (o76 132 (by decide)).trans c132
                    have c133 := (o76 133 (by decide)).trans c133
                    have hx := hx.step (a := 131) (by decide) z76 o76
                    refine r_aload_n (pc2 := 78) 0 dX10_goesBind_77 rfl rfl rfl rfl ?_
                    refine r_getf (pc2 := 81) (v := .ref 131) fX10_60 dX10_goesBind_78 c117 (by decide) rfl rfl ?_
                    refine r_iload_n (pc2 := 82) 3 dX10_goesBind_81 rfl rfl rfl ?_
                    refine r_iload_n (pc2 := 83) 1 dX10_goesBind_82 rfl rfl rfl ?_
                    refine r_iastN (pc2 := 84) j dX10_goesBind_83 c131 (by decide) rfl (by omega) (by decide) rfl (fun h z83 o83 c131 => ?_)
                    have c117 := (o83 117 (by decide)).trans c117
                    have c118 := (o83 118 (by decide)).trans c118
                    have c132 := (o83 132 (by decide)).trans c132
                    have c133 := (o83 133 (by decide)).trans c133
                    have hx := hx.step (a := 131) (by decide) z83 o83
                    refine r_aload_n (pc2 := 85) 0 dX10_goesBind_84 rfl rfl rfl rfl ?_
                    refine r_iload_n (pc2 := 86) 1 dX10_goesBind_85 rfl rfl rfl ?_
                    refine r_iconst (pc2 := 87) (v := 1) dX10_goesBind_86 (by decide) rfl ?_
                    refine r_iadd (pc2 := 88) dX10_goesBind_87 rfl ?_
                    refine r_cast (nI (p + 1)) (nI_1 _) ?_
                    refine r_iload_n (pc2 := 89) 2 dX10_goesBind_88 rfl rfl rfl ?_
                    refine r_callV0 (pc2 := 92) (As := [.int (nI (p + 1)), .int (nI lf)]) (st := []) kX10_386 rfl rfl dX10_goesBind_89 c117 (by decide) rfl rfl (Nat.le_of_ble_eq_true rfl) (by omega) (ih (p + 1) lf (d - 1) (upd (upd b p (nI j)) j (nI p)) t _ (by omega) hlf (by omega) (by rw [hwq, List.append_assoc, List.length_append] at hlen; omega) c117 c118 c131 c132 c133) rfl (fun h hq89 => ?_)
                    obtain ⟨hxb, c117, c131, c132, c133⟩ := hq89
                    have c118 := hxb.get (by decide) c118
                    have hx := hx.trans hxb (by decide)
                    refine r_aload_n (pc2 := 93) 0 dX10_goesBind_92 rfl rfl rfl rfl ?_
                    refine r_getf (pc2 := 96) (v := .ref 131) fX10_60 dX10_goesBind_93 c117 (by decide) rfl rfl ?_
                    refine r_iload_n (pc2 := 97) 1 dX10_goesBind_96 rfl rfl rfl ?_
                    refine r_iconst (pc2 := 98) (v := -1) dX10_goesBind_97 (by decide) rfl ?_
                    refine r_iastN (pc2 := 99) p dX10_goesBind_98 c131 (by decide) rfl (by omega) (by decide) rfl (fun h z98 o98 c131 => ?_)
                    have c117 := (o98 117 (by decide)).trans c117
                    have c118 := (o98 118 (by decide)).trans c118
                    have c132 := (o98 132 (by decide)).trans c132
                    have c133 := (o98 133 (by decide)).trans c133
                    have hx := hx.step (a := 131) (by decide) z98 o98
                    refine r_aload_n (pc2 := 100) 0 dX10_goesBind_99 rfl rfl rfl rfl ?_
                    refine r_getf (pc2 := 103) (v := .ref 131) fX10_60 dX10_goesBind_100 c117 (by decide) rfl rfl ?_
                    refine r_iload_n (pc2 := 104) 3 dX10_goesBind_103 rfl rfl rfl ?_
                    refine r_iconst (pc2 := 105) (v := -1) dX10_goesBind_104 (by decide) rfl ?_
                    refine r_iastN (pc2 := 106) j dX10_goesBind_105 c131 (by decide) rfl (by omega) (by decide) rfl (fun h z105 o105 c131 => ?_)
                    have c117 := (o105 117 (by decide)).trans c117
                    have c118 := (o105 118 (by decide)).trans c118
                    have c132 := (o105 132 (by decide)).trans c132
                    have c133 := (o105 133 (by decide)).trans c133
                    have hx := hx.step (a := 131) (by decide) z105 o105
                    obtain ⟨x106, e106⟩ : ∃ z : Int32, z = (nI j) + (1) := ⟨_, rfl⟩
                    refine r_iinc (pc2 := 109) (ls2 := [.ref 117, .int (nI p), .int (nI lf), .int x106]) (v := x106) 3 dX10_goesBind_106 rfl (by rw [e106]; rfl) rfl rfl rfl ?_
                    refine r_goto (pc2 := 38) dX10_goesBind_109 (by decide) ?_
                    rw [e106, nI_1]
                    rw [updR hbp hbj] at c131
                    exact ih2 (j + 1) (FW o q (wl a m (p + 1) lf (upd (upd b p (nI j)) j (nI p))) t) _ (by omega) (by omega) (by rw [hwq, List.append_assoc, List.length_append] at hlen; rw [FW_n]; omega) hx c117 c118 c131 c132 c133
                  · exact absurd b64 (if1 hmb)
            · have hwq : wq a (fun b2 => wl a m (p + 1) lf b2) b p (i + 1) j = wq a (fun b2 => wl a m (p + 1) lf b2) b p i (j + 1) := by rw [wq, if_neg (fun z => hmb z.2), List.nil_append]
              rw [hwq]
              refine r_iload_n (pc2 := 39) 3 dX10_goesBind_38 rfl rfl rfl ?_
              refine r_aload_n (pc2 := 40) 0 dX10_goesBind_39 rfl rfl rfl rfl ?_
              refine r_getf (pc2 := 43) (v := .ref 118) fX10_13 dX10_goesBind_40 c117 (by decide) rfl rfl ?_
              refine r_iconst (pc2 := 44) (v := 4) dX10_goesBind_43 (by decide) rfl ?_
              refine r_ialdA (pc2 := 45) 4 dX10_goesBind_44 c118 (by decide) rfl (by decide) (by decide) rfl ?_
              refine r_icmp_ge (tgt := 112) (pc2 := 48) dX10_goesBind_45 (by decide) rfl (fun b45 => ?_) (fun b45 => ?_)
              · exact absurd b45 (nI_ge hjl (by omega))
              · skip
                refine r_aload_n (pc2 := 49) 0 dX10_goesBind_48 rfl rfl rfl rfl ?_
                refine r_getf (pc2 := 52) (v := .ref 131) fX10_60 dX10_goesBind_49 c117 (by decide) rfl rfl ?_
                refine r_iload_n (pc2 := 53) 3 dX10_goesBind_52 rfl rfl rfl ?_
                refine r_ialdN (pc2 := 54) j dX10_goesBind_53 c131 (by decide) rfl (by omega) (by decide) rfl ?_
                refine r_iconst (pc2 := 55) (v := -1) dX10_goesBind_54 (by decide) rfl ?_
                refine r_icmp_ne (tgt := 106) (pc2 := 58) dX10_goesBind_55 (by decide) rfl (fun b55 => ?_) (fun b55 => ?_)
                · exact absurd hbj b55
                · skip
                  refine r_aload_n (pc2 := 59) 0 dX10_goesBind_58 rfl rfl rfl rfl ?_
                  refine r_iload_n (pc2 := 60) 1 dX10_goesBind_59 rfl rfl rfl ?_
                  refine r_iload_n (pc2 := 61) 3 dX10_goesBind_60 rfl rfl rfl ?_
                  refine r_callV1 (pc2 := 64) (As := [.int (nI p), .int (nI j)]) (st := []) kX10_390 rfl rfl dX10_goesBind_61 c117 (by decide) rfl rfl (Nat.le_of_ble_eq_true rfl) (by omega) (c_mayBind (p := p) (q := j) c117 c118 (by omega) (by omega) hb hu (by omega)) rfl (fun h2 hq61 => ?_)
                  subst hq61
                  refine r_if_ne (tgt := 70) (pc2 := 67) dX10_goesBind_64 (by decide) rfl (fun b64 => ?_) (fun b64 => ?_)
                  · exact absurd (if0 hmb) b64
                  · skip
                    refine r_goto (pc2 := 106) dX10_goesBind_67 (by decide) ?_
                    obtain ⟨x106, e106⟩ : ∃ z : Int32, z = (nI j) + (1) := ⟨_, rfl⟩
                    refine r_iinc (pc2 := 109) (ls2 := [.ref 117, .int (nI p), .int (nI lf), .int x106]) (v := x106) 3 dX10_goesBind_106 rfl (by rw [e106]; rfl) rfl rfl rfl ?_
                    refine r_goto (pc2 := 38) dX10_goesBind_109 (by decide) ?_
                    rw [e106, nI_1]
                    exact ih2 (j + 1) t _ (by omega) (by omega) (by rw [hwq] at hlen; exact hlen) hx c117 c118 c131 c132 c133
          · have hwq : wq a (fun b2 => wl a m (p + 1) lf b2) b p (i + 1) j = wq a (fun b2 => wl a m (p + 1) lf b2) b p i (j + 1) := by rw [wq, if_neg (fun z => hbj z.1), List.nil_append]
            rw [hwq]
            refine r_iload_n (pc2 := 39) 3 dX10_goesBind_38 rfl rfl rfl ?_
            refine r_aload_n (pc2 := 40) 0 dX10_goesBind_39 rfl rfl rfl rfl ?_
            refine r_getf (pc2 := 43) (v := .ref 118) fX10_13 dX10_goesBind_40 c117 (by decide) rfl rfl ?_
            refine r_iconst (pc2 := 44) (v := 4) dX10_goesBind_43 (by decide) rfl ?_
            refine r_ialdA (pc2 := 45) 4 dX10_goesBind_44 c118 (by decide) rfl (by decide) (by decide) rfl ?_
            refine r_icmp_ge (tgt := 112) (pc2 := 48) dX10_goesBind_45 (by decide) rfl (fun b45 => ?_) (fun b45 => ?_)
            · exact absurd b45 (nI_ge hjl (by omega))
            · skip
              refine r_aload_n (pc2 := 49) 0 dX10_goesBind_48 rfl rfl rfl rfl ?_
              refine r_getf (pc2 := 52) (v := .ref 131) fX10_60 dX10_goesBind_49 c117 (by decide) rfl rfl ?_
              refine r_iload_n (pc2 := 53) 3 dX10_goesBind_52 rfl rfl rfl ?_
              refine r_ialdN (pc2 := 54) j dX10_goesBind_53 c131 (by decide) rfl (by omega) (by decide) rfl ?_
              refine r_iconst (pc2 := 55) (v := -1) dX10_goesBind_54 (by decide) rfl ?_
              refine r_icmp_ne (tgt := 106) (pc2 := 58) dX10_goesBind_55 (by decide) rfl (fun b55 => ?_) (fun b55 => ?_)
              · skip
                obtain ⟨x106, e106⟩ : ∃ z : Int32, z = (nI j) + (1) := ⟨_, rfl⟩
                refine r_iinc (pc2 := 109) (ls2 := [.ref 117, .int (nI p), .int (nI lf), .int x106]) (v := x106) 3 dX10_goesBind_106 rfl (by rw [e106]; rfl) rfl rfl rfl ?_
                refine r_goto (pc2 := 38) dX10_goesBind_109 (by decide) ?_
                rw [e106, nI_1]
                exact ih2 (j + 1) t _ (by omega) (by omega) (by rw [hwq] at hlen; exact hlen) hx c117 c118 c131 c132 c133
              · exact absurd b55 hbj
      refine Cn.go (ls := [.ref 117, .int (nI p), .int (nI lf), .float 0]) (by decide +kernel) rfl (Nat.le_of_ble_eq_true rfl) ?_
      refine r_iload_n (pc2 := 1) 1 dX10_goesBind_0 rfl rfl rfl ?_
      refine r_aload_n (pc2 := 2) 0 dX10_goesBind_1 rfl rfl rfl rfl ?_
      refine r_getf (pc2 := 5) (v := .ref 118) fX10_13 dX10_goesBind_2 c117 (by decide) rfl rfl ?_
      refine r_iconst (pc2 := 6) (v := 4) dX10_goesBind_5 (by decide) rfl ?_
      refine r_ialdA (pc2 := 7) 4 dX10_goesBind_6 c118 (by decide) rfl (by decide) (by decide) rfl ?_
      refine r_icmp_ne (tgt := 15) (pc2 := 10) dX10_goesBind_7 (by decide) rfl (fun b7 => ?_) (fun b7 => ?_)
      · skip
        refine r_aload_n (pc2 := 16) 0 dX10_goesBind_15 rfl rfl rfl rfl ?_
        refine r_getf (pc2 := 19) (v := .ref 131) fX10_60 dX10_goesBind_16 c117 (by decide) rfl rfl ?_
        refine r_iload_n (pc2 := 20) 1 dX10_goesBind_19 rfl rfl rfl ?_
        refine r_ialdN (pc2 := 21) p dX10_goesBind_20 c131 (by decide) rfl (by omega) (by decide) rfl ?_
        refine r_iconst (pc2 := 22) (v := -1) dX10_goesBind_21 (by decide) rfl ?_
        refine r_icmp_eq (tgt := 34) (pc2 := 25) dX10_goesBind_22 (by decide) rfl (fun b22 => ?_) (fun b22 => ?_)
        · skip
          refine r_iload_n (pc2 := 35) 1 dX10_goesBind_34 rfl rfl rfl ?_
          refine r_iconst (pc2 := 36) (v := 1) dX10_goesBind_35 (by decide) rfl ?_
          refine r_iadd (pc2 := 37) dX10_goesBind_36 rfl ?_
          refine r_cast (nI (p + 1)) (nI_1 _) ?_
          refine r_istore_n (pc2 := 38) (ls2 := [.ref 117, .int (nI p), .int (nI lf), .int (nI (p + 1))]) 3 dX10_goesBind_37 rfl (by decide) rfl rfl rfl ?_
          exact loop m (p + 1) t _ (by omega) (by omega) hlen hx c117 c118 c131 c132 c133
        · exact absurd hbp b22
      · exact absurd b7 (fun z => by have := (nI_eq (by omega) (by omega)).mp z; omega)
    · have hw : wl a (m + 1) p lf b = wl a m (p + 1) lf b := by rw [wl, if_pos hbp]
      refine Cn.go (ls := [.ref 117, .int (nI p), .int (nI lf), .float 0]) (by decide +kernel) rfl (Nat.le_of_ble_eq_true rfl) ?_
      refine r_iload_n (pc2 := 1) 1 dX10_goesBind_0 rfl rfl rfl ?_
      refine r_aload_n (pc2 := 2) 0 dX10_goesBind_1 rfl rfl rfl rfl ?_
      refine r_getf (pc2 := 5) (v := .ref 118) fX10_13 dX10_goesBind_2 c117 (by decide) rfl rfl ?_
      refine r_iconst (pc2 := 6) (v := 4) dX10_goesBind_5 (by decide) rfl ?_
      refine r_ialdA (pc2 := 7) 4 dX10_goesBind_6 c118 (by decide) rfl (by decide) (by decide) rfl ?_
      refine r_icmp_ne (tgt := 15) (pc2 := 10) dX10_goesBind_7 (by decide) rfl (fun b7 => ?_) (fun b7 => ?_)
      · skip
        refine r_aload_n (pc2 := 16) 0 dX10_goesBind_15 rfl rfl rfl rfl ?_
        refine r_getf (pc2 := 19) (v := .ref 131) fX10_60 dX10_goesBind_16 c117 (by decide) rfl rfl ?_
        refine r_iload_n (pc2 := 20) 1 dX10_goesBind_19 rfl rfl rfl ?_
        refine r_ialdN (pc2 := 21) p dX10_goesBind_20 c131 (by decide) rfl (by omega) (by decide) rfl ?_
        refine r_iconst (pc2 := 22) (v := -1) dX10_goesBind_21 (by decide) rfl ?_
        refine r_icmp_eq (tgt := 34) (pc2 := 25) dX10_goesBind_22 (by decide) rfl (fun b22 => ?_) (fun b22 => ?_)
        · exact absurd b22 hbp
        · skip
          refine r_aload_n (pc2 := 26) 0 dX10_goesBind_25 rfl rfl rfl rfl ?_
          refine r_iload_n (pc2 := 27) 1 dX10_goesBind_26 rfl rfl rfl ?_
          refine r_iconst (pc2 := 28) (v := 1) dX10_goesBind_27 (by decide) rfl ?_
          refine r_iadd (pc2 := 29) dX10_goesBind_28 rfl ?_
          refine r_cast (nI (p + 1)) (nI_1 _) ?_
          refine r_iload_n (pc2 := 30) 2 dX10_goesBind_29 rfl rfl rfl ?_
          refine r_callV0 (pc2 := 33) (As := [.int (nI (p + 1)), .int (nI lf)]) (st := []) kX10_386 rfl rfl dX10_goesBind_30 c117 (by decide) rfl rfl (Nat.le_of_ble_eq_true rfl) (by omega) (ih (p + 1) lf (d - 1) b t _ (by omega) hlf (by omega) (by rw [hw] at hlen; exact hlen) c117 c118 c131 c132 c133) rfl (fun h hq30 => ?_)
          obtain ⟨hxb, c117, c131, c132, c133⟩ := hq30
          have c118 := hxb.get (by decide) c118
          have hx := hx.trans hxb (by decide)
          exact r_vret rfl dX10_goesBind_33 (by rw [hw]; exact ⟨rfl, hx, c117, c131, c132, c133⟩)
      · exact absurd b7 (fun z => by have := (nI_eq (by omega) (by omega)).mp z; omega)
