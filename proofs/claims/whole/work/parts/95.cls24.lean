/-! the class: surely, hint -/
theorem hintC_iff {a : FR} {x y z : Int32} : hintC a x y z ↔ ((inP (a 4) x ∧ inP (a 4) y) ∧ x ≠ y) ∧ inR 0 1 z := by
  have e : x.toInt64 ≠ y.toInt64 ↔ x ≠ y := ⟨fun h z => h (by rw [z]), fun h z => h (by
    have h1 : x.toInt64 ≤ y.toInt64 := by rw [z]; exact Int64.le_refl _
    have h2 : y.toInt64 ≤ x.toInt64 := by rw [z]; exact Int64.le_refl _
    exact Int32.le_antisymm ((i2l_le x y).mp h1) ((i2l_le y x).mp h2))⟩
  unfold hintC inP
  rw [e]
  exact ⟨fun h => ⟨⟨⟨h.1.1, h.1.2.1⟩, h.1.2.2⟩, h.2⟩, fun h => ⟨⟨h.1.1.1, h.1.1.2, h.1.2⟩, h.2⟩⟩
abbrev HS : List Nat := [64, 76, 77, 78, 90, 91, 92, 93, 97, 98, 99, 100, 101, 102, 103, 104, 105, 106]
theorem MY.frame {h h2 : Hp} (x : MY h) (e : ∀ q, 90 ≤ q → q ≤ 93 → h2.1 q = h.1 q) : MY h2 := by
  have e0 := e 90 (by omega) (by omega)
  have e1 := e 91 (by omega) (by omega)
  have e2 := e 92 (by omega) (by omega)
  have e3 := e 93 (by omega) (by omega)
  rcases x with ⟨wy, bo, un, f, pa, tg, c1, c2, c3, c4⟩ | ⟨c, hc, f, pa, tg, ⟨c1, c2, c3, c4⟩, r⟩
  · exact Or.inl ⟨wy, bo, un, f, pa, tg, e0.trans c1, e1.trans c2, e2.trans c3, e3.trans c4⟩
  · exact Or.inr ⟨c, hc, f, pa, tg, ⟨e0.trans c1, e1.trans c2, e2.trans c3, e3.trans c4⟩, r⟩
theorem nIz0 : (0 : Int32).toNatClampNeg = 0 := by decide
theorem nIz1 : (1 : Int32).toNatClampNeg = 1 := by decide
set_option maxRecDepth 20000 in
set_option maxHeartbeats 1000000 in
theorem cl_hint {E : EnvT} {d : Nat} {h0 : Hp} {ns s w1 w2 : Nat} {wk dt : Value} {Z : Nat → Prop} {reg : Nat → FR} {sg kd : Nat} {a b : FR} {x y z : Int32} (hN : NW h0 s ns w1 w2 wk dt a) (hD : DV Z h0 reg ns s sg kd b) (hA : AIN a) (hst : Stat a b) (hY : MY h0) (hd : 14 ≤ d) : Cn E mX9_hint d [.ref 64, .int x, .int y, .int z] h0 (fun r h2 => r = some (.int (hintF a x y z)) ∧ Ex HS h0 h2 ∧ NW h2 s ns w1 w2 wk dt (hintR a x y z) ∧ MY h2) := by
  obtain ⟨c64, c76, h77, hM⟩ := id hN
  obtain ⟨hL, hS, hZ, hb, hreg, hsg, hns, hn, zs⟩ := id hD
  have hs64 := (hZ.zl s zs).1
  obtain ⟨lo, so, sa, nl, sl, _, cs, _⟩ := id hS
  have st4 : a 4 = b 4 := hst 4 (by omega)
  have ha := hA.hb
  obtain ⟨y0, y1, y2, y3, y4, y5, c77⟩ := id h77
  by_cases hz : inR 0 1 z
  · have hz2 : z = 0 ∨ z = 1 := by
      obtain ⟨k, _, hk, rfl⟩ := inR_of (by decide) (by decide) hz
      match k, hk with
      | 0, _ => exact Or.inl rfl
      | 1, _ => exact Or.inr rfl
    by_cases h1 : (inP (a 4) x ∧ inP (a 4) y) ∧ x ≠ y
    · have h8 := ha.1
      have hx8 : x.toNatClampNeg < 8 := by obtain ⟨k, hk, rfl⟩ := inP_of (by omega) h1.1.1; rw [nI_clamp (by omega)]; omega
      have hy8 : y.toNatClampNeg < 8 := by obtain ⟨k, hk, rfl⟩ := inP_of (by omega) h1.1.2; rw [nI_clamp (by omega)]; omega
      rcases hz2 with rfl | rfl
      · have hc : hintC a x y 0 := hintC_iff.mpr ⟨h1, hz⟩
        have e4 : ∀ k, 45 ≤ k → k < 276 → (hintN a x.toNatClampNeg y.toNatClampNeg 0) k = a k := fun k h1 _ => hintN_out hx8 hy8 (by omega)
        have e45 : (hintN a x.toNatClampNeg y.toNatClampNeg 0) 45 = a 45 := hintN_out hx8 hy8 (by omega)
        have hA1 : AIN (hintN a x.toNatClampNeg y.toNatClampNeg 0) := hA.hint hx8 hy8
        have hA2 : AIN (notesN (hintN a x.toNatClampNeg y.toNatClampNeg 0) (keepV a)) := hA1.notes (hA.2.1.congr (hintN_out hx8 hy8 (by omega)) (hintN_out hx8 hy8 (by omega)) (fun _ _ => rfl))
        have hst2 : Stat (notesN (hintN a x.toNatClampNeg y.toNatClampNeg 0) (keepV a)) b := fun k hk => (notesN_out (by omega) hA1.nd).trans ((hintN_out hx8 hy8 (by omega)).trans (hst k hk))
        refine Cn.go (ls := [.ref 64, .int x, .int y, .int 0]) (by decide +kernel) rfl (Nat.le_of_ble_eq_true rfl) ?_
        refine r_aload_n (pc2 := 1) 0 dX9_hint_0 rfl rfl rfl rfl ?_
        refine r_getf (pc2 := 4) (v := .ref 77) fX9_32 dX9_hint_1 c64 (by decide) rfl rfl ?_
        refine r_aload_n (pc2 := 5) 0 dX9_hint_4 rfl rfl rfl rfl ?_
        refine r_getf (pc2 := 8) (v := .ref 76) fX9_28 dX9_hint_5 c64 (by decide) rfl rfl ?_
        refine r_callV0 (pc2 := 11) (As := [.ref 76]) (st := []) kX9_81 rfl rfl dX9_hint_8 c77 (by decide) rfl rfl (Nat.le_of_ble_eq_true rfl) (by omega) (c_becomeK h77 c76 (by decide) (by decide) (by decide)) rfl (fun h hq8 => ?_)
        obtain ⟨hxb, c77⟩ := hq8
        have c64 := hxb.get (by decide) c64
        have cs := hxb.get (by have := hZ s zs; simp; omega) cs
        have c76 := hxb.get (by decide) c76
        have hD := hD.ex (Or.inr rfl) hxb
        have hM := hM.frame hA.nd (fun q hq => hxb.2 q (by simp; omega))
        refine r_iload_n (pc2 := 12) 3 dX9_hint_11 rfl rfl rfl ?_
        refine r_if_lt (tgt := 43) (pc2 := 15) dX9_hint_12 (by decide) rfl (fun b12 => ?_) (fun b12 => ?_)
        · exact absurd b12 (by decide)
        · skip
          refine r_iload_n (pc2 := 16) 3 dX9_hint_15 rfl rfl rfl ?_
          refine r_iconst (pc2 := 17) (v := 1) dX9_hint_16 (by decide) rfl ?_
          refine r_icmp_gt (tgt := 43) (pc2 := 20) dX9_hint_17 (by decide) rfl (fun b17 => ?_) (fun b17 => ?_)
          · exact absurd b17 (by decide)
          · skip
            refine r_aload_n (pc2 := 21) 0 dX9_hint_20 rfl rfl rfl rfl ?_
            refine r_aload_n (pc2 := 22) 0 dX9_hint_21 rfl rfl rfl rfl ?_
            refine r_getf (pc2 := 25) (v := .ref 76) fX9_28 dX9_hint_22 c64 (by decide) rfl rfl ?_
            refine r_iload_n (pc2 := 26) 1 dX9_hint_25 rfl rfl rfl ?_
            refine r_iload_n (pc2 := 27) 2 dX9_hint_26 rfl rfl rfl ?_
            refine r_iload_n (pc2 := 28) 3 dX9_hint_27 rfl rfl rfl ?_
            refine r_iconst (pc2 := 29) (v := 1) dX9_hint_28 (by decide) rfl ?_
            refine r_icmp_ne (tgt := 36) (pc2 := 32) dX9_hint_29 (by decide) rfl (fun b29 => ?_) (fun b29 => ?_)
            · skip
              refine r_iconst (pc2 := 37) (v := 0) dX9_hint_36 (by decide) rfl ?_
              refine r_callV1 (pc2 := 40) (As := [.ref 76, .int x, .int y, .int 0]) (st := []) kX9_196 rfl rfl dX9_hint_37 c64 (by decide) rfl rfl (Nat.le_of_ble_eq_true rfl) (by omega) ((c_tellHint0 c64 cs hs64 c76 (Or.inl rfl) hb.1.2.2.2.1 hA (by omega)).mono fun r h2 q => (by rw [← st4, if_pos h1, if_pos h1] at q; exact q)) rfl (fun h hq37 => ?_)
              obtain ⟨hxt, c76⟩ := hq37
              have c64 := hxt.get (by decide) c64
              have cs := hxt.get (by have := hZ s zs; simp; omega) cs
              have c77 := hxt.get (by decide) c77
              have hD := hD.ex (Or.inl rfl) hxt
              have hM := hM.frame hA.nd (fun q hq => hxt.2 q (by simp; omega))
              refine r_if_eq (tgt := 46) (pc2 := 43) dX9_hint_40 (by decide) rfl (fun b40 => ?_) (fun b40 => ?_)
              · skip
                refine r_aload_n (pc2 := 47) 0 dX9_hint_46 rfl rfl rfl rfl ?_
                refine r_aload_n (pc2 := 48) 0 dX9_hint_47 rfl rfl rfl rfl ?_
                refine r_getf (pc2 := 51) (v := .ref 77) fX9_32 dX9_hint_48 c64 (by decide) rfl rfl ?_
                refine r_callV0 (pc2 := 54) (As := [.ref 77]) (st := []) kX9_200 rfl rfl dX9_hint_51 c64 (by decide) rfl rfl (Nat.le_of_ble_eq_true rfl) (by omega) (c_keepForUndo (a := (hintN a x.toNatClampNeg y.toNatClampNeg 0)) (w := keepV a) (by rw [e45]; exact c64) (hM.ext e4 hA.nd) (by rw [e45]; exact hA.nd) c77 (Or.inr rfl) (by omega)) rfl (fun h hq51 => ?_)
                obtain ⟨hxk, c64, hM2⟩ := hq51
                have cs := hxk.get (by have := hZ s zs; simp; omega) cs
                have c76 := hxk.get (by decide) c76
                have c77 := hxk.get (by decide) c77
                have hD := hD.keep hxk
                have hN2 : NW h s ns w1 w2 wk dt (notesN (hintN a x.toNatClampNeg y.toNatClampNeg 0) (keepV a)) := ⟨c64, by rw [keepV_notes (by rw [e45]; exact hA.nd)]; exact c76, aSt.of c77, hM2⟩
                have hYk : MY h := ((hY.frame (fun q h1 h2 => hxb.2 q (by simp; omega))).frame (fun q h1 h2 => hxt.2 q (by simp; omega))).frame (fun q h1 h2 => hxk.2 q (by simp; omega))
                refine r_aload_n (pc2 := 55) 0 dX9_hint_54 rfl rfl rfl rfl ?_
                refine r_callV1 (pc2 := 58) (As := []) (st := []) kX9_203 rfl rfl dX9_hint_55 c64 (by decide) rfl rfl (Nat.le_of_ble_eq_true rfl) (by omega) (c_learnSays hN2 hD hA2 hst2 hYk (by omega)) rfl (fun h hq55 => ?_)
                obtain ⟨hxl, hSY⟩ := hq55
                obtain ⟨f9, pa9, tg9, ⟨c90, _⟩, _⟩ := id hSY
                refine r_getf (pc2 := 61) (v := .int (nI (WL (notesN (hintN a x.toNatClampNeg y.toNatClampNeg 0) (keepV a))).length)) fX9_207 dX9_hint_58 c90 (by decide) rfl rfl ?_
                exact r_iret rfl dX9_hint_61 ⟨by unfold hintF hintR; rw [if_pos hc, if_pos hc, nIz0]; rfl, (((hxb.mono (S := HS) (by simp)).trans hxt (by simp)).trans hxk (by simp)).trans hxl (by simp), by unfold hintR; rw [if_pos hc, nIz0]; exact hN2.xs hA2.nd hxl, Or.inr ⟨_, hA2.hb, hSY⟩⟩
              · exact absurd b40 (by decide)
            · exact absurd b29 (by decide)
      · have hc : hintC a x y 1 := hintC_iff.mpr ⟨h1, hz⟩
        have e4 : ∀ k, 45 ≤ k → k < 276 → (hintN a x.toNatClampNeg y.toNatClampNeg 1) k = a k := fun k h1 _ => hintN_out hx8 hy8 (by omega)
        have e45 : (hintN a x.toNatClampNeg y.toNatClampNeg 1) 45 = a 45 := hintN_out hx8 hy8 (by omega)
        have hA1 : AIN (hintN a x.toNatClampNeg y.toNatClampNeg 1) := hA.hint hx8 hy8
        have hA2 : AIN (notesN (hintN a x.toNatClampNeg y.toNatClampNeg 1) (keepV a)) := hA1.notes (hA.2.1.congr (hintN_out hx8 hy8 (by omega)) (hintN_out hx8 hy8 (by omega)) (fun _ _ => rfl))
        have hst2 : Stat (notesN (hintN a x.toNatClampNeg y.toNatClampNeg 1) (keepV a)) b := fun k hk => (notesN_out (by omega) hA1.nd).trans ((hintN_out hx8 hy8 (by omega)).trans (hst k hk))
        refine Cn.go (ls := [.ref 64, .int x, .int y, .int 1]) (by decide +kernel) rfl (Nat.le_of_ble_eq_true rfl) ?_
        refine r_aload_n (pc2 := 1) 0 dX9_hint_0 rfl rfl rfl rfl ?_
        refine r_getf (pc2 := 4) (v := .ref 77) fX9_32 dX9_hint_1 c64 (by decide) rfl rfl ?_
        refine r_aload_n (pc2 := 5) 0 dX9_hint_4 rfl rfl rfl rfl ?_
        refine r_getf (pc2 := 8) (v := .ref 76) fX9_28 dX9_hint_5 c64 (by decide) rfl rfl ?_
        refine r_callV0 (pc2 := 11) (As := [.ref 76]) (st := []) kX9_81 rfl rfl dX9_hint_8 c77 (by decide) rfl rfl (Nat.le_of_ble_eq_true rfl) (by omega) (c_becomeK h77 c76 (by decide) (by decide) (by decide)) rfl (fun h hq8 => ?_)
        obtain ⟨hxb, c77⟩ := hq8
        have c64 := hxb.get (by decide) c64
        have cs := hxb.get (by have := hZ s zs; simp; omega) cs
        have c76 := hxb.get (by decide) c76
        have hD := hD.ex (Or.inr rfl) hxb
        have hM := hM.frame hA.nd (fun q hq => hxb.2 q (by simp; omega))
        refine r_iload_n (pc2 := 12) 3 dX9_hint_11 rfl rfl rfl ?_
        refine r_if_lt (tgt := 43) (pc2 := 15) dX9_hint_12 (by decide) rfl (fun b12 => ?_) (fun b12 => ?_)
        · exact absurd b12 (by decide)
        · skip
          refine r_iload_n (pc2 := 16) 3 dX9_hint_15 rfl rfl rfl ?_
          refine r_iconst (pc2 := 17) (v := 1) dX9_hint_16 (by decide) rfl ?_
          refine r_icmp_gt (tgt := 43) (pc2 := 20) dX9_hint_17 (by decide) rfl (fun b17 => ?_) (fun b17 => ?_)
          · exact absurd b17 (by decide)
          · skip
            refine r_aload_n (pc2 := 21) 0 dX9_hint_20 rfl rfl rfl rfl ?_
            refine r_aload_n (pc2 := 22) 0 dX9_hint_21 rfl rfl rfl rfl ?_
            refine r_getf (pc2 := 25) (v := .ref 76) fX9_28 dX9_hint_22 c64 (by decide) rfl rfl ?_
            refine r_iload_n (pc2 := 26) 1 dX9_hint_25 rfl rfl rfl ?_
            refine r_iload_n (pc2 := 27) 2 dX9_hint_26 rfl rfl rfl ?_
            refine r_iload_n (pc2 := 28) 3 dX9_hint_27 rfl rfl rfl ?_
            refine r_iconst (pc2 := 29) (v := 1) dX9_hint_28 (by decide) rfl ?_
            refine r_icmp_ne (tgt := 36) (pc2 := 32) dX9_hint_29 (by decide) rfl (fun b29 => ?_) (fun b29 => ?_)
            · exact absurd b29 (by decide)
            · skip
              refine r_iconst (pc2 := 33) (v := 1) dX9_hint_32 (by decide) rfl ?_
              refine r_goto (pc2 := 37) dX9_hint_33 (by decide) ?_
              refine r_callV1 (pc2 := 40) (As := [.ref 76, .int x, .int y, .int 1]) (st := []) kX9_196 rfl rfl dX9_hint_37 c64 (by decide) rfl rfl (Nat.le_of_ble_eq_true rfl) (by omega) ((c_tellHint1 c64 cs hs64 c76 (Or.inl rfl) hb.1.2.2.2.1 hA (by omega)).mono fun r h2 q => (by rw [← st4, if_pos h1, if_pos h1] at q; exact q)) rfl (fun h hq37 => ?_)
              obtain ⟨hxt, c76⟩ := hq37
              have c64 := hxt.get (by decide) c64
              have cs := hxt.get (by have := hZ s zs; simp; omega) cs
              have c77 := hxt.get (by decide) c77
              have hD := hD.ex (Or.inl rfl) hxt
              have hM := hM.frame hA.nd (fun q hq => hxt.2 q (by simp; omega))
              refine r_if_eq (tgt := 46) (pc2 := 43) dX9_hint_40 (by decide) rfl (fun b40 => ?_) (fun b40 => ?_)
              · skip
                refine r_aload_n (pc2 := 47) 0 dX9_hint_46 rfl rfl rfl rfl ?_
                refine r_aload_n (pc2 := 48) 0 dX9_hint_47 rfl rfl rfl rfl ?_
                refine r_getf (pc2 := 51) (v := .ref 77) fX9_32 dX9_hint_48 c64 (by decide) rfl rfl ?_
                refine r_callV0 (pc2 := 54) (As := [.ref 77]) (st := []) kX9_200 rfl rfl dX9_hint_51 c64 (by decide) rfl rfl (Nat.le_of_ble_eq_true rfl) (by omega) (c_keepForUndo (a := (hintN a x.toNatClampNeg y.toNatClampNeg 1)) (w := keepV a) (by rw [e45]; exact c64) (hM.ext e4 hA.nd) (by rw [e45]; exact hA.nd) c77 (Or.inr rfl) (by omega)) rfl (fun h hq51 => ?_)
                obtain ⟨hxk, c64, hM2⟩ := hq51
                have cs := hxk.get (by have := hZ s zs; simp; omega) cs
                have c76 := hxk.get (by decide) c76
                have c77 := hxk.get (by decide) c77
                have hD := hD.keep hxk
                have hN2 : NW h s ns w1 w2 wk dt (notesN (hintN a x.toNatClampNeg y.toNatClampNeg 1) (keepV a)) := ⟨c64, by rw [keepV_notes (by rw [e45]; exact hA.nd)]; exact c76, aSt.of c77, hM2⟩
                have hYk : MY h := ((hY.frame (fun q h1 h2 => hxb.2 q (by simp; omega))).frame (fun q h1 h2 => hxt.2 q (by simp; omega))).frame (fun q h1 h2 => hxk.2 q (by simp; omega))
                refine r_aload_n (pc2 := 55) 0 dX9_hint_54 rfl rfl rfl rfl ?_
                refine r_callV1 (pc2 := 58) (As := []) (st := []) kX9_203 rfl rfl dX9_hint_55 c64 (by decide) rfl rfl (Nat.le_of_ble_eq_true rfl) (by omega) (c_learnSays hN2 hD hA2 hst2 hYk (by omega)) rfl (fun h hq55 => ?_)
                obtain ⟨hxl, hSY⟩ := hq55
                obtain ⟨f9, pa9, tg9, ⟨c90, _⟩, _⟩ := id hSY
                refine r_getf (pc2 := 61) (v := .int (nI (WL (notesN (hintN a x.toNatClampNeg y.toNatClampNeg 1) (keepV a))).length)) fX9_207 dX9_hint_58 c90 (by decide) rfl rfl ?_
                exact r_iret rfl dX9_hint_61 ⟨by unfold hintF hintR; rw [if_pos hc, if_pos hc, nIz1]; rfl, (((hxb.mono (S := HS) (by simp)).trans hxt (by simp)).trans hxk (by simp)).trans hxl (by simp), by unfold hintR; rw [if_pos hc, nIz1]; exact hN2.xs hA2.nd hxl, Or.inr ⟨_, hA2.hb, hSY⟩⟩
              · exact absurd b40 (by decide)
    · rcases hz2 with rfl | rfl
      · have hc : ¬ hintC a x y 0 := fun q => h1 (hintC_iff.mp q).1
        refine Cn.go (ls := [.ref 64, .int x, .int y, .int 0]) (by decide +kernel) rfl (Nat.le_of_ble_eq_true rfl) ?_
        refine r_aload_n (pc2 := 1) 0 dX9_hint_0 rfl rfl rfl rfl ?_
        refine r_getf (pc2 := 4) (v := .ref 77) fX9_32 dX9_hint_1 c64 (by decide) rfl rfl ?_
        refine r_aload_n (pc2 := 5) 0 dX9_hint_4 rfl rfl rfl rfl ?_
        refine r_getf (pc2 := 8) (v := .ref 76) fX9_28 dX9_hint_5 c64 (by decide) rfl rfl ?_
        refine r_callV0 (pc2 := 11) (As := [.ref 76]) (st := []) kX9_81 rfl rfl dX9_hint_8 c77 (by decide) rfl rfl (Nat.le_of_ble_eq_true rfl) (by omega) (c_becomeK h77 c76 (by decide) (by decide) (by decide)) rfl (fun h hq8 => ?_)
        obtain ⟨hxb, c77⟩ := hq8
        have c64 := hxb.get (by decide) c64
        have cs := hxb.get (by have := hZ s zs; simp; omega) cs
        have c76 := hxb.get (by decide) c76
        have hD := hD.ex (Or.inr rfl) hxb
        have hM := hM.frame hA.nd (fun q hq => hxb.2 q (by simp; omega))
        refine r_iload_n (pc2 := 12) 3 dX9_hint_11 rfl rfl rfl ?_
        refine r_if_lt (tgt := 43) (pc2 := 15) dX9_hint_12 (by decide) rfl (fun b12 => ?_) (fun b12 => ?_)
        · exact absurd b12 (by decide)
        · skip
          refine r_iload_n (pc2 := 16) 3 dX9_hint_15 rfl rfl rfl ?_
          refine r_iconst (pc2 := 17) (v := 1) dX9_hint_16 (by decide) rfl ?_
          refine r_icmp_gt (tgt := 43) (pc2 := 20) dX9_hint_17 (by decide) rfl (fun b17 => ?_) (fun b17 => ?_)
          · exact absurd b17 (by decide)
          · skip
            refine r_aload_n (pc2 := 21) 0 dX9_hint_20 rfl rfl rfl rfl ?_
            refine r_aload_n (pc2 := 22) 0 dX9_hint_21 rfl rfl rfl rfl ?_
            refine r_getf (pc2 := 25) (v := .ref 76) fX9_28 dX9_hint_22 c64 (by decide) rfl rfl ?_
            refine r_iload_n (pc2 := 26) 1 dX9_hint_25 rfl rfl rfl ?_
            refine r_iload_n (pc2 := 27) 2 dX9_hint_26 rfl rfl rfl ?_
            refine r_iload_n (pc2 := 28) 3 dX9_hint_27 rfl rfl rfl ?_
            refine r_iconst (pc2 := 29) (v := 1) dX9_hint_28 (by decide) rfl ?_
            refine r_icmp_ne (tgt := 36) (pc2 := 32) dX9_hint_29 (by decide) rfl (fun b29 => ?_) (fun b29 => ?_)
            · skip
              refine r_iconst (pc2 := 37) (v := 0) dX9_hint_36 (by decide) rfl ?_
              refine r_callV1 (pc2 := 40) (As := [.ref 76, .int x, .int y, .int 0]) (st := []) kX9_196 rfl rfl dX9_hint_37 c64 (by decide) rfl rfl (Nat.le_of_ble_eq_true rfl) (by omega) ((c_tellHint0 c64 cs hs64 c76 (Or.inl rfl) hb.1.2.2.2.1 hA (by omega)).mono fun r h2 q => (by rw [← st4, if_neg h1, if_neg h1] at q; exact q)) rfl (fun h hq37 => ?_)
              obtain ⟨hxt, c76⟩ := hq37
              have c64 := hxt.get (by decide) c64
              have cs := hxt.get (by have := hZ s zs; simp; omega) cs
              have c77 := hxt.get (by decide) c77
              have hD := hD.ex (Or.inl rfl) hxt
              have hM := hM.frame hA.nd (fun q hq => hxt.2 q (by simp; omega))
              refine r_if_eq (tgt := 46) (pc2 := 43) dX9_hint_40 (by decide) rfl (fun b40 => ?_) (fun b40 => ?_)
              · exact absurd b40 (by decide)
              · skip
                refine r_bipush (pc2 := 45) (v := -11) dX9_hint_43 (by decide) rfl ?_
                exact r_iret rfl dX9_hint_45 ⟨by unfold hintF; rw [if_neg hc], (hxb.mono (S := HS) (by simp)).trans hxt (by simp), by unfold hintR; rw [if_neg hc]; exact ⟨c64, c76, aSt.of c77, hM⟩, (hY.frame (fun q h1 h2 => hxb.2 q (by simp; omega))).frame (fun q h1 h2 => hxt.2 q (by simp; omega))⟩
            · exact absurd b29 (by decide)
      · have hc : ¬ hintC a x y 1 := fun q => h1 (hintC_iff.mp q).1
        refine Cn.go (ls := [.ref 64, .int x, .int y, .int 1]) (by decide +kernel) rfl (Nat.le_of_ble_eq_true rfl) ?_
        refine r_aload_n (pc2 := 1) 0 dX9_hint_0 rfl rfl rfl rfl ?_
        refine r_getf (pc2 := 4) (v := .ref 77) fX9_32 dX9_hint_1 c64 (by decide) rfl rfl ?_
        refine r_aload_n (pc2 := 5) 0 dX9_hint_4 rfl rfl rfl rfl ?_
        refine r_getf (pc2 := 8) (v := .ref 76) fX9_28 dX9_hint_5 c64 (by decide) rfl rfl ?_
        refine r_callV0 (pc2 := 11) (As := [.ref 76]) (st := []) kX9_81 rfl rfl dX9_hint_8 c77 (by decide) rfl rfl (Nat.le_of_ble_eq_true rfl) (by omega) (c_becomeK h77 c76 (by decide) (by decide) (by decide)) rfl (fun h hq8 => ?_)
        obtain ⟨hxb, c77⟩ := hq8
        have c64 := hxb.get (by decide) c64
        have cs := hxb.get (by have := hZ s zs; simp; omega) cs
        have c76 := hxb.get (by decide) c76
        have hD := hD.ex (Or.inr rfl) hxb
        have hM := hM.frame hA.nd (fun q hq => hxb.2 q (by simp; omega))
        refine r_iload_n (pc2 := 12) 3 dX9_hint_11 rfl rfl rfl ?_
        refine r_if_lt (tgt := 43) (pc2 := 15) dX9_hint_12 (by decide) rfl (fun b12 => ?_) (fun b12 => ?_)
        · exact absurd b12 (by decide)
        · skip
          refine r_iload_n (pc2 := 16) 3 dX9_hint_15 rfl rfl rfl ?_
          refine r_iconst (pc2 := 17) (v := 1) dX9_hint_16 (by decide) rfl ?_
          refine r_icmp_gt (tgt := 43) (pc2 := 20) dX9_hint_17 (by decide) rfl (fun b17 => ?_) (fun b17 => ?_)
          · exact absurd b17 (by decide)
          · skip
            refine r_aload_n (pc2 := 21) 0 dX9_hint_20 rfl rfl rfl rfl ?_
            refine r_aload_n (pc2 := 22) 0 dX9_hint_21 rfl rfl rfl rfl ?_
            refine r_getf (pc2 := 25) (v := .ref 76) fX9_28 dX9_hint_22 c64 (by decide) rfl rfl ?_
            refine r_iload_n (pc2 := 26) 1 dX9_hint_25 rfl rfl rfl ?_
            refine r_iload_n (pc2 := 27) 2 dX9_hint_26 rfl rfl rfl ?_
            refine r_iload_n (pc2 := 28) 3 dX9_hint_27 rfl rfl rfl ?_
            refine r_iconst (pc2 := 29) (v := 1) dX9_hint_28 (by decide) rfl ?_
            refine r_icmp_ne (tgt := 36) (pc2 := 32) dX9_hint_29 (by decide) rfl (fun b29 => ?_) (fun b29 => ?_)
            · exact absurd b29 (by decide)
            · skip
              refine r_iconst (pc2 := 33) (v := 1) dX9_hint_32 (by decide) rfl ?_
              refine r_goto (pc2 := 37) dX9_hint_33 (by decide) ?_
              refine r_callV1 (pc2 := 40) (As := [.ref 76, .int x, .int y, .int 1]) (st := []) kX9_196 rfl rfl dX9_hint_37 c64 (by decide) rfl rfl (Nat.le_of_ble_eq_true rfl) (by omega) ((c_tellHint1 c64 cs hs64 c76 (Or.inl rfl) hb.1.2.2.2.1 hA (by omega)).mono fun r h2 q => (by rw [← st4, if_neg h1, if_neg h1] at q; exact q)) rfl (fun h hq37 => ?_)
              obtain ⟨hxt, c76⟩ := hq37
              have c64 := hxt.get (by decide) c64
              have cs := hxt.get (by have := hZ s zs; simp; omega) cs
              have c77 := hxt.get (by decide) c77
              have hD := hD.ex (Or.inl rfl) hxt
              have hM := hM.frame hA.nd (fun q hq => hxt.2 q (by simp; omega))
              refine r_if_eq (tgt := 46) (pc2 := 43) dX9_hint_40 (by decide) rfl (fun b40 => ?_) (fun b40 => ?_)
              · exact absurd b40 (by decide)
              · skip
                refine r_bipush (pc2 := 45) (v := -11) dX9_hint_43 (by decide) rfl ?_
                exact r_iret rfl dX9_hint_45 ⟨by unfold hintF; rw [if_neg hc], (hxb.mono (S := HS) (by simp)).trans hxt (by simp), by unfold hintR; rw [if_neg hc]; exact ⟨c64, c76, aSt.of c77, hM⟩, (hY.frame (fun q h1 h2 => hxb.2 q (by simp; omega))).frame (fun q h1 h2 => hxt.2 q (by simp; omega))⟩
  · have hc : ¬ hintC a x y z := fun q => hz q.2
    refine Cn.go (ls := [.ref 64, .int x, .int y, .int z]) (by decide +kernel) rfl (Nat.le_of_ble_eq_true rfl) ?_
    refine r_aload_n (pc2 := 1) 0 dX9_hint_0 rfl rfl rfl rfl ?_
    refine r_getf (pc2 := 4) (v := .ref 77) fX9_32 dX9_hint_1 c64 (by decide) rfl rfl ?_
    refine r_aload_n (pc2 := 5) 0 dX9_hint_4 rfl rfl rfl rfl ?_
    refine r_getf (pc2 := 8) (v := .ref 76) fX9_28 dX9_hint_5 c64 (by decide) rfl rfl ?_
    refine r_callV0 (pc2 := 11) (As := [.ref 76]) (st := []) kX9_81 rfl rfl dX9_hint_8 c77 (by decide) rfl rfl (Nat.le_of_ble_eq_true rfl) (by omega) (c_becomeK h77 c76 (by decide) (by decide) (by decide)) rfl (fun h hq8 => ?_)
    obtain ⟨hxb, c77⟩ := hq8
    have c64 := hxb.get (by decide) c64
    have cs := hxb.get (by have := hZ s zs; simp; omega) cs
    have c76 := hxb.get (by decide) c76
    have hD := hD.ex (Or.inr rfl) hxb
    have hM := hM.frame hA.nd (fun q hq => hxb.2 q (by simp; omega))
    refine r_iload_n (pc2 := 12) 3 dX9_hint_11 rfl rfl rfl ?_
    refine r_if_lt (tgt := 43) (pc2 := 15) dX9_hint_12 (by decide) rfl (fun b12 => ?_) (fun b12 => ?_)
    · skip
      refine r_bipush (pc2 := 45) (v := -11) dX9_hint_43 (by decide) rfl ?_
      exact r_iret rfl dX9_hint_45 ⟨by unfold hintF; rw [if_neg hc], hxb.mono (by simp), by unfold hintR; rw [if_neg hc]; exact ⟨c64, c76, aSt.of c77, hM⟩, hY.frame (fun q h1 h2 => hxb.2 q (by simp; omega))⟩
    · skip
      refine r_iload_n (pc2 := 16) 3 dX9_hint_15 rfl rfl rfl ?_
      refine r_iconst (pc2 := 17) (v := 1) dX9_hint_16 (by decide) rfl ?_
      refine r_icmp_gt (tgt := 43) (pc2 := 20) dX9_hint_17 (by decide) rfl (fun b17 => ?_) (fun b17 => ?_)
      · skip
        refine r_bipush (pc2 := 45) (v := -11) dX9_hint_43 (by decide) rfl ?_
        exact r_iret rfl dX9_hint_45 ⟨by unfold hintF; rw [if_neg hc], hxb.mono (by simp), by unfold hintR; rw [if_neg hc]; exact ⟨c64, c76, aSt.of c77, hM⟩, hY.frame (fun q h1 h2 => hxb.2 q (by simp; omega))⟩
      · exact absurd ((inR_iff (l := 0) (h := 1) (by decide) (by decide) z).mpr ⟨Int32.not_lt.mp b12, Int32.not_lt.mp b17⟩) hz
