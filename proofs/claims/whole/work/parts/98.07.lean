/-! the class: slept: attempt -/
theorem bit10 : ∀ s, s < 1024 → ∀ k, k < 10 → (((nI s >>> (nI k &&& 31)) &&& 1) = 1 ↔ s.testBit k = true) := by decide +kernel
theorem upd_at (f : Nat → Int32) (j : Nat) (x : Int32) : upd f j x j = x := if_pos rfl
theorem c_pastQ {E : EnvT} {d : Nat} {h0 : Hp} {Z : Nat → Prop} {reg : Nat → FR} {a b : FR} {ns q sg kd s : Nat} {W : Int32} (hD : DV Z h0 reg ns q sg kd b) (hst : Stat a b) (hs : ∀ g, g < 4 → s / 8 ^ g % 8 ≤ a 1) (eW : W = nI (tws s)) : Cn E mX6_pastAt d [.ref q, .int W] h0 (fun r h2 => r = some (.int (nI (pastN (a 1) s (a 3)))) ∧ h2 = h0) := by
  subst eW
  obtain ⟨lo, so, sa, nl, sl, c⟩ := hD.cs
  have e1 : a 1 = b 1 := hst 1 (by omega)
  have e3 : a 3 = b 3 := hst 3 (by omega)
  rw [e1, e3]
  exact c_pastAt c hD.s64 hD.2.2.2.1.1.1.2 hD.G (fun g hg => by rw [← e1]; exact hs g hg)
theorem moF_1 {a : FR} {sn set k : Nat} (h : set.testBit k = true) : moF a sn set (k + 1) = (va_up (moF a sn set k).1 (mdp a sn k) ((moF a sn set k).1 (mdp a sn k) + 1), max (moF a sn set k).2 ((moF a sn set k).1 (mdp a sn k) + 1)) := by rw [moF, if_pos h]
theorem moF_0 {a : FR} {sn set k : Nat} (h : ¬ set.testBit k = true) : moF a sn set (k + 1) = moF a sn set k := by rw [moF, if_neg h]
theorem mdp_le {a : FR} {sn dr : Nat} (hA : AIN a) (ho : ∀ g, g < a 3 → sn.testBit g = true → packS a / 8 ^ g % 8 < a 1) : mdp a sn dr ≤ 9 := by
  have := hourN_lt (a := a) (st := packS a) (sn := sn) (b := 0) (dr := dr) hA.G hA.C (by rw [hA.pdep]; exact hA.dp) ho
  unfold mdp
  omega
set_option maxRecDepth 20000 in
set_option maxHeartbeats 1000000 in
theorem c_mostAlike {E : EnvT} {d : Nat} {h0 : Hp} {ns s w1 w2 : Nat} {wk dt : Value} {Z : Nat → Prop} {reg : Nat → FR} {sg kd : Nat} {a b : FR} {un sn set : Nat} {tf : Nat → Int32} (c64 : h0.1 64 = some (.inr (9, coL s ns un w1 w2 wk dt))) (c76 : h0.1 76 = some (.inr (5, sdL (keepV a)))) (c94 : h0.1 94 = some (aI 10 tf)) (hD : DV Z h0 reg ns s sg kd b) (hA : AIN a) (hst : Stat a b) (hsn : sn < 16) (hset : set < 1024) (hdg : ∀ g, g < a 3 → sn.testBit g = true → packS a / 8 ^ g % 8 < a 1) (hd : 4 ≤ d) : Cn E mX9_mostAlike d [.ref 64, .int (nI set), .int (nI sn)] h0 (fun r h2 => r = some (.int (nI (moF a sn set 10).2)) ∧ ∃ kd2, GQ [94] kd h0 h2 kd2 ∧ DV Z h2 reg ns s sg kd2 b ∧ ∃ tf, h2.1 94 = some (aI 10 tf)) := by
  have hn0 := hD.n
  have loop : ∀ (m k : Nat) (h : Hp) (kd1 : Nat) (tf : Nat → Int32) (u5 : Value), k + m = 10 → GQ [94] kd h0 h kd1 → DV Z h reg ns s sg kd1 b → h.1 64 = some (.inr (9, coL s ns un w1 w2 wk dt)) → h.1 76 = some (.inr (5, sdL (keepV a))) → h.1 94 = some (aI 10 tf) → (∀ e, e < 10 → tf e = nI ((moF a sn set k).1 e)) → Fr E mX9_mostAlike d 13 [.ref 64, .int (nI set), .int (nI sn), .int (nI (moF a sn set k).2), .int (nI k), u5] [] h (fun r h2 => r = some (.int (nI (moF a sn set 10).2)) ∧ ∃ kd2, GQ [94] kd h0 h2 kd2 ∧ DV Z h2 reg ns s sg kd2 b ∧ ∃ tf, h2.1 94 = some (aI 10 tf)) := by
    intro m
    induction m with
    | zero =>
      intro k h kd1 tf u5 hk hQ hD c64 c76 c94 htf
      obtain rfl : k = 10 := by omega
      refine r_iload (pc2 := 15) 4 dX9_mostAlike_13 rfl rfl ?_
      refine r_bipush (pc2 := 17) (v := 10) dX9_mostAlike_15 (by decide) rfl ?_
      refine r_icmp_ge (tgt := 97) (pc2 := 20) dX9_mostAlike_17 (by decide) rfl (fun b17 => ?_) (fun b17 => ?_)
      · skip
        refine r_iload_n (pc2 := 98) 3 dX9_mostAlike_97 rfl rfl rfl ?_
        exact r_iret rfl dX9_mostAlike_98 ⟨rfl, kd1, hQ, hD, tf, c94⟩
      · exact absurd (by decide) b17
    | succ m ih =>
      intro k h kd1 tf u5 hk hQ hD c64 c76 c94 htf
      have hlt : k < 10 := by omega
      have hk1 := hD.k0
      have hn1 := hD.n
      have hmd := mdp_le (dr := k) hA hdg
      have hml := moF_le a sn set k
      have hm1 := hml.1 (mdp a sn k)
      have hm2 := hml.2
      obtain ⟨⟨V0, V1, V2, c82⟩, _⟩ := id hD.1
      obtain ⟨lo, so9, sa, nl, sl, cs⟩ := hD.cs
      by_cases hb : set.testBit k = true
      · skip
        refine r_iload (pc2 := 15) 4 dX9_mostAlike_13 rfl rfl ?_
        refine r_bipush (pc2 := 17) (v := 10) dX9_mostAlike_15 (by decide) rfl ?_
        refine r_icmp_ge (tgt := 97) (pc2 := 20) dX9_mostAlike_17 (by decide) rfl (fun b17 => ?_) (fun b17 => ?_)
        · exact absurd b17 (nI_ge (b := 10) hlt (by decide))
        · skip
          refine r_iload_n (pc2 := 21) 1 dX9_mostAlike_20 rfl rfl rfl ?_
          refine r_iload (pc2 := 23) 4 dX9_mostAlike_21 rfl rfl ?_
          refine r_ishr (pc2 := 24) dX9_mostAlike_23 rfl ?_
          refine r_iconst (pc2 := 25) (v := 1) dX9_mostAlike_24 (by decide) rfl ?_
          refine r_iand (pc2 := 26) dX9_mostAlike_25 rfl ?_
          refine r_iconst (pc2 := 27) (v := 1) dX9_mostAlike_26 (by decide) rfl ?_
          refine r_icmp_ne (tgt := 91) (pc2 := 30) dX9_mostAlike_27 (by decide) rfl (fun b27 => ?_) (fun b27 => ?_)
          · exact absurd ((bit10 set hset k hlt).mpr hb) b27
          · skip
            refine r_aload_n (pc2 := 31) 0 dX9_mostAlike_30 rfl rfl rfl rfl ?_
            refine r_getf (pc2 := 34) (v := .ref 82) fX9_55 dX9_mostAlike_31 c64 (by decide) rfl rfl ?_
            refine r_aload_n (pc2 := 35) 0 dX9_mostAlike_34 rfl rfl rfl rfl ?_
            refine r_getf (pc2 := 38) (v := .ref s) fX9_21 dX9_mostAlike_35 c64 (by decide) rfl rfl ?_
            refine r_iload (pc2 := 40) 4 dX9_mostAlike_38 rfl rfl ?_
            refine r_callV0 (pc2 := 43) (As := [.ref s, .int (nI k)]) (st := []) kX9_130 rfl rfl dX9_mostAlike_40 c82 (by decide) rfl rfl (Nat.le_of_ble_eq_true rfl) (by omega) (c_takeQ (dr := k) hD (by omega) rfl) rfl (fun h hq40 => ?_)
            obtain ⟨kd2, hKQ, hL, hg1⟩ := hq40
            have c64 := hg1.get (by simp <;> omega) (by omega) c64
            have c76 := hg1.get (by simp <;> omega) (by omega) c76
            have c94 := hg1.get (by simp <;> omega) (by omega) c94
            have hQ := hQ.tk hKQ hg1 hn0
            have hk2 := hL.dv.k0
            have hn2 := hL.dv.n
            refine r_aload_n (pc2 := 44) 0 dX9_mostAlike_43 rfl rfl rfl rfl ?_
            refine r_getf (pc2 := 47) (v := .ref 82) fX9_55 dX9_mostAlike_44 c64 (by decide) rfl rfl ?_
            refine r_aload_n (pc2 := 48) 0 dX9_mostAlike_47 rfl rfl rfl rfl ?_
            refine r_getf (pc2 := 51) (v := .ref 76) fX9_28 dX9_mostAlike_48 c64 (by decide) rfl rfl ?_
            refine r_getf (pc2 := 54) (v := .int (nI (tow (keepV a)))) fX9_114 dX9_mostAlike_51 c76 (by decide) rfl rfl ?_
            refine r_aload_n (pc2 := 55) 0 dX9_mostAlike_54 rfl rfl rfl rfl ?_
            refine r_getf (pc2 := 58) (v := .ref 76) fX9_28 dX9_mostAlike_55 c64 (by decide) rfl rfl ?_
            refine r_getf (pc2 := 61) (v := .int (nI ((keepV a) 4))) fX9_137 dX9_mostAlike_58 c76 (by decide) rfl rfl ?_
            refine r_iload_n (pc2 := 62) 2 dX9_mostAlike_61 rfl rfl rfl ?_
            refine r_iconst (pc2 := 63) (v := 0) dX9_mostAlike_62 (by decide) rfl ?_
            refine r_callV1 (pc2 := 66) (As := [.int (nI (tow (keepV a))), .int (nI ((keepV a) 4)), .int (nI sn), .int 0]) (st := []) kX9_152 rfl rfl dX9_mostAlike_63 hL.1.1 (by decide) rfl rfl (Nat.le_of_ble_eq_true rfl) (by omega) (c_depthQ (a := a) (s := (packS a)) (sn := sn) (o := 0) hL hst (dig_le hA) (by rw [hA.pdep]; exact hA.dp) hsn hdg (by omega) (by rw [tow_tws hA]) (by rw [hA.pdep]; rfl) rfl rfl (by omega)) rfl (fun h hq63 => ?_)
            obtain ⟨hxd, hL⟩ := hq63
            have c64 := hxd.get (by simp <;> omega) c64
            have c76 := hxd.get (by simp <;> omega) c76
            have c94 := hxd.get (by simp <;> omega) c94
            have hQ := hQ.dp hxd
            refine r_istore (pc2 := 68) (ls2 := [.ref 64, .int (nI set), .int (nI sn), .int (nI (moF a sn set k).2), .int (nI k), .int (nI (mdp a sn k))]) 5 dX9_mostAlike_66 (by decide) rfl rfl rfl ?_
            refine r_aload_n (pc2 := 69) 0 dX9_mostAlike_68 rfl rfl rfl rfl ?_
            refine r_getf (pc2 := 72) (v := .ref 94) fX9_66 dX9_mostAlike_69 c64 (by decide) rfl rfl ?_
            refine r_iload (pc2 := 74) 5 dX9_mostAlike_72 rfl rfl ?_
            refine r_dup2 (pc2 := 75) dX9_mostAlike_74 rfl rfl rfl ?_
            refine r_ialdN (pc2 := 76) (mdp a sn k) dX9_mostAlike_75 c94 (by decide) rfl (by omega) (by decide) rfl ?_
            refine r_cast (nI ((moF a sn set k).1 (mdp a sn k))) (htf _ (by omega)) ?_
            refine r_iconst (pc2 := 77) (v := 1) dX9_mostAlike_76 (by decide) rfl ?_
            refine r_iadd (pc2 := 78) dX9_mostAlike_77 rfl ?_
            refine r_cast (nI ((moF a sn set k).1 (mdp a sn k) + 1)) (nI_1 _) ?_
            refine r_iastN (pc2 := 79) (mdp a sn k) dX9_mostAlike_78 c94 (by decide) rfl (by omega) (by decide) rfl (fun h z78 o78 c94 => ?_)
            have c64 := (o78 64 (by decide)).trans c64
            have c76 := (o78 76 (by decide)).trans c76
            refine r_iload_n (pc2 := 80) 3 dX9_mostAlike_79 rfl rfl rfl ?_
            refine r_aload_n (pc2 := 81) 0 dX9_mostAlike_80 rfl rfl rfl rfl ?_
            refine r_getf (pc2 := 84) (v := .ref 94) fX9_66 dX9_mostAlike_81 c64 (by decide) rfl rfl ?_
            refine r_iload (pc2 := 86) 5 dX9_mostAlike_84 rfl rfl ?_
            refine r_ialdN (pc2 := 87) (mdp a sn k) dX9_mostAlike_86 c94 (by decide) rfl (by omega) (by decide) rfl ?_
            refine r_cast (nI ((moF a sn set k).1 (mdp a sn k) + 1)) (upd_at _ _ _) ?_
            refine r_callS1 (pc2 := 90) (As := [.int (nI (moF a sn set k).2), .int (nI ((moF a sn set k).1 (mdp a sn k) + 1))]) (st := []) kX9_305 dX9_mostAlike_87 rfl rfl (Nat.le_of_ble_eq_true rfl) (by omega) ((c_max _ _).mono fun r h2 z => ⟨z.1.trans (by rw [maxNN (by omega) (by omega)]), z.2⟩) rfl (fun h2 hq87 => ?_)
            obtain rfl := hq87.symm
            refine r_istore_n (pc2 := 91) (ls2 := [.ref 64, .int (nI set), .int (nI sn), .int (nI (max (moF a sn set k).2 ((moF a sn set k).1 (mdp a sn k) + 1))), .int (nI k), .int (nI (mdp a sn k))]) 3 dX9_mostAlike_90 rfl (by decide) rfl rfl rfl ?_
            obtain ⟨x91, e91⟩ : ∃ z : Int32, z = (nI k) + (1) := ⟨_, rfl⟩
            refine r_iinc (pc2 := 94) (ls2 := [.ref 64, .int (nI set), .int (nI sn), .int (nI (max (moF a sn set k).2 ((moF a sn set k).1 (mdp a sn k) + 1))), .int x91, .int (nI (mdp a sn k))]) (v := x91) 4 dX9_mostAlike_91 rfl (by rw [e91]; rfl) rfl rfl rfl ?_
            refine r_goto (pc2 := 13) dX9_mostAlike_94 (by decide) ?_
            rw [e91, nI_1]
            have hD := hL.dv.ex2 (h2 := h) (S := [94]) ⟨z78, fun q hq => o78 q (by simpa using hq)⟩ (hL.dv.offl (by simp))
            have hQ := hQ.wr (T := [94]) (h2 := h) ⟨z78, fun q hq => o78 q (by simpa using hq)⟩ (by simp)
            have t9 := ih (k + 1) h kd2 _ (.int (nI (mdp a sn k))) (by omega) hQ hD c64 c76 c94 (fun e he => by
              rw [show (moF a sn set (k + 1)).1 = va_up (moF a sn set k).1 (mdp a sn k) ((moF a sn set k).1 (mdp a sn k) + 1) from congrArg Prod.fst (moF_1 hb)]
              by_cases z : e = mdp a sn k
              · rw [z, upd_at, va_up_self]
              · rw [show upd tf (mdp a sn k) _ e = tf e from if_neg z, va_up_ne _ _ z]; exact htf e he)
            rw [moF_1 hb] at t9
            exact t9
      · skip
        refine r_iload (pc2 := 15) 4 dX9_mostAlike_13 rfl rfl ?_
        refine r_bipush (pc2 := 17) (v := 10) dX9_mostAlike_15 (by decide) rfl ?_
        refine r_icmp_ge (tgt := 97) (pc2 := 20) dX9_mostAlike_17 (by decide) rfl (fun b17 => ?_) (fun b17 => ?_)
        · exact absurd b17 (nI_ge (b := 10) hlt (by decide))
        · skip
          refine r_iload_n (pc2 := 21) 1 dX9_mostAlike_20 rfl rfl rfl ?_
          refine r_iload (pc2 := 23) 4 dX9_mostAlike_21 rfl rfl ?_
          refine r_ishr (pc2 := 24) dX9_mostAlike_23 rfl ?_
          refine r_iconst (pc2 := 25) (v := 1) dX9_mostAlike_24 (by decide) rfl ?_
          refine r_iand (pc2 := 26) dX9_mostAlike_25 rfl ?_
          refine r_iconst (pc2 := 27) (v := 1) dX9_mostAlike_26 (by decide) rfl ?_
          refine r_icmp_ne (tgt := 91) (pc2 := 30) dX9_mostAlike_27 (by decide) rfl (fun b27 => ?_) (fun b27 => ?_)
          · skip
            obtain ⟨x91, e91⟩ : ∃ z : Int32, z = (nI k) + (1) := ⟨_, rfl⟩
            refine r_iinc (pc2 := 94) (ls2 := [.ref 64, .int (nI set), .int (nI sn), .int (nI (moF a sn set k).2), .int x91, u5]) (v := x91) 4 dX9_mostAlike_91 rfl (by rw [e91]; rfl) rfl rfl rfl ?_
            refine r_goto (pc2 := 13) dX9_mostAlike_94 (by decide) ?_
            rw [e91, nI_1, ← moF_0 (a := a) (sn := sn) hb]
            exact ih (k + 1) h kd1 tf _ (by omega) hQ hD c64 c76 c94 (by rw [moF_0 hb]; exact htf)
          · exact absurd ((bit10 set hset k hlt).mp (by simpa using b27)) hb
  refine Cn.go (ls := [.ref 64, .int (nI set), .int (nI sn), .float 0, .float 0, .float 0]) (by decide +kernel) rfl (Nat.le_of_ble_eq_true rfl) ?_
  refine r_aload_n (pc2 := 1) 0 dX9_mostAlike_0 rfl rfl rfl rfl ?_
  refine r_getf (pc2 := 4) (v := .ref 94) fX9_66 dX9_mostAlike_1 c64 (by decide) rfl rfl ?_
  refine r_iconst (pc2 := 5) (v := 0) dX9_mostAlike_4 (by decide) rfl ?_
  refine r_callS0 (pc2 := 8) (As := [.ref 94, .int 0]) (st := []) kX9_331 dX9_mostAlike_5 rfl rfl (Nat.le_of_ble_eq_true rfl) (by omega) (c_fillI (z := 0) c94 (by decide) (by decide)) rfl (fun h hq5 => ?_)
  obtain ⟨hxf, g9, c94, hg9⟩ := hq5
  have c64 := hxf.get (by decide) c64
  have c76 := hxf.get (by decide) c76
  have hD := hD.ex2 hxf (hD.offl (by simp))
  have hQ := (GQ.rf (S := [94]) (kd := kd) (h := h0)).wr hxf (by simp)
  refine r_iconst (pc2 := 9) (v := 0) dX9_mostAlike_8 (by decide) rfl ?_
  refine r_cast (nI 0) (rfl) ?_
  refine r_istore_n (pc2 := 10) (ls2 := [.ref 64, .int (nI set), .int (nI sn), .int (nI 0), .float 0, .float 0]) 3 dX9_mostAlike_9 rfl (by decide) rfl rfl rfl ?_
  refine r_iconst (pc2 := 11) (v := 0) dX9_mostAlike_10 (by decide) rfl ?_
  refine r_cast (nI 0) (rfl) ?_
  refine r_istore (pc2 := 13) (ls2 := [.ref 64, .int (nI set), .int (nI sn), .int (nI 0), .int (nI 0), .float 0]) 4 dX9_mostAlike_11 (by decide) rfl rfl rfl ?_
  exact loop 10 0 h kd g9 _ (by omega) hQ hD c64 c76 c94 (fun e he => (hg9 e he).trans rfl)
def AtR (s : Int32 × Nat) (l : Nat) : Prop := (l = s.2 ∨ (s.2 = 268435456 ∧ l = 11)) ∧ l ≤ 11
theorem AtR.less {a : FR} {set k l : Nat} (x : AtR (atF a set 268435456 k) l) (ho : okS a (packS a) k) (h : (moF a k set 10).2 < l) : atF a set 268435456 (k + 1) = (nI k, (moF a k set 10).2) := by
  rw [atF, if_pos ⟨ho, by have := (moF_le a k set 10).2; rcases x.1 with z | z <;> omega⟩]
theorem AtR.more {a : FR} {set k l : Nat} (x : AtR (atF a set 268435456 k) l) (h : ¬ okS a (packS a) k ∨ ¬ (moF a k set 10).2 < l) : atF a set 268435456 (k + 1) = atF a set 268435456 k := by
  rw [atF, if_neg (fun z => by
    have := (moF_le a k set 10).2
    rcases h with h | h
    · exact h z.1
    · rcases x.1 with y | y <;> omega)]
theorem okS_now {a : FR} {k : Nat} (hA : AIN a) (hk : k < 2 ^ (a 3)) (hz : a 26 ≠ 0) : okS a (packS a) k ↔ pastN (a 1) (packS a) (a 3) &&& k = 0 := by
  unfold okS why2
  rw [hA.pdep, if_neg hz]
  constructor
  · intro h
    by_cases q : pastN (a 1) (packS a) (a 3) &&& k = 0
    · exact q
    · rw [if_pos q] at h
      exact absurd h.2 (by decide)
  · intro h
    rw [if_neg (fun q => q h)]
    exact ⟨hk, rfl⟩
theorem okS_now2 {a : FR} {k : Nat} (hA : AIN a) (ho : okS a (packS a) k) : ∀ g, g < a 3 → k.testBit g = true → packS a / 8 ^ g % 8 < a 1 := (okS_dig (SG.now hA) hA.G ho).1
set_option maxRecDepth 20000 in
set_option maxHeartbeats 1000000 in
theorem cl_attempt {E : EnvT} {d : Nat} {h0 : Hp} {ns s w1 w2 : Nat} {wk dt : Value} {Z : Nat → Prop} {reg : Nat → FR} {sg kd : Nat} {a b : FR} {rs rm : Nat → Int32} {nu : Nat → Int64} {x : Int32} {tf : Nat → Int32} (hN : NW h0 s ns w1 w2 wk dt a) (hD : DV Z h0 reg ns s sg kd b) (hA : AIN a) (hst : Stat a b) (hMT : MT h0 rs rm nu) (hT : TOK rs rm) (c94 : h0.1 94 = some (aI 10 tf)) (hd : 7 ≤ d) : Cn E mX9_attempt d [.ref 64, .int x] h0 (fun r h2 => r = some (.int (attF a rs rm nu x)) ∧ ∃ kd2, GQ [94] kd h0 h2 kd2 ∧ DV Z h2 reg ns s sg kd2 b ∧ ∃ tf, h2.1 94 = some (aI 10 tf)) := by
  obtain ⟨c64, c76, _, _⟩ := id hN
  have hn0 := hD.n
  have hk0 := hD.k0
  have st3 : a 3 = b 3 := hst 3 (by omega)
  have hG := hA.G
  have hp16 := pw16 hA.G
  by_cases hns0 : nsF rs rm nu x ≠ 0
  · skip
    refine Cn.go (ls := [.ref 64, .int x, .float 0, .float 0, .float 0, .float 0, .float 0, .float 0, .float 0]) (by decide +kernel) rfl (Nat.le_of_ble_eq_true rfl) ?_
    refine r_aload_n (pc2 := 1) 0 dX9_attempt_0 rfl rfl rfl rfl ?_
    refine r_iload_n (pc2 := 2) 1 dX9_attempt_1 rfl rfl rfl ?_
    refine r_callV1 (pc2 := 5) (As := [.int x]) (st := []) kX9_315 rfl rfl dX9_attempt_2 c64 (by decide) rfl rfl (Nat.le_of_ble_eq_true rfl) (by omega) (c_refuseSlept (x := x) c64 hMT hT (by omega)) rfl (fun h2 hq2 => ?_)
    obtain rfl := hq2.symm
    refine r_topi (fun x5 e5 => ?_)
    refine r_istore_n (pc2 := 6) (ls2 := [.ref 64, .int x, .int x5, .float 0, .float 0, .float 0, .float 0, .float 0, .float 0]) 2 dX9_attempt_5 rfl (by decide) rfl rfl rfl ?_
    refine r_iload_n (pc2 := 7) 2 dX9_attempt_6 rfl rfl rfl ?_
    refine r_if_eq (tgt := 12) (pc2 := 10) dX9_attempt_7 (by decide) rfl (fun b7 => ?_) (fun b7 => ?_)
    · exact absurd (e5.symm.trans b7) hns0
    · skip
      refine r_iload_n (pc2 := 11) 2 dX9_attempt_10 rfl rfl rfl ?_
      exact r_iret rfl dX9_attempt_11 ⟨by unfold attF; rw [if_pos hns0, e5], kd, GQ.rf, hD, tf, c94⟩
  · have hns : nsF rs rm nu x = 0 := Decidable.not_not.mp hns0
    obtain ⟨t, ht, rfl, hn1, hge, hle, hok9⟩ := nsF_0 hT hns
    obtain ⟨⟨f, c81, hf⟩, _⟩ := id hMT
    obtain ⟨ms, so, si, vv, ct, cv, q1, q2⟩ := hMT.2 t ht
    generalize hp : 109 + 2 * t = p at ct
    generalize hq : 110 + 2 * t = q at ct cv
    have hs : rs t ≠ -1 := fun z => by
      unfold nsF noTrayF at hns
      rw [if_pos (inR_nI (by decide) (Nat.zero_le _) (by omega)), nI_clamp (by omega), if_pos z, if_pos (by decide)] at hns
      exact absurd hns (by decide)
    obtain ⟨rfl, rfl, rfl, q3⟩ := q2 hs
    obtain ⟨n, hnn⟩ : ∃ n, n = rowN rm t := ⟨_, rfl⟩
    have q3 : ∀ j, j < n → vv j = nu (40 * t + j) := fun j hj => q3 j (by rw [hnn] at hj; exact hj)
    rw [← hnn] at hn1 hge hle hok9
    have hn40 : n ≤ 40 := by omega
    rw [hn1] at ct
    by_cases hz : a 26 = 0
    · skip
      refine Cn.go (ls := [.ref 64, .int (nI t), .float 0, .float 0, .float 0, .float 0, .float 0, .float 0, .float 0]) (by decide +kernel) rfl (Nat.le_of_ble_eq_true rfl) ?_
      refine r_aload_n (pc2 := 1) 0 dX9_attempt_0 rfl rfl rfl rfl ?_
      refine r_iload_n (pc2 := 2) 1 dX9_attempt_1 rfl rfl rfl ?_
      refine r_callV1 (pc2 := 5) (As := [.int (nI t)]) (st := []) kX9_315 rfl rfl dX9_attempt_2 c64 (by decide) rfl rfl (Nat.le_of_ble_eq_true rfl) (by omega) ((c_refuseSlept (x := (nI t)) c64 hMT hT (by omega)).mono fun r h2 z => ⟨z.1.trans (by rw [hns]), z.2⟩) rfl (fun h2 hq2 => ?_)
      obtain rfl := hq2.symm
      refine r_istore_n (pc2 := 6) (ls2 := [.ref 64, .int (nI t), .int 0, .float 0, .float 0, .float 0, .float 0, .float 0, .float 0]) 2 dX9_attempt_5 rfl (by decide) rfl rfl rfl ?_
      refine r_iload_n (pc2 := 7) 2 dX9_attempt_6 rfl rfl rfl ?_
      refine r_if_eq (tgt := 12) (pc2 := 10) dX9_attempt_7 (by decide) rfl (fun b7 => ?_) (fun b7 => ?_)
      · skip
        refine r_aload_n (pc2 := 13) 0 dX9_attempt_12 rfl rfl rfl rfl ?_
        refine r_getf (pc2 := 16) (v := .ref 76) fX9_28 dX9_attempt_13 c64 (by decide) rfl rfl ?_
        refine r_getf (pc2 := 19) (v := .int (nI ((keepV a) 4))) fX9_137 dX9_attempt_16 c76 (by decide) rfl rfl ?_
        refine r_if_ne (tgt := 25) (pc2 := 22) dX9_attempt_19 (by decide) rfl (fun b19 => ?_) (fun b19 => ?_)
        · exact absurd (congrArg nI hz) b19
        · skip
          refine r_bipush (pc2 := 24) (v := -5) dX9_attempt_22 (by decide) rfl ?_
          exact r_iret rfl dX9_attempt_24 ⟨by unfold attF; rw [if_neg (fun z => z hns), if_pos hz], kd, GQ.rf, hD, tf, c94⟩
      · exact absurd b7 (by decide)
    · have hdr10 : (drO a nu t n 10) < 1024 := drO_lt a nu t n 10
      by_cases hf0 : (drO a nu t n 10) = 0
      · skip
        refine Cn.go (ls := [.ref 64, .int (nI t), .float 0, .float 0, .float 0, .float 0, .float 0, .float 0, .float 0]) (by decide +kernel) rfl (Nat.le_of_ble_eq_true rfl) ?_
        refine r_aload_n (pc2 := 1) 0 dX9_attempt_0 rfl rfl rfl rfl ?_
        refine r_iload_n (pc2 := 2) 1 dX9_attempt_1 rfl rfl rfl ?_
        refine r_callV1 (pc2 := 5) (As := [.int (nI t)]) (st := []) kX9_315 rfl rfl dX9_attempt_2 c64 (by decide) rfl rfl (Nat.le_of_ble_eq_true rfl) (by omega) ((c_refuseSlept (x := (nI t)) c64 hMT hT (by omega)).mono fun r h2 z => ⟨z.1.trans (by rw [hns]), z.2⟩) rfl (fun h2 hq2 => ?_)
        obtain rfl := hq2.symm
        refine r_istore_n (pc2 := 6) (ls2 := [.ref 64, .int (nI t), .int 0, .float 0, .float 0, .float 0, .float 0, .float 0, .float 0]) 2 dX9_attempt_5 rfl (by decide) rfl rfl rfl ?_
        refine r_iload_n (pc2 := 7) 2 dX9_attempt_6 rfl rfl rfl ?_
        refine r_if_eq (tgt := 12) (pc2 := 10) dX9_attempt_7 (by decide) rfl (fun b7 => ?_) (fun b7 => ?_)
        · skip
          refine r_aload_n (pc2 := 13) 0 dX9_attempt_12 rfl rfl rfl rfl ?_
          refine r_getf (pc2 := 16) (v := .ref 76) fX9_28 dX9_attempt_13 c64 (by decide) rfl rfl ?_
          refine r_getf (pc2 := 19) (v := .int (nI ((keepV a) 4))) fX9_137 dX9_attempt_16 c76 (by decide) rfl rfl ?_
          refine r_if_ne (tgt := 25) (pc2 := 22) dX9_attempt_19 (by decide) rfl (fun b19 => ?_) (fun b19 => ?_)
          · skip
            refine r_aload_n (pc2 := 26) 0 dX9_attempt_25 rfl rfl rfl rfl ?_
            refine r_aload_n (pc2 := 27) 0 dX9_attempt_26 rfl rfl rfl rfl ?_
            refine r_getf (pc2 := 30) (v := .ref 81) fX9_48 dX9_attempt_27 c64 (by decide) rfl rfl ?_
            refine r_iload_n (pc2 := 31) 1 dX9_attempt_30 rfl rfl rfl ?_
            refine r_aald (pc2 := 32) dX9_attempt_31 c81 (by decide) (by decide) (nI_vp (j := t) rfl (by omega) (by decide)).1 (by rw [nI_clamp (by omega), hf t ht, hp]) (by omega) rfl ?_
            refine r_callV1 (pc2 := 35) (As := [.ref p]) (st := []) kX9_318 rfl rfl dX9_attempt_32 c64 (by decide) rfl rfl (Nat.le_of_ble_eq_true rfl) (by omega) (c_draughtsOfC c64 c76 ct cv (by omega) (by omega) q3 hn40 hD hA hst (by omega)) rfl (fun h hq32 => ?_)
            obtain ⟨kd2, hQ2, hD⟩ := hq32
            have c64 := hQ2.get (by omega) (by simp) (by omega) c64
            have c76 := hQ2.get (by omega) (by simp) (by omega) c76
            have c94 := hQ2.get (by omega) (by simp) (by omega) c94
            have hQ2 := hQ2.mono (T := [94]) (by simp)
            obtain ⟨lo, so9, sa, nl, sl, cs⟩ := hD.cs
            refine r_istore_n (pc2 := 36) (ls2 := [.ref 64, .int (nI t), .int 0, .int (nI (drO a nu t n 10)), .float 0, .float 0, .float 0, .float 0, .float 0]) 3 dX9_attempt_35 rfl (by decide) rfl rfl rfl ?_
            refine r_iload_n (pc2 := 37) 3 dX9_attempt_36 rfl rfl rfl ?_
            refine r_if_ne (tgt := 42) (pc2 := 40) dX9_attempt_37 (by decide) rfl (fun b37 => ?_) (fun b37 => ?_)
            · exact absurd (congrArg nI hf0) b37
            · skip
              refine r_iconst (pc2 := 41) (v := -1) dX9_attempt_40 (by decide) rfl ?_
              exact r_iret rfl dX9_attempt_41 ⟨by unfold attF; rw [if_neg (fun z => z hns), if_neg hz, nI_clamp (by omega), ← hnn, if_pos hf0], kd2, hQ2, hD, tf, c94⟩
          · exact absurd (nI_z0 (by have := hA.dp; omega) (show nI (a 26) = 0 from b19)) hz
        · exact absurd b7 (by decide)
      · have loop : ∀ (m k l : Nat) (h : Hp) (kd1 : Nat) (tf : Nat → Int32) (u8 : Value), k + m = 2 ^ (a 3) → AtR (atF a (drO a nu t n 10) 268435456 k) l → GQ [94] kd h0 h kd1 → DV Z h reg ns s sg kd1 b → h.1 64 = some (.inr (9, coL s ns (a 45) w1 w2 wk dt)) → h.1 76 = some (.inr (5, sdL (keepV a))) → h.1 94 = some (aI 10 tf) → Fr E mX9_attempt d 68 [.ref 64, .int (nI t), .int 0, .int (nI (drO a nu t n 10)), .int (nI (pastN (a 1) (packS a) (a 3))), .int ((atF a (drO a nu t n 10) 268435456 k).1), .int (nI l), .int (nI k), u8] [] h (fun r h2 => r = some (.int (attF a rs rm nu (nI t))) ∧ ∃ kd2, GQ [94] kd h0 h2 kd2 ∧ DV Z h2 reg ns s sg kd2 b ∧ ∃ tf, h2.1 94 = some (aI 10 tf)) := by
          intro m
          induction m with
          | zero =>
            intro k l h kd1 tf u8 hk hR hQ hD c64 c76 c94
            obtain rfl : k = 2 ^ (a 3) := by omega
            obtain ⟨lo, so9, sa, nl, sl, cs⟩ := hD.cs
            refine r_iload (pc2 := 70) 7 dX9_attempt_68 rfl rfl ?_
            refine r_iconst (pc2 := 71) (v := 1) dX9_attempt_70 (by decide) rfl ?_
            refine r_aload_n (pc2 := 72) 0 dX9_attempt_71 rfl rfl rfl rfl ?_
            refine r_getf (pc2 := 75) (v := .ref s) fX9_21 dX9_attempt_72 c64 (by decide) rfl rfl ?_
            refine r_getf (pc2 := 78) (v := .int (nI (b 3))) fX9_111 dX9_attempt_75 cs hD.s64 rfl rfl ?_
            refine r_ishl (pc2 := 79) dX9_attempt_78 rfl ?_
            refine r_cast (nI (2 ^ (a 3))) (by rw [← st3]; exact shl1 _ (by omega)) ?_
            refine r_icmp_ge (tgt := 125) (pc2 := 82) dX9_attempt_79 (by decide) rfl (fun b79 => ?_) (fun b79 => ?_)
            · skip
              refine r_iload (pc2 := 127) 5 dX9_attempt_125 rfl rfl ?_
              exact r_iret rfl dX9_attempt_127 ⟨by unfold attF; rw [if_neg (fun z => z hns), if_neg hz, nI_clamp (by omega), ← hnn, if_neg hf0], kd1, hQ, hD, tf, c94⟩
            · exact absurd (nI_le (Nat.le_refl _) (by omega)) b79
          | succ m ih =>
            intro k l h kd1 tf u8 hk hR hQ hD c64 c76 c94
            have hlt : k < 2 ^ (a 3) := by omega
            have hk1 := hD.k0
            have hn1 := hD.n
            have hl11 := hR.2
            have hml := (moF_le a k (drO a nu t n 10) 10).2
            obtain ⟨lo, so9, sa, nl, sl, cs⟩ := hD.cs
            by_cases ho : okS a (packS a) k
            · have hp0 := (okS_now hA hlt hz).mp ho
              by_cases hl : (moF a k (drO a nu t n 10) 10).2 < l
              · skip
                refine r_iload (pc2 := 70) 7 dX9_attempt_68 rfl rfl ?_
                refine r_iconst (pc2 := 71) (v := 1) dX9_attempt_70 (by decide) rfl ?_
                refine r_aload_n (pc2 := 72) 0 dX9_attempt_71 rfl rfl rfl rfl ?_
                refine r_getf (pc2 := 75) (v := .ref s) fX9_21 dX9_attempt_72 c64 (by decide) rfl rfl ?_
                refine r_getf (pc2 := 78) (v := .int (nI (b 3))) fX9_111 dX9_attempt_75 cs hD.s64 rfl rfl ?_
                refine r_ishl (pc2 := 79) dX9_attempt_78 rfl ?_
                refine r_cast (nI (2 ^ (a 3))) (by rw [← st3]; exact shl1 _ (by omega)) ?_
                refine r_icmp_ge (tgt := 125) (pc2 := 82) dX9_attempt_79 (by decide) rfl (fun b79 => ?_) (fun b79 => ?_)
                · exact absurd b79 (nI_ge hlt (by omega))
                · skip
                  refine r_iload (pc2 := 84) 7 dX9_attempt_82 rfl rfl ?_
                  refine r_iload (pc2 := 86) 4 dX9_attempt_84 rfl rfl ?_
                  refine r_iand (pc2 := 87) dX9_attempt_86 rfl ?_
                  refine r_cast (nI (k &&& (pastN (a 1) (packS a) (a 3)))) (nI_and _ _) ?_
                  refine r_if_ne (tgt := 100) (pc2 := 90) dX9_attempt_87 (by decide) rfl (fun b87 => ?_) (fun b87 => ?_)
                  · exact absurd (congrArg nI (by rw [Nat.and_comm]; exact hp0)) b87
                  · skip
                    refine r_aload_n (pc2 := 91) 0 dX9_attempt_90 rfl rfl rfl rfl ?_
                    refine r_iload_n (pc2 := 92) 3 dX9_attempt_91 rfl rfl rfl ?_
                    refine r_iload (pc2 := 94) 7 dX9_attempt_92 rfl rfl ?_
                    refine r_callV1 (pc2 := 97) (As := [.int (nI (drO a nu t n 10)), .int (nI k)]) (st := []) kX9_328 rfl rfl dX9_attempt_94 c64 (by decide) rfl rfl (Nat.le_of_ble_eq_true rfl) (by omega) (c_mostAlike (sn := k) (set := (drO a nu t n 10)) c64 c76 c94 hD hA hst (by omega) hdr10 (okS_now2 hA ho) (by omega)) rfl (fun h hq94 => ?_)
                    obtain ⟨kd2, hQ2, hD2, tf2, c94⟩ := hq94
                    have c64 := hQ2.get (by omega) (by simp) (by omega) c64
                    have c76 := hQ2.get (by omega) (by simp) (by omega) c76
                    have hQ := hQ.trans hQ2 hn0
                    have hD := hD2
                    refine r_goto (pc2 := 102) dX9_attempt_97 (by decide) ?_
                    refine r_istore (pc2 := 104) (ls2 := [.ref 64, .int (nI t), .int 0, .int (nI (drO a nu t n 10)), .int (nI (pastN (a 1) (packS a) (a 3))), .int ((atF a (drO a nu t n 10) 268435456 k).1), .int (nI l), .int (nI k), .int (nI (moF a k (drO a nu t n 10) 10).2)]) 8 dX9_attempt_102 (by decide) rfl rfl rfl ?_
                    refine r_iload (pc2 := 106) 8 dX9_attempt_104 rfl rfl ?_
                    refine r_iload (pc2 := 108) 6 dX9_attempt_106 rfl rfl ?_
                    refine r_icmp_ge (tgt := 119) (pc2 := 111) dX9_attempt_108 (by decide) rfl (fun b108 => ?_) (fun b108 => ?_)
                    · exact absurd b108 (nI_ge hl (by omega))
                    · skip
                      refine r_iload (pc2 := 113) 8 dX9_attempt_111 rfl rfl ?_
                      refine r_istore (pc2 := 115) (ls2 := [.ref 64, .int (nI t), .int 0, .int (nI (drO a nu t n 10)), .int (nI (pastN (a 1) (packS a) (a 3))), .int ((atF a (drO a nu t n 10) 268435456 k).1), .int (nI (moF a k (drO a nu t n 10) 10).2), .int (nI k), .int (nI (moF a k (drO a nu t n 10) 10).2)]) 6 dX9_attempt_113 (by decide) rfl rfl rfl ?_
                      refine r_iload (pc2 := 117) 7 dX9_attempt_115 rfl rfl ?_
                      refine r_istore (pc2 := 119) (ls2 := [.ref 64, .int (nI t), .int 0, .int (nI (drO a nu t n 10)), .int (nI (pastN (a 1) (packS a) (a 3))), .int (nI k), .int (nI (moF a k (drO a nu t n 10) 10).2), .int (nI k), .int (nI (moF a k (drO a nu t n 10) 10).2)]) 5 dX9_attempt_117 (by decide) rfl rfl rfl ?_
                      obtain ⟨x119, e119⟩ : ∃ z : Int32, z = (nI k) + (1) := ⟨_, rfl⟩
                      refine r_iinc (pc2 := 122) (ls2 := [.ref 64, .int (nI t), .int 0, .int (nI (drO a nu t n 10)), .int (nI (pastN (a 1) (packS a) (a 3))), .int (nI k), .int (nI (moF a k (drO a nu t n 10) 10).2), .int x119, .int (nI (moF a k (drO a nu t n 10) 10).2)]) (v := x119) 7 dX9_attempt_119 rfl (by rw [e119]; rfl) rfl rfl rfl ?_
                      refine r_goto (pc2 := 68) dX9_attempt_122 (by decide) ?_
                      rw [e119, nI_1]
                      have t9 := ih (k + 1) (moF a k (drO a nu t n 10) 10).2 h kd2 tf2 (.int (nI (moF a k (drO a nu t n 10) 10).2)) (by omega) ⟨Or.inl (by rw [hR.less ho hl]), by omega⟩ hQ hD c64 c76 c94
                      rw [hR.less ho hl] at t9
                      exact t9
              · skip
                refine r_iload (pc2 := 70) 7 dX9_attempt_68 rfl rfl ?_
                refine r_iconst (pc2 := 71) (v := 1) dX9_attempt_70 (by decide) rfl ?_
                refine r_aload_n (pc2 := 72) 0 dX9_attempt_71 rfl rfl rfl rfl ?_
                refine r_getf (pc2 := 75) (v := .ref s) fX9_21 dX9_attempt_72 c64 (by decide) rfl rfl ?_
                refine r_getf (pc2 := 78) (v := .int (nI (b 3))) fX9_111 dX9_attempt_75 cs hD.s64 rfl rfl ?_
                refine r_ishl (pc2 := 79) dX9_attempt_78 rfl ?_
                refine r_cast (nI (2 ^ (a 3))) (by rw [← st3]; exact shl1 _ (by omega)) ?_
                refine r_icmp_ge (tgt := 125) (pc2 := 82) dX9_attempt_79 (by decide) rfl (fun b79 => ?_) (fun b79 => ?_)
                · exact absurd b79 (nI_ge hlt (by omega))
                · skip
                  refine r_iload (pc2 := 84) 7 dX9_attempt_82 rfl rfl ?_
                  refine r_iload (pc2 := 86) 4 dX9_attempt_84 rfl rfl ?_
                  refine r_iand (pc2 := 87) dX9_attempt_86 rfl ?_
                  refine r_cast (nI (k &&& (pastN (a 1) (packS a) (a 3)))) (nI_and _ _) ?_
                  refine r_if_ne (tgt := 100) (pc2 := 90) dX9_attempt_87 (by decide) rfl (fun b87 => ?_) (fun b87 => ?_)
                  · exact absurd (congrArg nI (by rw [Nat.and_comm]; exact hp0)) b87
                  · skip
                    refine r_aload_n (pc2 := 91) 0 dX9_attempt_90 rfl rfl rfl rfl ?_
                    refine r_iload_n (pc2 := 92) 3 dX9_attempt_91 rfl rfl rfl ?_
                    refine r_iload (pc2 := 94) 7 dX9_attempt_92 rfl rfl ?_
                    refine r_callV1 (pc2 := 97) (As := [.int (nI (drO a nu t n 10)), .int (nI k)]) (st := []) kX9_328 rfl rfl dX9_attempt_94 c64 (by decide) rfl rfl (Nat.le_of_ble_eq_true rfl) (by omega) (c_mostAlike (sn := k) (set := (drO a nu t n 10)) c64 c76 c94 hD hA hst (by omega) hdr10 (okS_now2 hA ho) (by omega)) rfl (fun h hq94 => ?_)
                    obtain ⟨kd2, hQ2, hD2, tf2, c94⟩ := hq94
                    have c64 := hQ2.get (by omega) (by simp) (by omega) c64
                    have c76 := hQ2.get (by omega) (by simp) (by omega) c76
                    have hQ := hQ.trans hQ2 hn0
                    have hD := hD2
                    refine r_goto (pc2 := 102) dX9_attempt_97 (by decide) ?_
                    refine r_istore (pc2 := 104) (ls2 := [.ref 64, .int (nI t), .int 0, .int (nI (drO a nu t n 10)), .int (nI (pastN (a 1) (packS a) (a 3))), .int ((atF a (drO a nu t n 10) 268435456 k).1), .int (nI l), .int (nI k), .int (nI (moF a k (drO a nu t n 10) 10).2)]) 8 dX9_attempt_102 (by decide) rfl rfl rfl ?_
                    refine r_iload (pc2 := 106) 8 dX9_attempt_104 rfl rfl ?_
                    refine r_iload (pc2 := 108) 6 dX9_attempt_106 rfl rfl ?_
                    refine r_icmp_ge (tgt := 119) (pc2 := 111) dX9_attempt_108 (by decide) rfl (fun b108 => ?_) (fun b108 => ?_)
                    · skip
                      obtain ⟨x119, e119⟩ : ∃ z : Int32, z = (nI k) + (1) := ⟨_, rfl⟩
                      refine r_iinc (pc2 := 122) (ls2 := [.ref 64, .int (nI t), .int 0, .int (nI (drO a nu t n 10)), .int (nI (pastN (a 1) (packS a) (a 3))), .int ((atF a (drO a nu t n 10) 268435456 k).1), .int (nI l), .int x119, .int (nI (moF a k (drO a nu t n 10) 10).2)]) (v := x119) 7 dX9_attempt_119 rfl (by rw [e119]; rfl) rfl rfl rfl ?_
                      refine r_goto (pc2 := 68) dX9_attempt_122 (by decide) ?_
                      rw [e119, nI_1]
                      have t9 := ih (k + 1) l h kd2 tf2 (.int (nI (moF a k (drO a nu t n 10) 10).2)) (by omega) (by rw [hR.more (Or.inr hl)]; exact hR) hQ hD c64 c76 c94
                      rw [hR.more (Or.inr hl)] at t9
                      exact t9
                    · exact absurd (nI_le (by omega) (by omega)) b108
            · have hp0 : ¬ (pastN (a 1) (packS a) (a 3)) &&& k = 0 := fun z => ho ((okS_now hA hlt hz).mpr z)
              refine r_iload (pc2 := 70) 7 dX9_attempt_68 rfl rfl ?_
              refine r_iconst (pc2 := 71) (v := 1) dX9_attempt_70 (by decide) rfl ?_
              refine r_aload_n (pc2 := 72) 0 dX9_attempt_71 rfl rfl rfl rfl ?_
              refine r_getf (pc2 := 75) (v := .ref s) fX9_21 dX9_attempt_72 c64 (by decide) rfl rfl ?_
              refine r_getf (pc2 := 78) (v := .int (nI (b 3))) fX9_111 dX9_attempt_75 cs hD.s64 rfl rfl ?_
              refine r_ishl (pc2 := 79) dX9_attempt_78 rfl ?_
              refine r_cast (nI (2 ^ (a 3))) (by rw [← st3]; exact shl1 _ (by omega)) ?_
              refine r_icmp_ge (tgt := 125) (pc2 := 82) dX9_attempt_79 (by decide) rfl (fun b79 => ?_) (fun b79 => ?_)
              · exact absurd b79 (nI_ge hlt (by omega))
              · skip
                refine r_iload (pc2 := 84) 7 dX9_attempt_82 rfl rfl ?_
                refine r_iload (pc2 := 86) 4 dX9_attempt_84 rfl rfl ?_
                refine r_iand (pc2 := 87) dX9_attempt_86 rfl ?_
                refine r_cast (nI (k &&& (pastN (a 1) (packS a) (a 3)))) (nI_and _ _) ?_
                refine r_if_ne (tgt := 100) (pc2 := 90) dX9_attempt_87 (by decide) rfl (fun b87 => ?_) (fun b87 => ?_)
                · skip
                  refine r_iload (pc2 := 102) 6 dX9_attempt_100 rfl rfl ?_
                  refine r_istore (pc2 := 104) (ls2 := [.ref 64, .int (nI t), .int 0, .int (nI (drO a nu t n 10)), .int (nI (pastN (a 1) (packS a) (a 3))), .int ((atF a (drO a nu t n 10) 268435456 k).1), .int (nI l), .int (nI k), .int (nI l)]) 8 dX9_attempt_102 (by decide) rfl rfl rfl ?_
                  refine r_iload (pc2 := 106) 8 dX9_attempt_104 rfl rfl ?_
                  refine r_iload (pc2 := 108) 6 dX9_attempt_106 rfl rfl ?_
                  refine r_icmp_ge (tgt := 119) (pc2 := 111) dX9_attempt_108 (by decide) rfl (fun b108 => ?_) (fun b108 => ?_)
                  · skip
                    obtain ⟨x119, e119⟩ : ∃ z : Int32, z = (nI k) + (1) := ⟨_, rfl⟩
                    refine r_iinc (pc2 := 122) (ls2 := [.ref 64, .int (nI t), .int 0, .int (nI (drO a nu t n 10)), .int (nI (pastN (a 1) (packS a) (a 3))), .int ((atF a (drO a nu t n 10) 268435456 k).1), .int (nI l), .int x119, .int (nI l)]) (v := x119) 7 dX9_attempt_119 rfl (by rw [e119]; rfl) rfl rfl rfl ?_
                    refine r_goto (pc2 := 68) dX9_attempt_122 (by decide) ?_
                    rw [e119, nI_1]
                    have t9 := ih (k + 1) l h kd1 tf (.int (nI l)) (by omega) (by rw [hR.more (Or.inl ho)]; exact hR) hQ hD c64 c76 c94
                    rw [hR.more (Or.inl ho)] at t9
                    exact t9
                  · exact absurd (nI_le (Nat.le_refl _) (by omega)) b108
                · exact absurd (by rw [Nat.and_comm]; exact nI_z0 (by have := Nat.and_le_left (n := k) (m := (pastN (a 1) (packS a) (a 3))); omega) b87) hp0
        refine Cn.go (ls := [.ref 64, .int (nI t), .float 0, .float 0, .float 0, .float 0, .float 0, .float 0, .float 0]) (by decide +kernel) rfl (Nat.le_of_ble_eq_true rfl) ?_
        refine r_aload_n (pc2 := 1) 0 dX9_attempt_0 rfl rfl rfl rfl ?_
        refine r_iload_n (pc2 := 2) 1 dX9_attempt_1 rfl rfl rfl ?_
        refine r_callV1 (pc2 := 5) (As := [.int (nI t)]) (st := []) kX9_315 rfl rfl dX9_attempt_2 c64 (by decide) rfl rfl (Nat.le_of_ble_eq_true rfl) (by omega) ((c_refuseSlept (x := (nI t)) c64 hMT hT (by omega)).mono fun r h2 z => ⟨z.1.trans (by rw [hns]), z.2⟩) rfl (fun h2 hq2 => ?_)
        obtain rfl := hq2.symm
        refine r_istore_n (pc2 := 6) (ls2 := [.ref 64, .int (nI t), .int 0, .float 0, .float 0, .float 0, .float 0, .float 0, .float 0]) 2 dX9_attempt_5 rfl (by decide) rfl rfl rfl ?_
        refine r_iload_n (pc2 := 7) 2 dX9_attempt_6 rfl rfl rfl ?_
        refine r_if_eq (tgt := 12) (pc2 := 10) dX9_attempt_7 (by decide) rfl (fun b7 => ?_) (fun b7 => ?_)
        · skip
          refine r_aload_n (pc2 := 13) 0 dX9_attempt_12 rfl rfl rfl rfl ?_
          refine r_getf (pc2 := 16) (v := .ref 76) fX9_28 dX9_attempt_13 c64 (by decide) rfl rfl ?_
          refine r_getf (pc2 := 19) (v := .int (nI ((keepV a) 4))) fX9_137 dX9_attempt_16 c76 (by decide) rfl rfl ?_
          refine r_if_ne (tgt := 25) (pc2 := 22) dX9_attempt_19 (by decide) rfl (fun b19 => ?_) (fun b19 => ?_)
          · skip
            refine r_aload_n (pc2 := 26) 0 dX9_attempt_25 rfl rfl rfl rfl ?_
            refine r_aload_n (pc2 := 27) 0 dX9_attempt_26 rfl rfl rfl rfl ?_
            refine r_getf (pc2 := 30) (v := .ref 81) fX9_48 dX9_attempt_27 c64 (by decide) rfl rfl ?_
            refine r_iload_n (pc2 := 31) 1 dX9_attempt_30 rfl rfl rfl ?_
            refine r_aald (pc2 := 32) dX9_attempt_31 c81 (by decide) (by decide) (nI_vp (j := t) rfl (by omega) (by decide)).1 (by rw [nI_clamp (by omega), hf t ht, hp]) (by omega) rfl ?_
            refine r_callV1 (pc2 := 35) (As := [.ref p]) (st := []) kX9_318 rfl rfl dX9_attempt_32 c64 (by decide) rfl rfl (Nat.le_of_ble_eq_true rfl) (by omega) (c_draughtsOfC c64 c76 ct cv (by omega) (by omega) q3 hn40 hD hA hst (by omega)) rfl (fun h hq32 => ?_)
            obtain ⟨kd2, hQ2, hD⟩ := hq32
            have c64 := hQ2.get (by omega) (by simp) (by omega) c64
            have c76 := hQ2.get (by omega) (by simp) (by omega) c76
            have c94 := hQ2.get (by omega) (by simp) (by omega) c94
            have hQ2 := hQ2.mono (T := [94]) (by simp)
            obtain ⟨lo, so9, sa, nl, sl, cs⟩ := hD.cs
            refine r_istore_n (pc2 := 36) (ls2 := [.ref 64, .int (nI t), .int 0, .int (nI (drO a nu t n 10)), .float 0, .float 0, .float 0, .float 0, .float 0]) 3 dX9_attempt_35 rfl (by decide) rfl rfl rfl ?_
            refine r_iload_n (pc2 := 37) 3 dX9_attempt_36 rfl rfl rfl ?_
            refine r_if_ne (tgt := 42) (pc2 := 40) dX9_attempt_37 (by decide) rfl (fun b37 => ?_) (fun b37 => ?_)
            · skip
              refine r_aload_n (pc2 := 43) 0 dX9_attempt_42 rfl rfl rfl rfl ?_
              refine r_getf (pc2 := 46) (v := .ref s) fX9_21 dX9_attempt_43 c64 (by decide) rfl rfl ?_
              refine r_aload_n (pc2 := 47) 0 dX9_attempt_46 rfl rfl rfl rfl ?_
              refine r_getf (pc2 := 50) (v := .ref 76) fX9_28 dX9_attempt_47 c64 (by decide) rfl rfl ?_
              refine r_getf (pc2 := 53) (v := .int (nI (tow (keepV a)))) fX9_114 dX9_attempt_50 c76 (by decide) rfl rfl ?_
              refine r_callV1 (pc2 := 56) (As := [.int (nI (tow (keepV a)))]) (st := []) kX9_156 rfl rfl dX9_attempt_53 cs hD.s64 rfl rfl (Nat.le_of_ble_eq_true rfl) (by omega) (c_pastQ (s := packS a) hD hst (dig_le hA) (by rw [tow_tws hA])) rfl (fun h2 hq53 => ?_)
              obtain rfl := hq53.symm
              refine r_istore (pc2 := 58) (ls2 := [.ref 64, .int (nI t), .int 0, .int (nI (drO a nu t n 10)), .int (nI (pastN (a 1) (packS a) (a 3))), .float 0, .float 0, .float 0, .float 0]) 4 dX9_attempt_56 (by decide) rfl rfl rfl ?_
              refine r_iconst (pc2 := 59) (v := -1) dX9_attempt_58 (by decide) rfl ?_
              refine r_istore (pc2 := 61) (ls2 := [.ref 64, .int (nI t), .int 0, .int (nI (drO a nu t n 10)), .int (nI (pastN (a 1) (packS a) (a 3))), .int (-1), .float 0, .float 0, .float 0]) 5 dX9_attempt_59 (by decide) rfl rfl rfl ?_
              refine r_bipush (pc2 := 63) (v := 11) dX9_attempt_61 (by decide) rfl ?_
              refine r_cast (nI 11) (rfl) ?_
              refine r_istore (pc2 := 65) (ls2 := [.ref 64, .int (nI t), .int 0, .int (nI (drO a nu t n 10)), .int (nI (pastN (a 1) (packS a) (a 3))), .int (-1), .int (nI 11), .float 0, .float 0]) 6 dX9_attempt_63 (by decide) rfl rfl rfl ?_
              refine r_iconst (pc2 := 66) (v := 0) dX9_attempt_65 (by decide) rfl ?_
              refine r_cast (nI 0) (rfl) ?_
              refine r_istore (pc2 := 68) (ls2 := [.ref 64, .int (nI t), .int 0, .int (nI (drO a nu t n 10)), .int (nI (pastN (a 1) (packS a) (a 3))), .int (-1), .int (nI 11), .int (nI 0), .float 0]) 7 dX9_attempt_66 (by decide) rfl rfl rfl ?_
              exact loop (2 ^ (a 3)) 0 11 h kd2 tf _ (by omega) ⟨Or.inr ⟨rfl, rfl⟩, by omega⟩ hQ2 hD c64 c76 c94
            · exact absurd (nI_z0 (by omega) b37) hf0
          · exact absurd (nI_z0 (by have := hA.dp; omega) (show nI (a 26) = 0 from b19)) hz
        · exact absurd b7 (by decide)
