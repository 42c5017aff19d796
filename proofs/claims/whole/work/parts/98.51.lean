/-! the class: street -/
theorem CN.grow {reg reg2 : Nat → FR} {ns ns2 : Nat} {kn : Nat → Int32} (h : CN reg ns kn) (e : ∀ j, j ≤ ns → reg2 j = reg j) (en : ns ≤ ns2) : CN reg2 ns2 kn := fun j hj sg dr h1 h2 q => by
  obtain ⟨a, b⟩ := h j hj sg dr h1 h2 q
  exact ⟨by omega, by rw [e sg a]; exact b⟩
theorem CD.grow {reg reg2 : Nat → FR} {ns ns2 : Nat} {g : Nat → Int32} (h : CD reg ns g) (e : ∀ j, j ≤ ns → reg2 j = reg j) (en : ns ≤ ns2) : CD reg2 ns2 g := fun j hj sg dr h1 h2 q => by
  obtain ⟨a, b⟩ := h j hj sg dr h1 h2 q
  exact ⟨by omega, by rw [e sg a]; exact b⟩
theorem LWA.grow {h h2 : Hp} {reg reg2 : Nat → FR} {ns ns2 kd : Nat} (x : LWA h reg ns kd) (eh : ∀ q, q = 82 ∨ q = 87 ∨ q = 88 ∨ q = 89 ∨ (kd ≠ 0 ∧ q = kd) → h2.1 q = h.1 q) (e : ∀ j, j ≤ ns → reg2 j = reg j) (en : ns ≤ ns2) : LWA h2 reg2 ns2 kd := by
  obtain ⟨⟨V0, V1, V2, x1⟩, ⟨kn, x2, x3⟩, ⟨w, x4⟩, ⟨f, x5⟩, x6⟩ := x
  refine ⟨⟨V0, V1, V2, (eh 82 (by omega)).trans x1⟩, ⟨kn, (eh 87 (by omega)).trans x2, x3.grow e en⟩, ⟨w, (eh 88 (by omega)).trans x4⟩, ⟨f, (eh 89 (by omega)).trans x5⟩, fun z => ?_⟩
  obtain ⟨y1, g, y2, y3⟩ := x6 z
  exact ⟨y1, g, (eh kd (Or.inr (Or.inr (Or.inr (Or.inr ⟨z, rfl⟩))))).trans y2, y3.grow e en⟩
theorem MI.grow {Z Z2 : Nat → Prop} {h h2 : Hp} {reg reg2 : Nat → FR} {ns ns2 : Nat} {hi : Nat → Int32} {a a2 : FR} (x : MI Z h reg ns hi a) (e : ∀ q, Z q → Z2 q ∧ h2.1 q = h.1 q) (e9 : ∀ q, q = 79 ∨ q = 80 ∨ q = 107 ∨ q = 108 → h2.1 q = h.1 q) (er : ∀ j, j ≤ ns → reg2 j = reg j) (en : ns ≤ ns2) (ea : ∀ k, 1177 ≤ k → k < 3531 → a2 k = a k) : MI Z2 h2 reg2 ns2 hi a2 := by
  obtain ⟨f, x1, ⟨g, x2, x3⟩, x4⟩ := x.frame (h2 := h2) (a2 := a2) (fun q z => z.elim (fun z => (e q z).2) (fun z => e9 q z)) ea
  refine ⟨f, x1, ⟨g, x2, x3⟩, fun i h2i => ?_⟩
  obtain ⟨y1, y2, y3⟩ := x4 i h2i
  refine ⟨y1, y2, fun q => ?_⟩
  obtain ⟨si, sg, z1, z2, z3, z4, z5, z6, z7⟩ := y3 q
  exact ⟨si, sg, z1, by rw [er sg z3]; exact z2.zmono (fun y w => (e y w).1), by omega, by rw [er sg z3]; exact z4, by rw [er sg z3]; exact z5, z6, z7⟩
theorem LWu.v {h : Hp} {fr : FR} {lw q m : Nat} {v : Value} (o : LWu h fr lw q v) (hm : h.2.1 = m) : LWv (fun y => q ≤ y ∧ y < m) h fr lw v := by
  rcases o with o | ⟨o1, na, fc, o2, o3, o4, o5, o6⟩
  · exact Or.inl o
  · exact Or.inr ⟨o1, na, fc, o2, ⟨by omega, by omega⟩, o5, o6⟩
/-- what was told is a street -/
theorem MFr.sto {h : Hp} {q sg : Nat} {fr : FR} {k f1 f2 : Nat → Int32} {w : SDT} {nl sl : Value} {pt : Int32} (m : MFr h q fr k f1 f2 w nl sl pt) (hq : q + 3 < h.2.1) (cq : h.1 q = some (.inr (6, uwL (nI sg) k q nl sl))) (c1 : h.1 (q + 1) = some (aI 4 f1)) (c2 : h.1 (q + 2) = some (aI 4 f2)) (c3 : h.1 (q + 3) = some (.inr (5, sdV w))) : StO (fun y => q ≤ y ∧ y < h.2.1) h q sg fr := by
  obtain ⟨⟨a0, a1, a2, a3, a4, a5, a6, a7⟩, b1, b2, b3, b4, b5, b6⟩ := m
  refine ⟨q + 1, q + 2, q + 3, nl, sl, ⟨⟨by omega, by omega⟩, ⟨by omega, by omega⟩, ⟨by omega, by omega⟩, ⟨by omega, by omega⟩⟩, ?_, ⟨f1, c1, b1⟩, ⟨f2, c2, b2⟩, by rw [← b3]; exact c3, b4.v rfl, b5.v rfl⟩
  unfold uwL at cq
  unfold stL
  rw [a0, a1, a2, a3, a4, a5, a6] at cq
  exact cq
theorem FK.lk {n p : Nat} {fr : FR} (h : LnI n 0 (.ok (p, fr))) (hn : n ≤ 900) : LK fr ∧ AIN fr := by
  have a := FK.ain h hn (fun _ _ => rfl)
  refine ⟨⟨a.1, fun lw hl h8 => ?_⟩, a⟩
  have f := h.2
  have f0 : LWy fr 0 ∧ LWy fr 1 := (show FK 4 fr from f).2.2.2.2.2.2.2.2.2
  rcases (by omega : lw = 0 ∨ lw = 1) with rfl | rfl
  · exact f0.1.2 h8
  · exact f0.2.2 h8
theorem sA_lo {a : FR} {p : Nat} {fr : FR} {k : Nat} (hk : k < 1177) : sA a (.ok (p, fr)) k = fr k := by
  have := fillN_in (a := a) (off := 0) (n := 1177) (g := fr) hk
  rw [Nat.zero_add] at this
  exact this
theorem sA_hi {a : FR} {x : PX FR} {k : Nat} (hk : 1177 ≤ k) : sA a x k = a k := by
  match x with
  | .error g => rfl
  | .ok (p, fr) => exact fillN_out (Or.inr (by omega))
set_option maxRecDepth 20000 in
set_option maxHeartbeats 1000000 in
theorem cl_streetN {E : EnvT} {d : Nat} {h0 : Hp} {ns s w1 w2 : Nat} {wk dt : Value} {a : FR} {fk fp : Int32} {t : Nat} {tp : Nat → Nat} {x : Int32} (hN : NW h0 s ns w1 w2 wk dt a) (hRd : MR h0 fk fp t tp) (hv : ¬ ((0 : Int64) ≤ x.toInt64 ∧ x.toInt64 ≤ (nI t).toInt64)) : Cn E mX9_street d [.ref 64, .int x] h0 (fun r h2 => r = some (.int (-3)) ∧ h2 = h0) := by
  have c64 := hN.1
  obtain ⟨⟨y4, y5, y6, y7, y8, y9, y10, y12, y13, c65⟩, _⟩ := id hRd
  rw [i2l_le] at hv
  by_cases hx : x < 0
  · skip
    refine Cn.go (ls := [.ref 64, .int x, .float 0]) (by decide +kernel) rfl (Nat.le_of_ble_eq_true rfl) ?_
    refine r_iload_n (pc2 := 1) 1 dX9_street_0 rfl rfl rfl ?_
    refine r_if_lt (tgt := 15) (pc2 := 4) dX9_street_1 (by decide) rfl (fun b1 => ?_) (fun b1 => ?_)
    · skip
      refine r_bipush (pc2 := 17) (v := -3) dX9_street_15 (by decide) rfl ?_
      exact r_iret rfl dX9_street_17 ⟨rfl, rfl⟩
    · exact absurd hx b1
  · have hx2 : ¬ x ≤ nI t := fun z => hv ⟨(show (0 : Int32).toInt64 ≤ x.toInt64 from (i2l_le _ _).mpr (Int32.not_lt.mp hx)), z⟩
    refine Cn.go (ls := [.ref 64, .int x, .float 0]) (by decide +kernel) rfl (Nat.le_of_ble_eq_true rfl) ?_
    refine r_iload_n (pc2 := 1) 1 dX9_street_0 rfl rfl rfl ?_
    refine r_if_lt (tgt := 15) (pc2 := 4) dX9_street_1 (by decide) rfl (fun b1 => ?_) (fun b1 => ?_)
    · exact absurd b1 hx
    · skip
      refine r_iload_n (pc2 := 5) 1 dX9_street_4 rfl rfl rfl ?_
      refine r_aload_n (pc2 := 6) 0 dX9_street_5 rfl rfl rfl rfl ?_
      refine r_getf (pc2 := 9) (v := .ref 65) fX9_10 dX9_street_6 c64 (by decide) rfl rfl ?_
      refine r_getf (pc2 := 12) (v := .int (nI t)) fX9_85 dX9_street_9 c65 (by decide) rfl rfl ?_
      refine r_icmp_le (tgt := 18) (pc2 := 15) dX9_street_12 (by decide) rfl (fun b12 => ?_) (fun b12 => ?_)
      · exact absurd b12 hx2
      · skip
        refine r_bipush (pc2 := 17) (v := -3) dX9_street_15 (by decide) rfl ?_
        exact r_iret rfl dX9_street_17 ⟨rfl, rfl⟩
set_option maxRecDepth 20000 in
set_option maxHeartbeats 1000000 in
theorem cl_street {E : EnvT} {d : Nat} {h0 : Hp} {ns s w1 w2 : Nat} {wk dt : Value} {a : FR} {fk fp : Int32} {t : Nat} {tp : Nat → Nat} {N : Nat} {f0 : FR} (hN : NW h0 s ns w1 w2 wk dt a) (hA : AIN a) (hRd : MR h0 fk fp t tp) (hNt : N ≤ t) (ht9 : t ≤ 900) (htp : ∀ k, k < 900 → tp k < 256) (hf0 : ∀ k, k < 1177 → f0 k = plainF k) (h139 : 139 ≤ h0.2.1) (hd : 64 ≤ d) : Cn E mX9_street d [.ref 64, .int (nI N)] h0 (fun r h2 => r = some (.int (sF (pStreet tp N f0))) ∧ Gx [64, 65, 67, 76] h0 h2 ∧ (h2.2.1 ≤ h0.2.1 + 184 ∧ h2.2.2 ≤ h0.2.2 + 927) ∧ MR h2 (sK (pStreet tp N f0)) (sP (pStreet tp N f0)) 0 tp ∧ (((∃ g, (pStreet tp N f0) = .error g) ∧ NW h2 s ns w1 w2 wk dt a) ∨ ∃ p fr, (pStreet tp N f0) = .ok (p, fr) ∧ NW h2 h0.2.1 (ns + 1) w1 w2 wk dt (sA a (pStreet tp N f0)) ∧ StO (fun y => h0.2.1 ≤ y ∧ y < h2.2.1) h2 h0.2.1 (ns + 1) fr)) := by
  have c64 := hN.1
  have h10 := hA.nd
  obtain ⟨⟨y4, y5, y6, y7, y8, y9, y10, y12, y13, c65⟩, ⟨tb, c66, htb⟩, cd0, c670⟩ := id hRd
  obtain ⟨q, eq⟩ : ∃ z : Nat, z = h0.2.1 := ⟨_, rfl⟩
  have mid : ∀ (h : Hp) (v : Value), ((v = .ref h0.2.1 ∧ ∃ p fr, (pStreet tp N f0) = .ok (p, fr) ∧ lxK tp N p = 25) ∨ (v = .null ∧ ∃ g, (pStreet tp N f0) = .error g)) → Gx [65, 67] h0 h → (5 * h.2.1 ≤ 5 * h0.2.1 + 20 + N ∧ h.2.2 ≤ h0.2.2 + 27 + N) → LN tp N 0 (nI (ns + 1)) h0.2.1 (pStreet tp N f0) h → Fr E mX9_street d 32 [.ref 64, .int (nI N), .float 0] [v] h (fun r h2 => r = some (.int (sF (pStreet tp N f0))) ∧ Gx [64, 65, 67, 76] h0 h2 ∧ (h2.2.1 ≤ h0.2.1 + 184 ∧ h2.2.2 ≤ h0.2.2 + 927) ∧ MR h2 (sK (pStreet tp N f0)) (sP (pStreet tp N f0)) 0 tp ∧ (((∃ g, (pStreet tp N f0) = .error g) ∧ NW h2 s ns w1 w2 wk dt a) ∨ ∃ p fr, (pStreet tp N f0) = .ok (p, fr) ∧ NW h2 h0.2.1 (ns + 1) w1 w2 wk dt (sA a (pStreet tp N f0)) ∧ StO (fun y => h0.2.1 ≤ y ∧ y < h2.2.1) h2 h0.2.1 (ns + 1) fr)) := by
    intro h v hcs hgx hrm hL
    have c64 := hgx.get (by simp) (by omega) c64
    have c66 := hgx.get (by simp) (by omega) c66
    have hNf : NW h s ns w1 w2 wk dt a := hN.frame h10 (fun y hy => hgx.2 y (by omega) (by simp <;> omega))
    rw [← eq] at hL
    obtain ⟨tk, ne, inz, pt, cl, k, f1, f2, w, nl, sl, c65, hT, c67, cq, c1, c2, c3, hg, hpt, hq, hM⟩ := hL
    rcases hcs with ⟨rfl, p, fr, ex, e25⟩ | ⟨rfl, g, ex⟩
    · rw [← eq]
      have h26 : lxK tp N p ≠ 26 := by rw [e25]; decide
      have hM := hM p fr ex h26
      rw [ex, yo_ok h26] at hT
      obtain ⟨_, _, et⟩ := hT
      have hI : LnI N 0 (.ok (p, fr)) := by rw [← ex]; exact i_street hf0
      have f45 : fr 45 = 0 := (show FK 4 fr from hI.2).2.2.2.2.2.2.2.2.1.2
      have hS := hM.sto hq.2 cq c1 c2 c3
      rw [hM.2.2.2.1] at c3
      have c76 := hNf.2.1
      have hx : Ex [64, 76] h h := Ex.rf
      have c3z := c3
      refine r_astore_n (pc2 := 33) (ls2 := [.ref 64, .int (nI N), .ref q]) 2 dX9_street_32 rfl (by decide) rfl rfl rfl rfl ?_
      refine r_aload_n (pc2 := 34) 2 dX9_street_33 rfl rfl rfl rfl ?_
      refine r_ifnonnull (tgt := 48) dX9_street_34 (by omega) (by decide) ?_
      refine r_aload_n (pc2 := 49) 0 dX9_street_48 rfl rfl rfl rfl ?_
      refine r_dup (pc2 := 50) dX9_street_49 rfl rfl ?_
      refine r_getf (pc2 := 53) (v := .int (nI ns)) fX9_92 dX9_street_50 c64 (by decide) rfl rfl ?_
      refine r_iconst (pc2 := 54) (v := 1) dX9_street_53 (by decide) rfl ?_
      refine r_iadd (pc2 := 55) dX9_street_54 rfl ?_
      refine r_cast (nI (ns + 1)) (nI_1 ns) ?_
      refine r_putfX (pc2 := 58) [.ref 65, .int (nI (ns + 1)), .ref s, .ref 76, .ref 77, .ref 78, .int (nI (a 45)), .ref 79, .ref 80, .ref 81, .ref 82, .ref 90, .ref 94, .ref w1, .ref w2, wk, dt] fX9_92 dX9_street_55 c64 (by decide) (Nat.le_of_ble_eq_true rfl) rfl rfl rfl (fun h z55 o55 c64 => ?_)
      have c65 := (o55 65 (by decide)).trans c65
      have cq := (o55 q (by omega)).trans cq
      have c76 := (o55 76 (by decide)).trans c76
      have c3 := (o55 (q + 3) (by omega)).trans c3
      have hx := hx.step (a := 64) (by simp) z55 o55
      refine r_aload_n (pc2 := 59) 0 dX9_street_58 rfl rfl rfl rfl ?_
      refine r_aload_n (pc2 := 60) 2 dX9_street_59 rfl rfl rfl rfl ?_
      refine r_putfX (pc2 := 63) [.ref 65, .int (nI (ns + 1)), .ref q, .ref 76, .ref 77, .ref 78, .int (nI (a 45)), .ref 79, .ref 80, .ref 81, .ref 82, .ref 90, .ref 94, .ref w1, .ref w2, wk, dt] fX9_21 dX9_street_60 c64 (by decide) (Nat.le_of_ble_eq_true rfl) (okO (by omega)) rfl rfl (fun h z60 o60 c64 => ?_)
      have c65 := (o60 65 (by decide)).trans c65
      have cq := (o60 q (by omega)).trans cq
      have c76 := (o60 76 (by decide)).trans c76
      have c3 := (o60 (q + 3) (by omega)).trans c3
      have hx := hx.step (a := 64) (by simp) z60 o60
      refine r_aload_n (pc2 := 64) 0 dX9_street_63 rfl rfl rfl rfl ?_
      refine r_getf (pc2 := 67) (v := .ref 76) fX9_28 dX9_street_64 c64 (by decide) rfl rfl ?_
      refine r_aload_n (pc2 := 68) 2 dX9_street_67 rfl rfl rfl rfl ?_
      refine r_getf (pc2 := 71) (v := .ref (q + 3)) fX9_78 dX9_street_68 cq (by omega) rfl rfl ?_
      refine r_callV0 (pc2 := 74) (As := [.ref (q + 3)]) (st := []) kX9_81 rfl rfl dX9_street_71 c76 (by decide) rfl rfl (Nat.le_of_ble_eq_true rfl) (by omega) (c_becomeK (k := keepV fr) ⟨_, _, _, _, _, _, c76⟩ c3 (by decide) (by omega) (by omega)) rfl (fun h hq71 => ?_)
      obtain ⟨hxb, c76⟩ := hq71
      have c64 := hxb.get (by simp <;> omega) c64
      have c65 := hxb.get (by simp <;> omega) c65
      have cq := hxb.get (by simp <;> omega) cq
      have c3 := hxb.get (by simp <;> omega) c3
      have hx := hx.trans hxb (by simp)
      refine r_aload_n (pc2 := 75) 0 dX9_street_74 rfl rfl rfl rfl ?_
      refine r_iconst (pc2 := 76) (v := 0) dX9_street_75 (by decide) rfl ?_
      refine r_putfX (pc2 := 79) [.ref 65, .int (nI (ns + 1)), .ref q, .ref 76, .ref 77, .ref 78, .int 0, .ref 79, .ref 80, .ref 81, .ref 82, .ref 90, .ref 94, .ref w1, .ref w2, wk, dt] fX9_102 dX9_street_76 c64 (by decide) (Nat.le_of_ble_eq_true rfl) rfl rfl rfl (fun h z76 o76 c64 => ?_)
      have c65 := (o76 65 (by decide)).trans c65
      have cq := (o76 q (by omega)).trans cq
      have c76 := (o76 76 (by decide)).trans c76
      have c3 := (o76 (q + 3) (by omega)).trans c3
      have hx := hx.step (a := 64) (by simp) z76 o76
      refine r_aload_n (pc2 := 80) 2 dX9_street_79 rfl rfl rfl rfl ?_
      refine r_getf (pc2 := 83) (v := .int (k 0)) fX9_105 dX9_street_80 cq (by omega) rfl rfl ?_
      exact r_iret rfl dX9_street_83 ⟨by rw [ex]; exact congrArg _ (congrArg _ hM.1.1), ⟨by rw [hx.1]; exact hgx.1, fun y y1 y2 => (hx.2 y (fun z => y2 (by revert z; simp; omega))).trans (hgx.2 y y1 (fun z => y2 (by revert z; simp; omega)))⟩, by rw [hx.1]; omega, by rw [ex]; exact ⟨⟨_, _, _, _, _, _, _, _, _, by rw [et] at c65; exact c65⟩, ⟨tb, hx.get (by simp <;> omega) c66, htb⟩, by obtain ⟨cd, c67⟩ := c67; exact ⟨cd, hx.get (by simp <;> omega) c67⟩⟩, Or.inr ⟨p, fr, ex, by rw [ex]; exact ⟨by rw [sA_lo (by decide), f45]; exact c64, by rw [sdL_congr (k := keepV (sA a (.ok (p, fr)))) (k2 := keepV fr) (fun j hj => sA_lo (by omega))]; exact c76, hNf.2.2.1.ex (hx.2 77 (by simp)), (hNf.2.2.2.frame h10 (fun y hy => hx.2 y (by simp <;> omega))).none (by rw [sA_lo (by decide)]; exact f45)⟩, by rw [hx.1]; exact hS.mono (fun y hy => hx.2 y (by simp <;> omega))⟩⟩
    · obtain ⟨w9, a9⟩ := g
      rw [ex] at hT
      obtain ⟨s9, e9, _, _, _, et⟩ := hT
      refine r_astore_n (pc2 := 33) (ls2 := [.ref 64, .int (nI N), .null]) 2 dX9_street_32 rfl (by decide) rfl rfl rfl rfl ?_
      refine r_aload_n (pc2 := 34) 2 dX9_street_33 rfl rfl rfl rfl ?_
      refine r_ifnonnullN (pc2 := 37) dX9_street_34 rfl ?_
      refine r_bipush (pc2 := 39) (v := -30) dX9_street_37 (by decide) rfl ?_
      refine r_aload_n (pc2 := 40) 0 dX9_street_39 rfl rfl rfl rfl ?_
      refine r_getf (pc2 := 43) (v := .ref 65) fX9_10 dX9_street_40 c64 (by decide) rfl rfl ?_
      refine r_getf (pc2 := 46) (v := .int tk.1) fX9_99 dX9_street_43 c65 (by decide) rfl rfl ?_
      refine r_isub (pc2 := 47) dX9_street_46 rfl ?_
      exact r_iret rfl dX9_street_47 ⟨by rw [ex, et]; rfl, hgx.mono (by simp), by omega, by rw [ex]; exact ⟨⟨_, _, _, _, _, _, _, _, _, by rw [et] at c65; exact c65⟩, ⟨tb, c66, htb⟩, c67⟩, Or.inl ⟨⟨_, ex⟩, hN.frame h10 (fun y hy => hgx.2 y (by omega) (by simp <;> omega))⟩⟩
  refine Cn.go (ls := [.ref 64, .int (nI N), .float 0]) (by decide +kernel) rfl (Nat.le_of_ble_eq_true rfl) ?_
  refine r_iload_n (pc2 := 1) 1 dX9_street_0 rfl rfl rfl ?_
  refine r_if_lt (tgt := 15) (pc2 := 4) dX9_street_1 (by decide) rfl (fun b1 => ?_) (fun b1 => ?_)
  · exact absurd b1 (nI_pos (by omega))
  · skip
    refine r_iload_n (pc2 := 5) 1 dX9_street_4 rfl rfl rfl ?_
    refine r_aload_n (pc2 := 6) 0 dX9_street_5 rfl rfl rfl rfl ?_
    refine r_getf (pc2 := 9) (v := .ref 65) fX9_10 dX9_street_6 c64 (by decide) rfl rfl ?_
    refine r_getf (pc2 := 12) (v := .int (nI t)) fX9_85 dX9_street_9 c65 (by decide) rfl rfl ?_
    refine r_icmp_le (tgt := 18) (pc2 := 15) dX9_street_12 (by decide) rfl (fun b12 => ?_) (fun b12 => ?_)
    · skip
      refine r_aload_n (pc2 := 19) 0 dX9_street_18 rfl rfl rfl rfl ?_
      refine r_getf (pc2 := 22) (v := .ref 65) fX9_10 dX9_street_19 c64 (by decide) rfl rfl ?_
      refine r_iload_n (pc2 := 23) 1 dX9_street_22 rfl rfl rfl ?_
      refine r_aload_n (pc2 := 24) 0 dX9_street_23 rfl rfl rfl rfl ?_
      refine r_getf (pc2 := 27) (v := .int (nI ns)) fX9_92 dX9_street_24 c64 (by decide) rfl rfl ?_
      refine r_iconst (pc2 := 28) (v := 1) dX9_street_27 (by decide) rfl ?_
      refine r_iadd (pc2 := 29) dX9_street_28 rfl ?_
      refine r_cast (nI (ns + 1)) (nI_1 ns) ?_
      refine r_callV2 (pc2 := 32) (As := [.int (nI N), .int (nI (ns + 1))]) (st := []) kX9_95 rfl rfl dX9_street_29 c65 (by decide) rfl rfl (Nat.le_of_ble_eq_true rfl) (by omega) (c_read (f0 := f0) hRd hNt ht9 htp hf0 h139 (by omega)) rfl (fun v29 h hq29 => ?_)
      obtain ⟨hcs, hgx, hrm, hL⟩ := hq29
      exact mid h v29 hcs hgx hrm hL
    · exact absurd (nI_le hNt (by omega)) b12
/-- all that is held of streets after one more was told -/
theorem DV.grow {Z : Nat → Prop} {h h2 : Hp} {reg : Nat → FR} {ns s sg kd n p : Nat} {a b fr : FR} {S : List Nat} (hD : DV Z h reg ns s sg kd b) (hkl : kd < h.2.1) (hgx : Gx S h h2) (hS : ∀ y ∈ S, y < 68 ∨ y = 76) (hI : LnI n 0 (.ok (p, fr))) (hn : n ≤ 900) (hT : StO (fun y => h.2.1 ≤ y ∧ y < h2.2.1) h2 h.2.1 (ns + 1) fr) (h900 : ns + 1 ≤ 900) : DV (fun y => Z y ∨ (h.2.1 ≤ y ∧ y < h2.2.1)) h2 (fun j => if j = ns + 1 then fr else reg j) (ns + 1) h.2.1 (ns + 1) kd fr := by
  obtain ⟨x1, x2, x3, x4, x5, x6, x7, x8, x9⟩ := hD
  have lt : h.2.1 < h2.2.1 := by obtain ⟨lo, so, sa, nl, sl, ⟨⟨_, z⟩, _⟩, _⟩ := hT; exact z
  refine ⟨x1.grow (fun q hq => ?_) (fun j hj => if_neg (by omega)) (by omega), hT.zmono (fun y z => Or.inr z), fun y z => ?_, (FK.lk hI hn).1, (if_pos rfl).symm, Nat.le_refl _, h900, by omega, Or.inr ⟨Nat.le_refl _, lt⟩⟩
  · have hk : kd ≠ 0 → 139 ≤ kd := fun z => (x1.2.2.2.2 z).1
    refine hgx.2 q (by omega) (fun z => ?_)
    have := hS q z
    omega
  · rcases z with z | z
    · obtain ⟨z1, z2, z3⟩ := x3 y z
      exact ⟨z1, z2, by omega⟩
    · exact ⟨by omega, by omega, z.2⟩
