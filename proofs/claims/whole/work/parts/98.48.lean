/-! the class's reader: goers -/
theorem isY_in {tp : Nat → Nat} {n k : Nat} {x : PX FR} (h : isY tp n (yo tp n x) k = true) : ∃ p fr, x = .ok (p, fr) ∧ lxK tp n p = k ∧ lxK tp n p ≠ 26 := by
  match x, h with
  | .error e, h => cases h
  | .ok (p, fr), h =>
    by_cases h26 : lxK tp n p = 26
    · rw [yo_26 h26] at h
      cases h
    · rw [yo_ok h26] at h
      exact ⟨p, fr, rfl, eq_of_beq h, h26⟩
theorem flags_id {tp : Nat → Nat} {n g m : Nat} {x : PX FR} (h : ∀ p f, x = .ok (p, f) → (lxK tp n p ≠ 5 ∧ lxK tp n p ≠ 6) ∨ m = 0) : bnd x (pFlags tp n g m) = x := by
  match x, h with
  | .error e, h => rfl
  | .ok (p, f), h =>
    show pFlags tp n g m p f = _
    cases m with
    | zero => rfl
    | succ m =>
      have := (h p f rfl).resolve_right (Nat.succ_ne_zero m)
      rw [pFlags_s, if_neg this.1, if_neg this.2]
/-- what the reader holds of the goer that is read -/
def GF (tp : Nat → Nat) (n : Nat) (fr : FR) (g : Nat) (av sv : Int32) (x : PX FR) : Prop := ∀ p f, x = .ok (p, f) → lxK tp n p ≠ 26 → (∀ j, j ≠ 22 + g → j ≠ 18 + g → f j = fr j) ∧ av = nI (f (22 + g)) ∧ sv = nI (f (18 + g))
theorem c_wordN {E : EnvT} {d : Nat} {h0 : Hp} {n : Nat} {ta ne inz pt cl : Int32} {tv : Value} {tp : Nat → Nat} {t : TkT} {y : PY} {x : Nat} (hx : x < 23) (hy : ¬ isY tp n y (kx x) = true) (c65 : h0.1 65 = some (.inr (3, rdL n ta ne inz pt cl tv t))) (hT : TK tp n y t) (hP : TPo tp h0) (ht : TOk tp n) (hd : 4 ≤ d) : Cn E mX3_isWord d [.ref 65, .ref x] h0 (fun r h2 => r = some (.int 0) ∧ h2 = h0) := (c_isWord hx c65 hT hP ht hd).mono fun r h2 q => ⟨q.1.trans (by rw [if_neg hy]), q.2⟩
theorem c_wordY {E : EnvT} {d : Nat} {h0 : Hp} {n : Nat} {ta ne inz pt cl : Int32} {tv : Value} {tp : Nat → Nat} {t : TkT} {y : PY} {x : Nat} (hx : x < 23) (hy : isY tp n y (kx x) = true) (c65 : h0.1 65 = some (.inr (3, rdL n ta ne inz pt cl tv t))) (hT : TK tp n y t) (hP : TPo tp h0) (ht : TOk tp n) (hd : 4 ≤ d) : Cn E mX3_isWord d [.ref 65, .ref x] h0 (fun r h2 => r = some (.int 1) ∧ h2 = h0) := (c_isWord hx c65 hT hP ht hd).mono fun r h2 q => ⟨q.1.trans (by rw [if_pos hy]), q.2⟩
theorem MFr.goer {h : Hp} {q g : Nat} {fr f : FR} {k f1 f2 : Nat → Int32} {w : SDT} {nl sl : Value} {pt : Int32} (m : MFr h q fr k f1 f2 w nl sl pt) (h3 : fr 3 = g) (hg : g < 4) (hz : fr (22 + g) = 0) (e : ∀ j, j ≠ 14 + g → j ≠ 18 + g → j ≠ 22 + g → j ≠ 3 → f j = fr j) (e3 : f 3 = g + 1) : MFr h q f (upd k 3 (nI (g + 1))) (upd f1 g (nI (f (14 + g)))) (upd f2 g (nI (f (18 + g)))) (w.1 + nI (f (22 + g)) * xW g, w.2) nl sl pt := by
  obtain ⟨⟨a0, a1, a2, a3, a4, a5, a6, a7⟩, b1, b2, b3, b4, b5, b6⟩ := m
  have lf : ∀ lw, lw < 2 → ∀ k, lawF f lw k = lawF fr lw k := fun lw hl k => by
    unfold lawF
    rw [e (10 + lw) (by omega) (by omega) (by omega) (by omega), e _ (by omega) (by omega) (by omega) (by omega)]
  have tw : tow (keepV f) = tow (keepV fr) + f (22 + g) * 7 ^ g := by
    show f 22 + 7 * f 23 + 49 * f 24 + 343 * f 25 = fr 22 + 7 * fr 23 + 49 * fr 24 + 343 * fr 25 + f (22 + g) * 7 ^ g
    have o : ∀ j, 22 ≤ j → j < 26 → j ≠ 22 + g → f j = fr j := fun j h1 h2 h3 => e j (by omega) (by omega) h3 (by omega)
    rcases (by omega : g = 0 ∨ g = 1 ∨ g = 2 ∨ g = 3) with rfl | rfl | rfl | rfl
    · rw [o 23 (by omega) (by omega) (by omega), o 24 (by omega) (by omega) (by omega), o 25 (by omega) (by omega) (by omega)]
      simp only [Nat.add_zero, Nat.pow_zero] at hz ⊢
      omega
    · rw [o 22 (by omega) (by omega) (by omega), o 24 (by omega) (by omega) (by omega), o 25 (by omega) (by omega) (by omega)]
      simp only [Nat.reduceAdd, Nat.reducePow] at hz ⊢
      omega
    · rw [o 22 (by omega) (by omega) (by omega), o 23 (by omega) (by omega) (by omega), o 25 (by omega) (by omega) (by omega)]
      simp only [Nat.reduceAdd, Nat.reducePow] at hz ⊢
      omega
    · rw [o 22 (by omega) (by omega) (by omega), o 23 (by omega) (by omega) (by omega), o 24 (by omega) (by omega) (by omega)]
      simp only [Nat.reduceAdd, Nat.reducePow] at hz ⊢
      omega
  have ek : ∀ j, 4 ≤ j → keepV f j = keepV fr j := fun j hj => e _ (by omega) (by omega) (by omega) (by omega)
  have cb : ∀ o, 7 ≤ o → bL (keepV f) o = bL (keepV fr) o := fun o h1 => by
    unfold bL
    rw [ek o (by omega), ek _ (by omega), ek _ (by omega), ek _ (by omega), ek _ (by omega), ek _ (by omega), ek _ (by omega), ek _ (by omega)]
  have e' : ∀ j, j < 14 → j ≠ 3 → f j = fr j := fun j h1 h2 => e j (by omega) (by omega) (by omega) h2
  refine ⟨⟨?_, ?_, ?_, ?_, ?_, ?_, ?_, ?_⟩, fun j hj => ?_, fun j hj => ?_, ?_, b4.of (e' _ (by omega) (by omega)) (e' _ (by omega) (by omega)) (fun _ k _ => lf 0 (by omega) k), b5.of (e' _ (by omega) (by omega)) (e' _ (by omega) (by omega)) (fun _ k _ => lf 1 (by omega) k), fun j h1 h2 => ?_⟩
  · rw [e' 0 (by omega) (by omega)]; exact a0
  · rw [e' 1 (by omega) (by omega)]; exact a1
  · rw [e' 2 (by omega) (by omega)]; exact a2
  · rw [e3]; rfl
  · rw [e' 4 (by omega) (by omega)]; exact a4
  · rw [e' 6 (by omega) (by omega)]; exact a5
  · rw [e' 7 (by omega) (by omega)]; exact a6
  · rw [e' 5 (by omega) (by omega)]; exact a7
  · by_cases ej : j = g
    · rw [ej]; exact if_pos rfl
    · rw [show upd f1 g _ j = f1 j from if_neg ej, e _ (by omega) (by omega) (by omega) (by omega)]; exact b1 j hj
  · by_cases ej : j = g
    · rw [ej]; exact if_pos rfl
    · rw [show upd f2 g _ j = f2 j from if_neg ej, e _ (by omega) (by omega) (by omega) (by omega)]; exact b2 j hj
  · unfold sdV sdL at b3 ⊢
    rw [cb 7 (by omega), cb 15 (by omega), ek 4 (by omega), ek 5 (by omega), ek 6 (by omega), tw]
    injection b3 with c1 c2
    injection c1 with c1
    refine congr (congrArg _ ?_) c2
    show Value.int (w.1 + nI (f (22 + g)) * xW g) = _
    rw [xW7 g hg, mulN, c1, nI_add]
  · rw [e3] at h1
    rw [e _ (by omega) (by omega) (by omega) (by omega)]
    exact b6 j (by omega) h2
theorem yo_pu {tp : Nat → Nat} {n : Nat} (x : PX FR) (g : FR → FR) : yo tp n (bnd x (pUp g)) = yo tp n x := (yo_up x g).1
set_option maxRecDepth 20000 in
set_option maxHeartbeats 1000000 in
theorem L_goer {E : EnvT} {d : Nat} {h0 : Hp} {tp : Nat → Nat} {n : Nat} {ta sg : Int32} {q p : Nat} {fr : FR} (hW : WF1 fr) (hF : FK 4 fr) (hk : lxK tp n p = 3) (hL : LN tp n ta sg q (.ok (p, fr)) h0) (hP : TPo tp h0) (ht : TOk tp n) (hd : 7 ≤ d) : Cn E mX3_readGoer d [.ref 65] h0 (LNQ tp n ta sg q h0 (.ok (p, fr)) (pGoer tp n p fr)) := by
  obtain ⟨t, ne, inz, pt, cl, k, f1, f2, w, nl, sl, c65, hT, ⟨cd, c67⟩, cq, c1, c2, c3, hg, hpt, hq, hM⟩ := hL
  have hq1 := hq.1
  have hn9 := ht.1
  have h26 : lxK tp n p ≠ 26 := by rw [hk]; decide
  have h25 : lxK tp n p ≠ 25 := by rw [hk]; decide
  have hM := hM p fr rfl h26
  have hk1 := hM.1.2.1
  have hk3 := hM.1.2.2.2.1
  have hW3 := hW.2.1
  have hW1 := hW.1
  rw [yo_ok h26] at hT
  have hT9 := hT
  obtain ⟨hp, _, rfl⟩ := hT9
  have hx : Ex [65] h0 h0 := Ex.rf
  by_cases h4 : fr 3 = 4
  · have eG : pGoer tp n p fr = pFl tp n 4 p := if_pos h4
    rw [eG]
    refine Cn.go (ls := [.ref 65, .float 0, .float 0, .float 0, .float 0]) (by decide +kernel) rfl (Nat.le_of_ble_eq_true rfl) ?_
    refine r_aload_n (pc2 := 1) 0 dX3_readGoer_0 rfl rfl rfl rfl ?_
    refine r_getf (pc2 := 4) (v := .ref q) fX3_28 dX3_readGoer_1 c65 (by decide) rfl rfl ?_
    refine r_getf (pc2 := 7) (v := .int (k 3)) fX3_182 dX3_readGoer_4 cq (by omega) rfl rfl ?_
    refine r_iconst (pc2 := 8) (v := 4) dX3_readGoer_7 (by decide) rfl ?_
    refine r_icmp_lt (tgt := 17) (pc2 := 11) dX3_readGoer_8 (by decide) rfl (fun b8 => ?_) (fun b8 => ?_)
    · exact absurd b8 (by rw [hk3, h4]; decide)
    · skip
      refine r_aload_n (pc2 := 12) 0 dX3_readGoer_11 rfl rfl rfl rfl ?_
      refine r_iconst (pc2 := 13) (v := 4) dX3_readGoer_12 (by decide) rfl ?_
      refine r_callV0 (pc2 := 16) (As := [.int 4]) (st := []) kX3_76 rfl rfl dX3_readGoer_13 c65 (by decide) rfl rfl (Nat.le_of_ble_eq_true rfl) (by omega) (c_refuse (f := 4) (t := (0, -1, nI (ckK tp n p), nI (lxS tp n p), nI (lxE tp n p))) (y := .ok p) (by decide) (by decide) rfl ht c65 hT) rfl (fun h hq13 => ?_)
      obtain ⟨hxa, t2, c65, hT2⟩ := hq13
      have cq := hxa.get (by simp <;> omega) cq
      have hx := hx.trans hxa (by simp)
      exact r_vret rfl dX3_readGoer_16 ⟨rfl, hx.gx.mono (by simp), RmL.same hx.1 (Nat.le_refl _), t2, ne, inz, pt, cl, k, f1, f2, w, nl, sl, c65, by rw [yo_fl h26]; exact hT2, ⟨cd, hx.get (by simp <;> omega) c67⟩, cq, hx.get (by simp <;> omega) c1, hx.get (by simp <;> omega) c2, hx.get (by simp <;> omega) c3, hg, hpt, by rw [hx.1]; exact hq, fun p2 fr2 z1 _ => by cases z1⟩
  · have eG : pGoer tp n p fr = (bnd (bnd (bnd (bnd (pNx tp n p fr) (pEat tp n 4)) (pSet tp n 0 (fun _ => 10) (14 + fr 3))) (pFlags tp n (fr 3) 901)) (pUp (fun f => va_up f 3 (f 3 + 1)))) := if_neg h4
    rw [eG]
    have hz22 : fr (22 + fr 3) = 0 := hF.2.2.2.2.2.1 (fr 3) (Nat.le_refl _) (by omega) (by omega)
    have hz18 : fr (18 + fr 3) = 0 := hM.2.2.2.2.2.2 (fr 3) (Nat.le_refl _) (by omega)
    obtain ⟨lv, elv⟩ : ∃ z : Int32, z = nI (tkV tp n 0 10 (eatY tp n (kx 4) (nrp tp n (lxE tp n p)))) := ⟨_, rfl⟩
    obtain ⟨fz, efz⟩ : ∃ z : FR, z = va_up fr (14 + fr 3) (tkV tp n 0 10 (eatY tp n (kx 4) (nrp tp n (lxE tp n p)))) := ⟨_, rfl⟩
    have fzn : ∀ j, j ≠ 14 + fr 3 → fz j = fr j := fun j hj => by rw [efz]; exact va_up_ne _ _ hj
    have rest : ∀ (x : PX FR) (av sv iv : Int32) (h : Hp) (t : TkT), Ex [65] h0 h → h.1 65 = some (.inr (3, rdL n ta ne inz pt cl (.ref q) t)) → TK tp n (yo tp n x) t → h.1 q = some (.inr (6, uwL sg k q nl sl)) → GF tp n fz (fr 3) av sv x → (∀ p f, x = .ok (p, f) → lxK tp n p ≠ 26 → (∀ j, j ≠ 14 + fr 3 → fz j = fr j) ∧ lv = nI (fz (14 + fr 3))) → lxS tp n p ≤ plY tp n (yo tp n x) → Fr E mX3_readGoer d 107 [.ref 65, .int lv, .int av, .int sv, .int iv] [] h (LNQ tp n ta sg q h0 (.ok (p, fr)) (bnd x (pUp (fun f => va_up f 3 (f 3 + 1))))) := by
      intro x av sv iv h t hx c65 hT cq hG hl hpl
      have c1 := hx.get (by simp <;> omega) c1
      have c2 := hx.get (by simp <;> omega) c2
      have c3 := hx.get (by simp <;> omega) c3
      have hx : Ex [65, q, q + 1, q + 2, q + 3] h0 h := hx.mono (by simp)
      refine r_aload_n (pc2 := 108) 0 dX3_readGoer_107 rfl rfl rfl rfl ?_
      refine r_getf (pc2 := 111) (v := .ref q) fX3_28 dX3_readGoer_108 c65 (by decide) rfl rfl ?_
      refine r_getf (pc2 := 114) (v := .ref (q + 1)) fX3_191 dX3_readGoer_111 cq (by omega) rfl rfl ?_
      refine r_aload_n (pc2 := 115) 0 dX3_readGoer_114 rfl rfl rfl rfl ?_
      refine r_getf (pc2 := 118) (v := .ref q) fX3_28 dX3_readGoer_115 c65 (by decide) rfl rfl ?_
      refine r_getf (pc2 := 121) (v := .int (k 3)) fX3_182 dX3_readGoer_118 cq (by omega) rfl rfl ?_
      refine r_iload_n (pc2 := 122) 1 dX3_readGoer_121 rfl rfl rfl ?_
      refine r_iastN (pc2 := 123) (fr 3) dX3_readGoer_122 c1 (by omega) hk3 (by omega) (by decide) rfl (fun h z122 o122 c1 => ?_)
      have c65 := (o122 65 (by omega)).trans c65
      have cq := (o122 q (by omega)).trans cq
      have c2 := (o122 (q + 2) (by omega)).trans c2
      have c3 := (o122 (q + 3) (by omega)).trans c3
      have hx := hx.step (a := (q + 1)) (by simp) z122 o122
      refine r_aload_n (pc2 := 124) 0 dX3_readGoer_123 rfl rfl rfl rfl ?_
      refine r_getf (pc2 := 127) (v := .ref q) fX3_28 dX3_readGoer_124 c65 (by decide) rfl rfl ?_
      refine r_getf (pc2 := 130) (v := .ref (q + 2)) fX3_193 dX3_readGoer_127 cq (by omega) rfl rfl ?_
      refine r_aload_n (pc2 := 131) 0 dX3_readGoer_130 rfl rfl rfl rfl ?_
      refine r_getf (pc2 := 134) (v := .ref q) fX3_28 dX3_readGoer_131 c65 (by decide) rfl rfl ?_
      refine r_getf (pc2 := 137) (v := .int (k 3)) fX3_182 dX3_readGoer_134 cq (by omega) rfl rfl ?_
      refine r_iload_n (pc2 := 138) 3 dX3_readGoer_137 rfl rfl rfl ?_
      refine r_iastN (pc2 := 139) (fr 3) dX3_readGoer_138 c2 (by omega) hk3 (by omega) (by decide) rfl (fun h z138 o138 c2 => ?_)
      have c65 := (o138 65 (by omega)).trans c65
      have cq := (o138 q (by omega)).trans cq
      have c1 := (o138 (q + 1) (by omega)).trans c1
      have c3 := (o138 (q + 3) (by omega)).trans c3
      have hx := hx.step (a := (q + 2)) (by simp) z138 o138
      refine r_aload_n (pc2 := 140) 0 dX3_readGoer_139 rfl rfl rfl rfl ?_
      refine r_getf (pc2 := 143) (v := .ref q) fX3_28 dX3_readGoer_140 c65 (by decide) rfl rfl ?_
      refine r_getf (pc2 := 146) (v := .ref (q + 3)) fX3_119 dX3_readGoer_143 cq (by omega) rfl rfl ?_
      refine r_dup (pc2 := 147) dX3_readGoer_146 rfl rfl ?_
      refine r_getf (pc2 := 150) (v := .int w.1) fX3_195 dX3_readGoer_147 c3 (by omega) rfl rfl ?_
      refine r_iload_n (pc2 := 151) 2 dX3_readGoer_150 rfl rfl rfl ?_
      refine r_sWt (pc2 := 154) (Or.inr ⟨_, qX3_198⟩) dX3_readGoer_151 rfl ?_
      refine r_aload_n (pc2 := 155) 0 dX3_readGoer_154 rfl rfl rfl rfl ?_
      refine r_getf (pc2 := 158) (v := .ref q) fX3_28 dX3_readGoer_155 c65 (by decide) rfl rfl ?_
      refine r_getf (pc2 := 161) (v := .int (k 3)) fX3_182 dX3_readGoer_158 cq (by omega) rfl rfl ?_
      refine r_wldN (pc2 := 162) (fr 3) dX3_readGoer_161 hk3 (by omega) rfl ?_
      refine r_imul (pc2 := 163) dX3_readGoer_162 rfl ?_
      refine r_iadd (pc2 := 164) dX3_readGoer_163 rfl ?_
      refine r_topi (fun y164 ey164 => ?_)
      refine r_putfX (pc2 := 167) [.int y164, .int w.2.1, .long w.2.2.1, .long w.2.2.2.1, .int w.2.2.2.2.1, .int w.2.2.2.2.2] fX3_195 dX3_readGoer_164 c3 (by omega) (Nat.le_of_ble_eq_true rfl) rfl rfl rfl (fun h z164 o164 c3 => ?_)
      have c65 := (o164 65 (by omega)).trans c65
      have cq := (o164 q (by omega)).trans cq
      have c1 := (o164 (q + 1) (by omega)).trans c1
      have c2 := (o164 (q + 2) (by omega)).trans c2
      have hx := hx.step (a := (q + 3)) (by simp) z164 o164
      refine r_aload_n (pc2 := 168) 0 dX3_readGoer_167 rfl rfl rfl rfl ?_
      refine r_getf (pc2 := 171) (v := .ref q) fX3_28 dX3_readGoer_168 c65 (by decide) rfl rfl ?_
      refine r_dup (pc2 := 172) dX3_readGoer_171 rfl rfl ?_
      refine r_getf (pc2 := 175) (v := .int (k 3)) fX3_182 dX3_readGoer_172 cq (by omega) rfl rfl ?_
      refine r_iconst (pc2 := 176) (v := 1) dX3_readGoer_175 (by decide) rfl ?_
      refine r_iadd (pc2 := 177) dX3_readGoer_176 rfl ?_
      refine r_topi (fun y177 ey177 => ?_)
      refine r_putfX (pc2 := 180) [.int sg, .int (k 0), .int (k 1), .int (k 2), .int y177, .ref (q + 1), .ref (q + 2), .int (k 4), .int (k 5), .int (k 6), .ref (q + 3), nl, sl] fX3_182 dX3_readGoer_177 cq (by omega) (Nat.le_of_ble_eq_true rfl) rfl rfl rfl (fun h z177 o177 cq => ?_)
      have c65 := (o177 65 (by omega)).trans c65
      have c1 := (o177 (q + 1) (by omega)).trans c1
      have c2 := (o177 (q + 2) (by omega)).trans c2
      have c3 := (o177 (q + 3) (by omega)).trans c3
      have hx := hx.step (a := q) (by simp) z177 o177
      exact r_vret rfl dX3_readGoer_180 ⟨rfl, hx.gx.mono (by simp), RmL.same hx.1 (plc_of ((yo_pu x _).trans rfl) hpl), t, ne, inz, pt, cl, upd k 3 y177, upd f1 (fr 3) lv, upd f2 (fr 3) sv, (y164, w.2), nl, sl, c65, by rw [yo_pu]; exact hT, ⟨cd, hx.get (by simp <;> omega) c67⟩, cq, c1, c2, c3, ⟨fr 3 + 1, ey177.trans (by rw [hk3]; exact nI_1 _), by omega⟩, hpt, by rw [hx.1]; exact hq, fun p2 fr2 z1 z2 => by
  match x, hG, hl, z1 with
  | .ok (p3, f), hG, hl, z1 =>
    cases z1
    obtain ⟨u1, u2, u3⟩ := hG _ f rfl z2
    obtain ⟨v1, v2⟩ := hl _ f rfl z2
    have mm := (hM.gr (Nat.le_of_eq (congrArg Prod.fst hx.1).symm) (fun y hy _ => hx.2 y (by simp <;> omega))).goer (f := va_up f 3 (f 3 + 1)) (g := fr 3) rfl (by omega) hz22 (fun j j1 j2 j3 j4 => by rw [va_up_ne _ _ j4, u1 j j3 j2]; exact v1 j j1) (by rw [va_up_self, u1 3 (by omega) (by omega), v1 3 (by omega)])
    rw [va_up_ne _ _ (show 14 + fr 3 ≠ 3 by omega), va_up_ne _ _ (show 18 + fr 3 ≠ 3 by omega), va_up_ne _ _ (show 22 + fr 3 ≠ 3 by omega), ← u2, ← u3, ← ey164, u1 (14 + fr 3) (by omega) (by omega), ← v2] at mm
    rw [show y177 = nI (fr 3 + 1) from ey177.trans (by rw [hk3]; exact nI_1 _)]
    exact mm⟩
    have loop : ∀ (m i : Nat) (x : PX FR) (av sv : Int32) (h : Hp) (t : TkT), i + m = 901 → Ex [65] h0 h → (∀ p f, x = .ok (p, f) → i ≤ p) → h.1 65 = some (.inr (3, rdL n ta ne inz pt cl (.ref q) t)) → TK tp n (yo tp n x) t → h.1 q = some (.inr (6, uwL sg k q nl sl)) → TPo tp h → GF tp n fz (fr 3) av sv x → (∀ p f, x = .ok (p, f) → lxK tp n p ≠ 26 → (∀ j, j ≠ 14 + fr 3 → fz j = fr j) ∧ lv = nI (fz (14 + fr 3))) → lxS tp n p ≤ plY tp n (yo tp n x) → Fr E mX3_readGoer d 38 [.ref 65, .int lv, .int av, .int sv, .int (nI i)] [] h (LNQ tp n ta sg q h0 (.ok (p, fr)) (bnd (bnd x (pFlags tp n (fr 3) m)) (pUp (fun f => va_up f 3 (f 3 + 1))))) := by
      intro m
      induction m with
      | zero =>
        intro i x av sv h t hm hx hi c65 hT cq hP hG hl hpl
        rw [flags_id (fun _ _ _ => Or.inr rfl)]
        refine r_iload (pc2 := 40) 4 dX3_readGoer_38 rfl rfl ?_
        refine r_sipush (pc2 := 43) (v := 900) dX3_readGoer_40 (by decide) rfl ?_
        refine r_icmp_ge (tgt := 107) (pc2 := 46) dX3_readGoer_43 (by decide) rfl (fun b43 => ?_) (fun b43 => ?_)
        · skip
          exact rest x av sv (nI i) h t hx c65 hT cq hG hl hpl
        · exact absurd (nI_le (a := 900) (by omega) (by omega)) b43
      | succ m ih =>
        intro i x av sv h t hm hx hi c65 hT cq hP hG hl hpl
        by_cases hlt : i < 900
        · by_cases y5 : isY tp n (yo tp n x) (kx 5) = true
          · obtain ⟨pa, fa, ex, ka, na⟩ := isY_in y5
            have ka : lxK tp n pa = 5 := ka
            have eB : bnd x (pFlags tp n (fr 3) (m + 1)) = bnd (pSet tp n 0 (fun fr => fr 1 + 1) (22 + fr 3) (lxE tp n pa) fa) (pFlags tp n (fr 3) m) := by
              rw [ex]
              show pFlags tp n (fr 3) (m + 1) pa fa = _
              rw [pFlags_s, if_pos ka]
              rfl
            have eY : eatY tp n (kx 5) (yo tp n x) = nrp tp n (lxE tp n pa) := by rw [ex, yo_ok na]; exact eat_nx ka
            obtain ⟨u1, u2, u3⟩ := hG pa fa ex na
            obtain ⟨v1, v2⟩ := hl pa fa ex na
            have f1e : fa 1 = fr 1 := by rw [u1 1 (by omega) (by omega), v1 1 (by omega)]
            have hy2 : yo tp n (pSet tp n 0 (fun fr => fr 1 + 1) (22 + fr 3) (lxE tp n pa) fa) = tkY tp n 0 (fr 1 + 1) (eatY tp n (kx 5) (yo tp n x)) := by rw [yo_set, eY]; show tkY tp n 0 (fa 1 + 1) _ = _; rw [f1e]
            have hi2 : ∀ p f, pSet tp n 0 (fun fr => fr 1 + 1) (22 + fr 3) (lxE tp n pa) fa = .ok (p, f) → i + 1 ≤ p := fun p2 f2 z => by
              obtain ⟨s1, s2, s3, s4⟩ := set_in z
              have := hi pa fa ex
              have g1 := lxE_gt (tp := tp) (n := n) (p := pa) (by rw [ka]; decide)
              have g2 := lxE_gt (tp := tp) (n := n) (p := lxE tp n pa) (by rw [s1]; decide)
              have g3 := lxS_le tp n pa
              have g4 := lxS_le tp n (lxE tp n pa)
              omega
            have hG2 : GF tp n fz (fr 3) (nI (tkV tp n 0 (fr 1 + 1) (eatY tp n (kx 5) (yo tp n x)))) sv (pSet tp n 0 (fun fr => fr 1 + 1) (22 + fr 3) (lxE tp n pa) fa) := fun p2 f2 z z2 => by
              obtain ⟨s1, s2, s3, s4⟩ := set_in z
              have s2 : 0 ≤ lxN tp n (lxE tp n pa) ∧ lxN tp n (lxE tp n pa) < fa 1 + 1 := s2
              rw [f1e] at s2
              rw [eY, tkV_in s1 s2, s4, va_up_self, va_up_ne _ _ (by omega)]
              exact ⟨fun j j1 j2 => by rw [va_up_ne _ _ j1]; exact u1 j j1 j2, rfl, u3⟩
            have hl2 : ∀ p f, pSet tp n 0 (fun fr => fr 1 + 1) (22 + fr 3) (lxE tp n pa) fa = .ok (p, f) → lxK tp n p ≠ 26 → (∀ j, j ≠ 14 + fr 3 → fz j = fr j) ∧ lv = nI (fz (14 + fr 3)) := fun _ _ _ _ => ⟨v1, v2⟩
            have hpl2 : lxS tp n p ≤ plY tp n (yo tp n (pSet tp n 0 (fun fr => fr 1 + 1) (22 + fr 3) (lxE tp n pa) fa)) := by rw [hy2]; exact Nat.le_trans hpl (Nat.le_trans (plY_eat (by decide) _) (plY_tk _))
            rw [eB]
            refine r_iload (pc2 := 40) 4 dX3_readGoer_38 rfl rfl ?_
            refine r_sipush (pc2 := 43) (v := 900) dX3_readGoer_40 (by decide) rfl ?_
            refine r_icmp_ge (tgt := 107) (pc2 := 46) dX3_readGoer_43 (by decide) rfl (fun b43 => ?_) (fun b43 => ?_)
            · exact absurd b43 (nI_ge (b := 900) hlt (by decide))
            · skip
              refine r_aload_n (pc2 := 47) 0 dX3_readGoer_46 rfl rfl rfl rfl ?_
              refine r_ldcS (pc2 := 49) 5 (by decide) rfl rfl dX3_readGoer_47 rfl ?_
              refine r_callV1 (pc2 := 52) (As := [.ref 5]) (st := []) kX3_88 rfl rfl dX3_readGoer_49 c65 (by decide) rfl rfl (Nat.le_of_ble_eq_true rfl) (by omega) (c_wordY (x := 5) (t := t) (y := yo tp n x) (by decide) y5 c65 hT hP ht (by omega)) rfl (fun h2 hq49 => ?_)
              obtain rfl := hq49.symm
              refine r_if_ne (tgt := 64) (pc2 := 55) dX3_readGoer_52 (by decide) rfl (fun b52 => ?_) (fun b52 => ?_)
              · skip
                refine r_aload_n (pc2 := 65) 0 dX3_readGoer_64 rfl rfl rfl rfl ?_
                refine r_ldcS (pc2 := 67) 5 (by decide) rfl rfl dX3_readGoer_65 rfl ?_
                refine r_callV1 (pc2 := 70) (As := [.ref 5]) (st := []) kX3_88 rfl rfl dX3_readGoer_67 c65 (by decide) rfl rfl (Nat.le_of_ble_eq_true rfl) (by omega) (c_wordY (x := 5) (t := t) (y := yo tp n x) (by decide) y5 c65 hT hP ht (by omega)) rfl (fun h2 hq67 => ?_)
                obtain rfl := hq67.symm
                refine r_if_eq (tgt := 91) (pc2 := 73) dX3_readGoer_70 (by decide) rfl (fun b70 => ?_) (fun b70 => ?_)
                · exact absurd b70 (by decide)
                · skip
                  refine r_aload_n (pc2 := 74) 0 dX3_readGoer_73 rfl rfl rfl rfl ?_
                  refine r_ldcS (pc2 := 76) 5 (by decide) rfl rfl dX3_readGoer_74 rfl ?_
                  refine r_iconst (pc2 := 77) (v := 0) dX3_readGoer_76 (by decide) rfl ?_
                  refine r_aload_n (pc2 := 78) 0 dX3_readGoer_77 rfl rfl rfl rfl ?_
                  refine r_getf (pc2 := 81) (v := .ref q) fX3_28 dX3_readGoer_78 c65 (by decide) rfl rfl ?_
                  refine r_getf (pc2 := 84) (v := .int (k 1)) fX3_112 dX3_readGoer_81 cq (by omega) rfl rfl ?_
                  refine r_callV1 (pc2 := 87) (As := [.ref 5, .int 0, .int (k 1)]) (st := []) kX3_108 rfl rfl dX3_readGoer_84 c65 (by decide) rfl rfl (Nat.le_of_ble_eq_true rfl) (by omega) (c_passWordNumber (x := 5) (lo := 0) (H := fr 1 + 1) (t := t) (y := yo tp n x) (by decide) (fun _ _ => ⟨rfl, by rw [nI_pred]; exact hk1⟩) (by decide) (by omega) c65 hT hP ht (by omega)) rfl (fun h hq84 => ?_)
                  obtain ⟨hxa, t2, c65, hT2⟩ := hq84
                  have cq := hxa.get (by simp <;> omega) cq
                  have hx := hx.trans hxa (by simp)
                  have hP := hP.ex hxa (by decide)
                  refine r_istore_n (pc2 := 88) (ls2 := [.ref 65, .int lv, .int (nI (tkV tp n 0 (fr 1 + 1) (eatY tp n (kx 5) (yo tp n x)))), .int sv, .int (nI i)]) 2 dX3_readGoer_87 rfl (by decide) rfl rfl rfl ?_
                  refine r_goto (pc2 := 101) dX3_readGoer_88 (by decide) ?_
                  obtain ⟨xi, e101⟩ : ∃ z : Int32, z = (nI i) + (1) := ⟨_, rfl⟩
                  refine r_iinc (pc2 := 104) (ls2 := [.ref 65, .int lv, .int (nI (tkV tp n 0 (fr 1 + 1) (eatY tp n (kx 5) (yo tp n x)))), .int sv, .int xi]) (v := xi) 4 dX3_readGoer_101 rfl (by rw [e101]; rfl) rfl rfl rfl ?_
                  refine r_goto (pc2 := 38) dX3_readGoer_104 (by decide) ?_
                  rw [show xi = nI (i + 1) from e101.trans (nI_1 _)]
                  exact ih (i + 1) _ _ _ h t2 (by omega) hx hi2 c65 (by rw [hy2]; exact hT2) cq hP hG2 hl2 hpl2
              · exact absurd b52 (by decide)
          · have n5 := y5
            by_cases y6 : isY tp n (yo tp n x) (kx 6) = true
            · obtain ⟨pa, fa, ex, ka, na⟩ := isY_in y6
              have ka : lxK tp n pa = 6 := ka
              have eB : bnd x (pFlags tp n (fr 3) (m + 1)) = bnd (pSet tp n 0 (fun _ => 10) (18 + fr 3) (lxE tp n pa) fa) (pFlags tp n (fr 3) m) := by
                rw [ex]
                show pFlags tp n (fr 3) (m + 1) pa fa = _
                rw [pFlags_s, if_neg (by rw [ka]; decide), if_pos ka]
                rfl
              have eY : eatY tp n (kx 6) (yo tp n x) = nrp tp n (lxE tp n pa) := by rw [ex, yo_ok na]; exact eat_nx ka
              obtain ⟨u1, u2, u3⟩ := hG pa fa ex na
              obtain ⟨v1, v2⟩ := hl pa fa ex na
              have hy2 : yo tp n (pSet tp n 0 (fun _ => 10) (18 + fr 3) (lxE tp n pa) fa) = tkY tp n 0 10 (eatY tp n (kx 6) (yo tp n x)) := by rw [yo_set, eY]
              have hi2 : ∀ p f, pSet tp n 0 (fun _ => 10) (18 + fr 3) (lxE tp n pa) fa = .ok (p, f) → i + 1 ≤ p := fun p2 f2 z => by
                obtain ⟨s1, s2, s3, s4⟩ := set_in z
                have := hi pa fa ex
                have g1 := lxE_gt (tp := tp) (n := n) (p := pa) (by rw [ka]; decide)
                have g2 := lxE_gt (tp := tp) (n := n) (p := lxE tp n pa) (by rw [s1]; decide)
                have g3 := lxS_le tp n pa
                have g4 := lxS_le tp n (lxE tp n pa)
                omega
              have hG2 : GF tp n fz (fr 3) av (nI (tkV tp n 0 10 (eatY tp n (kx 6) (yo tp n x)))) (pSet tp n 0 (fun _ => 10) (18 + fr 3) (lxE tp n pa) fa) := fun p2 f2 z z2 => by
                obtain ⟨s1, s2, s3, s4⟩ := set_in z
                rw [eY, tkV_in s1 s2, s4, va_up_self, va_up_ne _ _ (by omega)]
                exact ⟨fun j j1 j2 => by rw [va_up_ne _ _ j2]; exact u1 j j1 j2, u2, rfl⟩
              have hl2 : ∀ p f, pSet tp n 0 (fun _ => 10) (18 + fr 3) (lxE tp n pa) fa = .ok (p, f) → lxK tp n p ≠ 26 → (∀ j, j ≠ 14 + fr 3 → fz j = fr j) ∧ lv = nI (fz (14 + fr 3)) := fun _ _ _ _ => ⟨v1, v2⟩
              have hpl2 : lxS tp n p ≤ plY tp n (yo tp n (pSet tp n 0 (fun _ => 10) (18 + fr 3) (lxE tp n pa) fa)) := by rw [hy2]; exact Nat.le_trans hpl (Nat.le_trans (plY_eat (by decide) _) (plY_tk _))
              rw [eB]
              refine r_iload (pc2 := 40) 4 dX3_readGoer_38 rfl rfl ?_
              refine r_sipush (pc2 := 43) (v := 900) dX3_readGoer_40 (by decide) rfl ?_
              refine r_icmp_ge (tgt := 107) (pc2 := 46) dX3_readGoer_43 (by decide) rfl (fun b43 => ?_) (fun b43 => ?_)
              · exact absurd b43 (nI_ge (b := 900) hlt (by decide))
              · skip
                refine r_aload_n (pc2 := 47) 0 dX3_readGoer_46 rfl rfl rfl rfl ?_
                refine r_ldcS (pc2 := 49) 5 (by decide) rfl rfl dX3_readGoer_47 rfl ?_
                refine r_callV1 (pc2 := 52) (As := [.ref 5]) (st := []) kX3_88 rfl rfl dX3_readGoer_49 c65 (by decide) rfl rfl (Nat.le_of_ble_eq_true rfl) (by omega) (c_wordN (x := 5) (t := t) (y := yo tp n x) (by decide) n5 c65 hT hP ht (by omega)) rfl (fun h2 hq49 => ?_)
                obtain rfl := hq49.symm
                refine r_if_ne (tgt := 64) (pc2 := 55) dX3_readGoer_52 (by decide) rfl (fun b52 => ?_) (fun b52 => ?_)
                · exact absurd b52 (by decide)
                · skip
                  refine r_aload_n (pc2 := 56) 0 dX3_readGoer_55 rfl rfl rfl rfl ?_
                  refine r_ldcS (pc2 := 58) 6 (by decide) rfl rfl dX3_readGoer_56 rfl ?_
                  refine r_callV1 (pc2 := 61) (As := [.ref 6]) (st := []) kX3_88 rfl rfl dX3_readGoer_58 c65 (by decide) rfl rfl (Nat.le_of_ble_eq_true rfl) (by omega) (c_wordY (x := 6) (t := t) (y := yo tp n x) (by decide) y6 c65 hT hP ht (by omega)) rfl (fun h2 hq58 => ?_)
                  obtain rfl := hq58.symm
                  refine r_if_eq (tgt := 107) (pc2 := 64) dX3_readGoer_61 (by decide) rfl (fun b61 => ?_) (fun b61 => ?_)
                  · exact absurd b61 (by decide)
                  · skip
                    refine r_aload_n (pc2 := 65) 0 dX3_readGoer_64 rfl rfl rfl rfl ?_
                    refine r_ldcS (pc2 := 67) 5 (by decide) rfl rfl dX3_readGoer_65 rfl ?_
                    refine r_callV1 (pc2 := 70) (As := [.ref 5]) (st := []) kX3_88 rfl rfl dX3_readGoer_67 c65 (by decide) rfl rfl (Nat.le_of_ble_eq_true rfl) (by omega) (c_wordN (x := 5) (t := t) (y := yo tp n x) (by decide) n5 c65 hT hP ht (by omega)) rfl (fun h2 hq67 => ?_)
                    obtain rfl := hq67.symm
                    refine r_if_eq (tgt := 91) (pc2 := 73) dX3_readGoer_70 (by decide) rfl (fun b70 => ?_) (fun b70 => ?_)
                    · skip
                      refine r_aload_n (pc2 := 92) 0 dX3_readGoer_91 rfl rfl rfl rfl ?_
                      refine r_ldcS (pc2 := 94) 6 (by decide) rfl rfl dX3_readGoer_92 rfl ?_
                      refine r_iconst (pc2 := 95) (v := 0) dX3_readGoer_94 (by decide) rfl ?_
                      refine r_bipush (pc2 := 97) (v := 9) dX3_readGoer_95 (by decide) rfl ?_
                      refine r_callV1 (pc2 := 100) (As := [.ref 6, .int 0, .int 9]) (st := []) kX3_108 rfl rfl dX3_readGoer_97 c65 (by decide) rfl rfl (Nat.le_of_ble_eq_true rfl) (by omega) (c_passWordNumber (x := 6) (lo := 0) (H := 10) (t := t) (y := yo tp n x) (by decide) (fun _ _ => ⟨rfl, rfl⟩) (by decide) (by omega) c65 hT hP ht (by omega)) rfl (fun h hq97 => ?_)
                      obtain ⟨hxa, t2, c65, hT2⟩ := hq97
                      have cq := hxa.get (by simp <;> omega) cq
                      have hx := hx.trans hxa (by simp)
                      have hP := hP.ex hxa (by decide)
                      refine r_istore_n (pc2 := 101) (ls2 := [.ref 65, .int lv, .int av, .int (nI (tkV tp n 0 10 (eatY tp n (kx 6) (yo tp n x)))), .int (nI i)]) 3 dX3_readGoer_100 rfl (by decide) rfl rfl rfl ?_
                      obtain ⟨xi, e101⟩ : ∃ z : Int32, z = (nI i) + (1) := ⟨_, rfl⟩
                      refine r_iinc (pc2 := 104) (ls2 := [.ref 65, .int lv, .int av, .int (nI (tkV tp n 0 10 (eatY tp n (kx 6) (yo tp n x)))), .int xi]) (v := xi) 4 dX3_readGoer_101 rfl (by rw [e101]; rfl) rfl rfl rfl ?_
                      refine r_goto (pc2 := 38) dX3_readGoer_104 (by decide) ?_
                      rw [show xi = nI (i + 1) from e101.trans (nI_1 _)]
                      exact ih (i + 1) _ _ _ h t2 (by omega) hx hi2 c65 (by rw [hy2]; exact hT2) cq hP hG2 hl2 hpl2
                    · exact absurd b70 (by decide)
            · have n6 := y6
              rw [flags_id (fun pa fa z => Or.inl ⟨fun ka => n5 (by rw [z, yo_ok (by rw [ka]; decide)]; exact isY_y ka), fun ka => n6 (by rw [z, yo_ok (by rw [ka]; decide)]; exact isY_y ka)⟩)]
              refine r_iload (pc2 := 40) 4 dX3_readGoer_38 rfl rfl ?_
              refine r_sipush (pc2 := 43) (v := 900) dX3_readGoer_40 (by decide) rfl ?_
              refine r_icmp_ge (tgt := 107) (pc2 := 46) dX3_readGoer_43 (by decide) rfl (fun b43 => ?_) (fun b43 => ?_)
              · exact absurd b43 (nI_ge (b := 900) hlt (by decide))
              · skip
                refine r_aload_n (pc2 := 47) 0 dX3_readGoer_46 rfl rfl rfl rfl ?_
                refine r_ldcS (pc2 := 49) 5 (by decide) rfl rfl dX3_readGoer_47 rfl ?_
                refine r_callV1 (pc2 := 52) (As := [.ref 5]) (st := []) kX3_88 rfl rfl dX3_readGoer_49 c65 (by decide) rfl rfl (Nat.le_of_ble_eq_true rfl) (by omega) (c_wordN (x := 5) (t := t) (y := yo tp n x) (by decide) n5 c65 hT hP ht (by omega)) rfl (fun h2 hq49 => ?_)
                obtain rfl := hq49.symm
                refine r_if_ne (tgt := 64) (pc2 := 55) dX3_readGoer_52 (by decide) rfl (fun b52 => ?_) (fun b52 => ?_)
                · exact absurd b52 (by decide)
                · skip
                  refine r_aload_n (pc2 := 56) 0 dX3_readGoer_55 rfl rfl rfl rfl ?_
                  refine r_ldcS (pc2 := 58) 6 (by decide) rfl rfl dX3_readGoer_56 rfl ?_
                  refine r_callV1 (pc2 := 61) (As := [.ref 6]) (st := []) kX3_88 rfl rfl dX3_readGoer_58 c65 (by decide) rfl rfl (Nat.le_of_ble_eq_true rfl) (by omega) (c_wordN (x := 6) (t := t) (y := yo tp n x) (by decide) n6 c65 hT hP ht (by omega)) rfl (fun h2 hq58 => ?_)
                  obtain rfl := hq58.symm
                  refine r_if_eq (tgt := 107) (pc2 := 64) dX3_readGoer_61 (by decide) rfl (fun b61 => ?_) (fun b61 => ?_)
                  · skip
                    exact rest x av sv (nI i) h t hx c65 hT cq hG hl hpl
                  · exact absurd b61 (by decide)
        · have kE : ∀ pa fa, x = .ok (pa, fa) → lxK tp n pa = 25 := fun pa fa z => by
            have := hi pa fa z
            unfold lxK tkK
            rw [if_pos (Nat.le_trans (by omega) (lxS_le tp n pa))]
          rw [flags_id (fun pa fa z => Or.inl ⟨by rw [kE pa fa z]; decide, by rw [kE pa fa z]; decide⟩)]
          refine r_iload (pc2 := 40) 4 dX3_readGoer_38 rfl rfl ?_
          refine r_sipush (pc2 := 43) (v := 900) dX3_readGoer_40 (by decide) rfl ?_
          refine r_icmp_ge (tgt := 107) (pc2 := 46) dX3_readGoer_43 (by decide) rfl (fun b43 => ?_) (fun b43 => ?_)
          · skip
            exact rest x av sv (nI i) h t hx c65 hT cq hG hl hpl
          · exact absurd (nI_le (a := 900) (by omega) (by omega)) b43
    have eX0 : (bnd (bnd (pNx tp n p fr) (pEat tp n 4)) (pSet tp n 0 (fun _ => 10) (14 + fr 3))) = bnd (pEat tp n 4 (lxE tp n p) fr) (pSet tp n 0 (fun _ => 10) (14 + fr 3)) := rfl
    have hy0 : yo tp n (bnd (bnd (pNx tp n p fr) (pEat tp n 4)) (pSet tp n 0 (fun _ => 10) (14 + fr 3))) = tkY tp n 0 10 (eatY tp n (kx 4) (nrp tp n (lxE tp n p))) := by
      rw [eX0]
      rw [yoS (Hn := 10) _ (fun _ _ _ => rfl), show yo tp n (pEat tp n 4 (lxE tp n p) fr) = eatY tp n (kx 4) (nrp tp n (lxE tp n p)) from yo_eat (by decide) (.ok (lxE tp n p, fr))]
    have hG0 : GF tp n fz (fr 3) 0 0 (bnd (bnd (pNx tp n p fr) (pEat tp n 4)) (pSet tp n 0 (fun _ => 10) (14 + fr 3))) := fun p2 f2 z z2 => by
      obtain ⟨p3, f3, s1, s2, s4⟩ := setB_in (show bnd (pEat tp n 4 (lxE tp n p) fr) (pSet tp n 0 (fun _ => 10) (14 + fr 3)) = _ from z)
      obtain ⟨p4, s5, s6⟩ := eatB_in (x := .ok (lxE tp n p, fr)) (k := 4) (by decide) s1
      cases s5
      have : f2 = fz := by
        rw [s4, efz, show yo tp n (pEat tp n 4 (lxE tp n p) fr) = eatY tp n (kx 4) (nrp tp n (lxE tp n p)) from yo_eat (by decide) (.ok (lxE tp n p, fr))]
      rw [this, fzn _ (by omega), fzn _ (by omega), hz22, hz18]
      exact ⟨fun _ _ _ => rfl, rfl, rfl⟩
    have hl0 : ∀ pz f, (bnd (bnd (pNx tp n p fr) (pEat tp n 4)) (pSet tp n 0 (fun _ => 10) (14 + fr 3))) = .ok (pz, f) → lxK tp n pz ≠ 26 → (∀ j, j ≠ 14 + fr 3 → fz j = fr j) ∧ lv = nI (fz (14 + fr 3)) := fun _ _ _ _ => ⟨fzn, by rw [efz, va_up_self]; exact elv⟩
    have hpl0 : lxS tp n p ≤ plY tp n (yo tp n (bnd (bnd (pNx tp n p fr) (pEat tp n 4)) (pSet tp n 0 (fun _ => 10) (14 + fr 3)))) := by rw [hy0]; exact Nat.le_trans (Nat.le_of_succ_le (plY_nx h25)) (Nat.le_trans (plY_eat (by decide) _) (plY_tk _))
    subst elv
    refine Cn.go (ls := [.ref 65, .float 0, .float 0, .float 0, .float 0]) (by decide +kernel) rfl (Nat.le_of_ble_eq_true rfl) ?_
    refine r_aload_n (pc2 := 1) 0 dX3_readGoer_0 rfl rfl rfl rfl ?_
    refine r_getf (pc2 := 4) (v := .ref q) fX3_28 dX3_readGoer_1 c65 (by decide) rfl rfl ?_
    refine r_getf (pc2 := 7) (v := .int (k 3)) fX3_182 dX3_readGoer_4 cq (by omega) rfl rfl ?_
    refine r_iconst (pc2 := 8) (v := 4) dX3_readGoer_7 (by decide) rfl ?_
    refine r_icmp_lt (tgt := 17) (pc2 := 11) dX3_readGoer_8 (by decide) rfl (fun b8 => ?_) (fun b8 => ?_)
    · skip
      refine r_aload_n (pc2 := 18) 0 dX3_readGoer_17 rfl rfl rfl rfl ?_
      refine r_callV0 (pc2 := 21) (As := []) (st := []) kX3_54 rfl rfl dX3_readGoer_18 c65 (by decide) rfl rfl (Nat.le_of_ble_eq_true rfl) (by omega) (c_advance (t := (0, -1, nI (ckK tp n p), nI (lxS tp n p), nI (lxE tp n p))) (y := .ok p) c65 hT hP ht (by omega)) rfl (fun h hq18 => ?_)
      obtain ⟨hxa, t1, c65, hT1⟩ := hq18
      have cq := hxa.get (by simp <;> omega) cq
      have hx := hx.trans hxa (by simp)
      have hP := hP.ex hxa (by decide)
      refine r_aload_n (pc2 := 22) 0 dX3_readGoer_21 rfl rfl rfl rfl ?_
      refine r_ldcS (pc2 := 24) 4 (by decide) rfl rfl dX3_readGoer_22 rfl ?_
      refine r_iconst (pc2 := 25) (v := 0) dX3_readGoer_24 (by decide) rfl ?_
      refine r_bipush (pc2 := 27) (v := 9) dX3_readGoer_25 (by decide) rfl ?_
      refine r_callV1 (pc2 := 30) (As := [.ref 4, .int 0, .int 9]) (st := []) kX3_108 rfl rfl dX3_readGoer_27 c65 (by decide) rfl rfl (Nat.le_of_ble_eq_true rfl) (by omega) (c_passWordNumber (x := 4) (lo := 0) (H := 10) (t := t1) (y := (nrp tp n (lxE tp n p))) (by decide) (fun _ _ => ⟨rfl, rfl⟩) (by decide) (by decide) c65 hT1 hP ht (by omega)) rfl (fun h hq27 => ?_)
      obtain ⟨hxa, t2, c65, hT2⟩ := hq27
      have cq := hxa.get (by simp <;> omega) cq
      have hx := hx.trans hxa (by simp)
      have hP := hP.ex hxa (by decide)
      refine r_istore_n (pc2 := 31) (ls2 := [.ref 65, .int (nI (tkV tp n 0 10 (eatY tp n (kx 4) (nrp tp n (lxE tp n p))))), .float 0, .float 0, .float 0]) 1 dX3_readGoer_30 rfl (by decide) rfl rfl rfl ?_
      refine r_iconst (pc2 := 32) (v := 0) dX3_readGoer_31 (by decide) rfl ?_
      refine r_istore_n (pc2 := 33) (ls2 := [.ref 65, .int (nI (tkV tp n 0 10 (eatY tp n (kx 4) (nrp tp n (lxE tp n p))))), .int 0, .float 0, .float 0]) 2 dX3_readGoer_32 rfl (by decide) rfl rfl rfl ?_
      refine r_iconst (pc2 := 34) (v := 0) dX3_readGoer_33 (by decide) rfl ?_
      refine r_istore_n (pc2 := 35) (ls2 := [.ref 65, .int (nI (tkV tp n 0 10 (eatY tp n (kx 4) (nrp tp n (lxE tp n p))))), .int 0, .int 0, .float 0]) 3 dX3_readGoer_34 rfl (by decide) rfl rfl rfl ?_
      refine r_iconst (pc2 := 36) (v := 0) dX3_readGoer_35 (by decide) rfl ?_
      refine r_cast (nI 0) (rfl) ?_
      refine r_istore (pc2 := 38) (ls2 := [.ref 65, .int (nI (tkV tp n 0 10 (eatY tp n (kx 4) (nrp tp n (lxE tp n p))))), .int 0, .int 0, .int (nI 0)]) 4 dX3_readGoer_36 (by decide) rfl rfl rfl ?_
      exact loop 901 0 (bnd (bnd (pNx tp n p fr) (pEat tp n 4)) (pSet tp n 0 (fun _ => 10) (14 + fr 3))) 0 0 h t2 rfl hx (fun _ _ _ => Nat.zero_le _) c65 (by rw [hy0]; exact hT2) cq hP hG0 hl0 hpl0
    · exact absurd (nI_lt (a := fr 3) (b := 4) (by omega) (by decide)) (by rw [← hk3]; exact b8)
