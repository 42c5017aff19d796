/-! the class's reader: a law -/
def lawX (tp : Nat → Nat) (n rd p : Nat) : PX (List Nat) := bnd (bnd (.ok (lxE tp n p, [])) (pEat tp n 31)) (lvl tp n rd 6).1
theorem plc_n {tp : Nat → Nat} {n : Nat} {x : PX (List Nat)} {c q : Nat} (h : IV n c q x) : plc tp n x ≤ n := by
  match x, h with
  | .ok (p, L), h => exact lxS_n h.2.1
  | .error (w, a), h => exact h.2.2
theorem inOk_w {rd : Nat} {v : Int32} (h : inOk rd v) : okW FieldType.boolean (.int v) = true := by
  rcases h with ⟨_, rfl⟩ | ⟨_, rfl⟩ <;> rfl
set_option maxRecDepth 20000 in
set_option maxHeartbeats 1000000 in
theorem c_readLaw {E : EnvT} {d : Nat} {h0 : Hp} {n : Nat} {ta ne inz pt cl : Int32} {tv : Value} {tp : Nat → Nat} {rd p : Nat} {v : Int32} {cd0 : Nat → Int32} (hin : inOk rd v) (c65 : h0.1 65 = some (.inr (3, rdL n ta ne inz pt cl tv (0, -1, nI (ckK tp n p), nI (lxS tp n p), nI (lxE tp n p))))) (c67 : h0.1 67 = some (aI 900 cd0)) (hT : TK tp n (.ok p) (0, -1, nI (ckK tp n p), nI (lxS tp n p), nI (lxE tp n p))) (h25 : lxK tp n p ≠ 25) (hlow : 67 < h0.2.1) (hP : TPo tp h0) (ht : TOk tp n) (hd : 60 ≤ d) : Cn E mX3_readLaw d [.ref 65, .int v] h0 (fun r h2 => ∃ v9, r = some v9 ∧ ∃ (t2 : TkT) (N : Nat) (g cd : Nat → Int32), v9 = .ref h0.2.1 ∧ (h2.2.1 = h0.2.1 + 1 ∧ h2.2.2 = h0.2.2 + N ∧ N < 900 ∧ N + lxE tp n p ≤ plc tp n (lawX tp n rd p)) ∧ Gx [65, 67] h0 h2 ∧ h2.1 65 = some (.inr (3, rdL n ta 0 v pt (nI N) tv t2)) ∧ h2.1 67 = some (aI 900 cd) ∧ h2.1 h0.2.1 = some (aI N g) ∧ TK tp n (yo tp n (lawX tp n rd p)) t2 ∧ ∀ q L, lawX tp n rd p = .ok (q, L) → lxK tp n q ≠ 26 → N = L.length ∧ ∀ j, j < N → g j = cmI (L.getD j 0)) := by
  have hP0 := hP
  have hp := hT.1
  have hx : Ex [65, 67] h0 h0 := Ex.rf
  refine Cn.go (ls := [.ref 65, .int v]) (by decide +kernel) rfl (Nat.le_of_ble_eq_true rfl) ?_
  refine r_aload_n (pc2 := 1) 0 dX3_readLaw_0 rfl rfl rfl rfl ?_
  refine r_callV0 (pc2 := 4) (As := []) (st := []) kX3_54 rfl rfl dX3_readLaw_1 c65 (by decide) rfl rfl (Nat.le_of_ble_eq_true rfl) (by omega) (c_advance (t := (0, -1, nI (ckK tp n p), nI (lxS tp n p), nI (lxE tp n p))) (y := (.ok p)) c65 hT hP ht (by omega)) rfl (fun h hq1 => ?_)
  obtain ⟨hxa, t2, c65, hT2⟩ := hq1
  have c67 := hxa.get (by decide) c67
  have hx := hx.trans hxa (by simp)
  have hP := hP.ex hxa (by decide)
  refine r_aload_n (pc2 := 5) 0 dX3_readLaw_4 rfl rfl rfl rfl ?_
  refine r_bipush (pc2 := 7) (v := 58) dX3_readLaw_5 (by decide) rfl ?_
  refine r_callV0 (pc2 := 10) (As := [.int 58]) (st := []) kX3_131 rfl rfl dX3_readLaw_7 c65 (by decide) rfl rfl (Nat.le_of_ble_eq_true rfl) (by omega) (c_passSign (k := 1) (t := t2) (y := advY tp n (.ok p)) (by decide) (by decide) c65 hT2 hP ht (by omega)) rfl (fun h hq7 => ?_)
  obtain ⟨hxa, t3, c65, hT3⟩ := hq7
  have c67 := hxa.get (by decide) c67
  have hx := hx.trans hxa (by simp)
  have hP := hP.ex hxa (by decide)
  refine r_aload_n (pc2 := 11) 0 dX3_readLaw_10 rfl rfl rfl rfl ?_
  refine r_iload_n (pc2 := 12) 1 dX3_readLaw_11 rfl rfl rfl ?_
  refine r_putfX (pc2 := 15) [.int t3.1, .int t3.2.1, .int ta, .ref 66, .int (nI n), .int t3.2.2.1, .int t3.2.2.2.1, .int t3.2.2.2.2, .int ne, .int v, .int pt, .ref 67, .int cl, tv] fX3_207 dX3_readLaw_12 c65 (by decide) (Nat.le_of_ble_eq_true rfl) (inOk_w hin) rfl rfl (fun h z12 o12 c65 => ?_)
  have c67 := (o12 67 (by decide)).trans c67
  have hx := hx.step (a := 65) (by simp) z12 o12
  refine r_aload_n (pc2 := 16) 0 dX3_readLaw_15 rfl rfl rfl rfl ?_
  refine r_iconst (pc2 := 17) (v := 0) dX3_readLaw_16 (by decide) rfl ?_
  refine r_putfX (pc2 := 20) [.int t3.1, .int t3.2.1, .int ta, .ref 66, .int (nI n), .int t3.2.2.1, .int t3.2.2.2.1, .int t3.2.2.2.2, .int 0, .int v, .int pt, .ref 67, .int cl, tv] fX3_210 dX3_readLaw_17 c65 (by decide) (Nat.le_of_ble_eq_true rfl) rfl rfl rfl (fun h z17 o17 c65 => ?_)
  have c67 := (o17 67 (by decide)).trans c67
  have hx := hx.step (a := 65) (by simp) z17 o17
  refine r_aload_n (pc2 := 21) 0 dX3_readLaw_20 rfl rfl rfl rfl ?_
  refine r_iconst (pc2 := 22) (v := 0) dX3_readLaw_21 (by decide) rfl ?_
  refine r_putfX (pc2 := 25) [.int t3.1, .int t3.2.1, .int ta, .ref 66, .int (nI n), .int t3.2.2.1, .int t3.2.2.2.1, .int t3.2.2.2.2, .int 0, .int v, .int pt, .ref 67, .int 0, tv] fX3_213 dX3_readLaw_22 c65 (by decide) (Nat.le_of_ble_eq_true rfl) rfl rfl rfl (fun h z22 o22 c65 => ?_)
  have c67 := (o22 67 (by decide)).trans c67
  have hx := hx.step (a := 65) (by simp) z22 o22
  have hn0 : h.2 = h0.2 := hx.1
  have hP : TPo tp h := hP0.ex hx (by decide)
  have hT : RLw tp n (ta, v, pt, tv) 0 (plc tp n (bnd (.ok (lxE tp n p, [])) (pEat tp n 31) : PX (List Nat)) + 1) (bnd (.ok (lxE tp n p, [])) (pEat tp n 31) : PX (List Nat)) h := ⟨t3, 0, c65, by rw [yo_eat (by decide)]; exact hT3, ⟨by decide, Nat.le_of_eq (Nat.zero_add _)⟩, cd0, c67, fun p2 L z _ => by
    obtain ⟨p3, z1, _⟩ := eat_in (by decide) p2 L z
    cases z1
    exact ⟨rfl, fun j hj => absurd hj (Nat.not_lt_zero j)⟩⟩
  have hI : IV n 0 0 (bnd (.ok (lxE tp n p, [])) (pEat tp n 31) : PX (List Nat)) := (show IV n 0 0 (.ok (lxE tp n p, [])) from ⟨Nat.zero_le _, lxE_n hp, Nat.zero_le _⟩).b g_eat
  refine r_aload_n (pc2 := 26) 0 dX3_readLaw_25 rfl rfl rfl rfl ?_
  refine r_callV0 (pc2 := 29) (As := []) (st := []) kX3_216 rfl rfl dX3_readLaw_26 c65 (by decide) rfl rfl (Nat.le_of_ble_eq_true rfl) (by omega) (((K_lvl (rd := rd) (u := (ta, v, pt, tv)) hin ht 6) 0 _ rfl).1 (by omega) h (bnd (.ok (lxE tp n p, [])) (pEat tp n 31) : PX (List Nat)) hI hT hP) rfl (fun h hq26 => ?_)
  obtain ⟨hxc, hT⟩ := hq26
  have hx := hx.trans hxc (by decide)
  obtain ⟨t, c, c65, hK, ⟨hc9, hcp⟩, cd, c67, hcd⟩ := hT
  have hIl := hI.b (g_lvl tp n rd 6).1
  have hpn : plc tp n (lawX tp n rd p) ≤ n := plc_n hIl
  have hc8 : c + (plc tp n (bnd (.ok (lxE tp n p, [])) (pEat tp n 31) : PX (List Nat)) + 1) ≤ plc tp n (lawX tp n rd p) + 1 := hcp
  have hc7 : lxE tp n p ≤ plc tp n (bnd (.ok (lxE tp n p, [])) (pEat tp n 31) : PX (List Nat)) := Nat.le_trans (lxS_le tp n (lxE tp n p)) (plc_eat (tp := tp) (n := n) (k := 31) (by decide) (.ok (lxE tp n p, [])))
  have hc6 := lxE_gt h25
  have hn9 := ht.1
  have hsz : h.2 = h0.2 := hx.1
  obtain ⟨q9, eq9⟩ : ∃ q : Nat, q = h.2.1 := ⟨_, rfl⟩
  have hcpy := c_copyOf (E := E) (d := d - 1) (N := c) c67 (by decide) (by rw [hsz]; exact hlow) (by omega) (by decide) (by omega)
  rw [← eq9] at hcpy
  have hsz1 := congrArg Prod.fst hsz
  have hsz2 := congrArg Prod.snd hsz
  refine r_aload_n (pc2 := 30) 0 dX3_readLaw_29 rfl rfl rfl rfl ?_
  refine r_getf (pc2 := 33) (v := .ref 67) fX3_19 dX3_readLaw_30 c65 (by decide) rfl rfl ?_
  refine r_aload_n (pc2 := 34) 0 dX3_readLaw_33 rfl rfl rfl rfl ?_
  refine r_getf (pc2 := 37) (v := .int (nI c)) fX3_213 dX3_readLaw_34 c65 (by decide) rfl rfl ?_
  refine r_callS2 (pc2 := 40) (As := [.ref 67, .int (nI c)]) (st := []) kX3_219 dX3_readLaw_37 rfl rfl (Nat.le_of_ble_eq_true rfl) (by omega) hcpy rfl (fun v37 h hq37 => ?_)
  obtain ⟨g9, hv, hz1, hz2, hof, hcq, hg⟩ := hq37
  subst hv
  have c65 := (hof 65 (by omega)).trans c65
  have c67 := (hof 67 (by omega)).trans c67
  exact r_aret rfl (Or.inr ⟨_, rfl⟩) rfl dX3_readLaw_40 ⟨_, rfl, t, c, g9, cd, by rw [eq9, hsz1], ⟨by omega, by omega, by omega, by omega⟩, ⟨by omega, fun y hy hn => (hof y (by omega)).trans (hx.2 y hn)⟩, c65, c67, by rw [← hsz1, ← eq9]; exact hcq, hK, fun q L z1 z2 => ⟨(hcd q L z1 z2).1, fun j hj => (hg j hj).trans ((hcd q L z1 z2).2 j hj)⟩⟩
