/-! the class's reader: numbers that are set -/
theorem yo_set {tp : Nat → Nat} {n lo i p : Nat} {H : FR → Nat} {fr : FR} : yo tp n (pSet tp n lo H i p fr) = tkY tp n lo (H fr) (nrp tp n p) := by
  unfold pSet
  by_cases h26 : lxK tp n p = 26
  · rw [if_neg (by rw [h26]; decide), yo_fl26 h26]
    unfold nrp
    rw [if_pos h26]
    rfl
  · have e : nrp tp n p = .ok p := if_neg h26
    rw [e]
    unfold tkY
    by_cases hk : lxK tp n p = 24
    · rw [if_pos hk]
      show _ = if lxK tp n p = 24 then _ else _
      rw [if_pos hk]
      by_cases hr : lo ≤ lxN tp n p ∧ lxN tp n p < H fr
      · rw [if_pos hr, if_pos hr]
        rfl
      · rw [if_neg hr, if_neg hr, yo_fl h26]
    · rw [if_neg hk]
      show _ = if lxK tp n p = 24 then _ else _
      rw [if_neg hk, yo_fl h26]
theorem set_in {tp : Nat → Nat} {n lo i p p2 : Nat} {H : FR → Nat} {fr fr2 : FR} (h : pSet tp n lo H i p fr = .ok (p2, fr2)) : lxK tp n p = 24 ∧ (lo ≤ lxN tp n p ∧ lxN tp n p < H fr) ∧ p2 = lxE tp n p ∧ fr2 = va_up fr i (lxN tp n p) := by
  unfold pSet at h
  by_cases hk : lxK tp n p = 24
  · rw [if_pos hk] at h
    by_cases hr : lo ≤ lxN tp n p ∧ lxN tp n p < H fr
    · rw [if_pos hr] at h
      cases h
      exact ⟨hk, hr, rfl, rfl⟩
    · rw [if_neg hr] at h
      cases h
  · rw [if_neg hk] at h
    cases h
theorem plc_set {tp : Nat → Nat} {n lo i p : Nat} {H : FR → Nat} {fr : FR} : lxS tp n p ≤ plc tp n (pSet tp n lo H i p fr) := by
  unfold pSet
  by_cases hk : lxK tp n p = 24
  · rw [if_pos hk]
    have h1 := lxE_gt (tp := tp) (n := n) (p := p) (by rw [hk]; decide)
    have h2 := lxS_le tp n (lxE tp n p)
    by_cases hr : lo ≤ lxN tp n p ∧ lxN tp n p < H fr
    · rw [if_pos hr]
      show lxS tp n p ≤ lxS tp n (lxE tp n p)
      omega
    · rw [if_neg hr]
      exact Nat.le_refl _
  · rw [if_neg hk]
    exact Nat.le_refl _
theorem tkV_in {tp : Nat → Nat} {n lo H p : Nat} (hk : lxK tp n p = 24) (hr : lo ≤ lxN tp n p ∧ lxN tp n p < H) : tkV tp n lo H (nrp tp n p) = lxN tp n p := by
  have e : nrp tp n p = .ok p := if_neg (by rw [hk]; decide)
  rw [e]
  show (if _ then _ else _) = _
  rw [if_pos ⟨hk, hr⟩]
theorem eat_nx {tp : Nat → Nat} {n k p : Nat} (hk : lxK tp n p = k) : eatY tp n k (.ok p) = nrp tp n (lxE tp n p) := by
  unfold eatY
  rw [if_pos (isY_y hk)]
  rfl
set_option maxRecDepth 20000 in
set_option maxHeartbeats 1000000 in
theorem L_people {E : EnvT} {d : Nat} {h0 : Hp} {tp : Nat → Nat} {n : Nat} {ta sg : Int32} {q p : Nat} {fr : FR} (hW : WF1 fr) (hk : lxK tp n p = 7) (hL : LN tp n ta sg q (.ok (p, fr)) h0) (hP : TPo tp h0) (ht : TOk tp n) (hd : 7 ≤ d) : Cn E mX3_readPeople d [.ref 65] h0 (LNQ tp n ta sg q h0 (.ok (p, fr)) (pPeople tp n p fr)) := by
  obtain ⟨t, ne, inz, pt, cl, k, f1, f2, w, nl, sl, c65, hT, ⟨cd, c67⟩, cq, c1, c2, c3, hg, hpt, hq, hM⟩ := hL
  have hq1 := hq.1
  have h26 : lxK tp n p ≠ 26 := by rw [hk]; decide
  have hM := hM p fr rfl h26
  have hp5 := hM.1.2.2.2.2.2.2.2
  have hW5 := hW.2.2.2.1
  rw [yo_ok h26] at hT
  have hT9 := hT
  obtain ⟨hp, _, rfl⟩ := hT9
  have hx : Ex [65, q] h0 h0 := Ex.rf
  by_cases h5 : fr 5 = 1
  · have eG : pPeople tp n p fr = pFl tp n 2 p := if_pos h5
    have hnz : ¬ pt = 0 := by rw [hp5, h5]; decide
    rw [eG]
    refine Cn.go (ls := [.ref 65]) (by decide +kernel) rfl (Nat.le_of_ble_eq_true rfl) ?_
    refine r_aload_n (pc2 := 1) 0 dX3_readPeople_0 rfl rfl rfl rfl ?_
    refine r_getf (pc2 := 4) (v := .int pt) fX3_50 dX3_readPeople_1 c65 (by decide) rfl rfl ?_
    refine r_if_eq (tgt := 13) (pc2 := 7) dX3_readPeople_4 (by decide) rfl (fun b4 => ?_) (fun b4 => ?_)
    · exact absurd b4 hnz
    · skip
      refine r_aload_n (pc2 := 8) 0 dX3_readPeople_7 rfl rfl rfl rfl ?_
      refine r_iconst (pc2 := 9) (v := 2) dX3_readPeople_8 (by decide) rfl ?_
      refine r_callV0 (pc2 := 12) (As := [.int 2]) (st := []) kX3_76 rfl rfl dX3_readPeople_9 c65 (by decide) rfl rfl (Nat.le_of_ble_eq_true rfl) (by omega) (c_refuse (f := 2) (t := (0, -1, nI (ckK tp n p), nI (lxS tp n p), nI (lxE tp n p))) (y := .ok p) (by decide) (by decide) rfl ht c65 hT) rfl (fun h hq9 => ?_)
      obtain ⟨hxa, t2, c65, hT2⟩ := hq9
      have cq := hxa.get (by simp; omega) cq
      have hx := hx.trans hxa (by simp)
      exact r_vret rfl dX3_readPeople_12 ⟨rfl, hx.gx.mono (by simp), RmL.same hx.1 (Nat.le_refl _), t2, ne, inz, pt, cl, k, f1, f2, w, nl, sl, c65, by rw [yo_fl h26]; exact hT2, ⟨cd, hx.get (by simp; omega) c67⟩, cq, hx.get (by simp <;> omega) c1, hx.get (by simp <;> omega) c2, hx.get (by simp <;> omega) c3, hg, hpt, by rw [hx.1]; exact hq, fun p2 fr2 z1 _ => by cases z1⟩
  · have eG : pPeople tp n p fr = bnd (pSet tp n 0 (fun _ => 9) 4 (lxE tp n p) fr) (pUp (fun f => va_up f 5 1)) := if_neg h5
    have hz : pt = 0 := by rw [hp5, show fr 5 = 0 by omega]; rfl
    have yoP : yo tp n (bnd (pSet tp n 0 (fun _ => 9) 4 (lxE tp n p) fr) (pUp (fun f => va_up f 5 1))) = tkY tp n 0 9 (eatY tp n (kx 7) (.ok p)) := by
      rw [(yo_up _ _).1, yo_set, show kx 7 = 7 from rfl, eat_nx hk]
    have ppl : plc tp n (.ok (p, fr) : PX FR) ≤ plc tp n (bnd (pSet tp n 0 (fun _ => 9) 4 (lxE tp n p) fr) (pUp (fun f => va_up f 5 1))) := by
      rw [(yo_up _ _).2]
      have h1 := lxE_gt (tp := tp) (n := n) (p := p) (by rw [hk]; decide)
      have h2 := lxS_le tp n (lxE tp n p)
      have h3 := plc_set (tp := tp) (n := n) (lo := 0) (i := 4) (p := lxE tp n p) (H := fun _ => 9) (fr := fr)
      show lxS tp n p ≤ _
      omega
    have pin : ∀ p2 fr2, bnd (pSet tp n 0 (fun _ => 9) 4 (lxE tp n p) fr) (pUp (fun f => va_up f 5 1)) = .ok (p2, fr2) → True ∧ tkV tp n 0 9 (eatY tp n (kx 7) (.ok p)) = lxN tp n (lxE tp n p) ∧ fr2 = va_up (va_up fr 4 (lxN tp n (lxE tp n p))) 5 1 := fun p2 fr2 z => by
      match hs : pSet tp n 0 (fun _ => 9) 4 (lxE tp n p) fr, z with
      | .ok (p3, fr3), z =>
        obtain ⟨s1, s2, s3, s4⟩ := set_in hs
        cases z
        exact ⟨trivial, by rw [show kx 7 = 7 from rfl, eat_nx hk]; exact tkV_in s1 s2, by rw [s4]⟩
    rw [eG]
    refine Cn.go (ls := [.ref 65]) (by decide +kernel) rfl (Nat.le_of_ble_eq_true rfl) ?_
    refine r_aload_n (pc2 := 1) 0 dX3_readPeople_0 rfl rfl rfl rfl ?_
    refine r_getf (pc2 := 4) (v := .int pt) fX3_50 dX3_readPeople_1 c65 (by decide) rfl rfl ?_
    refine r_if_eq (tgt := 13) (pc2 := 7) dX3_readPeople_4 (by decide) rfl (fun b4 => ?_) (fun b4 => ?_)
    · skip
      refine r_aload_n (pc2 := 14) 0 dX3_readPeople_13 rfl rfl rfl rfl ?_
      refine r_iconst (pc2 := 15) (v := 1) dX3_readPeople_14 (by decide) rfl ?_
      refine r_putfX (pc2 := 18) [.int 0, .int (-1), .int ta, .ref 66, .int (nI n), .int (nI (ckK tp n p)), .int (nI (lxS tp n p)), .int (nI (lxE tp n p)), .int ne, .int inz, .int 1, .ref 67, .int cl, .ref q] fX3_50 dX3_readPeople_15 c65 (by decide) (Nat.le_of_ble_eq_true rfl) rfl rfl rfl (fun h z15 o15 c65 => ?_)
      have cq := (o15 q (by omega)).trans cq
      have hx := hx.step (a := 65) (by simp) z15 o15
      have hP := hP.ex hx (by simp; omega)
      refine r_aload_n (pc2 := 19) 0 dX3_readPeople_18 rfl rfl rfl rfl ?_
      refine r_getf (pc2 := 22) (v := .ref q) fX3_28 dX3_readPeople_19 c65 (by decide) rfl rfl ?_
      refine r_aload_n (pc2 := 23) 0 dX3_readPeople_22 rfl rfl rfl rfl ?_
      refine r_ldcS (pc2 := 25) 7 (by decide) rfl rfl dX3_readPeople_23 rfl ?_
      refine r_iconst (pc2 := 26) (v := 0) dX3_readPeople_25 (by decide) rfl ?_
      refine r_bipush (pc2 := 28) (v := 8) dX3_readPeople_26 (by decide) rfl ?_
      refine r_callV1 (pc2 := 31) (As := [.ref 7, .int 0, .int 8]) (st := [.ref q]) kX3_108 rfl rfl dX3_readPeople_28 c65 (by decide) rfl rfl (Nat.le_of_ble_eq_true rfl) (by omega) (c_passWordNumber (x := 7) (lo := 0) (H := 9) (t := (0, -1, nI (ckK tp n p), nI (lxS tp n p), nI (lxE tp n p))) (y := .ok p) (by decide) (fun _ _ => ⟨rfl, by decide⟩) (by decide) (by decide) c65 hT hP ht (by omega)) rfl (fun h hq28 => ?_)
      obtain ⟨hxa, t2, c65, hT2⟩ := hq28
      have cq := hxa.get (by simp; omega) cq
      have hx := hx.trans hxa (by simp)
      refine r_putfX (pc2 := 34) [.int sg, .int (k 0), .int (k 1), .int (k 2), .int (k 3), .ref (q + 1), .ref (q + 2), .int (nI (tkV tp n 0 9 (eatY tp n (kx 7) (.ok p)))), .int (k 5), .int (k 6), .ref (q + 3), nl, sl] fX3_201 dX3_readPeople_31 cq (by omega) (Nat.le_of_ble_eq_true rfl) rfl rfl rfl (fun h z31 o31 cq => ?_)
      have c65 := (o31 65 (by omega)).trans c65
      have hx := hx.step (a := q) (by simp) z31 o31
      exact r_vret rfl dX3_readPeople_34 ⟨rfl, hx.gx.mono (by simp), RmL.same hx.1 ppl, t2, ne, inz, 1, cl, upd k 4 (nI (tkV tp n 0 9 (eatY tp n (kx 7) (.ok p)))), f1, f2, w, nl, sl, c65, by rw [yoP]; exact hT2, ⟨cd, hx.get (by simp; omega) c67⟩, cq, hx.get (by simp <;> omega) c1, hx.get (by simp <;> omega) c2, hx.get (by simp <;> omega) c3, hg, Or.inr rfl, by rw [hx.1]; exact hq, fun p2 fr2 z1 z2 => by
  obtain ⟨e1, e2, e3⟩ := pin p2 fr2 z1
  subst e3
  have gl : ∀ y, q + 4 ≤ y → y < h0.2.1 → h.1 y = h0.1 y := fun y hy _ => hx.2 y (by simp; omega)
  rw [e2]
  exact ((hM.gr (Nat.le_of_eq (congrArg Prod.fst hx.1).symm) gl).fk (i := 4) (j := 4) (by simp)).p5⟩
    · exact absurd hz b4
