/-! the class's reader: a line -/
theorem TPo.gx {tp : Nat → Nat} {h h2 : Hp} {S : List Nat} (x : TPo tp h) (e : Gx S h h2) (hS : 66 ∉ S) (hl : 66 < h.2.1) : TPo tp h2 := by
  obtain ⟨tb, c, q⟩ := x
  exact ⟨tb, e.get hS hl c, q⟩
theorem lxE_word {tp : Nat → Nat} {n p k : Nat} (ht : TOk tp n) (hk : lxK tp n p = k) (h23 : k < 23) : lxE tp n p = lxS tp n p + (KW.getD k []).length := by
  have a1 := lxE_gt (tp := tp) (n := n) (p := p) (by omega)
  rcases tk_cases ht (p := p) (by omega) with z | z | z | z
  · omega
  · have z2 := z.2.2
    rw [hk] at z2
    have := (wordL_eq.mp ((kF_iff _ k h23 23 0 (by omega) (by omega)).mp z2.symm)).1
    omega
  · omega
  · omega
theorem pLaw_X {tp : Nat → Nat} {n rd p : Nat} {fr : FR} : pLaw tp n rd p fr = match lawX tp n rd p with
    | .ok (q, L) => .ok (q, lawSet rd fr L)
    | .error e => .error e := by
  unfold pLaw lawX
  show bnd (pEat tp n 31 (lxE tp n p) fr) (pLaw2 tp n rd) = match bnd (pEat tp n 31 (lxE tp n p) []) (lvl tp n rd 6).1 with
    | .ok (q, L) => .ok (q, lawSet rd fr L)
    | .error e => .error e
  unfold pEat
  by_cases h : lxK tp n (lxE tp n p) = 31
  · rw [if_pos h, if_pos h]
    rfl
  · rw [if_neg h, if_neg h]
    rfl
theorem yo_law {tp : Nat → Nat} {n rd p : Nat} {fr : FR} : yo tp n (pLaw tp n rd p fr) = yo tp n (lawX tp n rd p) := by
  rw [pLaw_X]
  match lawX tp n rd p with
  | .error e => rfl
  | .ok (q, L) => rfl
theorem law_in {tp : Nat → Nat} {n rd p p2 : Nat} {fr f2 : FR} (h : pLaw tp n rd p fr = .ok (p2, f2)) : ∃ L, lawX tp n rd p = .ok (p2, L) ∧ f2 = lawSet rd fr L := by
  rw [pLaw_X] at h
  match lawX tp n rd p, h with
  | .ok (q, L), h => cases h; exact ⟨L, rfl, rfl⟩
theorem MFr.law0 {h h2 : Hp} {q na : Nat} {fr : FR} {k f1 f2 fc : Nat → Int32} {w : SDT} {nl sl : Value} {pt : Int32} {L : List Nat} (m : MFr h q fr k f1 f2 w nl sl pt) (hF : FK 4 fr) (e : h.2.1 ≤ h2.2.1) (g : ∀ y, q + 4 ≤ y → y < h.2.1 → h2.1 y = h.1 y) (hn : q + 4 ≤ na ∧ na < h2.2.1) (ca : h2.1 na = some (aI L.length fc)) (hc : ∀ j, j < L.length → fc j = cmI (L.getD j 0)) : MFr h2 q (lawSet 0 fr L) k f1 f2 w (.ref na) sl pt := by
  obtain ⟨⟨a0, a1, a2, a3, a4, a5, a6, a7⟩, b1, b2, b3, b4, b5, b6⟩ := m
  have fe : ∀ j, j < 276 → j ≠ 8 → j ≠ 10 → j ≠ 12 → lawSet 0 fr L j = fr j := fun j h1 h2 h3 h4 => lawSet_ne h2 h3 h4 (by omega) (Or.inl (by omega))
  refine ⟨⟨?_, ?_, ?_, ?_, ?_, ?_, ?_, ?_⟩, fun j hj => by rw [fe _ (by omega) (by omega) (by omega) (by omega)]; exact b1 j hj, fun j hj => by rw [fe _ (by omega) (by omega) (by omega) (by omega)]; exact b2 j hj, ?_, Or.inr ⟨lawSet_8 (by decide), na, fc, rfl, hn.1, hn.2, ?_, fun j hj => ?_⟩, (b5.gr e g).of (fe _ (by omega) (by omega) (by omega) (by omega)) (fe _ (by omega) (by omega) (by omega) (by omega)) (fun h8 j hj => ?_), fun j h1 h2 => ?_⟩
  · rw [fe 0 (by omega) (by omega) (by omega) (by omega)]; exact a0
  · rw [fe 1 (by omega) (by omega) (by omega) (by omega)]; exact a1
  · rw [fe 2 (by omega) (by omega) (by omega) (by omega)]; exact a2
  · rw [fe 3 (by omega) (by omega) (by omega) (by omega)]; exact a3
  · rw [fe 4 (by omega) (by omega) (by omega) (by omega)]; exact a4
  · rw [fe 6 (by omega) (by omega) (by omega) (by omega)]; exact a5
  · rw [fe 7 (by omega) (by omega) (by omega) (by omega)]; exact a6
  · rw [fe 5 (by omega) (by omega) (by omega) (by omega)]; exact a7
  · rw [b3]; exact sdL_congr fun j hj => (fe _ (by omega) (by omega) (by omega) (by omega)).symm
  · rw [lawSet_12]; exact ca
  · rw [lawSet_12] at hj
    unfold lawF
    rw [lawSet_10 (by decide), lawSet_code (by decide) hj]
    exact hc j hj
  · have := hF.2.2.2.2.2.2.2.2.2.2.1.resolve_left (by rw [h8]; decide)
    unfold lawF
    rw [fe (10 + 1) (by omega) (by omega) (by omega) (by omega)]
    exact lawSet_ne (by omega) (by omega) (by omega) (by omega) (Or.inl (by have := this.2.1; omega))
  · rw [fe 3 (by omega) (by omega) (by omega) (by omega)] at h1
    rw [fe _ (by omega) (by omega) (by omega) (by omega)]
    exact b6 j h1 h2
theorem MFr.law1 {h h2 : Hp} {q na : Nat} {fr : FR} {k f1 f2 fc : Nat → Int32} {w : SDT} {nl sl : Value} {pt : Int32} {L : List Nat} (m : MFr h q fr k f1 f2 w nl sl pt) (hF : FK 4 fr) (e : h.2.1 ≤ h2.2.1) (g : ∀ y, q + 4 ≤ y → y < h.2.1 → h2.1 y = h.1 y) (hn : q + 4 ≤ na ∧ na < h2.2.1) (ca : h2.1 na = some (aI L.length fc)) (hc : ∀ j, j < L.length → fc j = cmI (L.getD j 0)) : MFr h2 q (lawSet 1 fr L) k f1 f2 w nl (.ref na) pt := by
  obtain ⟨⟨a0, a1, a2, a3, a4, a5, a6, a7⟩, b1, b2, b3, b4, b5, b6⟩ := m
  have fe : ∀ j, j < 276 → j ≠ 9 → j ≠ 11 → j ≠ 13 → lawSet 1 fr L j = fr j := fun j h1 h2 h3 h4 => lawSet_ne h2 h3 h4 (by omega) (Or.inl (by omega))
  refine ⟨⟨?_, ?_, ?_, ?_, ?_, ?_, ?_, ?_⟩, fun j hj => by rw [fe _ (by omega) (by omega) (by omega) (by omega)]; exact b1 j hj, fun j hj => by rw [fe _ (by omega) (by omega) (by omega) (by omega)]; exact b2 j hj, ?_, (b4.gr e g).of (fe _ (by omega) (by omega) (by omega) (by omega)) (fe _ (by omega) (by omega) (by omega) (by omega)) (fun h8 j hj => ?_), Or.inr ⟨lawSet_8 (by decide), na, fc, rfl, hn.1, hn.2, ?_, fun j hj => ?_⟩, fun j h1 h2 => ?_⟩
  · rw [fe 0 (by omega) (by omega) (by omega) (by omega)]; exact a0
  · rw [fe 1 (by omega) (by omega) (by omega) (by omega)]; exact a1
  · rw [fe 2 (by omega) (by omega) (by omega) (by omega)]; exact a2
  · rw [fe 3 (by omega) (by omega) (by omega) (by omega)]; exact a3
  · rw [fe 4 (by omega) (by omega) (by omega) (by omega)]; exact a4
  · rw [fe 6 (by omega) (by omega) (by omega) (by omega)]; exact a5
  · rw [fe 7 (by omega) (by omega) (by omega) (by omega)]; exact a6
  · rw [fe 5 (by omega) (by omega) (by omega) (by omega)]; exact a7
  · rw [b3]; exact sdL_congr fun j hj => (fe _ (by omega) (by omega) (by omega) (by omega)).symm
  · have := hF.2.2.2.2.2.2.2.2.2.1.1.resolve_left (by rw [h8]; decide)
    unfold lawF
    rw [fe (10 + 0) (by omega) (by omega) (by omega) (by omega)]
    exact lawSet_ne (by omega) (by omega) (by omega) (by omega) (Or.inl (by have := this.2.1; omega))
  · rw [lawSet_12]; exact ca
  · rw [lawSet_12] at hj
    unfold lawF
    rw [lawSet_10 (by decide), lawSet_code (by decide) hj]
    exact hc j hj
  · rw [fe 3 (by omega) (by omega) (by omega) (by omega)] at h1
    rw [fe _ (by omega) (by omega) (by omega) (by omega)]
    exact b6 j h1 h2
theorem RmL.trans {tp : Nat → Nat} {n : Nat} {h h1 h2 : Hp} {x x1 x2 : PX FR} (a : RmL tp n h h1 x x1) (b : RmL tp n h1 h2 x1 x2) : RmL tp n h h2 x x2 := by
  unfold RmL at a b ⊢
  omega
set_option maxRecDepth 20000 in
set_option maxHeartbeats 1000000 in
theorem L_line {E : EnvT} {d : Nat} {h0 : Hp} {tp : Nat → Nat} {n : Nat} {ta sg : Int32} {q p : Nat} {fr : FR} (hW : WF1 fr) (hF : FK 4 fr) (h26 : lxK tp n p ≠ 26) (h25 : lxK tp n p ≠ 25) (hL : LN tp n ta sg q (.ok (p, fr)) h0) (hP : TPo tp h0) (ht : TOk tp n) (hd : 61 ≤ d) : Cn E mX3_readLine d [.ref 65] h0 (LNQ tp n ta sg q h0 (.ok (p, fr)) (bnd (pLine tp n p fr) (pEnds tp n))) := by
  have hL0 := hL
  have hP0 := hP
  obtain ⟨t, ne, inz, pt, cl, k, f1, f2, w, nl, sl, c65, hT, ⟨cd, c67⟩, cq, c1, c2, c3, hg, hpt, hq, hM⟩ := hL0
  have hq1 := hq.1
  have hn9 := ht.1
  have hM := hM p fr rfl h26
  rw [yo_ok h26] at hT
  have hT9 := hT
  obtain ⟨hp, _, rfl⟩ := hT9
  have hx : Ex [65, q, q + 3] h0 h0 := Ex.rf
  have fin : ∀ (h : Hp) (x : PX FR), LN tp n ta sg q x h → Gx (UWc q) h0 h → RmL tp n h0 h (.ok (p, fr)) x → Fr E mX3_readLine d 191 [.ref 65] [] h (LNQ tp n ta sg q h0 (.ok (p, fr)) (bnd x (pEnds tp n))) := by
    intro h x hL hgx hrm
    have hP := hP.gx hgx (by simp <;> omega) (by omega)
    obtain ⟨t, ne, inz, pt, cl, k, f1, f2, w, nl, sl, c65, _⟩ := id hL
    refine r_aload_n (pc2 := 192) 0 dX3_readLine_191 rfl rfl rfl rfl ?_
    refine r_callV0 (pc2 := 195) (As := []) (st := []) kX3_128 rfl rfl dX3_readLine_192 c65 (by decide) rfl rfl (Nat.le_of_ble_eq_true rfl) (by omega) (L_end hL hP ht (by omega)) rfl (fun h2 hq9 => ?_)
    obtain ⟨g1, g2, g3⟩ := hq9
    exact r_vret rfl dX3_readLine_195 ⟨rfl, hgx.trans g1 (fun _ z => z), hrm.trans g2, g3⟩
  by_cases hk : lxK tp n p = 3
  · have eL : (pLine tp n p fr) = pGoer tp n p fr := if_pos hk
    rw [eL]
    refine Cn.go (ls := [.ref 65]) (by decide +kernel) rfl (Nat.le_of_ble_eq_true rfl) ?_
    refine r_aload_n (pc2 := 1) 0 dX3_readLine_0 rfl rfl rfl rfl ?_
    refine r_ldcS (pc2 := 3) 3 (by decide) rfl rfl dX3_readLine_1 rfl ?_
    refine r_callV1 (pc2 := 6) (As := [.ref 3]) (st := []) kX3_88 rfl rfl dX3_readLine_3 c65 (by decide) rfl rfl (Nat.le_of_ble_eq_true rfl) (by omega) (c_wordY (x := 3) (t := (0, -1, nI (ckK tp n p), nI (lxS tp n p), nI (lxE tp n p))) (y := .ok p) (by decide) (isY_y hk) c65 hT hP ht (by omega)) rfl (fun h2 hq3 => ?_)
    obtain rfl := hq3.symm
    refine r_if_eq (tgt := 16) (pc2 := 9) dX3_readLine_6 (by decide) rfl (fun b6 => ?_) (fun b6 => ?_)
    · exact absurd b6 (by decide)
    · skip
      refine r_aload_n (pc2 := 10) 0 dX3_readLine_9 rfl rfl rfl rfl ?_
      refine r_callV0 (pc2 := 13) (As := []) (st := []) kX3_140 rfl rfl dX3_readLine_10 c65 (by decide) rfl rfl (Nat.le_of_ble_eq_true rfl) (by omega) (L_goer hW hF hk hL hP ht (by omega)) rfl (fun h hq10 => ?_)
      obtain ⟨hgx, hrm, hL⟩ := hq10
      refine r_goto (pc2 := 191) dX3_readLine_13 (by decide) ?_
      exact fin _ _ hL hgx hrm
  · have n3 := hk
    by_cases hk : lxK tp n p = 7
    · have eL : (pLine tp n p fr) = pPeople tp n p fr := by unfold pLine; rw [if_neg n3, if_pos hk]
      rw [eL]
      refine Cn.go (ls := [.ref 65]) (by decide +kernel) rfl (Nat.le_of_ble_eq_true rfl) ?_
      refine r_aload_n (pc2 := 1) 0 dX3_readLine_0 rfl rfl rfl rfl ?_
      refine r_ldcS (pc2 := 3) 3 (by decide) rfl rfl dX3_readLine_1 rfl ?_
      refine r_callV1 (pc2 := 6) (As := [.ref 3]) (st := []) kX3_88 rfl rfl dX3_readLine_3 c65 (by decide) rfl rfl (Nat.le_of_ble_eq_true rfl) (by omega) (c_wordN (x := 3) (t := (0, -1, nI (ckK tp n p), nI (lxS tp n p), nI (lxE tp n p))) (y := .ok p) (by decide) (isY_n (show lxK tp n p ≠ 3 by rw [hk]; decide)) c65 hT hP ht (by omega)) rfl (fun h2 hq3 => ?_)
      obtain rfl := hq3.symm
      refine r_if_eq (tgt := 16) (pc2 := 9) dX3_readLine_6 (by decide) rfl (fun b6 => ?_) (fun b6 => ?_)
      · skip
        refine r_aload_n (pc2 := 17) 0 dX3_readLine_16 rfl rfl rfl rfl ?_
        refine r_ldcS (pc2 := 19) 7 (by decide) rfl rfl dX3_readLine_17 rfl ?_
        refine r_callV1 (pc2 := 22) (As := [.ref 7]) (st := []) kX3_88 rfl rfl dX3_readLine_19 c65 (by decide) rfl rfl (Nat.le_of_ble_eq_true rfl) (by omega) (c_wordY (x := 7) (t := (0, -1, nI (ckK tp n p), nI (lxS tp n p), nI (lxE tp n p))) (y := .ok p) (by decide) (isY_y hk) c65 hT hP ht (by omega)) rfl (fun h2 hq19 => ?_)
        obtain rfl := hq19.symm
        refine r_if_eq (tgt := 32) (pc2 := 25) dX3_readLine_22 (by decide) rfl (fun b22 => ?_) (fun b22 => ?_)
        · exact absurd b22 (by decide)
        · skip
          refine r_aload_n (pc2 := 26) 0 dX3_readLine_25 rfl rfl rfl rfl ?_
          refine r_callV0 (pc2 := 29) (As := []) (st := []) kX3_145 rfl rfl dX3_readLine_26 c65 (by decide) rfl rfl (Nat.le_of_ble_eq_true rfl) (by omega) (L_people hW hk hL hP ht (by omega)) rfl (fun h hq26 => ?_)
          obtain ⟨hgx, hrm, hL⟩ := hq26
          refine r_goto (pc2 := 191) dX3_readLine_29 (by decide) ?_
          exact fin _ _ hL hgx hrm
      · exact absurd b6 (by decide)
    · have n7 := hk
      by_cases hk : lxK tp n p = 8
      · have eL : (pLine tp n p fr) = pHint tp n 1 p fr := by unfold pLine; rw [if_neg n3, if_neg n7, if_pos hk]
        rw [eL]
        refine Cn.go (ls := [.ref 65]) (by decide +kernel) rfl (Nat.le_of_ble_eq_true rfl) ?_
        refine r_aload_n (pc2 := 1) 0 dX3_readLine_0 rfl rfl rfl rfl ?_
        refine r_ldcS (pc2 := 3) 3 (by decide) rfl rfl dX3_readLine_1 rfl ?_
        refine r_callV1 (pc2 := 6) (As := [.ref 3]) (st := []) kX3_88 rfl rfl dX3_readLine_3 c65 (by decide) rfl rfl (Nat.le_of_ble_eq_true rfl) (by omega) (c_wordN (x := 3) (t := (0, -1, nI (ckK tp n p), nI (lxS tp n p), nI (lxE tp n p))) (y := .ok p) (by decide) (isY_n (show lxK tp n p ≠ 3 by rw [hk]; decide)) c65 hT hP ht (by omega)) rfl (fun h2 hq3 => ?_)
        obtain rfl := hq3.symm
        refine r_if_eq (tgt := 16) (pc2 := 9) dX3_readLine_6 (by decide) rfl (fun b6 => ?_) (fun b6 => ?_)
        · skip
          refine r_aload_n (pc2 := 17) 0 dX3_readLine_16 rfl rfl rfl rfl ?_
          refine r_ldcS (pc2 := 19) 7 (by decide) rfl rfl dX3_readLine_17 rfl ?_
          refine r_callV1 (pc2 := 22) (As := [.ref 7]) (st := []) kX3_88 rfl rfl dX3_readLine_19 c65 (by decide) rfl rfl (Nat.le_of_ble_eq_true rfl) (by omega) (c_wordN (x := 7) (t := (0, -1, nI (ckK tp n p), nI (lxS tp n p), nI (lxE tp n p))) (y := .ok p) (by decide) (isY_n (show lxK tp n p ≠ 7 by rw [hk]; decide)) c65 hT hP ht (by omega)) rfl (fun h2 hq19 => ?_)
          obtain rfl := hq19.symm
          refine r_if_eq (tgt := 32) (pc2 := 25) dX3_readLine_22 (by decide) rfl (fun b22 => ?_) (fun b22 => ?_)
          · skip
            refine r_aload_n (pc2 := 33) 0 dX3_readLine_32 rfl rfl rfl rfl ?_
            refine r_ldcS (pc2 := 35) 8 (by decide) rfl rfl dX3_readLine_33 rfl ?_
            refine r_callV1 (pc2 := 38) (As := [.ref 8]) (st := []) kX3_88 rfl rfl dX3_readLine_35 c65 (by decide) rfl rfl (Nat.le_of_ble_eq_true rfl) (by omega) (c_wordY (x := 8) (t := (0, -1, nI (ckK tp n p), nI (lxS tp n p), nI (lxE tp n p))) (y := .ok p) (by decide) (isY_y hk) c65 hT hP ht (by omega)) rfl (fun h2 hq35 => ?_)
            obtain rfl := hq35.symm
            refine r_if_ne (tgt := 50) (pc2 := 41) dX3_readLine_38 (by decide) rfl (fun b38 => ?_) (fun b38 => ?_)
            · skip
              refine r_aload_n (pc2 := 51) 0 dX3_readLine_50 rfl rfl rfl rfl ?_
              refine r_aload_n (pc2 := 52) 0 dX3_readLine_51 rfl rfl rfl rfl ?_
              refine r_ldcS (pc2 := 54) 8 (by decide) rfl rfl dX3_readLine_52 rfl ?_
              refine r_callV1 (pc2 := 57) (As := [.ref 8]) (st := [.ref 65]) kX3_88 rfl rfl dX3_readLine_54 c65 (by decide) rfl rfl (Nat.le_of_ble_eq_true rfl) (by omega) (c_wordY (x := 8) (t := (0, -1, nI (ckK tp n p), nI (lxS tp n p), nI (lxE tp n p))) (y := .ok p) (by decide) (isY_y hk) c65 hT hP ht (by omega)) rfl (fun h2 hq54 => ?_)
              obtain rfl := hq54.symm
              refine r_callV0 (pc2 := 60) (As := [.int 1]) (st := []) kX3_152 rfl rfl dX3_readLine_57 c65 (by decide) rfl rfl (Nat.le_of_ble_eq_true rfl) (by omega) (L_hint (i := 1) hW h26 h25 (Or.inr ⟨rfl, rfl⟩) hL hP ht (by omega)) rfl (fun h hq57 => ?_)
              obtain ⟨hgx, hrm, hL⟩ := hq57
              refine r_goto (pc2 := 191) dX3_readLine_60 (by decide) ?_
              exact fin _ _ hL hgx hrm
            · exact absurd b38 (by decide)
          · exact absurd b22 (by decide)
        · exact absurd b6 (by decide)
      · have n8 := hk
        by_cases hk : lxK tp n p = 22
        · have eL : (pLine tp n p fr) = pHint tp n 0 p fr := by unfold pLine; rw [if_neg n3, if_neg n7, if_neg n8, if_pos hk]
          rw [eL]
          refine Cn.go (ls := [.ref 65]) (by decide +kernel) rfl (Nat.le_of_ble_eq_true rfl) ?_
          refine r_aload_n (pc2 := 1) 0 dX3_readLine_0 rfl rfl rfl rfl ?_
          refine r_ldcS (pc2 := 3) 3 (by decide) rfl rfl dX3_readLine_1 rfl ?_
          refine r_callV1 (pc2 := 6) (As := [.ref 3]) (st := []) kX3_88 rfl rfl dX3_readLine_3 c65 (by decide) rfl rfl (Nat.le_of_ble_eq_true rfl) (by omega) (c_wordN (x := 3) (t := (0, -1, nI (ckK tp n p), nI (lxS tp n p), nI (lxE tp n p))) (y := .ok p) (by decide) (isY_n (show lxK tp n p ≠ 3 by rw [hk]; decide)) c65 hT hP ht (by omega)) rfl (fun h2 hq3 => ?_)
          obtain rfl := hq3.symm
          refine r_if_eq (tgt := 16) (pc2 := 9) dX3_readLine_6 (by decide) rfl (fun b6 => ?_) (fun b6 => ?_)
          · skip
            refine r_aload_n (pc2 := 17) 0 dX3_readLine_16 rfl rfl rfl rfl ?_
            refine r_ldcS (pc2 := 19) 7 (by decide) rfl rfl dX3_readLine_17 rfl ?_
            refine r_callV1 (pc2 := 22) (As := [.ref 7]) (st := []) kX3_88 rfl rfl dX3_readLine_19 c65 (by decide) rfl rfl (Nat.le_of_ble_eq_true rfl) (by omega) (c_wordN (x := 7) (t := (0, -1, nI (ckK tp n p), nI (lxS tp n p), nI (lxE tp n p))) (y := .ok p) (by decide) (isY_n (show lxK tp n p ≠ 7 by rw [hk]; decide)) c65 hT hP ht (by omega)) rfl (fun h2 hq19 => ?_)
            obtain rfl := hq19.symm
            refine r_if_eq (tgt := 32) (pc2 := 25) dX3_readLine_22 (by decide) rfl (fun b22 => ?_) (fun b22 => ?_)
            · skip
              refine r_aload_n (pc2 := 33) 0 dX3_readLine_32 rfl rfl rfl rfl ?_
              refine r_ldcS (pc2 := 35) 8 (by decide) rfl rfl dX3_readLine_33 rfl ?_
              refine r_callV1 (pc2 := 38) (As := [.ref 8]) (st := []) kX3_88 rfl rfl dX3_readLine_35 c65 (by decide) rfl rfl (Nat.le_of_ble_eq_true rfl) (by omega) (c_wordN (x := 8) (t := (0, -1, nI (ckK tp n p), nI (lxS tp n p), nI (lxE tp n p))) (y := .ok p) (by decide) (isY_n (show lxK tp n p ≠ 8 by rw [hk]; decide)) c65 hT hP ht (by omega)) rfl (fun h2 hq35 => ?_)
              obtain rfl := hq35.symm
              refine r_if_ne (tgt := 50) (pc2 := 41) dX3_readLine_38 (by decide) rfl (fun b38 => ?_) (fun b38 => ?_)
              · exact absurd b38 (by decide)
              · skip
                refine r_aload_n (pc2 := 42) 0 dX3_readLine_41 rfl rfl rfl rfl ?_
                refine r_ldcS (pc2 := 44) 9 (by decide) rfl rfl dX3_readLine_42 rfl ?_
                refine r_callV1 (pc2 := 47) (As := [.ref 9]) (st := []) kX3_88 rfl rfl dX3_readLine_44 c65 (by decide) rfl rfl (Nat.le_of_ble_eq_true rfl) (by omega) (c_wordY (x := 9) (t := (0, -1, nI (ckK tp n p), nI (lxS tp n p), nI (lxE tp n p))) (y := .ok p) (by decide) (isY_y hk) c65 hT hP ht (by omega)) rfl (fun h2 hq44 => ?_)
                obtain rfl := hq44.symm
                refine r_if_eq (tgt := 63) (pc2 := 50) dX3_readLine_47 (by decide) rfl (fun b47 => ?_) (fun b47 => ?_)
                · exact absurd b47 (by decide)
                · skip
                  refine r_aload_n (pc2 := 51) 0 dX3_readLine_50 rfl rfl rfl rfl ?_
                  refine r_aload_n (pc2 := 52) 0 dX3_readLine_51 rfl rfl rfl rfl ?_
                  refine r_ldcS (pc2 := 54) 8 (by decide) rfl rfl dX3_readLine_52 rfl ?_
                  refine r_callV1 (pc2 := 57) (As := [.ref 8]) (st := [.ref 65]) kX3_88 rfl rfl dX3_readLine_54 c65 (by decide) rfl rfl (Nat.le_of_ble_eq_true rfl) (by omega) (c_wordN (x := 8) (t := (0, -1, nI (ckK tp n p), nI (lxS tp n p), nI (lxE tp n p))) (y := .ok p) (by decide) (isY_n (show lxK tp n p ≠ 8 by rw [hk]; decide)) c65 hT hP ht (by omega)) rfl (fun h2 hq54 => ?_)
                  obtain rfl := hq54.symm
                  refine r_callV0 (pc2 := 60) (As := [.int 0]) (st := []) kX3_152 rfl rfl dX3_readLine_57 c65 (by decide) rfl rfl (Nat.le_of_ble_eq_true rfl) (by omega) (L_hint (i := 0) hW h26 h25 (Or.inl ⟨rfl, rfl⟩) hL hP ht (by omega)) rfl (fun h hq57 => ?_)
                  obtain ⟨hgx, hrm, hL⟩ := hq57
                  refine r_goto (pc2 := 191) dX3_readLine_60 (by decide) ?_
                  exact fin _ _ hL hgx hrm
            · exact absurd b22 (by decide)
          · exact absurd b6 (by decide)
        · have n22 := hk
          by_cases hk : lxK tp n p = 9
          · have eL : (pLine tp n p fr) = pCart tp n p fr := by unfold pLine; rw [if_neg n3, if_neg n7, if_neg n8, if_neg n22, if_pos hk]
            rw [eL]
            have yoA0 : yo tp n (.ok (lxE tp n p, fr) : PX FR) = eatY tp n (kx 10) (.ok p) := (eat_nx hk).symm
            have yoA : yo tp n (bnd (pNx tp n p fr) (pSet tp n 0 (fun _ => 11) 6)) = (tkY tp n 0 11 (eatY tp n (kx 10) (.ok p))) := by rw [yoS (Hn := 11) _ (fun _ _ _ => rfl)]; exact congrArg _ yoA0
            have yoB : yo tp n (bnd (bnd (pNx tp n p fr) (pSet tp n 0 (fun _ => 11) 6)) (pEat tp n 10)) = eatY tp n (kx 11) (yo tp n (bnd (pNx tp n p fr) (pSet tp n 0 (fun _ => 11) 6))) := yo_eat (by decide) _
            have yoC : yo tp n (pCart tp n p fr) = tkY tp n 0 10 (eatY tp n (kx 11) (tkY tp n 0 11 (eatY tp n (kx 10) (.ok p)))) := by
              unfold pCart
              rw [yoS (Hn := 10) _ (fun _ _ _ => rfl), yoB, yoA]
            have plC : lxS tp n p ≤ plY tp n (tkY tp n 0 10 (eatY tp n (kx 11) (tkY tp n 0 11 (eatY tp n (kx 10) (.ok p))))) := Nat.le_trans (plY_eat (y := .ok p) (by decide)) (Nat.le_trans (plY_tk _) (Nat.le_trans (plY_eat (by decide) _) (plY_tk _)))
            refine Cn.go (ls := [.ref 65]) (by decide +kernel) rfl (Nat.le_of_ble_eq_true rfl) ?_
            refine r_aload_n (pc2 := 1) 0 dX3_readLine_0 rfl rfl rfl rfl ?_
            refine r_ldcS (pc2 := 3) 3 (by decide) rfl rfl dX3_readLine_1 rfl ?_
            refine r_callV1 (pc2 := 6) (As := [.ref 3]) (st := []) kX3_88 rfl rfl dX3_readLine_3 c65 (by decide) rfl rfl (Nat.le_of_ble_eq_true rfl) (by omega) (c_wordN (x := 3) (t := (0, -1, nI (ckK tp n p), nI (lxS tp n p), nI (lxE tp n p))) (y := .ok p) (by decide) (isY_n (show lxK tp n p ≠ 3 by rw [hk]; decide)) c65 hT hP ht (by omega)) rfl (fun h2 hq3 => ?_)
            obtain rfl := hq3.symm
            refine r_if_eq (tgt := 16) (pc2 := 9) dX3_readLine_6 (by decide) rfl (fun b6 => ?_) (fun b6 => ?_)
            · skip
              refine r_aload_n (pc2 := 17) 0 dX3_readLine_16 rfl rfl rfl rfl ?_
              refine r_ldcS (pc2 := 19) 7 (by decide) rfl rfl dX3_readLine_17 rfl ?_
              refine r_callV1 (pc2 := 22) (As := [.ref 7]) (st := []) kX3_88 rfl rfl dX3_readLine_19 c65 (by decide) rfl rfl (Nat.le_of_ble_eq_true rfl) (by omega) (c_wordN (x := 7) (t := (0, -1, nI (ckK tp n p), nI (lxS tp n p), nI (lxE tp n p))) (y := .ok p) (by decide) (isY_n (show lxK tp n p ≠ 7 by rw [hk]; decide)) c65 hT hP ht (by omega)) rfl (fun h2 hq19 => ?_)
              obtain rfl := hq19.symm
              refine r_if_eq (tgt := 32) (pc2 := 25) dX3_readLine_22 (by decide) rfl (fun b22 => ?_) (fun b22 => ?_)
              · skip
                refine r_aload_n (pc2 := 33) 0 dX3_readLine_32 rfl rfl rfl rfl ?_
                refine r_ldcS (pc2 := 35) 8 (by decide) rfl rfl dX3_readLine_33 rfl ?_
                refine r_callV1 (pc2 := 38) (As := [.ref 8]) (st := []) kX3_88 rfl rfl dX3_readLine_35 c65 (by decide) rfl rfl (Nat.le_of_ble_eq_true rfl) (by omega) (c_wordN (x := 8) (t := (0, -1, nI (ckK tp n p), nI (lxS tp n p), nI (lxE tp n p))) (y := .ok p) (by decide) (isY_n (show lxK tp n p ≠ 8 by rw [hk]; decide)) c65 hT hP ht (by omega)) rfl (fun h2 hq35 => ?_)
                obtain rfl := hq35.symm
                refine r_if_ne (tgt := 50) (pc2 := 41) dX3_readLine_38 (by decide) rfl (fun b38 => ?_) (fun b38 => ?_)
                · exact absurd b38 (by decide)
                · skip
                  refine r_aload_n (pc2 := 42) 0 dX3_readLine_41 rfl rfl rfl rfl ?_
                  refine r_ldcS (pc2 := 44) 9 (by decide) rfl rfl dX3_readLine_42 rfl ?_
                  refine r_callV1 (pc2 := 47) (As := [.ref 9]) (st := []) kX3_88 rfl rfl dX3_readLine_44 c65 (by decide) rfl rfl (Nat.le_of_ble_eq_true rfl) (by omega) (c_wordN (x := 9) (t := (0, -1, nI (ckK tp n p), nI (lxS tp n p), nI (lxE tp n p))) (y := .ok p) (by decide) (isY_n (show lxK tp n p ≠ 22 by rw [hk]; decide)) c65 hT hP ht (by omega)) rfl (fun h2 hq44 => ?_)
                  obtain rfl := hq44.symm
                  refine r_if_eq (tgt := 63) (pc2 := 50) dX3_readLine_47 (by decide) rfl (fun b47 => ?_) (fun b47 => ?_)
                  · skip
                    refine r_aload_n (pc2 := 64) 0 dX3_readLine_63 rfl rfl rfl rfl ?_
                    refine r_ldcS (pc2 := 66) 10 (by decide) rfl rfl dX3_readLine_64 rfl ?_
                    refine r_callV1 (pc2 := 69) (As := [.ref 10]) (st := []) kX3_88 rfl rfl dX3_readLine_66 c65 (by decide) rfl rfl (Nat.le_of_ble_eq_true rfl) (by omega) (c_wordY (x := 10) (t := (0, -1, nI (ckK tp n p), nI (lxS tp n p), nI (lxE tp n p))) (y := .ok p) (by decide) (isY_y hk) c65 hT hP ht (by omega)) rfl (fun h2 hq66 => ?_)
                    obtain rfl := hq66.symm
                    refine r_if_eq (tgt := 107) (pc2 := 72) dX3_readLine_69 (by decide) rfl (fun b69 => ?_) (fun b69 => ?_)
                    · exact absurd b69 (by decide)
                    · skip
                      refine r_aload_n (pc2 := 73) 0 dX3_readLine_72 rfl rfl rfl rfl ?_
                      refine r_getf (pc2 := 76) (v := .ref q) fX3_28 dX3_readLine_73 c65 (by decide) rfl rfl ?_
                      refine r_aload_n (pc2 := 77) 0 dX3_readLine_76 rfl rfl rfl rfl ?_
                      refine r_ldcS (pc2 := 79) 10 (by decide) rfl rfl dX3_readLine_77 rfl ?_
                      refine r_iconst (pc2 := 80) (v := 0) dX3_readLine_79 (by decide) rfl ?_
                      refine r_bipush (pc2 := 82) (v := 10) dX3_readLine_80 (by decide) rfl ?_
                      refine r_callV1 (pc2 := 85) (As := [.ref 10, .int 0, .int 10]) (st := [.ref q]) kX3_108 rfl rfl dX3_readLine_82 c65 (by decide) rfl rfl (Nat.le_of_ble_eq_true rfl) (by omega) (c_passWordNumber (x := 10) (lo := 0) (H := 11) (t := (0, -1, nI (ckK tp n p), nI (lxS tp n p), nI (lxE tp n p))) (y := .ok p) (by decide) (fun _ _ => ⟨rfl, rfl⟩) (by decide) (by decide) c65 hT hP ht (by omega)) rfl (fun h hq82 => ?_)
                      obtain ⟨hxa, t2, c65, hT2⟩ := hq82
                      have cq := hxa.get (by simp <;> omega) cq
                      have c3 := hxa.get (by simp <;> omega) c3
                      have hx := hx.trans hxa (by simp)
                      have hP := hP.ex hxa (by decide)
                      refine r_putfX (pc2 := 88) [.int sg, .int (k 0), .int (k 1), .int (k 2), .int (k 3), .ref (q + 1), .ref (q + 2), .int (k 4), .int (nI (tkV tp n 0 11 (eatY tp n (kx 10) (.ok p)))), .int (k 6), .ref (q + 3), nl, sl] fX3_158 dX3_readLine_85 cq (by omega) (Nat.le_of_ble_eq_true rfl) rfl rfl rfl (fun h z85 o85 cq => ?_)
                      have c65 := (o85 65 (by omega)).trans c65
                      have c3 := (o85 (q + 3) (by omega)).trans c3
                      have hx := hx.step (a := q) (by simp) z85 o85
                      have hP := hP0.ex hx (by simp <;> omega)
                      refine r_aload_n (pc2 := 89) 0 dX3_readLine_88 rfl rfl rfl rfl ?_
                      refine r_getf (pc2 := 92) (v := .ref q) fX3_28 dX3_readLine_89 c65 (by decide) rfl rfl ?_
                      refine r_aload_n (pc2 := 93) 0 dX3_readLine_92 rfl rfl rfl rfl ?_
                      refine r_ldcS (pc2 := 95) 11 (by decide) rfl rfl dX3_readLine_93 rfl ?_
                      refine r_iconst (pc2 := 96) (v := 0) dX3_readLine_95 (by decide) rfl ?_
                      refine r_bipush (pc2 := 98) (v := 9) dX3_readLine_96 (by decide) rfl ?_
                      refine r_callV1 (pc2 := 101) (As := [.ref 11, .int 0, .int 9]) (st := [.ref q]) kX3_108 rfl rfl dX3_readLine_98 c65 (by decide) rfl rfl (Nat.le_of_ble_eq_true rfl) (by omega) (c_passWordNumber (x := 11) (lo := 0) (H := 10) (t := t2) (y := (tkY tp n 0 11 (eatY tp n (kx 10) (.ok p)))) (by decide) (fun _ _ => ⟨rfl, rfl⟩) (by decide) (by decide) c65 hT2 hP ht (by omega)) rfl (fun h hq98 => ?_)
                      obtain ⟨hxa, t3, c65, hT3⟩ := hq98
                      have cq := hxa.get (by simp <;> omega) cq
                      have c3 := hxa.get (by simp <;> omega) c3
                      have hx := hx.trans hxa (by simp)
                      have hP := hP.ex hxa (by decide)
                      refine r_putfX (pc2 := 104) [.int sg, .int (k 0), .int (k 1), .int (k 2), .int (k 3), .ref (q + 1), .ref (q + 2), .int (k 4), .int (nI (tkV tp n 0 11 (eatY tp n (kx 10) (.ok p)))), .int (nI (tkV tp n 0 10 (eatY tp n (kx 11) (tkY tp n 0 11 (eatY tp n (kx 10) (.ok p)))))), .ref (q + 3), nl, sl] fX3_163 dX3_readLine_101 cq (by omega) (Nat.le_of_ble_eq_true rfl) rfl rfl rfl (fun h z101 o101 cq => ?_)
                      have c65 := (o101 65 (by omega)).trans c65
                      have c3 := (o101 (q + 3) (by omega)).trans c3
                      have hx := hx.step (a := q) (by simp) z101 o101
                      refine r_goto (pc2 := 191) dX3_readLine_104 (by decide) ?_
                      exact fin _ _ ⟨t3, ne, inz, pt, cl, upd (upd k 5 (nI (tkV tp n 0 11 (eatY tp n (kx 10) (.ok p))))) 6 (nI (tkV tp n 0 10 (eatY tp n (kx 11) (tkY tp n 0 11 (eatY tp n (kx 10) (.ok p)))))), f1, f2, w, nl, sl, c65, by rw [yoC]; exact hT3, ⟨cd, hx.get (by simp <;> omega) c67⟩, cq, hx.get (by simp <;> omega) c1, hx.get (by simp <;> omega) c2, c3, hg, hpt, by rw [hx.1]; exact hq, fun p2 fr2 z1 z2 => by
                        obtain ⟨pa, fa, s1, s2, s3⟩ := setB_in z1
                        obtain ⟨pb, s4, s5⟩ := eatB_in (by decide) s1
                        obtain ⟨pc, fc, s6, s7, s8⟩ := setB_in s4
                        cases s6
                        rw [yoB, yoA] at s3
                        rw [show yo tp n (pNx tp n p fr) = eatY tp n (kx 10) (.ok p) from yoA0] at s8
                        rw [s3, s8]
                        exact ((hM.gr (Nat.le_of_eq (congrArg Prod.fst hx.1).symm) (fun y hy _ => hx.2 y (by simp <;> omega))).fk (i := 6) (j := 5) (by simp)).fk (i := 7) (j := 6) (by simp)⟩ (hx.gx.mono (by simp)) (RmL.same hx.1 (plc_of yoC plC))
                  · exact absurd b47 (by decide)
              · exact absurd b22 (by decide)
            · exact absurd b6 (by decide)
          · have n9 := hk
            by_cases hk : lxK tp n p = 11
            · have eL : (pLine tp n p fr) = bnd (pNx tp n p fr) (pSet tp n 0 (fun _ => 10) 27) := by unfold pLine; rw [if_neg n3, if_neg n7, if_neg n8, if_neg n22, if_neg n9, if_pos hk]
              rw [eL]
              have yoA0 : yo tp n (.ok (lxE tp n p, fr) : PX FR) = eatY tp n (kx 12) (.ok p) := (eat_nx hk).symm
              have yoD : yo tp n (bnd (pNx tp n p fr) (pSet tp n 0 (fun _ => 10) 27)) = tkY tp n 0 10 (eatY tp n (kx 12) (.ok p)) := by rw [yoS (Hn := 10) _ (fun _ _ _ => rfl)]; exact congrArg _ yoA0
              have plD : lxS tp n p ≤ plY tp n (tkY tp n 0 10 (eatY tp n (kx 12) (.ok p))) := Nat.le_trans (plY_eat (y := .ok p) (by decide)) (plY_tk _)
              refine Cn.go (ls := [.ref 65]) (by decide +kernel) rfl (Nat.le_of_ble_eq_true rfl) ?_
              refine r_aload_n (pc2 := 1) 0 dX3_readLine_0 rfl rfl rfl rfl ?_
              refine r_ldcS (pc2 := 3) 3 (by decide) rfl rfl dX3_readLine_1 rfl ?_
              refine r_callV1 (pc2 := 6) (As := [.ref 3]) (st := []) kX3_88 rfl rfl dX3_readLine_3 c65 (by decide) rfl rfl (Nat.le_of_ble_eq_true rfl) (by omega) (c_wordN (x := 3) (t := (0, -1, nI (ckK tp n p), nI (lxS tp n p), nI (lxE tp n p))) (y := .ok p) (by decide) (isY_n (show lxK tp n p ≠ 3 by rw [hk]; decide)) c65 hT hP ht (by omega)) rfl (fun h2 hq3 => ?_)
              obtain rfl := hq3.symm
              refine r_if_eq (tgt := 16) (pc2 := 9) dX3_readLine_6 (by decide) rfl (fun b6 => ?_) (fun b6 => ?_)
              · skip
                refine r_aload_n (pc2 := 17) 0 dX3_readLine_16 rfl rfl rfl rfl ?_
                refine r_ldcS (pc2 := 19) 7 (by decide) rfl rfl dX3_readLine_17 rfl ?_
                refine r_callV1 (pc2 := 22) (As := [.ref 7]) (st := []) kX3_88 rfl rfl dX3_readLine_19 c65 (by decide) rfl rfl (Nat.le_of_ble_eq_true rfl) (by omega) (c_wordN (x := 7) (t := (0, -1, nI (ckK tp n p), nI (lxS tp n p), nI (lxE tp n p))) (y := .ok p) (by decide) (isY_n (show lxK tp n p ≠ 7 by rw [hk]; decide)) c65 hT hP ht (by omega)) rfl (fun h2 hq19 => ?_)
                obtain rfl := hq19.symm
                refine r_if_eq (tgt := 32) (pc2 := 25) dX3_readLine_22 (by decide) rfl (fun b22 => ?_) (fun b22 => ?_)
                · skip
                  refine r_aload_n (pc2 := 33) 0 dX3_readLine_32 rfl rfl rfl rfl ?_
                  refine r_ldcS (pc2 := 35) 8 (by decide) rfl rfl dX3_readLine_33 rfl ?_
                  refine r_callV1 (pc2 := 38) (As := [.ref 8]) (st := []) kX3_88 rfl rfl dX3_readLine_35 c65 (by decide) rfl rfl (Nat.le_of_ble_eq_true rfl) (by omega) (c_wordN (x := 8) (t := (0, -1, nI (ckK tp n p), nI (lxS tp n p), nI (lxE tp n p))) (y := .ok p) (by decide) (isY_n (show lxK tp n p ≠ 8 by rw [hk]; decide)) c65 hT hP ht (by omega)) rfl (fun h2 hq35 => ?_)
                  obtain rfl := hq35.symm
                  refine r_if_ne (tgt := 50) (pc2 := 41) dX3_readLine_38 (by decide) rfl (fun b38 => ?_) (fun b38 => ?_)
                  · exact absurd b38 (by decide)
                  · skip
                    refine r_aload_n (pc2 := 42) 0 dX3_readLine_41 rfl rfl rfl rfl ?_
                    refine r_ldcS (pc2 := 44) 9 (by decide) rfl rfl dX3_readLine_42 rfl ?_
                    refine r_callV1 (pc2 := 47) (As := [.ref 9]) (st := []) kX3_88 rfl rfl dX3_readLine_44 c65 (by decide) rfl rfl (Nat.le_of_ble_eq_true rfl) (by omega) (c_wordN (x := 9) (t := (0, -1, nI (ckK tp n p), nI (lxS tp n p), nI (lxE tp n p))) (y := .ok p) (by decide) (isY_n (show lxK tp n p ≠ 22 by rw [hk]; decide)) c65 hT hP ht (by omega)) rfl (fun h2 hq44 => ?_)
                    obtain rfl := hq44.symm
                    refine r_if_eq (tgt := 63) (pc2 := 50) dX3_readLine_47 (by decide) rfl (fun b47 => ?_) (fun b47 => ?_)
                    · skip
                      refine r_aload_n (pc2 := 64) 0 dX3_readLine_63 rfl rfl rfl rfl ?_
                      refine r_ldcS (pc2 := 66) 10 (by decide) rfl rfl dX3_readLine_64 rfl ?_
                      refine r_callV1 (pc2 := 69) (As := [.ref 10]) (st := []) kX3_88 rfl rfl dX3_readLine_66 c65 (by decide) rfl rfl (Nat.le_of_ble_eq_true rfl) (by omega) (c_wordN (x := 10) (t := (0, -1, nI (ckK tp n p), nI (lxS tp n p), nI (lxE tp n p))) (y := .ok p) (by decide) (isY_n (show lxK tp n p ≠ 9 by rw [hk]; decide)) c65 hT hP ht (by omega)) rfl (fun h2 hq66 => ?_)
                      obtain rfl := hq66.symm
                      refine r_if_eq (tgt := 107) (pc2 := 72) dX3_readLine_69 (by decide) rfl (fun b69 => ?_) (fun b69 => ?_)
                      · skip
                        refine r_aload_n (pc2 := 108) 0 dX3_readLine_107 rfl rfl rfl rfl ?_
                        refine r_ldcS (pc2 := 110) 12 (by decide) rfl rfl dX3_readLine_108 rfl ?_
                        refine r_callV1 (pc2 := 113) (As := [.ref 12]) (st := []) kX3_88 rfl rfl dX3_readLine_110 c65 (by decide) rfl rfl (Nat.le_of_ble_eq_true rfl) (by omega) (c_wordY (x := 12) (t := (0, -1, nI (ckK tp n p), nI (lxS tp n p), nI (lxE tp n p))) (y := .ok p) (by decide) (isY_y hk) c65 hT hP ht (by omega)) rfl (fun h2 hq110 => ?_)
                        obtain rfl := hq110.symm
                        refine r_if_eq (tgt := 138) (pc2 := 116) dX3_readLine_113 (by decide) rfl (fun b113 => ?_) (fun b113 => ?_)
                        · exact absurd b113 (by decide)
                        · skip
                          refine r_aload_n (pc2 := 117) 0 dX3_readLine_116 rfl rfl rfl rfl ?_
                          refine r_getf (pc2 := 120) (v := .ref q) fX3_28 dX3_readLine_117 c65 (by decide) rfl rfl ?_
                          refine r_getf (pc2 := 123) (v := .ref (q + 3)) fX3_119 dX3_readLine_120 cq (by omega) rfl rfl ?_
                          refine r_aload_n (pc2 := 124) 0 dX3_readLine_123 rfl rfl rfl rfl ?_
                          refine r_ldcS (pc2 := 126) 12 (by decide) rfl rfl dX3_readLine_124 rfl ?_
                          refine r_iconst (pc2 := 127) (v := 0) dX3_readLine_126 (by decide) rfl ?_
                          refine r_bipush (pc2 := 129) (v := 9) dX3_readLine_127 (by decide) rfl ?_
                          refine r_callV1 (pc2 := 132) (As := [.ref 12, .int 0, .int 9]) (st := [.ref (q + 3)]) kX3_108 rfl rfl dX3_readLine_129 c65 (by decide) rfl rfl (Nat.le_of_ble_eq_true rfl) (by omega) (c_passWordNumber (x := 12) (lo := 0) (H := 10) (t := (0, -1, nI (ckK tp n p), nI (lxS tp n p), nI (lxE tp n p))) (y := .ok p) (by decide) (fun _ _ => ⟨rfl, rfl⟩) (by decide) (by decide) c65 hT hP ht (by omega)) rfl (fun h hq129 => ?_)
                          obtain ⟨hxa, t2, c65, hT2⟩ := hq129
                          have cq := hxa.get (by simp <;> omega) cq
                          have c3 := hxa.get (by simp <;> omega) c3
                          have hx := hx.trans hxa (by simp)
                          have hP := hP.ex hxa (by decide)
                          refine r_putfX (pc2 := 135) [.int w.1, .int w.2.1, .long w.2.2.1, .long w.2.2.2.1, .int (nI (tkV tp n 0 10 (eatY tp n (kx 12) (.ok p)))), .int w.2.2.2.2.2] fX3_168 dX3_readLine_132 c3 (by omega) (Nat.le_of_ble_eq_true rfl) rfl rfl rfl (fun h z132 o132 c3 => ?_)
                          have c65 := (o132 65 (by omega)).trans c65
                          have cq := (o132 q (by omega)).trans cq
                          have hx := hx.step (a := (q + 3)) (by simp) z132 o132
                          refine r_goto (pc2 := 191) dX3_readLine_135 (by decide) ?_
                          exact fin _ _ ⟨t2, ne, inz, pt, cl, k, f1, f2, (w.1, w.2.1, w.2.2.1, w.2.2.2.1, nI (tkV tp n 0 10 (eatY tp n (kx 12) (.ok p))), w.2.2.2.2.2), nl, sl, c65, by rw [yoD]; exact hT2, ⟨cd, hx.get (by simp <;> omega) c67⟩, cq, hx.get (by simp <;> omega) c1, hx.get (by simp <;> omega) c2, c3, hg, hpt, by rw [hx.1]; exact hq, fun p2 fr2 z1 z2 => by
                            obtain ⟨pc, fc, s6, s7, s8⟩ := setB_in (x := .ok (lxE tp n p, fr)) z1
                            cases s6
                            rw [yoA0] at s8
                            rw [s8]
                            exact (hM.gr (Nat.le_of_eq (congrArg Prod.fst hx.1).symm) (fun y hy _ => hx.2 y (by simp <;> omega))).w27⟩ (hx.gx.mono (by simp)) (RmL.same hx.1 (plc_of yoD plD))
                      · exact absurd b69 (by decide)
                    · exact absurd b47 (by decide)
                · exact absurd b22 (by decide)
              · exact absurd b6 (by decide)
            · have n11 := hk
              obtain ⟨na, ena⟩ : ∃ z : Nat, z = h0.2.1 := ⟨_, rfl⟩
              by_cases hk : lxK tp n p = 10
              · have eL : (pLine tp n p fr) = pLaw tp n 0 p fr := by unfold pLine; rw [if_neg n3, if_neg n7, if_neg n8, if_neg n22, if_neg n9, if_neg n11, if_pos hk]
                rw [eL]
                refine Cn.go (ls := [.ref 65]) (by decide +kernel) rfl (Nat.le_of_ble_eq_true rfl) ?_
                refine r_aload_n (pc2 := 1) 0 dX3_readLine_0 rfl rfl rfl rfl ?_
                refine r_ldcS (pc2 := 3) 3 (by decide) rfl rfl dX3_readLine_1 rfl ?_
                refine r_callV1 (pc2 := 6) (As := [.ref 3]) (st := []) kX3_88 rfl rfl dX3_readLine_3 c65 (by decide) rfl rfl (Nat.le_of_ble_eq_true rfl) (by omega) (c_wordN (x := 3) (t := (0, -1, nI (ckK tp n p), nI (lxS tp n p), nI (lxE tp n p))) (y := .ok p) (by decide) (isY_n (show lxK tp n p ≠ 3 by rw [hk]; decide)) c65 hT hP ht (by omega)) rfl (fun h2 hq3 => ?_)
                obtain rfl := hq3.symm
                refine r_if_eq (tgt := 16) (pc2 := 9) dX3_readLine_6 (by decide) rfl (fun b6 => ?_) (fun b6 => ?_)
                · skip
                  refine r_aload_n (pc2 := 17) 0 dX3_readLine_16 rfl rfl rfl rfl ?_
                  refine r_ldcS (pc2 := 19) 7 (by decide) rfl rfl dX3_readLine_17 rfl ?_
                  refine r_callV1 (pc2 := 22) (As := [.ref 7]) (st := []) kX3_88 rfl rfl dX3_readLine_19 c65 (by decide) rfl rfl (Nat.le_of_ble_eq_true rfl) (by omega) (c_wordN (x := 7) (t := (0, -1, nI (ckK tp n p), nI (lxS tp n p), nI (lxE tp n p))) (y := .ok p) (by decide) (isY_n (show lxK tp n p ≠ 7 by rw [hk]; decide)) c65 hT hP ht (by omega)) rfl (fun h2 hq19 => ?_)
                  obtain rfl := hq19.symm
                  refine r_if_eq (tgt := 32) (pc2 := 25) dX3_readLine_22 (by decide) rfl (fun b22 => ?_) (fun b22 => ?_)
                  · skip
                    refine r_aload_n (pc2 := 33) 0 dX3_readLine_32 rfl rfl rfl rfl ?_
                    refine r_ldcS (pc2 := 35) 8 (by decide) rfl rfl dX3_readLine_33 rfl ?_
                    refine r_callV1 (pc2 := 38) (As := [.ref 8]) (st := []) kX3_88 rfl rfl dX3_readLine_35 c65 (by decide) rfl rfl (Nat.le_of_ble_eq_true rfl) (by omega) (c_wordN (x := 8) (t := (0, -1, nI (ckK tp n p), nI (lxS tp n p), nI (lxE tp n p))) (y := .ok p) (by decide) (isY_n (show lxK tp n p ≠ 8 by rw [hk]; decide)) c65 hT hP ht (by omega)) rfl (fun h2 hq35 => ?_)
                    obtain rfl := hq35.symm
                    refine r_if_ne (tgt := 50) (pc2 := 41) dX3_readLine_38 (by decide) rfl (fun b38 => ?_) (fun b38 => ?_)
                    · exact absurd b38 (by decide)
                    · skip
                      refine r_aload_n (pc2 := 42) 0 dX3_readLine_41 rfl rfl rfl rfl ?_
                      refine r_ldcS (pc2 := 44) 9 (by decide) rfl rfl dX3_readLine_42 rfl ?_
                      refine r_callV1 (pc2 := 47) (As := [.ref 9]) (st := []) kX3_88 rfl rfl dX3_readLine_44 c65 (by decide) rfl rfl (Nat.le_of_ble_eq_true rfl) (by omega) (c_wordN (x := 9) (t := (0, -1, nI (ckK tp n p), nI (lxS tp n p), nI (lxE tp n p))) (y := .ok p) (by decide) (isY_n (show lxK tp n p ≠ 22 by rw [hk]; decide)) c65 hT hP ht (by omega)) rfl (fun h2 hq44 => ?_)
                      obtain rfl := hq44.symm
                      refine r_if_eq (tgt := 63) (pc2 := 50) dX3_readLine_47 (by decide) rfl (fun b47 => ?_) (fun b47 => ?_)
                      · skip
                        refine r_aload_n (pc2 := 64) 0 dX3_readLine_63 rfl rfl rfl rfl ?_
                        refine r_ldcS (pc2 := 66) 10 (by decide) rfl rfl dX3_readLine_64 rfl ?_
                        refine r_callV1 (pc2 := 69) (As := [.ref 10]) (st := []) kX3_88 rfl rfl dX3_readLine_66 c65 (by decide) rfl rfl (Nat.le_of_ble_eq_true rfl) (by omega) (c_wordN (x := 10) (t := (0, -1, nI (ckK tp n p), nI (lxS tp n p), nI (lxE tp n p))) (y := .ok p) (by decide) (isY_n (show lxK tp n p ≠ 9 by rw [hk]; decide)) c65 hT hP ht (by omega)) rfl (fun h2 hq66 => ?_)
                        obtain rfl := hq66.symm
                        refine r_if_eq (tgt := 107) (pc2 := 72) dX3_readLine_69 (by decide) rfl (fun b69 => ?_) (fun b69 => ?_)
                        · skip
                          refine r_aload_n (pc2 := 108) 0 dX3_readLine_107 rfl rfl rfl rfl ?_
                          refine r_ldcS (pc2 := 110) 12 (by decide) rfl rfl dX3_readLine_108 rfl ?_
                          refine r_callV1 (pc2 := 113) (As := [.ref 12]) (st := []) kX3_88 rfl rfl dX3_readLine_110 c65 (by decide) rfl rfl (Nat.le_of_ble_eq_true rfl) (by omega) (c_wordN (x := 12) (t := (0, -1, nI (ckK tp n p), nI (lxS tp n p), nI (lxE tp n p))) (y := .ok p) (by decide) (isY_n (show lxK tp n p ≠ 11 by rw [hk]; decide)) c65 hT hP ht (by omega)) rfl (fun h2 hq110 => ?_)
                          obtain rfl := hq110.symm
                          refine r_if_eq (tgt := 138) (pc2 := 116) dX3_readLine_113 (by decide) rfl (fun b113 => ?_) (fun b113 => ?_)
                          · skip
                            refine r_aload_n (pc2 := 139) 0 dX3_readLine_138 rfl rfl rfl rfl ?_
                            refine r_ldcS (pc2 := 141) 11 (by decide) rfl rfl dX3_readLine_139 rfl ?_
                            refine r_callV1 (pc2 := 144) (As := [.ref 11]) (st := []) kX3_88 rfl rfl dX3_readLine_141 c65 (by decide) rfl rfl (Nat.le_of_ble_eq_true rfl) (by omega) (c_wordY (x := 11) (t := (0, -1, nI (ckK tp n p), nI (lxS tp n p), nI (lxE tp n p))) (y := .ok p) (by decide) (isY_y hk) c65 hT hP ht (by omega)) rfl (fun h2 hq141 => ?_)
                            obtain rfl := hq141.symm
                            refine r_if_eq (tgt := 162) (pc2 := 147) dX3_readLine_144 (by decide) rfl (fun b144 => ?_) (fun b144 => ?_)
                            · exact absurd b144 (by decide)
                            · skip
                              refine r_aload_n (pc2 := 148) 0 dX3_readLine_147 rfl rfl rfl rfl ?_
                              refine r_getf (pc2 := 151) (v := .ref q) fX3_28 dX3_readLine_148 c65 (by decide) rfl rfl ?_
                              refine r_aload_n (pc2 := 152) 0 dX3_readLine_151 rfl rfl rfl rfl ?_
                              refine r_iconst (pc2 := 153) (v := 1) dX3_readLine_152 (by decide) rfl ?_
                              refine r_callV2 (pc2 := 156) (As := [.int 1]) (st := [.ref q]) kX3_170 rfl rfl dX3_readLine_153 c65 (by decide) rfl rfl (Nat.le_of_ble_eq_true rfl) (by omega) (c_readLaw (rd := 0) (Or.inl ⟨rfl, rfl⟩) c65 c67 hT h25 (by omega) hP ht (by omega)) rfl (fun v153 h hq153 => ?_)
                              obtain ⟨t2, N, g9, cd2, hv9, ⟨z1, z2, z3, z4⟩, hgx, c65, c67, cna, hT2, hcode⟩ := hq153
                              rw [← ena] at hv9 z1 cna
                              subst hv9
                              have cq := hgx.get (by simp <;> omega) (by omega) cq
                              have c3 := hgx.get (by simp <;> omega) (by omega) c3
                              obtain ⟨h9, eh9⟩ : ∃ z : Hp, z = h := ⟨_, rfl⟩
                              subst eh9
                              refine r_putfX (pc2 := 159) [.int sg, .int (k 0), .int (k 1), .int (k 2), .int (k 3), .ref (q + 1), .ref (q + 2), .int (k 4), .int (k 5), .int (k 6), .ref (q + 3), .ref na, sl] fX3_174 dX3_readLine_156 cq (by omega) (Nat.le_of_ble_eq_true rfl) (okA (by omega)) rfl rfl (fun h z156 o156 cq => ?_)
                              have c65 := (o156 65 (by omega)).trans c65
                              have c3 := (o156 (q + 3) (by omega)).trans c3
                              have cna := (o156 na (by omega)).trans cna
                              refine r_goto (pc2 := 191) dX3_readLine_159 (by decide) ?_
                              have c1b := (o156 (q + 1) (by omega)).trans (hgx.get (by simp <;> omega) (by omega) c1)
                              have c2b := (o156 (q + 2) (by omega)).trans (hgx.get (by simp <;> omega) (by omega) c2)
                              have c67b := (o156 67 (by omega)).trans c67
                              exact fin _ _ ⟨t2, 0, 1, pt, nI N, k, f1, f2, w, .ref na, sl, c65, by rw [yo_law]; exact hT2, ⟨cd2, c67b⟩, cq, c1b, c2b, c3, hg, hpt, by rw [z156]; omega, fun p2 fr2 z5 z6 => by
                                obtain ⟨L9, s1, s2⟩ := law_in z5
                                obtain ⟨n1, n2⟩ := hcode p2 L9 s1 z6
                                subst n1
                                rw [s2]
                                exact hM.law0 hF (by rw [z156]; omega) (fun y hy yl => (o156 y (by omega)).trans (hgx.2 y yl (by simp <;> omega))) ⟨by omega, by rw [z156]; omega⟩ cna n2⟩ ⟨by rw [z156]; omega, fun y yl ys => (o156 y (fun z => ys (by rw [z]; simp))).trans (hgx.2 y yl (fun z => ys (by revert z; simp; omega)))⟩ (by
                                have w1 := lxE_word ht hk (by decide)
                                have w2 : (KW.getD 10 []).length = 5 := by decide
                                have w3 : plc tp n (pLaw tp n 0 p fr) = plc tp n (lawX tp n 0 p) := by rw [plc_eqY, plc_eqY, yo_law]
                                have w4 : plc tp n (.ok (p, fr) : PX FR) = lxS tp n p := rfl
                                have w5 : h.2.1 = h9.2.1 := by rw [z156]
                                have w6 : h.2.2 = h9.2.2 := by rw [z156]
                                unfold RmL
                                omega)
                          · exact absurd b113 (by decide)
                        · exact absurd b69 (by decide)
                      · exact absurd b47 (by decide)
                  · exact absurd b22 (by decide)
                · exact absurd b6 (by decide)
              · have n10 := hk
                by_cases hk : lxK tp n p = 12
                · have eL : (pLine tp n p fr) = pLaw tp n 1 p fr := by unfold pLine; rw [if_neg n3, if_neg n7, if_neg n8, if_neg n22, if_neg n9, if_neg n11, if_neg n10, if_pos hk]
                  rw [eL]
                  refine Cn.go (ls := [.ref 65]) (by decide +kernel) rfl (Nat.le_of_ble_eq_true rfl) ?_
                  refine r_aload_n (pc2 := 1) 0 dX3_readLine_0 rfl rfl rfl rfl ?_
                  refine r_ldcS (pc2 := 3) 3 (by decide) rfl rfl dX3_readLine_1 rfl ?_
                  refine r_callV1 (pc2 := 6) (As := [.ref 3]) (st := []) kX3_88 rfl rfl dX3_readLine_3 c65 (by decide) rfl rfl (Nat.le_of_ble_eq_true rfl) (by omega) (c_wordN (x := 3) (t := (0, -1, nI (ckK tp n p), nI (lxS tp n p), nI (lxE tp n p))) (y := .ok p) (by decide) (isY_n (show lxK tp n p ≠ 3 by rw [hk]; decide)) c65 hT hP ht (by omega)) rfl (fun h2 hq3 => ?_)
                  obtain rfl := hq3.symm
                  refine r_if_eq (tgt := 16) (pc2 := 9) dX3_readLine_6 (by decide) rfl (fun b6 => ?_) (fun b6 => ?_)
                  · skip
                    refine r_aload_n (pc2 := 17) 0 dX3_readLine_16 rfl rfl rfl rfl ?_
                    refine r_ldcS (pc2 := 19) 7 (by decide) rfl rfl dX3_readLine_17 rfl ?_
                    refine r_callV1 (pc2 := 22) (As := [.ref 7]) (st := []) kX3_88 rfl rfl dX3_readLine_19 c65 (by decide) rfl rfl (Nat.le_of_ble_eq_true rfl) (by omega) (c_wordN (x := 7) (t := (0, -1, nI (ckK tp n p), nI (lxS tp n p), nI (lxE tp n p))) (y := .ok p) (by decide) (isY_n (show lxK tp n p ≠ 7 by rw [hk]; decide)) c65 hT hP ht (by omega)) rfl (fun h2 hq19 => ?_)
                    obtain rfl := hq19.symm
                    refine r_if_eq (tgt := 32) (pc2 := 25) dX3_readLine_22 (by decide) rfl (fun b22 => ?_) (fun b22 => ?_)
                    · skip
                      refine r_aload_n (pc2 := 33) 0 dX3_readLine_32 rfl rfl rfl rfl ?_
                      refine r_ldcS (pc2 := 35) 8 (by decide) rfl rfl dX3_readLine_33 rfl ?_
                      refine r_callV1 (pc2 := 38) (As := [.ref 8]) (st := []) kX3_88 rfl rfl dX3_readLine_35 c65 (by decide) rfl rfl (Nat.le_of_ble_eq_true rfl) (by omega) (c_wordN (x := 8) (t := (0, -1, nI (ckK tp n p), nI (lxS tp n p), nI (lxE tp n p))) (y := .ok p) (by decide) (isY_n (show lxK tp n p ≠ 8 by rw [hk]; decide)) c65 hT hP ht (by omega)) rfl (fun h2 hq35 => ?_)
                      obtain rfl := hq35.symm
                      refine r_if_ne (tgt := 50) (pc2 := 41) dX3_readLine_38 (by decide) rfl (fun b38 => ?_) (fun b38 => ?_)
                      · exact absurd b38 (by decide)
                      · skip
                        refine r_aload_n (pc2 := 42) 0 dX3_readLine_41 rfl rfl rfl rfl ?_
                        refine r_ldcS (pc2 := 44) 9 (by decide) rfl rfl dX3_readLine_42 rfl ?_
                        refine r_callV1 (pc2 := 47) (As := [.ref 9]) (st := []) kX3_88 rfl rfl dX3_readLine_44 c65 (by decide) rfl rfl (Nat.le_of_ble_eq_true rfl) (by omega) (c_wordN (x := 9) (t := (0, -1, nI (ckK tp n p), nI (lxS tp n p), nI (lxE tp n p))) (y := .ok p) (by decide) (isY_n (show lxK tp n p ≠ 22 by rw [hk]; decide)) c65 hT hP ht (by omega)) rfl (fun h2 hq44 => ?_)
                        obtain rfl := hq44.symm
                        refine r_if_eq (tgt := 63) (pc2 := 50) dX3_readLine_47 (by decide) rfl (fun b47 => ?_) (fun b47 => ?_)
                        · skip
                          refine r_aload_n (pc2 := 64) 0 dX3_readLine_63 rfl rfl rfl rfl ?_
                          refine r_ldcS (pc2 := 66) 10 (by decide) rfl rfl dX3_readLine_64 rfl ?_
                          refine r_callV1 (pc2 := 69) (As := [.ref 10]) (st := []) kX3_88 rfl rfl dX3_readLine_66 c65 (by decide) rfl rfl (Nat.le_of_ble_eq_true rfl) (by omega) (c_wordN (x := 10) (t := (0, -1, nI (ckK tp n p), nI (lxS tp n p), nI (lxE tp n p))) (y := .ok p) (by decide) (isY_n (show lxK tp n p ≠ 9 by rw [hk]; decide)) c65 hT hP ht (by omega)) rfl (fun h2 hq66 => ?_)
                          obtain rfl := hq66.symm
                          refine r_if_eq (tgt := 107) (pc2 := 72) dX3_readLine_69 (by decide) rfl (fun b69 => ?_) (fun b69 => ?_)
                          · skip
                            refine r_aload_n (pc2 := 108) 0 dX3_readLine_107 rfl rfl rfl rfl ?_
                            refine r_ldcS (pc2 := 110) 12 (by decide) rfl rfl dX3_readLine_108 rfl ?_
                            refine r_callV1 (pc2 := 113) (As := [.ref 12]) (st := []) kX3_88 rfl rfl dX3_readLine_110 c65 (by decide) rfl rfl (Nat.le_of_ble_eq_true rfl) (by omega) (c_wordN (x := 12) (t := (0, -1, nI (ckK tp n p), nI (lxS tp n p), nI (lxE tp n p))) (y := .ok p) (by decide) (isY_n (show lxK tp n p ≠ 11 by rw [hk]; decide)) c65 hT hP ht (by omega)) rfl (fun h2 hq110 => ?_)
                            obtain rfl := hq110.symm
                            refine r_if_eq (tgt := 138) (pc2 := 116) dX3_readLine_113 (by decide) rfl (fun b113 => ?_) (fun b113 => ?_)
                            · skip
                              refine r_aload_n (pc2 := 139) 0 dX3_readLine_138 rfl rfl rfl rfl ?_
                              refine r_ldcS (pc2 := 141) 11 (by decide) rfl rfl dX3_readLine_139 rfl ?_
                              refine r_callV1 (pc2 := 144) (As := [.ref 11]) (st := []) kX3_88 rfl rfl dX3_readLine_141 c65 (by decide) rfl rfl (Nat.le_of_ble_eq_true rfl) (by omega) (c_wordN (x := 11) (t := (0, -1, nI (ckK tp n p), nI (lxS tp n p), nI (lxE tp n p))) (y := .ok p) (by decide) (isY_n (show lxK tp n p ≠ 10 by rw [hk]; decide)) c65 hT hP ht (by omega)) rfl (fun h2 hq141 => ?_)
                              obtain rfl := hq141.symm
                              refine r_if_eq (tgt := 162) (pc2 := 147) dX3_readLine_144 (by decide) rfl (fun b144 => ?_) (fun b144 => ?_)
                              · skip
                                refine r_aload_n (pc2 := 163) 0 dX3_readLine_162 rfl rfl rfl rfl ?_
                                refine r_ldcS (pc2 := 165) 22 (by decide) rfl rfl dX3_readLine_163 rfl ?_
                                refine r_callV1 (pc2 := 168) (As := [.ref 22]) (st := []) kX3_88 rfl rfl dX3_readLine_165 c65 (by decide) rfl rfl (Nat.le_of_ble_eq_true rfl) (by omega) (c_wordY (x := 22) (t := (0, -1, nI (ckK tp n p), nI (lxS tp n p), nI (lxE tp n p))) (y := .ok p) (by decide) (isY_y hk) c65 hT hP ht (by omega)) rfl (fun h2 hq165 => ?_)
                                obtain rfl := hq165.symm
                                refine r_if_eq (tgt := 186) (pc2 := 171) dX3_readLine_168 (by decide) rfl (fun b168 => ?_) (fun b168 => ?_)
                                · exact absurd b168 (by decide)
                                · skip
                                  refine r_aload_n (pc2 := 172) 0 dX3_readLine_171 rfl rfl rfl rfl ?_
                                  refine r_getf (pc2 := 175) (v := .ref q) fX3_28 dX3_readLine_172 c65 (by decide) rfl rfl ?_
                                  refine r_aload_n (pc2 := 176) 0 dX3_readLine_175 rfl rfl rfl rfl ?_
                                  refine r_iconst (pc2 := 177) (v := 0) dX3_readLine_176 (by decide) rfl ?_
                                  refine r_callV2 (pc2 := 180) (As := [.int 0]) (st := [.ref q]) kX3_170 rfl rfl dX3_readLine_177 c65 (by decide) rfl rfl (Nat.le_of_ble_eq_true rfl) (by omega) (c_readLaw (rd := 1) (Or.inr ⟨rfl, rfl⟩) c65 c67 hT h25 (by omega) hP ht (by omega)) rfl (fun v177 h hq177 => ?_)
                                  obtain ⟨t2, N, g9, cd2, hv9, ⟨z1, z2, z3, z4⟩, hgx, c65, c67, cna, hT2, hcode⟩ := hq177
                                  rw [← ena] at hv9 z1 cna
                                  subst hv9
                                  have cq := hgx.get (by simp <;> omega) (by omega) cq
                                  have c3 := hgx.get (by simp <;> omega) (by omega) c3
                                  obtain ⟨h9, eh9⟩ : ∃ z : Hp, z = h := ⟨_, rfl⟩
                                  subst eh9
                                  refine r_putfX (pc2 := 183) [.int sg, .int (k 0), .int (k 1), .int (k 2), .int (k 3), .ref (q + 1), .ref (q + 2), .int (k 4), .int (k 5), .int (k 6), .ref (q + 3), nl, .ref na] fX3_179 dX3_readLine_180 cq (by omega) (Nat.le_of_ble_eq_true rfl) (okA (by omega)) rfl rfl (fun h z180 o180 cq => ?_)
                                  have c65 := (o180 65 (by omega)).trans c65
                                  have c3 := (o180 (q + 3) (by omega)).trans c3
                                  have cna := (o180 na (by omega)).trans cna
                                  refine r_goto (pc2 := 191) dX3_readLine_183 (by decide) ?_
                                  have c1b := (o180 (q + 1) (by omega)).trans (hgx.get (by simp <;> omega) (by omega) c1)
                                  have c2b := (o180 (q + 2) (by omega)).trans (hgx.get (by simp <;> omega) (by omega) c2)
                                  have c67b := (o180 67 (by omega)).trans c67
                                  exact fin _ _ ⟨t2, 0, 0, pt, nI N, k, f1, f2, w, nl, .ref na, c65, by rw [yo_law]; exact hT2, ⟨cd2, c67b⟩, cq, c1b, c2b, c3, hg, hpt, by rw [z180]; omega, fun p2 fr2 z5 z6 => by
                                    obtain ⟨L9, s1, s2⟩ := law_in z5
                                    obtain ⟨n1, n2⟩ := hcode p2 L9 s1 z6
                                    subst n1
                                    rw [s2]
                                    exact hM.law1 hF (by rw [z180]; omega) (fun y hy yl => (o180 y (by omega)).trans (hgx.2 y yl (by simp <;> omega))) ⟨by omega, by rw [z180]; omega⟩ cna n2⟩ ⟨by rw [z180]; omega, fun y yl ys => (o180 y (fun z => ys (by rw [z]; simp))).trans (hgx.2 y yl (fun z => ys (by revert z; simp; omega)))⟩ (by
                                    have w1 := lxE_word ht hk (by decide)
                                    have w2 : (KW.getD 12 []).length = 6 := by decide
                                    have w3 : plc tp n (pLaw tp n 1 p fr) = plc tp n (lawX tp n 1 p) := by rw [plc_eqY, plc_eqY, yo_law]
                                    have w4 : plc tp n (.ok (p, fr) : PX FR) = lxS tp n p := rfl
                                    have w5 : h.2.1 = h9.2.1 := by rw [z180]
                                    have w6 : h.2.2 = h9.2.2 := by rw [z180]
                                    unfold RmL
                                    omega)
                              · exact absurd b144 (by decide)
                            · exact absurd b113 (by decide)
                          · exact absurd b69 (by decide)
                        · exact absurd b47 (by decide)
                    · exact absurd b22 (by decide)
                  · exact absurd b6 (by decide)
                · have n12 := hk
                  have eL : (pLine tp n p fr) = pFl tp n 2 p := by unfold pLine; rw [if_neg n3, if_neg n7, if_neg n8, if_neg n22, if_neg n9, if_neg n11, if_neg n10, if_neg n12]
                  rw [eL]
                  refine Cn.go (ls := [.ref 65]) (by decide +kernel) rfl (Nat.le_of_ble_eq_true rfl) ?_
                  refine r_aload_n (pc2 := 1) 0 dX3_readLine_0 rfl rfl rfl rfl ?_
                  refine r_ldcS (pc2 := 3) 3 (by decide) rfl rfl dX3_readLine_1 rfl ?_
                  refine r_callV1 (pc2 := 6) (As := [.ref 3]) (st := []) kX3_88 rfl rfl dX3_readLine_3 c65 (by decide) rfl rfl (Nat.le_of_ble_eq_true rfl) (by omega) (c_wordN (x := 3) (t := (0, -1, nI (ckK tp n p), nI (lxS tp n p), nI (lxE tp n p))) (y := .ok p) (by decide) (isY_n n3) c65 hT hP ht (by omega)) rfl (fun h2 hq3 => ?_)
                  obtain rfl := hq3.symm
                  refine r_if_eq (tgt := 16) (pc2 := 9) dX3_readLine_6 (by decide) rfl (fun b6 => ?_) (fun b6 => ?_)
                  · skip
                    refine r_aload_n (pc2 := 17) 0 dX3_readLine_16 rfl rfl rfl rfl ?_
                    refine r_ldcS (pc2 := 19) 7 (by decide) rfl rfl dX3_readLine_17 rfl ?_
                    refine r_callV1 (pc2 := 22) (As := [.ref 7]) (st := []) kX3_88 rfl rfl dX3_readLine_19 c65 (by decide) rfl rfl (Nat.le_of_ble_eq_true rfl) (by omega) (c_wordN (x := 7) (t := (0, -1, nI (ckK tp n p), nI (lxS tp n p), nI (lxE tp n p))) (y := .ok p) (by decide) (isY_n n7) c65 hT hP ht (by omega)) rfl (fun h2 hq19 => ?_)
                    obtain rfl := hq19.symm
                    refine r_if_eq (tgt := 32) (pc2 := 25) dX3_readLine_22 (by decide) rfl (fun b22 => ?_) (fun b22 => ?_)
                    · skip
                      refine r_aload_n (pc2 := 33) 0 dX3_readLine_32 rfl rfl rfl rfl ?_
                      refine r_ldcS (pc2 := 35) 8 (by decide) rfl rfl dX3_readLine_33 rfl ?_
                      refine r_callV1 (pc2 := 38) (As := [.ref 8]) (st := []) kX3_88 rfl rfl dX3_readLine_35 c65 (by decide) rfl rfl (Nat.le_of_ble_eq_true rfl) (by omega) (c_wordN (x := 8) (t := (0, -1, nI (ckK tp n p), nI (lxS tp n p), nI (lxE tp n p))) (y := .ok p) (by decide) (isY_n n8) c65 hT hP ht (by omega)) rfl (fun h2 hq35 => ?_)
                      obtain rfl := hq35.symm
                      refine r_if_ne (tgt := 50) (pc2 := 41) dX3_readLine_38 (by decide) rfl (fun b38 => ?_) (fun b38 => ?_)
                      · exact absurd b38 (by decide)
                      · skip
                        refine r_aload_n (pc2 := 42) 0 dX3_readLine_41 rfl rfl rfl rfl ?_
                        refine r_ldcS (pc2 := 44) 9 (by decide) rfl rfl dX3_readLine_42 rfl ?_
                        refine r_callV1 (pc2 := 47) (As := [.ref 9]) (st := []) kX3_88 rfl rfl dX3_readLine_44 c65 (by decide) rfl rfl (Nat.le_of_ble_eq_true rfl) (by omega) (c_wordN (x := 9) (t := (0, -1, nI (ckK tp n p), nI (lxS tp n p), nI (lxE tp n p))) (y := .ok p) (by decide) (isY_n n22) c65 hT hP ht (by omega)) rfl (fun h2 hq44 => ?_)
                        obtain rfl := hq44.symm
                        refine r_if_eq (tgt := 63) (pc2 := 50) dX3_readLine_47 (by decide) rfl (fun b47 => ?_) (fun b47 => ?_)
                        · skip
                          refine r_aload_n (pc2 := 64) 0 dX3_readLine_63 rfl rfl rfl rfl ?_
                          refine r_ldcS (pc2 := 66) 10 (by decide) rfl rfl dX3_readLine_64 rfl ?_
                          refine r_callV1 (pc2 := 69) (As := [.ref 10]) (st := []) kX3_88 rfl rfl dX3_readLine_66 c65 (by decide) rfl rfl (Nat.le_of_ble_eq_true rfl) (by omega) (c_wordN (x := 10) (t := (0, -1, nI (ckK tp n p), nI (lxS tp n p), nI (lxE tp n p))) (y := .ok p) (by decide) (isY_n n9) c65 hT hP ht (by omega)) rfl (fun h2 hq66 => ?_)
                          obtain rfl := hq66.symm
                          refine r_if_eq (tgt := 107) (pc2 := 72) dX3_readLine_69 (by decide) rfl (fun b69 => ?_) (fun b69 => ?_)
                          · skip
                            refine r_aload_n (pc2 := 108) 0 dX3_readLine_107 rfl rfl rfl rfl ?_
                            refine r_ldcS (pc2 := 110) 12 (by decide) rfl rfl dX3_readLine_108 rfl ?_
                            refine r_callV1 (pc2 := 113) (As := [.ref 12]) (st := []) kX3_88 rfl rfl dX3_readLine_110 c65 (by decide) rfl rfl (Nat.le_of_ble_eq_true rfl) (by omega) (c_wordN (x := 12) (t := (0, -1, nI (ckK tp n p), nI (lxS tp n p), nI (lxE tp n p))) (y := .ok p) (by decide) (isY_n n11) c65 hT hP ht (by omega)) rfl (fun h2 hq110 => ?_)
                            obtain rfl := hq110.symm
                            refine r_if_eq (tgt := 138) (pc2 := 116) dX3_readLine_113 (by decide) rfl (fun b113 => ?_) (fun b113 => ?_)
                            · skip
                              refine r_aload_n (pc2 := 139) 0 dX3_readLine_138 rfl rfl rfl rfl ?_
                              refine r_ldcS (pc2 := 141) 11 (by decide) rfl rfl dX3_readLine_139 rfl ?_
                              refine r_callV1 (pc2 := 144) (As := [.ref 11]) (st := []) kX3_88 rfl rfl dX3_readLine_141 c65 (by decide) rfl rfl (Nat.le_of_ble_eq_true rfl) (by omega) (c_wordN (x := 11) (t := (0, -1, nI (ckK tp n p), nI (lxS tp n p), nI (lxE tp n p))) (y := .ok p) (by decide) (isY_n n10) c65 hT hP ht (by omega)) rfl (fun h2 hq141 => ?_)
                              obtain rfl := hq141.symm
                              refine r_if_eq (tgt := 162) (pc2 := 147) dX3_readLine_144 (by decide) rfl (fun b144 => ?_) (fun b144 => ?_)
                              · skip
                                refine r_aload_n (pc2 := 163) 0 dX3_readLine_162 rfl rfl rfl rfl ?_
                                refine r_ldcS (pc2 := 165) 22 (by decide) rfl rfl dX3_readLine_163 rfl ?_
                                refine r_callV1 (pc2 := 168) (As := [.ref 22]) (st := []) kX3_88 rfl rfl dX3_readLine_165 c65 (by decide) rfl rfl (Nat.le_of_ble_eq_true rfl) (by omega) (c_wordN (x := 22) (t := (0, -1, nI (ckK tp n p), nI (lxS tp n p), nI (lxE tp n p))) (y := .ok p) (by decide) (isY_n n12) c65 hT hP ht (by omega)) rfl (fun h2 hq165 => ?_)
                                obtain rfl := hq165.symm
                                refine r_if_eq (tgt := 186) (pc2 := 171) dX3_readLine_168 (by decide) rfl (fun b168 => ?_) (fun b168 => ?_)
                                · skip
                                  refine r_aload_n (pc2 := 187) 0 dX3_readLine_186 rfl rfl rfl rfl ?_
                                  refine r_iconst (pc2 := 188) (v := 2) dX3_readLine_187 (by decide) rfl ?_
                                  refine r_callV0 (pc2 := 191) (As := [.int 2]) (st := []) kX3_76 rfl rfl dX3_readLine_188 c65 (by decide) rfl rfl (Nat.le_of_ble_eq_true rfl) (by omega) (c_refuse (f := 2) (t := (0, -1, nI (ckK tp n p), nI (lxS tp n p), nI (lxE tp n p))) (y := .ok p) (by decide) (by decide) rfl ht c65 hT) rfl (fun h hq188 => ?_)
                                  obtain ⟨hxa, t2, c65, hT2⟩ := hq188
                                  have cq := hxa.get (by simp <;> omega) cq
                                  have c3 := hxa.get (by simp <;> omega) c3
                                  have hx := hx.trans hxa (by simp)
                                  exact fin _ _ ⟨t2, ne, inz, pt, cl, k, f1, f2, w, nl, sl, c65, by rw [yo_fl h26]; exact hT2, ⟨cd, hx.get (by simp <;> omega) c67⟩, cq, hx.get (by simp <;> omega) c1, hx.get (by simp <;> omega) c2, c3, hg, hpt, by rw [hx.1]; exact hq, fun p2 fr2 z1 _ => by cases z1⟩ (hx.gx.mono (by simp)) (RmL.same hx.1 (Nat.le_refl _))
                                · exact absurd b168 (by decide)
                              · exact absurd b144 (by decide)
                            · exact absurd b113 (by decide)
                          · exact absurd b69 (by decide)
                        · exact absurd b47 (by decide)
                    · exact absurd b22 (by decide)
                  · exact absurd b6 (by decide)
