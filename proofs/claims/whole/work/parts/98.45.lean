/-! the class's reader: a street under way -/
def LWu (h : Hp) (fr : FR) (lw q : Nat) (v : Value) : Prop := (fr (8 + lw) = 0 ∧ v = .null) ∨ (fr (8 + lw) = 1 ∧ ∃ (na : Nat) (fc : Nat → Int32), v = .ref na ∧ q + 4 ≤ na ∧ na < h.2.1 ∧ h.1 na = some (aI (fr (12 + lw)) fc) ∧ ∀ k, k < fr (12 + lw) → fc k = cmI (lawF fr lw k))
abbrev SDT : Type := Int32 × Int32 × Int64 × Int64 × Int32 × Int32
def sdV (w : SDT) : List Value := [.int w.1, .int w.2.1, .long w.2.2.1, .long w.2.2.2.1, .int w.2.2.2.2.1, .int w.2.2.2.2.2]
def MFr (h : Hp) (q : Nat) (fr : FR) (k f1 f2 : Nat → Int32) (w : SDT) (nl sl : Value) (pt : Int32) : Prop := (k 0 = nI (fr 0) ∧ k 1 = nI (fr 1) ∧ k 2 = nI (fr 2) ∧ k 3 = nI (fr 3) ∧ k 4 = nI (fr 4) ∧ k 5 = nI (fr 6) ∧ k 6 = nI (fr 7) ∧ pt = nI (fr 5)) ∧ (∀ j, j < 4 → f1 j = nI (fr (14 + j))) ∧ (∀ j, j < 4 → f2 j = nI (fr (18 + j))) ∧ sdV w = sdL (keepV fr) ∧ LWu h fr 0 q nl ∧ LWu h fr 1 q sl ∧ ∀ j, fr 3 ≤ j → j < 4 → fr (18 + j) = 0
abbrev UWc (q : Nat) : List Nat := [65, 67, q, q + 1, q + 2, q + 3]
/-- the reader between two things that it reads: x is the parser's state, q the street under way -/
def LN (tp : Nat → Nat) (n : Nat) (ta sg : Int32) (q : Nat) (x : PX FR) (h : Hp) : Prop := ∃ (t : TkT) (ne inz pt cl : Int32) (k f1 f2 : Nat → Int32) (w : SDT) (nl sl : Value), h.1 65 = some (.inr (3, rdL n ta ne inz pt cl (.ref q) t)) ∧ TK tp n (yo tp n x) t ∧ (∃ cd, h.1 67 = some (aI 900 cd)) ∧ h.1 q = some (.inr (6, uwL sg k q nl sl)) ∧ h.1 (q + 1) = some (aI 4 f1) ∧ h.1 (q + 2) = some (aI 4 f2) ∧ h.1 (q + 3) = some (.inr (5, sdV w)) ∧ (∃ g : Nat, k 3 = nI g ∧ g ≤ 4) ∧ (pt = 0 ∨ pt = 1) ∧ (139 ≤ q ∧ q + 3 < h.2.1) ∧ ∀ p fr, x = .ok (p, fr) → lxK tp n p ≠ 26 → MFr h q fr k f1 f2 w nl sl pt
/-- room: a new cell costs five places of the text, a slot one -/
def RmL (tp : Nat → Nat) (n : Nat) (h h2 : Hp) (x x2 : PX FR) : Prop := 5 * h2.2.1 + plc tp n x ≤ 5 * h.2.1 + plc tp n x2 ∧ h2.2.2 + plc tp n x ≤ h.2.2 + plc tp n x2 ∧ plc tp n x ≤ plc tp n x2
def LNQ (tp : Nat → Nat) (n : Nat) (ta sg : Int32) (q : Nat) (h0 : Hp) (x0 x : PX FR) : Option Value → Hp → Prop := fun r h2 => r = none ∧ Gx (UWc q) h0 h2 ∧ RmL tp n h0 h2 x0 x ∧ LN tp n ta sg q x h2
theorem RmL.same {tp : Nat → Nat} {n : Nat} {h h2 : Hp} {x x2 : PX FR} (e : h2.2 = h.2) (p : plc tp n x ≤ plc tp n x2) : RmL tp n h h2 x x2 := by
  unfold RmL
  rw [e]
  omega
theorem plc_eatL {tp : Nat → Nat} {n k : Nat} (hk : k ≠ 25) (x : PX FR) : plc tp n x ≤ plc tp n (bnd x (pEat tp n k)) := by
  match x with
  | .error (w, a) => exact Nat.le_refl _
  | .ok (p, L) =>
    show lxS tp n p ≤ plc tp n (pEat tp n k p L)
    unfold pEat
    by_cases h : lxK tp n p = k
    · rw [if_pos h]
      have h1 := lxE_gt (tp := tp) (n := n) (p := p) (by rw [h]; exact hk)
      have h2 := lxS_le tp n (lxE tp n p)
      show lxS tp n p ≤ lxS tp n (lxE tp n p)
      omega
    · rw [if_neg h]
      exact Nat.le_refl _
theorem LWu.ex {h h2 : Hp} {fr : FR} {lw q : Nat} {v : Value} (o : LWu h fr lw q v) (e : h2.2 = h.2) (g : ∀ y, q + 4 ≤ y → h2.1 y = h.1 y) : LWu h2 fr lw q v := by
  rcases o with o | ⟨o1, na, fc, o2, o3, o4, o5, o6⟩
  · exact Or.inl o
  · exact Or.inr ⟨o1, na, fc, o2, o3, by rw [e]; exact o4, (g na o3).trans o5, o6⟩
theorem LWu.gr {h h2 : Hp} {fr : FR} {lw q : Nat} {v : Value} (o : LWu h fr lw q v) (e : h.2.1 ≤ h2.2.1) (g : ∀ y, q + 4 ≤ y → y < h.2.1 → h2.1 y = h.1 y) : LWu h2 fr lw q v := by
  rcases o with o | ⟨o1, na, fc, o2, o3, o4, o5, o6⟩
  · exact Or.inl o
  · exact Or.inr ⟨o1, na, fc, o2, o3, by omega, (g na o3 o4).trans o5, o6⟩
theorem LWu.of {h : Hp} {fr f2 : FR} {lw q : Nat} {v : Value} (o : LWu h fr lw q v) (e0 : f2 (8 + lw) = fr (8 + lw)) (e1 : f2 (12 + lw) = fr (12 + lw)) (e2 : fr (8 + lw) = 1 → ∀ k, k < fr (12 + lw) → lawF f2 lw k = lawF fr lw k) : LWu h f2 lw q v := by
  unfold LWu
  rw [e0, e1]
  rcases o with o | ⟨o1, na, fc, o2, o3, o4, o5, o6⟩
  · exact Or.inl o
  · exact Or.inr ⟨o1, na, fc, o2, o3, o4, o5, fun k hk => by rw [e2 o1 k hk]; exact o6 k hk⟩
theorem LWu.up {h : Hp} {fr : FR} {lw q i y : Nat} {v : Value} (o : LWu h fr lw q v) (hl : lw < 2) (hi : i < 8 ∨ (14 ≤ i ∧ i < 277)) : LWu h (va_up fr i y) lw q v := by
  have e : ∀ j, j ≠ i → va_up fr i y j = fr j := fun j hj => va_up_ne _ _ hj
  exact o.of (e _ (by omega)) (e _ (by omega)) (fun _ k _ => by
    unfold lawF
    rw [e (10 + lw) (by omega), e _ (by omega)])
theorem keep_up {fr : FR} {i y : Nat} (hi : i < 22 ∨ 45 ≤ i) : sdL (keepV (va_up fr i y)) = sdL (keepV fr) := sdL_congr fun k hk => va_up_ne _ _ (by omega)
section mfr
variable {h h2 : Hp} {q v : Nat} {fr : FR} {k f1 f2 : Nat → Int32} {w : SDT} {nl sl : Value} {pt : Int32}
theorem MFr.gr (m : MFr h q fr k f1 f2 w nl sl pt) (e : h.2.1 ≤ h2.2.1) (g : ∀ y, q + 4 ≤ y → y < h.2.1 → h2.1 y = h.1 y) : MFr h2 q fr k f1 f2 w nl sl pt := by
  obtain ⟨a, b1, b2, b3, b4, b5, b6⟩ := m
  exact ⟨a, b1, b2, b3, b4.gr e g, b5.gr e g, b6⟩
theorem MFr.fk {i j : Nat} (m : MFr h q fr k f1 f2 w nl sl pt) (hij : (i = 0 ∧ j = 0) ∨ (i = 1 ∧ j = 1) ∨ (i = 2 ∧ j = 2) ∨ (i = 4 ∧ j = 4) ∨ (i = 6 ∧ j = 5) ∨ (i = 7 ∧ j = 6)) : MFr h q (va_up fr i v) (upd k j (nI v)) f1 f2 w nl sl pt := by
  obtain ⟨⟨a0, a1, a2, a3, a4, a5, a6, a7⟩, b1, b2, b3, b4, b5, b6⟩ := m
  have fe : ∀ j, j ≠ i → va_up fr i v j = fr j := fun j hj => va_up_ne _ _ hj
  have i8 : i < 8 := by omega
  refine ⟨?_, fun j hj => by rw [fe _ (by omega)]; exact b1 j hj, fun j hj => by rw [fe _ (by omega)]; exact b2 j hj, by rw [keep_up (Or.inl (by omega))]; exact b3, b4.up (by decide) (Or.inl i8), b5.up (by decide) (Or.inl i8), fun j h1 h2 => by rw [fe 3 (by omega)] at h1; rw [fe _ (by omega)]; exact b6 j h1 h2⟩
  rcases hij with ⟨rfl, rfl⟩ | ⟨rfl, rfl⟩ | ⟨rfl, rfl⟩ | ⟨rfl, rfl⟩ | ⟨rfl, rfl⟩ | ⟨rfl, rfl⟩
  · exact ⟨rfl, a1, a2, a3, a4, a5, a6, a7⟩
  · exact ⟨a0, rfl, a2, a3, a4, a5, a6, a7⟩
  · exact ⟨a0, a1, rfl, a3, a4, a5, a6, a7⟩
  · exact ⟨a0, a1, a2, a3, rfl, a5, a6, a7⟩
  · exact ⟨a0, a1, a2, a3, a4, rfl, a6, a7⟩
  · exact ⟨a0, a1, a2, a3, a4, a5, rfl, a7⟩
theorem MFr.p5 (m : MFr h q fr k f1 f2 w nl sl pt) : MFr h q (va_up fr 5 1) k f1 f2 w nl sl 1 := by
  obtain ⟨⟨a0, a1, a2, a3, a4, a5, a6, a7⟩, b1, b2, b3, b4, b5, b6⟩ := m
  have fe : ∀ j, j ≠ 5 → va_up fr 5 1 j = fr j := fun j hj => va_up_ne _ _ hj
  exact ⟨⟨a0, a1, a2, a3, a4, a5, a6, rfl⟩, fun j hj => by rw [fe _ (by omega)]; exact b1 j hj, fun j hj => by rw [fe _ (by omega)]; exact b2 j hj, by rw [keep_up (by decide)]; exact b3, b4.up (by decide) (by decide), b5.up (by decide) (by decide), fun j h1 h2 => by rw [fe 3 (by omega)] at h1; rw [fe _ (by omega)]; exact b6 j h1 h2⟩
theorem MFr.w26 (m : MFr h q fr k f1 f2 w nl sl pt) : MFr h q (va_up fr 26 v) k f1 f2 (w.1, nI v, w.2.2) nl sl pt := by
  obtain ⟨a, b1, b2, b3, b4, b5, b6⟩ := m
  have fe : ∀ j, j ≠ 26 → va_up fr 26 v j = fr j := fun j hj => va_up_ne _ _ hj
  have cb : ∀ o, 7 ≤ o → bL (keepV (va_up fr 26 v)) o = bL (keepV fr) o := fun o h1 => by
    have e : ∀ k, k ≠ 4 → keepV (va_up fr 26 v) k = keepV fr k := fun k hk => va_up_ne _ _ (by omega)
    unfold bL
    rw [e o (by omega), e _ (by omega), e _ (by omega), e _ (by omega), e _ (by omega), e _ (by omega), e _ (by omega), e _ (by omega)]
  refine ⟨a, fun j hj => by rw [fe _ (by omega)]; exact b1 j hj, fun j hj => by rw [fe _ (by omega)]; exact b2 j hj, ?_, b4.up (by decide) (by decide), b5.up (by decide) (by decide), fun j h1 h2 => by rw [fe 3 (by omega)] at h1; rw [fe _ (by omega)]; exact b6 j h1 h2⟩
  unfold sdV sdL at b3 ⊢
  rw [cb 7 (by omega), cb 15 (by omega)]
  injection b3 with c1 c2
  injection c2 with c2 c3
  exact congr (congrArg _ c1) (congr (congrArg _ rfl) c3)
theorem MFr.w27 (m : MFr h q fr k f1 f2 w nl sl pt) : MFr h q (va_up fr 27 v) k f1 f2 (w.1, w.2.1, w.2.2.1, w.2.2.2.1, nI v, w.2.2.2.2.2) nl sl pt := by
  obtain ⟨a, b1, b2, b3, b4, b5, b6⟩ := m
  have fe : ∀ j, j ≠ 27 → va_up fr 27 v j = fr j := fun j hj => va_up_ne _ _ hj
  refine ⟨a, fun j hj => by rw [fe _ (by omega)]; exact b1 j hj, fun j hj => by rw [fe _ (by omega)]; exact b2 j hj, ?_, b4.up (by decide) (by decide), b5.up (by decide) (by decide), fun j h1 h2 => by rw [fe 3 (by omega)] at h1; rw [fe _ (by omega)]; exact b6 j h1 h2⟩
  rw [dra_sd]
  unfold sdV sdL at b3
  unfold sdV
  injection b3 with c1 c2
  injection c2 with c2 c3
  injection c3 with c3 c4
  injection c4 with c4 c5
  injection c5 with c5 c6
  exact congr (congrArg _ c1) (congr (congrArg _ c2) (congr (congrArg _ c3) (congr (congrArg _ c4) (congr (congrArg _ rfl) c6))))
end mfr
theorem ends_eq {tp : Nat → Nat} {n : Nat} (x : PX FR) : bnd x (pEnds tp n) = bnd (bnd x (pEat tp n 30)) (pUp (fun fr => va_up fr 0 (fr 0 + 1))) := by
  match x with
  | .error e => rfl
  | .ok (p, fr) => rfl
theorem yo_up {tp : Nat → Nat} {n : Nat} (x : PX FR) (g : FR → FR) : yo tp n (bnd x (pUp g)) = yo tp n x ∧ plc tp n (bnd x (pUp g)) = plc tp n x := by
  match x with
  | .error e => exact ⟨rfl, rfl⟩
  | .ok (p, fr) => exact ⟨rfl, rfl⟩
theorem yo_ends {tp : Nat → Nat} {n : Nat} (x : PX FR) : yo tp n (bnd x (pEnds tp n)) = eatY tp n 30 (yo tp n x) := by rw [ends_eq, (yo_up _ _).1, yo_eat (by decide)]
theorem plc_ends {tp : Nat → Nat} {n : Nat} (x : PX FR) : plc tp n x ≤ plc tp n (bnd x (pEnds tp n)) := by rw [ends_eq, (yo_up _ _).2]; exact plc_eatL (by decide) x
theorem ends_in {tp : Nat → Nat} {n : Nat} {x : PX FR} {p2 : Nat} {fr2 : FR} (h : bnd x (pEnds tp n) = .ok (p2, fr2)) : ∃ p fr, x = .ok (p, fr) ∧ lxK tp n p ≠ 26 ∧ fr2 = va_up fr 0 (fr 0 + 1) := by
  match x, h with
  | .error e, h => cases h
  | .ok (p, fr), h =>
    change bnd (pEat tp n 30 p fr) (pUp (fun fr => va_up fr 0 (fr 0 + 1))) = .ok (p2, fr2) at h
    unfold pEat at h
    by_cases h2 : lxK tp n p = 30
    · rw [if_pos h2] at h
      cases h
      exact ⟨p, fr, rfl, by rw [h2]; decide, rfl⟩
    · rw [if_neg h2] at h
      cases h
set_option maxRecDepth 20000 in
set_option maxHeartbeats 1000000 in
theorem L_end {E : EnvT} {d : Nat} {h0 : Hp} {tp : Nat → Nat} {n : Nat} {ta sg : Int32} {q : Nat} {x : PX FR} (hL : LN tp n ta sg q x h0) (hP : TPo tp h0) (ht : TOk tp n) (hd : 6 ≤ d) : Cn E mX3_endLine d [.ref 65] h0 (LNQ tp n ta sg q h0 x (bnd x (pEnds tp n))) := by
  obtain ⟨t, ne, inz, pt, cl, k, f1, f2, w, nl, sl, c65, hT, ⟨cd, c67⟩, cq, c1, c2, c3, hg, hpt, hq, hM⟩ := hL
  have hq1 := hq.1
  have hx : Ex [65, q] h0 h0 := Ex.rf
  refine Cn.go (ls := [.ref 65]) (by decide +kernel) rfl (Nat.le_of_ble_eq_true rfl) ?_
  refine r_aload_n (pc2 := 1) 0 dX3_endLine_0 rfl rfl rfl rfl ?_
  refine r_bipush (pc2 := 3) (v := 59) dX3_endLine_1 (by decide) rfl ?_
  refine r_callV0 (pc2 := 6) (As := [.int 59]) (st := []) kX3_131 rfl rfl dX3_endLine_3 c65 (by decide) rfl rfl (Nat.le_of_ble_eq_true rfl) (by omega) (c_passSign (k := 0) (t := t) (y := yo tp n x) (by decide) (by decide) c65 hT hP ht (by omega)) rfl (fun h hq3 => ?_)
  obtain ⟨hxa, t2, c65, hT2⟩ := hq3
  have cq := hxa.get (by simp; omega) cq
  have hx := hx.trans hxa (by simp)
  refine r_aload_n (pc2 := 7) 0 dX3_endLine_6 rfl rfl rfl rfl ?_
  refine r_getf (pc2 := 10) (v := .ref q) fX3_28 dX3_endLine_7 c65 (by decide) rfl rfl ?_
  refine r_dup (pc2 := 11) dX3_endLine_10 rfl rfl ?_
  refine r_getf (pc2 := 14) (v := .int (k 0)) fX3_135 dX3_endLine_11 cq (by omega) rfl rfl ?_
  refine r_iconst (pc2 := 15) (v := 1) dX3_endLine_14 (by decide) rfl ?_
  refine r_iadd (pc2 := 16) dX3_endLine_15 rfl ?_
  refine r_topi (fun y16 ey16 => ?_)
  refine r_putfX (pc2 := 19) [.int sg, .int y16, .int (k 1), .int (k 2), .int (k 3), .ref (q + 1), .ref (q + 2), .int (k 4), .int (k 5), .int (k 6), .ref (q + 3), nl, sl] fX3_135 dX3_endLine_16 cq (by omega) (Nat.le_of_ble_eq_true rfl) rfl rfl rfl (fun h z16 o16 cq => ?_)
  have c65 := (o16 65 (by omega)).trans c65
  have hx := hx.step (a := q) (by simp) z16 o16
  exact r_vret rfl dX3_endLine_19 ⟨rfl, hx.gx.mono (by simp), RmL.same hx.1 (plc_ends x), t2, ne, inz, pt, cl, upd k 0 y16, f1, f2, w, nl, sl, c65, by rw [yo_ends]; exact hT2, ⟨cd, hx.get (by simp; omega) c67⟩, cq, hx.get (by simp <;> omega) c1, hx.get (by simp <;> omega) c2, hx.get (by simp <;> omega) c3, hg, hpt, by rw [hx.1]; exact hq, fun p2 fr2 z1 z2 => by
  obtain ⟨p, fr, y1, y2, y3⟩ := ends_in z1
  subst y3
  have gl : ∀ y, q + 4 ≤ y → y < h0.2.1 → h.1 y = h0.1 y := fun y hy _ => hx.2 y (by simp; omega)
  have mm := ((hM p fr y1 y2).gr (Nat.le_of_eq (congrArg Prod.fst hx.1).symm) gl).fk (i := 0) (j := 0) (v := fr 0 + 1) (by simp)
  rw [show nI (fr 0 + 1) = y16 from (ey16.trans (by rw [(hM p fr y1 y2).1.1]; exact nI_1 _)).symm] at mm
  exact mm⟩
