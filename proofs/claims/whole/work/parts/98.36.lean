/-! the class's reader: its state seen as a parser's -/
def yo {α : Type} (tp : Nat → Nat) (n : Nat) (x : PX α) : PY := match x with
  | .ok (p, _) => nrp tp n p
  | .error e => .error e
theorem yo_ok {α : Type} {tp : Nat → Nat} {n p : Nat} {L : α} (h : lxK tp n p ≠ 26) : yo tp n (.ok (p, L) : PX α) = .ok p := if_neg h
theorem yo_26 {α : Type} {tp : Nat → Nat} {n p : Nat} {L : α} (h : lxK tp n p = 26) : yo tp n (.ok (p, L) : PX α) = .error (1, lxS tp n p) := if_pos h
theorem yo_fl {α : Type} {tp : Nat → Nat} {n p f : Nat} (h : lxK tp n p ≠ 26) : yo tp n (pFl tp n f p : PX α) = .error (f, lxS tp n p) := by
  show (.error (if lxK tp n p = 26 then 1 else f, lxS tp n p) : PY) = _
  rw [if_neg h]
theorem yo_fl26 {α : Type} {tp : Nat → Nat} {n p f : Nat} (h : lxK tp n p = 26) : yo tp n (pFl tp n f p : PX α) = .error (1, lxS tp n p) := by
  show (.error (if lxK tp n p = 26 then 1 else f, lxS tp n p) : PY) = _
  rw [if_pos h]
theorem yo_eat {α : Type} {tp : Nat → Nat} {n k : Nat} (hk : k ≠ 26) (x : PX α) : yo tp n (bnd x (pEat tp n k)) = eatY tp n k (yo tp n x) := by
  match x with
  | .error e => rfl
  | .ok (p, L) =>
    show yo tp n (pEat tp n k p L) = _
    unfold eatY pEat
    by_cases h : lxK tp n p = 26
    · rw [yo_26 h, if_neg (by rw [h]; exact fun z => hk z.symm), yo_fl26 h, if_neg (fun z => Bool.noConfusion z)]
      rfl
    · rw [yo_ok h]
      by_cases h2 : lxK tp n p = k
      · rw [if_pos h2, if_pos (isY_y h2)]
        rfl
      · rw [if_neg h2, if_neg (isY_n h2), yo_fl h]
        rfl
/-- a reader that stops at once at a token that is none -/
def Bs {α : Type} (tp : Nat → Nat) (n : Nat) (F : Nat → α → PX α) : Prop := ∀ p L, lxK tp n p = 26 → yo tp n (F p L) = .error (1, lxS tp n p)
def plc {α : Type} (tp : Nat → Nat) (n : Nat) (x : PX α) : Nat := match x with
  | .ok (p, _) => lxS tp n p
  | .error (_, a) => a
theorem plc_yo {α : Type} {tp : Nat → Nat} {n : Nat} {x : PX α} {g : Nat × Nat} (h : yo tp n x = .error g) : plc tp n x = g.2 := by
  match x, h with
  | .error (w, a), h => cases h; rfl
  | .ok (p, L), h =>
    by_cases h2 : lxK tp n p = 26
    · rw [yo_26 h2] at h; cases h; rfl
    · rw [yo_ok h2] at h; cases h
theorem plc_eat {tp : Nat → Nat} {n k : Nat} (hk : k ≠ 25) (x : PX (List Nat)) : plc tp n x ≤ plc tp n (bnd x (pEat tp n k)) := by
  match x with
  | .error (w, a) => exact Nat.le_refl _
  | .ok (p, L) =>
    show lxS tp n p ≤ plc tp n (pEat tp n k p L)
    unfold pEat
    by_cases h : lxK tp n p = k
    · rw [if_pos h]
      have h1 := lxE_gt (tp := tp) (n := n) (p := p) (by rw [h]; exact hk)
      have h2 := lxS_le tp n (lxE tp n p)
      show lxS tp n p ≤ lxS tp n (lxE tp n p)
      omega
    · rw [if_neg h]
      exact Nat.le_refl _
/-- the codes so far: no more than signs; s are still to come -/
def CDo (tp : Nat → Nat) (n s : Nat) (x : PX (List Nat)) (c : Nat) (h : Hp) : Prop := (c ≤ 900 ∧ c + s ≤ plc tp n x + 1) ∧ ∃ cd, h.1 67 = some (aI 900 cd) ∧ ∀ p L, x = .ok (p, L) → lxK tp n p ≠ 26 → c = L.length ∧ ∀ j, j < c → cd j = cmI (L.getD j 0)
theorem CDo.ex {tp : Nat → Nat} {n s : Nat} {x : PX (List Nat)} {c : Nat} {h h2 : Hp} (o : CDo tp n s x c h) (e : Ex [65] h h2) : CDo tp n s x c h2 := by
  obtain ⟨o1, cd, o2, o3⟩ := o
  exact ⟨o1, cd, e.get (by decide) o2, o3⟩
theorem CDo.go {tp : Nat → Nat} {n s s2 : Nat} {x x2 : PX (List Nat)} {c : Nat} {h h2 : Hp} (o : CDo tp n s x c h) (e : Ex [65] h h2) (hs : plc tp n x + s2 ≤ plc tp n x2 + s) (q : ∀ p2 L, x2 = .ok (p2, L) → lxK tp n p2 ≠ 26 → ∃ p, x = .ok (p, L) ∧ lxK tp n p ≠ 26) : CDo tp n s2 x2 c h2 := by
  obtain ⟨o1, cd, o2, o3⟩ := o
  refine ⟨⟨o1.1, by have := o1.2; omega⟩, cd, e.get (by decide) o2, fun p2 L z1 z2 => ?_⟩
  obtain ⟨p, y1, y2⟩ := q p2 L z1 z2
  exact o3 p L y1 y2
abbrev RLT : Type := Int32 × Int32 × Int32 × Value
def RLw (tp : Nat → Nat) (n : Nat) (u : RLT) (e s : Nat) (x : PX (List Nat)) (h : Hp) : Prop := ∃ t c, h.1 65 = some (.inr (3, rdL n u.1 (nI e) u.2.1 u.2.2.1 (nI c) u.2.2.2 t)) ∧ TK tp n (yo tp n x) t ∧ CDo tp n s x c h
def RLQ (tp : Nat → Nat) (n : Nat) (u : RLT) (e s : Nat) (h0 : Hp) (r0 : Option Value) (x : PX (List Nat)) : Option Value → Hp → Prop := fun r h2 => r = r0 ∧ Ex [65, 67] h0 h2 ∧ RLw tp n u e s x h2
theorem RLw.nrm {tp : Nat → Nat} {n : Nat} {u : RLT} {s e : Nat} {x x2 : PX (List Nat)} {h : Hp} {g : Nat × Nat} (r : RLw tp n u e s x h) (h1 : yo tp n x = .error g) (h2 : yo tp n x2 = .error g) : RLw tp n u e s x2 h := by
  obtain ⟨t, c, r1, r2, r3, cd, r4, r5⟩ := r
  refine ⟨t, c, r1, by rw [h2, ← h1]; exact r2, ⟨r3.1, by rw [plc_yo h2, ← plc_yo h1]; exact r3.2⟩, cd, r4, fun p L z1 z2 => ?_⟩
  subst z1
  rw [yo_ok z2] at h2
  exact absurd h2 (fun z => by cases z)
def CR (E : EnvT) (tp : Nat → Nat) (n : Nat) (u : RLT) (M : MD) (d e : Nat) (F : PF) : Prop := ∀ ⦃s : Nat⦄ (h0 : Hp) (x : PX (List Nat)), IV n 0 0 x → RLw tp n u e (s + 1) x h0 → TPo tp h0 → Cn E M d [.ref 65] h0 (RLQ tp n u e (s + 1) h0 none (bnd x F))
theorem RLw.wb {tp : Nat → Nat} {n : Nat} {u : RLT} {s e w a : Nat} {h : Hp} (r : RLw tp n u e s (.error (w, a)) h) : 1 ≤ w ∧ w ≤ 4 := by
  obtain ⟨t, c, r1, ⟨s9, e9, r2, _⟩, _⟩ := r
  exact r2
/-- two cases are enough -/
theorem x_cases {tp : Nat → Nat} {n : Nat} {u : RLT} {s e : Nat} {F : PF} {R : Hp → (PX (List Nat)) → Prop} {h0 : Hp} {x : PX (List Nat)} (hB : Bs tp n F) (hR : ∀ x y g, yo tp n x = .error g → yo tp n y = .error g → R h0 x → R h0 y) (hI : IV n 0 0 x) (hT : RLw tp n u e s x h0) (h1 : ∀ w a, RLw tp n u e s (.error (w, a)) h0 → R h0 (.error (w, a))) (h2 : ∀ p L, lxK tp n p ≠ 26 → IV n 0 0 (.ok (p, L)) → RLw tp n u e s (.ok (p, L)) h0 → R h0 (F p L)) : R h0 (bnd x F) := by
  match x, hI, hT with
  | .error (w, a), hI, hT => exact h1 w a hT
  | .ok (p, L), hI, hT =>
    by_cases h26 : lxK tp n p = 26
    · exact hR (.error (1, lxS tp n p)) _ _ rfl (hB p L h26) (h1 _ _ (hT.nrm (yo_26 h26) rfl))
    · exact h2 p L h26 hI hT
theorem RLQ.nrm {E : EnvT} {tp : Nat → Nat} {n : Nat} {u : RLT} {s e : Nat} {M : MD} {d : Nat} {As : List Value} {h h0 : Hp} (x y : PX (List Nat)) (g : Nat × Nat) (h1 : yo tp n x = .error g) (h2 : yo tp n y = .error g) (c : Cn E M d As h (RLQ tp n u e s h0 none x)) : Cn E M d As h (RLQ tp n u e s h0 none y) := c.mono fun _ _ q => ⟨q.1, q.2.1, q.2.2.nrm h1 h2⟩
theorem X_adv {E : EnvT} {d : Nat} {h0 : Hp} {tp : Nat → Nat} {n : Nat} {u : RLT} {s e p : Nat} {L : List Nat} (h26 : lxK tp n p ≠ 26) (h25 : lxK tp n p ≠ 25) (ht : TOk tp n) (hd : 2 ≤ d) (hP : TPo tp h0) (hT : RLw tp n u e s (.ok (p, L)) h0) : Cn E mX3_advance d [.ref 65] h0 (RLQ tp n u e (s + 1) h0 none (pNx tp n p L)) := by
  obtain ⟨t, c, c65, hK, hC⟩ := hT
  refine (c_advance c65 hK hP ht hd).mono fun r h2 q => ?_
  obtain ⟨q1, q2, t2, q3, q4⟩ := q
  refine ⟨q1, q2.mono (by decide), t2, c, q3, ?_, hC.go q2 (by have h1 := lxE_gt h25; have h2 := lxS_le tp n (lxE tp n p); show lxS tp n p + (s + 1) ≤ lxS tp n (lxE tp n p) + s; omega) (fun p2 L2 z1 _ => ?_)⟩
  · rw [yo_ok h26] at q4
    exact q4
  · cases z1
    exact ⟨p, rfl, h26⟩
theorem X_advE {E : EnvT} {d : Nat} {h0 : Hp} {tp : Nat → Nat} {n : Nat} {u : RLT} {s e w a : Nat} (ht : TOk tp n) (hd : 2 ≤ d) (hP : TPo tp h0) (hT : RLw tp n u e s (.error (w, a)) h0) : Cn E mX3_advance d [.ref 65] h0 (RLQ tp n u e s h0 none (.error (w, a))) := by
  obtain ⟨t, c, c65, hK, hC⟩ := hT
  refine (c_advance c65 hK hP ht hd).mono fun r h2 q => ?_
  obtain ⟨q1, q2, t2, q3, q4⟩ := q
  exact ⟨q1, q2.mono (by decide), t2, c, q3, q4, hC.go q2 (Nat.le_refl _) (fun p2 L2 z1 _ => by cases z1)⟩
theorem eat_in {tp : Nat → Nat} {n k : Nat} (hk : k ≠ 26) {x : PX (List Nat)} (p2 : Nat) (L : List Nat) (h : bnd x (pEat tp n k) = .ok (p2, L)) : ∃ p, x = .ok (p, L) ∧ lxK tp n p ≠ 26 := by
  match x, h with
  | .error e, h => cases h
  | .ok (p, M), h =>
    change pEat tp n k p M = .ok (p2, L) at h
    unfold pEat at h
    by_cases h2 : lxK tp n p = k
    · rw [if_pos h2] at h
      cases h
      exact ⟨p, rfl, by rw [h2]; exact hk⟩
    · rw [if_neg h2] at h
      cases h
theorem X_eatW {E : EnvT} {d : Nat} {h0 : Hp} {tp : Nat → Nat} {n : Nat} {u : RLT} {s e w : Nat} {x : PX (List Nat)} (hw : w < 23) (ht : TOk tp n) (hd : 5 ≤ d) (hP : TPo tp h0) (hT : RLw tp n u e s x h0) : Cn E mX3_passWord d [.ref 65, .ref w] h0 (RLQ tp n u e s h0 none (bnd x (pEat tp n (kx w)))) := by
  obtain ⟨t, c, c65, hK, hC⟩ := hT
  refine (c_passWord hw c65 hK hP ht hd).mono fun r h2 q => ?_
  obtain ⟨q1, q2, t2, q3, q4⟩ := q
  have := kx_lt w hw
  exact ⟨q1, q2.mono (by decide), t2, c, q3, by rw [yo_eat (by omega)]; exact q4, hC.go q2 (Nat.add_le_add_right (plc_eat (by omega) x) s) (fun p2 L2 z1 _ => eat_in (by omega) p2 L2 z1)⟩
theorem X_eatS {E : EnvT} {d : Nat} {h0 : Hp} {tp : Nat → Nat} {n : Nat} {u : RLT} {s e k : Nat} {cv : Int32} {x : PX (List Nat)} (hk : k < 12) (ec : cv = nI (sg k)) (ht : TOk tp n) (hd : 5 ≤ d) (hP : TPo tp h0) (hT : RLw tp n u e s x h0) : Cn E mX3_passSign d [.ref 65, .int cv] h0 (RLQ tp n u e s h0 none (bnd x (pEat tp n (30 + k)))) := by
  obtain ⟨t, c, c65, hK, hC⟩ := hT
  refine (c_passSign hk ec c65 hK hP ht hd).mono fun r h2 q => ?_
  obtain ⟨q1, q2, t2, q3, q4⟩ := q
  exact ⟨q1, q2.mono (by decide), t2, c, q3, by rw [yo_eat (by omega)]; exact q4, hC.go q2 (Nat.add_le_add_right (plc_eat (by omega) x) s) (fun p2 L2 z1 _ => eat_in (by omega) p2 L2 z1)⟩
theorem X_ref {E : EnvT} {d : Nat} {h0 : Hp} {tp : Nat → Nat} {n : Nat} {u : RLT} {s e p f : Nat} {L : List Nat} {w9 : Int32} (h26 : lxK tp n p ≠ 26) (h1 : 1 ≤ f) (h2 : f ≤ 4) (ew : w9 = nI f) (ht : TOk tp n) (hT : RLw tp n u e s (.ok (p, L)) h0) : Cn E mX3_refuse d [.ref 65, .int w9] h0 (RLQ tp n u e s h0 none (pFl tp n f p)) := by
  obtain ⟨t, c, c65, hK, hC⟩ := hT
  refine (c_refuse h1 h2 ew ht c65 hK).mono fun r h2 q => ?_
  obtain ⟨q1, q2, t2, q3, q4⟩ := q
  exact ⟨q1, q2.mono (by decide), t2, c, q3, by rw [yo_fl h26]; rw [yo_ok h26] at q4; exact q4, hC.go q2 (Nat.le_refl _) (fun p2 L2 z1 _ => by cases z1)⟩
theorem X_refE {E : EnvT} {d : Nat} {h0 : Hp} {tp : Nat → Nat} {n : Nat} {u : RLT} {s e w a f : Nat} {w9 : Int32} (h1 : 1 ≤ f) (h2 : f ≤ 4) (ew : w9 = nI f) (ht : TOk tp n) (hT : RLw tp n u e s (.error (w, a)) h0) : Cn E mX3_refuse d [.ref 65, .int w9] h0 (RLQ tp n u e s h0 none (.error (w, a))) := by
  obtain ⟨t, c, c65, hK, hC⟩ := hT
  refine (c_refuse h1 h2 ew ht c65 hK).mono fun r h2 q => ?_
  obtain ⟨q1, q2, t2, q3, q4⟩ := q
  exact ⟨q1, q2.mono (by decide), t2, c, q3, q4, hC.go q2 (Nat.le_refl _) (fun p2 L2 z1 _ => by cases z1)⟩
theorem X_word {E : EnvT} {d : Nat} {h0 : Hp} {tp : Nat → Nat} {n : Nat} {u : RLT} {s e w : Nat} {x : PX (List Nat)} (hw : w < 23) (ht : TOk tp n) (hd : 4 ≤ d) (hP : TPo tp h0) (hT : RLw tp n u e s x h0) : Cn E mX3_isWord d [.ref 65, .ref w] h0 (fun r h2 => r = some (.int (if isY tp n (yo tp n x) (kx w) = true then (1 : Int32) else 0)) ∧ h2 = h0) := by
  obtain ⟨t, c, c65, hK, hC⟩ := hT
  exact c_isWord hw c65 hK hP ht hd
theorem X_sign {E : EnvT} {d : Nat} {h0 : Hp} {tp : Nat → Nat} {n : Nat} {u : RLT} {s e k : Nat} {cv : Int32} {x : PX (List Nat)} (hk : k < 12) (ec : cv = nI (sg k)) (ht : TOk tp n) (hd : 1 ≤ d) (hP : TPo tp h0) (hT : RLw tp n u e s x h0) : Cn E mX3_isSign d [.ref 65, .int cv] h0 (fun r h2 => r = some (.int (if isY tp n (yo tp n x) (30 + k) = true then (1 : Int32) else 0)) ∧ h2 = h0) := by
  obtain ⟨t, c, c65, hK, hC⟩ := hT
  exact c_isSign hk ec c65 hK hP ht hd
set_option maxRecDepth 20000 in
set_option maxHeartbeats 1000000 in
theorem X_emit {E : EnvT} {d : Nat} {h0 : Hp} {tp : Nat → Nat} {n : Nat} {u : RLT} {s e co : Nat} {v : Int32} {x : PX (List Nat)} (hl : ∀ p L, x = .ok (p, L) → L.length < 900) (ev : v = cmI co) (hT : RLw tp n u e (s + 1) x h0) : Cn E mX3_emit d [.ref 65, .int v] h0 (RLQ tp n u e s h0 none (bnd x (pCo co))) := by
  obtain ⟨t, c, c65, hK, ⟨h9, hpl⟩, cd, c67, hcd⟩ := hT
  have hx : Ex [65, 67] h0 h0 := Ex.rf
  have eY : yo tp n (bnd x (pCo co)) = yo tp n x := by
    match x with
    | .ok (p, L) => rfl
    | .error g => rfl
  have eP : plc tp n (bnd x (pCo co)) = plc tp n x := by
    match x with
    | .ok (p, L) => rfl
    | .error g => rfl
  have hK2 : TK tp n (yo tp n (bnd x (pCo co))) t := by rw [eY]; exact hK
  by_cases hlt : c < 900
  · have hnew : ∀ p L, bnd x (pCo co) = .ok (p, L) → lxK tp n p ≠ 26 → c + 1 = L.length ∧ ∀ j, j < c + 1 → upd cd c v j = cmI (L.getD j 0) := fun p L z1 z2 => by
      match x, hcd, z1 with
      | .error g, _, z1 => cases z1
      | .ok (q, M), hcd, z1 =>
        cases z1
        obtain ⟨g1, g2⟩ := hcd p M rfl z2
        rw [List.length_append]
        refine ⟨by rw [g1]; rfl, fun j hj => ?_⟩
        by_cases e : j = c
        · subst e
          show (if j = j then v else cd j) = _
          rw [if_pos rfl, ev, g1, List.getD_eq_getElem?_getD, List.getElem?_append_right (Nat.le_refl _), Nat.sub_self]
          rfl
        · show (if j = c then v else cd j) = _
          rw [if_neg e, g2 j (by omega), List.getD_eq_getElem?_getD, List.getD_eq_getElem?_getD, List.getElem?_append_left (by omega)]
    refine Cn.go (ls := [.ref 65, .int v]) (by decide +kernel) rfl (Nat.le_of_ble_eq_true rfl) ?_
    refine r_aload_n (pc2 := 1) 0 dX3_emit_0 rfl rfl rfl rfl ?_
    refine r_getf (pc2 := 4) (v := .int (nI c)) fX3_213 dX3_emit_1 c65 (by decide) rfl rfl ?_
    refine r_aload_n (pc2 := 5) 0 dX3_emit_4 rfl rfl rfl rfl ?_
    refine r_getf (pc2 := 8) (v := .ref 67) fX3_19 dX3_emit_5 c65 (by decide) rfl rfl ?_
    refine r_alen (pc2 := 9) dX3_emit_8 c67 (by decide) (by decide) rfl ?_
    refine r_icmp_ge (tgt := 32) (pc2 := 12) dX3_emit_9 (by decide) rfl (fun b9 => ?_) (fun b9 => ?_)
    · exact absurd b9 (nI_ge hlt (by decide))
    · skip
      refine r_aload_n (pc2 := 13) 0 dX3_emit_12 rfl rfl rfl rfl ?_
      refine r_getf (pc2 := 16) (v := .ref 67) fX3_19 dX3_emit_13 c65 (by decide) rfl rfl ?_
      refine r_aload_n (pc2 := 17) 0 dX3_emit_16 rfl rfl rfl rfl ?_
      refine r_getf (pc2 := 20) (v := .int (nI c)) fX3_213 dX3_emit_17 c65 (by decide) rfl rfl ?_
      refine r_iload_n (pc2 := 21) 1 dX3_emit_20 rfl rfl rfl ?_
      refine r_iastN (pc2 := 22) c dX3_emit_21 c67 (by decide) rfl (by omega) (by decide) rfl (fun h z21 o21 c67 => ?_)
      have c65 := (o21 65 (by decide)).trans c65
      have hx := hx.step (a := 67) (by simp) z21 o21
      refine r_aload_n (pc2 := 23) 0 dX3_emit_22 rfl rfl rfl rfl ?_
      refine r_dup (pc2 := 24) dX3_emit_23 rfl rfl ?_
      refine r_getf (pc2 := 27) (v := .int (nI c)) fX3_213 dX3_emit_24 c65 (by decide) rfl rfl ?_
      refine r_iconst (pc2 := 28) (v := 1) dX3_emit_27 (by decide) rfl ?_
      refine r_iadd (pc2 := 29) dX3_emit_28 rfl ?_
      refine r_cast (nI (c + 1)) (nI_1 _) ?_
      refine r_putfX (pc2 := 32) [.int t.1, .int t.2.1, .int u.1, .ref 66, .int (nI n), .int t.2.2.1, .int t.2.2.2.1, .int t.2.2.2.2, .int (nI e), .int u.2.1, .int u.2.2.1, .ref 67, .int (nI (c + 1)), u.2.2.2] fX3_213 dX3_emit_29 c65 (by decide) (Nat.le_of_ble_eq_true rfl) rfl rfl rfl (fun h z29 o29 c65 => ?_)
      have c67 := (o29 67 (by decide)).trans c67
      have hx := hx.step (a := 65) (by simp) z29 o29
      exact r_vret rfl dX3_emit_32 ⟨rfl, hx, t, c + 1, c65, hK2, ⟨by omega, by rw [eP]; omega⟩, _, c67, hnew⟩
  · have hold : ∀ p L, bnd x (pCo co) = .ok (p, L) → lxK tp n p ≠ 26 → c = L.length ∧ ∀ j, j < c → cd j = cmI (L.getD j 0) := fun p L z1 z2 => by
      match x, hcd, hl, z1 with
      | .error g, _, _, z1 => cases z1
      | .ok (q, M), hcd, hl, z1 =>
        cases z1
        have g1 := (hcd p M rfl z2).1
        have g2 := hl p M rfl
        omega
    refine Cn.go (ls := [.ref 65, .int v]) (by decide +kernel) rfl (Nat.le_of_ble_eq_true rfl) ?_
    refine r_aload_n (pc2 := 1) 0 dX3_emit_0 rfl rfl rfl rfl ?_
    refine r_getf (pc2 := 4) (v := .int (nI c)) fX3_213 dX3_emit_1 c65 (by decide) rfl rfl ?_
    refine r_aload_n (pc2 := 5) 0 dX3_emit_4 rfl rfl rfl rfl ?_
    refine r_getf (pc2 := 8) (v := .ref 67) fX3_19 dX3_emit_5 c65 (by decide) rfl rfl ?_
    refine r_alen (pc2 := 9) dX3_emit_8 c67 (by decide) (by decide) rfl ?_
    refine r_icmp_ge (tgt := 32) (pc2 := 12) dX3_emit_9 (by decide) rfl (fun b9 => ?_) (fun b9 => ?_)
    · skip
      exact r_vret rfl dX3_emit_32 ⟨rfl, Ex.rf, t, c, c65, hK2, ⟨h9, by rw [eP]; omega⟩, cd, c67, hold⟩
    · exact absurd (nI_le (a := 900) (by omega) (by omega)) b9
set_option maxRecDepth 20000 in
set_option maxHeartbeats 1000000 in
theorem X_enter0 {E : EnvT} {d : Nat} {h0 : Hp} {tp : Nat → Nat} {n : Nat} {u : RLT} {s e p : Nat} {L : List Nat} (he : e = 6) (h26 : lxK tp n p ≠ 26) (ht : TOk tp n) (hd : 3 ≤ d) (hP : TPo tp h0) (hT : RLw tp n u e s (.ok (p, L)) h0) : Cn E mX3_enter d [.ref 65] h0 (RLQ tp n u e s h0 (some (.int 0)) (pFl tp n 4 p)) := by
  obtain ⟨t, c, c65, hK, hC⟩ := id hT
  have hx : Ex [65, 67] h0 h0 := Ex.rf
  refine Cn.go (ls := [.ref 65]) (by decide +kernel) rfl (Nat.le_of_ble_eq_true rfl) ?_
  refine r_aload_n (pc2 := 1) 0 dX3_enter_0 rfl rfl rfl rfl ?_
  refine r_getf (pc2 := 4) (v := .int (nI e)) fX3_210 dX3_enter_1 c65 (by decide) rfl rfl ?_
  refine r_bipush (pc2 := 6) (v := 6) dX3_enter_4 (by decide) rfl ?_
  refine r_icmp_lt (tgt := 16) (pc2 := 9) dX3_enter_6 (by decide) rfl (fun b6 => ?_) (fun b6 => ?_)
  · exact absurd b6 (by rw [he]; decide)
  · skip
    refine r_aload_n (pc2 := 10) 0 dX3_enter_9 rfl rfl rfl rfl ?_
    refine r_iconst (pc2 := 11) (v := 4) dX3_enter_10 (by decide) rfl ?_
    refine r_callV0 (pc2 := 14) (As := [.int 4]) (st := []) kX3_76 rfl rfl dX3_enter_11 c65 (by decide) rfl rfl (Nat.le_of_ble_eq_true rfl) (by omega) (X_ref (f := 4) h26 (by decide) (by decide) rfl ht hT) rfl (fun h hq11 => ?_)
    obtain ⟨hxc, hT⟩ := hq11
    have hx := hx.trans hxc (by decide)
    have hP := hP.ex hxc (by decide)
    obtain ⟨t, c, c65, hK, hC⟩ := id hT
    refine r_iconst (pc2 := 15) (v := 0) dX3_enter_14 (by decide) rfl ?_
    exact r_zret (ty := .boolean) rfl (by decide) dX3_enter_15 ⟨rfl, hx, hT⟩
set_option maxRecDepth 20000 in
set_option maxHeartbeats 1000000 in
theorem X_enter1 {E : EnvT} {d : Nat} {h0 : Hp} {tp : Nat → Nat} {n : Nat} {u : RLT} {s e p : Nat} {L : List Nat} (hlt : e < 6) (h26 : lxK tp n p ≠ 26) (h25 : lxK tp n p ≠ 25) (ht : TOk tp n) (hd : 3 ≤ d) (hP : TPo tp h0) (hT : RLw tp n u e s (.ok (p, L)) h0) : Cn E mX3_enter d [.ref 65] h0 (RLQ tp n u (e + 1) (s + 1) h0 (some (.int 1)) (pNx tp n p L)) := by
  obtain ⟨t, c, c65, hK, hC⟩ := id hT
  have hx : Ex [65, 67] h0 h0 := Ex.rf
  refine Cn.go (ls := [.ref 65]) (by decide +kernel) rfl (Nat.le_of_ble_eq_true rfl) ?_
  refine r_aload_n (pc2 := 1) 0 dX3_enter_0 rfl rfl rfl rfl ?_
  refine r_getf (pc2 := 4) (v := .int (nI e)) fX3_210 dX3_enter_1 c65 (by decide) rfl rfl ?_
  refine r_bipush (pc2 := 6) (v := 6) dX3_enter_4 (by decide) rfl ?_
  refine r_icmp_lt (tgt := 16) (pc2 := 9) dX3_enter_6 (by decide) rfl (fun b6 => ?_) (fun b6 => ?_)
  · skip
    refine r_aload_n (pc2 := 17) 0 dX3_enter_16 rfl rfl rfl rfl ?_
    refine r_dup (pc2 := 18) dX3_enter_17 rfl rfl ?_
    refine r_getf (pc2 := 21) (v := .int (nI e)) fX3_210 dX3_enter_18 c65 (by decide) rfl rfl ?_
    refine r_iconst (pc2 := 22) (v := 1) dX3_enter_21 (by decide) rfl ?_
    refine r_iadd (pc2 := 23) dX3_enter_22 rfl ?_
    refine r_cast (nI (e + 1)) (nI_1 _) ?_
    refine r_putfX (pc2 := 26) [.int t.1, .int t.2.1, .int u.1, .ref 66, .int (nI n), .int t.2.2.1, .int t.2.2.2.1, .int t.2.2.2.2, .int (nI (e + 1)), .int u.2.1, .int u.2.2.1, .ref 67, .int (nI c), u.2.2.2] fX3_210 dX3_enter_23 c65 (by decide) (Nat.le_of_ble_eq_true rfl) rfl rfl rfl (fun h z23 o23 c65 => ?_)
    have hx := hx.step (a := 65) (by simp) z23 o23
    have hxw : Ex [65] _ h := ⟨z23, fun y hy => o23 y (by simpa using hy)⟩
    have hT : RLw tp n u (e + 1) s (.ok (p, L)) h := ⟨t, c, c65, hK, hC.ex hxw⟩
    have hP := hP.ex hxw (by decide)
    refine r_aload_n (pc2 := 27) 0 dX3_enter_26 rfl rfl rfl rfl ?_
    refine r_callV0 (pc2 := 30) (As := []) (st := []) kX3_54 rfl rfl dX3_enter_27 c65 (by decide) rfl rfl (Nat.le_of_ble_eq_true rfl) (by omega) (X_adv (p := p) (L := L) h26 h25 ht (by omega) hP hT) rfl (fun h hq27 => ?_)
    obtain ⟨hxc, hT⟩ := hq27
    have hx := hx.trans hxc (by decide)
    have hP := hP.ex hxc (by decide)
    obtain ⟨t, c, c65, hK, hC⟩ := id hT
    refine r_iconst (pc2 := 31) (v := 1) dX3_enter_30 (by decide) rfl ?_
    exact r_zret (ty := .boolean) rfl (by decide) dX3_enter_31 ⟨rfl, hx, hT⟩
  · exact absurd (nI_lt (b := 6) hlt (by decide)) b6
theorem RLw.dn {tp : Nat → Nat} {n : Nat} {u : RLT} {s e : Nat} {x : PX (List Nat)} {h : Hp} (r : RLw tp n u e (s + 1) x h) : RLw tp n u e s x h := by
  obtain ⟨t, c, r1, r2, r3, r4⟩ := r
  exact ⟨t, c, r1, r2, ⟨r3.1, by have := r3.2; omega⟩, r4⟩
