/-! a street that was read is one -/
theorem LawWF.of {cf cf2 : Nat → Nat} {n : Nat} (h : LawWF cf n) (e : ∀ k, k < n → cf2 k = cf k) : LawWF cf2 n := by
  have hd : ∀ k, k ≤ n → dk cf2 k = dk cf k := by
    intro k
    induction k with
    | zero => intro _; rfl
    | succ k ih =>
      intro hk
      show dstep (cf2 k) (dk cf2 k) = dstep (cf k) (dk cf k)
      rw [e k (by omega), ih (by omega)]
  refine ⟨fun k hk => ?_, fun k hk => ?_, ?_⟩
  · rw [e k hk, hd k (by omega)]; exact h.1 k hk
  · rw [hd k hk]; exact h.2.1 k hk
  · rw [hd n (Nat.le_refl _)]; exact h.2.2
def LWy (fr : FR) (lw : Nat) : Prop := (fr (8 + lw) = 0 ∨ (fr (8 + lw) = 1 ∧ fr (10 + lw) + fr (12 + lw) ≤ fr 276 ∧ LawWF (lawF fr lw) (fr (12 + lw)) ∧ ∀ k, k < fr (12 + lw) → 1000 ≤ lawF fr lw k → lawF fr lw k < 3000 → usedW lw (lawF fr lw k - 1000))) ∧ (fr (8 + lw) = 1 → SafF (lawF fr lw) (fr (12 + lw)))
theorem LWy.of {fr f2 : FR} {lw : Nat} (h : LWy fr lw) (e0 : f2 (8 + lw) = fr (8 + lw)) (e1 : f2 (10 + lw) = fr (10 + lw)) (e2 : f2 (12 + lw) = fr (12 + lw)) (e3 : fr 276 ≤ f2 276) (e4 : ∀ k, 277 ≤ k → k < 277 + fr 276 → f2 k = fr k) : LWy f2 lw := by
  obtain ⟨h, hsf⟩ := h
  rcases h with h | ⟨h1, h2, h3, h4⟩
  · exact ⟨Or.inl (e0.trans h), fun q => by rw [e0, h] at q; omega⟩
  · have ef : ∀ k, k < fr (12 + lw) → lawF f2 lw k = lawF fr lw k := fun k hk => by
      unfold lawF
      rw [e1]
      exact e4 _ (by omega) (by omega)
    refine ⟨Or.inr ⟨e0.trans h1, by rw [e1, e2]; omega, by rw [e2]; exact h3.of ef, fun k hk => ?_⟩, fun _ => by rw [e2]; exact (hsf h1).of ef⟩
    rw [e2] at hk
    rw [ef k hk]
    exact h4 k hk
def FK (g : Nat) (fr : FR) : Prop := (1 ≤ fr 1 ∧ fr 1 ≤ 6) ∧ fr 2 ≤ 6 ∧ (∀ j, j < 4 → fr (14 + j) ≤ 9) ∧ (∀ j, j < 4 → fr (18 + j) ≤ 9) ∧ (∀ j, j < 4 → fr (22 + j) ≤ fr 1) ∧ (∀ j, fr 3 ≤ j → j < 4 → j ≠ g → fr (22 + j) = 0) ∧ (fr 6 ≤ 10 ∧ fr 7 ≤ 9) ∧ (fr 26 ≤ 9 ∧ fr 27 ≤ 9) ∧ (fr 28 = 0 ∧ fr 45 = 0) ∧ LWy fr 0 ∧ LWy fr 1
theorem FK.of {g : Nat} {fr f2 : FR} (h : FK g fr) (e : ∀ k, k < 29 ∨ 45 ≤ k → f2 k = fr k) : FK g f2 := by
  obtain ⟨a1, a2, a3, a4, a5, a6, a7, a8, a9, b1, b2⟩ := h
  have l : ∀ lw, lw < 2 → LWy fr lw → LWy f2 lw := fun lw hl q => q.of (e _ (by omega)) (e _ (by omega)) (e _ (by omega)) (by rw [e 276 (by omega)]; exact Nat.le_refl _) (fun k h1 h2 => e k (by omega))
  refine ⟨?_, ?_, fun j hj => ?_, fun j hj => ?_, fun j hj => ?_, fun j h1 h2 h3 => ?_, ?_, ?_, ?_, l 0 (by decide) b1, l 1 (by decide) b2⟩
  · rw [e 1 (by omega)]; exact a1
  · rw [e 2 (by omega)]; exact a2
  · rw [e _ (by omega)]; exact a3 j hj
  · rw [e _ (by omega)]; exact a4 j hj
  · rw [e _ (by omega), e 1 (by omega)]; exact a5 j hj
  · rw [e 3 (by omega)] at h1; rw [e _ (by omega)]; exact a6 j h1 h2 h3
  · rw [e 6 (by omega), e 7 (by omega)]; exact a7
  · rw [e 26 (by omega), e 27 (by omega)]; exact a8
  · rw [e 28 (by omega), e 45 (by omega)]; exact a9
theorem FK.up {g i y : Nat} {fr : FR} (h : FK g fr) (hi : i < 276 ∧ (i < 8 ∨ 14 ≤ i) ∧ i ≠ 28 ∧ i ≠ 45 ∧ i ≠ 1 ∧ i ≠ 3) (c2 : i = 2 → y ≤ 6) (c6 : i = 6 → y ≤ 10) (c7 : i = 7 → y ≤ 9) (cl : 14 ≤ i → i < 22 → y ≤ 9) (cc : 22 ≤ i → i < 26 → i = 22 + g ∧ y ≤ fr 1) (cd : i = 26 ∨ i = 27 → y ≤ 9) : FK g (va_up fr i y) := by
  obtain ⟨a1, a2, a3, a4, a5, a6, a7, a8, a9, b1, b2⟩ := h
  have ne : ∀ k, k ≠ i → va_up fr i y k = fr k := fun k q => va_up_ne _ _ q
  have le : ∀ k m, fr k ≤ m → (i = k → y ≤ m) → va_up fr i y k ≤ m := fun k m q r => by
    by_cases e : k = i
    · rw [e, va_up_self]; exact r e.symm
    · rw [ne k e]; exact q
  have l : ∀ lw, lw < 2 → LWy fr lw → LWy (va_up fr i y) lw := fun lw hl q => q.of (ne _ (by omega)) (ne _ (by omega)) (ne _ (by omega)) (by rw [ne 276 (by omega)]; exact Nat.le_refl _) (fun k h1 h2 => ne k (by omega))
  refine ⟨?_, le 2 6 a2 c2, fun j hj => le _ 9 (a3 j hj) (fun z => cl (by omega) (by omega)), fun j hj => le _ 9 (a4 j hj) (fun z => cl (by omega) (by omega)), fun j hj => ?_, fun j h1 h2 h3 => ?_, ⟨le 6 10 a7.1 c6, le 7 9 a7.2 c7⟩, ⟨le 26 9 a8.1 (fun z => cd (Or.inl z)), le 27 9 a8.2 (fun z => cd (Or.inr z))⟩, ?_, l 0 (by decide) b1, l 1 (by decide) b2⟩
  · rw [ne 1 (by omega)]; exact a1
  · rw [ne 1 (by omega)]; exact le _ _ (a5 j hj) (fun z => (cc (by omega) (by omega)).2)
  · rw [ne 3 (by omega)] at h1
    rw [ne _ (fun z => by have := (cc (by omega) (by omega)).1; omega)]
    exact a6 j h1 h2 h3
  · rw [ne 28 (by omega), ne 45 (by omega)]; exact a9
theorem FK.up1 {y : Nat} {fr : FR} (h : FK 4 fr) (hz : ∀ j, j < 4 → fr (22 + j) = 0) (h1 : 1 ≤ y) (h6 : y ≤ 6) : FK 4 (va_up fr 1 y) := by
  obtain ⟨a1, a2, a3, a4, a5, a6, a7, a8, a9, b1, b2⟩ := h
  have ne : ∀ k, k ≠ 1 → va_up fr 1 y k = fr k := fun k q => va_up_ne _ _ q
  have l : ∀ lw, lw < 2 → LWy fr lw → LWy (va_up fr 1 y) lw := fun lw hl q => q.of (ne _ (by omega)) (ne _ (by omega)) (ne _ (by omega)) (by rw [ne 276 (by omega)]; exact Nat.le_refl _) (fun k h1 h2 => ne k (by omega))
  refine ⟨by rw [va_up_self]; exact ⟨h1, h6⟩, by rw [ne 2 (by omega)]; exact a2, fun j hj => by rw [ne _ (by omega)]; exact a3 j hj, fun j hj => by rw [ne _ (by omega)]; exact a4 j hj, fun j hj => by rw [ne _ (by omega), hz j hj]; exact Nat.zero_le _, fun j q1 q2 q3 => by rw [ne _ (by omega)]; exact hz j q2, by rw [ne 6 (by omega), ne 7 (by omega)]; exact a7, by rw [ne 26 (by omega), ne 27 (by omega)]; exact a8, by rw [ne 28 (by omega), ne 45 (by omega)]; exact a9, l 0 (by decide) b1, l 1 (by decide) b2⟩
theorem FK.goer {g : Nat} {fr : FR} (h : FK g fr) (e3 : fr 3 = g) : FK 4 (va_up fr 3 (fr 3 + 1)) := by
  obtain ⟨a1, a2, a3, a4, a5, a6, a7, a8, a9, b1, b2⟩ := h
  have ne : ∀ k, k ≠ 3 → va_up fr 3 (fr 3 + 1) k = fr k := fun k q => va_up_ne _ _ q
  have l : ∀ lw, lw < 2 → LWy fr lw → LWy (va_up fr 3 (fr 3 + 1)) lw := fun lw hl q => q.of (ne _ (by omega)) (ne _ (by omega)) (ne _ (by omega)) (by rw [ne 276 (by omega)]; exact Nat.le_refl _) (fun k h1 h2 => ne k (by omega))
  refine ⟨by rw [ne 1 (by omega)]; exact a1, by rw [ne 2 (by omega)]; exact a2, fun j hj => by rw [ne _ (by omega)]; exact a3 j hj, fun j hj => by rw [ne _ (by omega)]; exact a4 j hj, fun j hj => by rw [ne _ (by omega), ne 1 (by omega)]; exact a5 j hj, fun j q1 q2 q3 => by rw [va_up_self] at q1; rw [ne _ (by omega)]; exact a6 j (by omega) q2 (by omega), by rw [ne 6 (by omega), ne 7 (by omega)]; exact a7, by rw [ne 26 (by omega), ne 27 (by omega)]; exact a8, by rw [ne 28 (by omega), ne 45 (by omega)]; exact a9, l 0 (by decide) b1, l 1 (by decide) b2⟩
theorem FK.weak {g : Nat} {fr : FR} (h : FK 4 fr) : FK g fr := ⟨h.1, h.2.1, h.2.2.1, h.2.2.2.1, h.2.2.2.2.1, fun j h1 h2 _ => h.2.2.2.2.2.1 j h1 h2 (by omega), h.2.2.2.2.2.2⟩
theorem lawSet_ne {rd k : Nat} {fr : FR} {L : List Nat} (h1 : k ≠ 8 + rd) (h2 : k ≠ 10 + rd) (h3 : k ≠ 12 + rd) (h4 : k ≠ 276) (h5 : k < 277 + fr 276 ∨ 277 + fr 276 + L.length ≤ k) : lawSet rd fr L k = fr k := by
  unfold lawSet frL
  rw [va_up_ne _ _ h3, va_up_ne _ _ h2, va_up_ne _ _ h1, va_up_ne _ _ h4, fillN_out (by omega)]
theorem lawSet_276 {rd : Nat} {fr : FR} {L : List Nat} (hrd : rd < 2) : lawSet rd fr L 276 = fr 276 + L.length := by
  unfold lawSet
  rw [va_up_ne _ _ (by omega), va_up_ne _ _ (by omega), va_up_ne _ _ (by omega), frL_276]
theorem lawSet_8 {rd : Nat} {fr : FR} {L : List Nat} (hrd : rd < 2) : lawSet rd fr L (8 + rd) = 1 := by
  unfold lawSet
  rw [va_up_ne _ _ (by omega), va_up_ne _ _ (by omega), va_up_self]
theorem lawSet_10 {rd : Nat} {fr : FR} {L : List Nat} (hrd : rd < 2) : lawSet rd fr L (10 + rd) = fr 276 := by
  unfold lawSet
  rw [va_up_ne _ _ (by omega), va_up_self]
theorem lawSet_12 {rd : Nat} {fr : FR} {L : List Nat} : lawSet rd fr L (12 + rd) = L.length := by
  unfold lawSet
  rw [va_up_self]
theorem lawSet_code {rd k : Nat} {fr : FR} {L : List Nat} (hrd : rd < 2) (hk : k < L.length) : lawSet rd fr L (277 + fr 276 + k) = L.getD k 0 := by
  unfold lawSet frL
  rw [va_up_ne _ _ (by omega), va_up_ne _ _ (by omega), va_up_ne _ _ (by omega), va_up_ne _ _ (by omega), fillN_in hk]
theorem FK.law {rd H : Nat} {fr : FR} {L : List Nat} (hrd : rd < 2) (h : FK 4 fr) (hS : Sg rd H L) (hN : NumS L) (hH : H ≤ 64) : FK 4 (lawSet rd fr L) := by
  obtain ⟨a1, a2, a3, a4, a5, a6, a7, a8, a9, b1, b2⟩ := h
  have ne : ∀ k, k < 8 ∨ (14 ≤ k ∧ k < 276) → lawSet rd fr L k = fr k := fun k q => lawSet_ne (by omega) (by omega) (by omega) (by omega) (by omega)
  have lother : ∀ lw, lw < 2 → lw ≠ rd → LWy fr lw → LWy (lawSet rd fr L) lw := fun lw hl hn q => q.of (lawSet_ne (by omega) (by omega) (by omega) (by omega) (by omega)) (lawSet_ne (by omega) (by omega) (by omega) (by omega) (by omega)) (lawSet_ne (by omega) (by omega) (by omega) (by omega) (by omega)) (by rw [lawSet_276 hrd]; omega) (fun k h1 h2 => lawSet_ne (by omega) (by omega) (by omega) (by omega) (by omega))
  have lown : LWy (lawSet rd fr L) rd := by
    have ef : ∀ k, k < L.length → lawF (lawSet rd fr L) rd k = L.getD k 0 := fun k hk => by
      unfold lawF
      rw [lawSet_10 hrd]
      exact lawSet_code hrd hk
    obtain ⟨w1, w2⟩ := hS.wf hH ef
    exact ⟨Or.inr ⟨lawSet_8 hrd, by rw [lawSet_10 hrd, lawSet_12, lawSet_276 hrd]; omega, by rw [lawSet_12]; exact w1, by rw [lawSet_12]; exact w2⟩, fun _ => by rw [lawSet_12]; exact hN.saf ef⟩
  have l : ∀ lw, lw < 2 → LWy fr lw → LWy (lawSet rd fr L) lw := fun lw hl q => by
    by_cases e : lw = rd
    · rw [e]; exact lown
    · exact lother lw hl e q
  exact ⟨by rw [ne 1 (by omega)]; exact a1, by rw [ne 2 (by omega)]; exact a2, fun j hj => by rw [ne _ (by omega)]; exact a3 j hj, fun j hj => by rw [ne _ (by omega)]; exact a4 j hj, fun j hj => by rw [ne _ (by omega), ne 1 (by omega)]; exact a5 j hj, fun j q1 q2 q3 => by rw [ne 3 (by omega)] at q1; rw [ne _ (by omega)]; exact a6 j q1 q2 q3, by rw [ne 6 (by omega), ne 7 (by omega)]; exact a7, by rw [ne 26 (by omega), ne 27 (by omega)]; exact a8, by rw [ne 28 (by omega), ne 45 (by omega)]; exact a9, l 0 (by decide) b1, l 1 (by decide) b2⟩
/-- what holds of the row at a line's end -/
def LnI (n q : Nat) (x : PX FR) : Prop := WI n q x ∧ OkS (FK 4) x
theorem LnI.mk {n q : Nat} {x : PX FR} (a : WI n q x) (b : OkS (FK 4) x) : LnI n q x := ⟨a, b⟩
theorem LnI.mono {n q q2 : Nat} {x : PX FR} (h : LnI n q x) (e : q2 ≤ q) : LnI n q2 x := ⟨h.1.mono e, h.2⟩
theorem LnI.b {n q : Nat} {x : PX FR} {F : PL} (h : LnI n q x) (hF : ∀ p fr, LnI n q (.ok (p, fr)) → LnI n q (F p fr)) : LnI n q (bnd x F) := by
  match x, h with
  | .ok (p, L), h => exact hF p L h
  | .error (w, a), h => exact h
theorem WI.bS {n q : Nat} {S : FR → Prop} {x : PX FR} {F : PL} (h : WI n q x) (hs : OkS S x) (hF : ∀ p fr, WI n q (.ok (p, fr)) → S fr → WI n q (F p fr)) : WI n q (bnd x F) := by
  match x, h, hs with
  | .ok (p, L), h, hs => exact hF p L h hs
  | .error (w, a), h, _ => exact h
section LINES
variable {tp : Nat → Nat} {n q p : Nat} {fr : FR}
theorem i_ends (h : LnI n q (.ok (p, fr))) : LnI n (q + 1) (pEnds tp n p fr) := by
  have hu : ∀ {fr : FR}, FK 4 fr → FK 4 (va_up fr 0 (fr 0 + 1)) := fun z => z.up (by omega) (by omega) (by omega) (by omega) (by omega) (by omega) (by omega)
  unfold pEnds
  unfold pEat
  split
  · rename_i e
    have := h.1.nx (tp := tp) (by rw [e]; decide)
    refine ⟨⟨this.1, this.2.1, ?_, WF1.up this.2.2.2 (by decide) (fun e => absurd e (by decide)) (fun e => absurd e (by decide)) (fun e => absurd e (by decide)) (fun e => absurd e (by decide))⟩, hu h.2⟩
    show va_up fr 0 (fr 0 + 1) 276 ≤ _
    rw [va_up_ne _ _ (by decide)]; exact this.2.2.1
  · have z := h.1.fl (tp := tp) (f := 2) (by decide) (by decide)
    exact ⟨z, trivial⟩
theorem i_goer (h : LnI n q (.ok (p, fr))) : LnI n q (pGoer tp n p fr) := by
  unfold pGoer
  split
  · exact ⟨h.1.fl (L := fr) (by decide) (by decide), trivial⟩
  · rename_i h4
    have hg : fr 3 < 4 := by have := h.1.2.2.2.2.1; omega
    have s0 : FK (fr 3) fr ∧ fr 3 = fr 3 := ⟨FK.weak h.2, rfl⟩
    have o : OkS (fun f => FK (fr 3) f ∧ f 3 = fr 3) (bnd (bnd (bnd (pNx tp n p fr) (pEat tp n 4)) (pSet tp n 0 (fun _ => 10) (14 + fr 3))) (pFlags tp n (fr 3) 901)) := by
      refine OkS.b (S := fun f => FK (fr 3) f ∧ f 3 = fr 3) (OkS.b (S := fun f => FK (fr 3) f ∧ f 3 = fr 3) (OkS.b (S := fun f => FK (fr 3) f ∧ f 3 = fr 3) (OkS.nx s0) (fun p L z => OkS.eat p L z)) (OkS.set (fun f y z a b => ?_))) (OkS.flags (fun f y z a b => ?_) (fun f y z a b => ?_) 901)
      · exact ⟨z.1.up (by omega) (by omega) (by omega) (by omega) (by omega) (by omega) (by omega), by rw [va_up_ne _ _ (by omega)]; exact z.2⟩
      · exact ⟨z.1.up (by omega) (by omega) (by omega) (by omega) (by omega) (fun _ _ => ⟨rfl, by omega⟩) (by omega), by rw [va_up_ne _ _ (by omega)]; exact z.2⟩
      · exact ⟨z.1.up (by omega) (by omega) (by omega) (by omega) (by omega) (by omega) (by omega), by rw [va_up_ne _ _ (by omega)]; exact z.2⟩
    have w : WI n q (bnd (bnd (bnd (pNx tp n p fr) (pEat tp n 4)) (pSet tp n 0 (fun _ => 10) (14 + fr 3))) (pFlags tp n (fr 3) 901)) := ((h.1.nx0.b l_eat).b (l_set (M := 9) (by omega) WF1.ten (by omega) (by omega) (by omega) (by omega))).b (l_flags hg 901)
    refine ⟨w.bS o (fun p f z s => ?_), o.b (fun p f z => FK.goer z.1 z.2)⟩
    refine ⟨z.1, z.2.1, ?_, WF1.up z.2.2.2 (by decide) (fun e => absurd e (by decide)) (fun _ => by rw [s.2]; omega) (fun e => absurd e (by decide)) (fun e => absurd e (by decide))⟩
    show va_up f 3 (f 3 + 1) 276 ≤ p
    rw [va_up_ne _ _ (by decide)]; exact z.2.2.1
theorem i_people (h : LnI n q (.ok (p, fr))) : LnI n q (pPeople tp n p fr) := by
  unfold pPeople
  split
  · exact ⟨h.1.fl (L := fr) (by decide) (by decide), trivial⟩
  · refine ⟨(h.1.nx0.b (l_set (M := 8) (by omega) WF1.ten (by omega) (by omega) (by omega) (by omega))).b (fun q p f z => ?_), OkS.b (S := FK 4) (OkS.b (S := FK 4) (OkS.nx h.2) (OkS.set (fun f y z a b => z.up (by omega) (by omega) (by omega) (by omega) (by omega) (by omega) (by omega)))) (fun p f z => z.up (by omega) (by omega) (by omega) (by omega) (by omega) (by omega) (by omega))⟩
    refine ⟨z.1, z.2.1, ?_, WF1.up z.2.2.2 (by decide) (fun e => absurd e (by decide)) (fun e => absurd e (by decide)) (fun e => absurd e (by decide)) (fun _ => by decide)⟩
    show va_up f 5 1 276 ≤ p
    rw [va_up_ne _ _ (by decide)]; exact z.2.2.1
theorem i_cart (h : LnI n q (.ok (p, fr))) : LnI n q (pCart tp n p fr) :=
  ⟨((h.1.nx0.b (l_set (M := 10) (by omega) WF1.ten (by omega) (by omega) (by omega) (by omega))).b l_eat).b (l_set (M := 9) (by omega) WF1.ten (by omega) (by omega) (by omega) (by omega)), OkS.b (S := FK 4) (OkS.b (S := FK 4) (OkS.b (S := FK 4) (OkS.nx h.2) (OkS.set (fun f y z a b => z.up (by omega) (by omega) (by omega) (by omega) (by omega) (by omega) (by omega)))) (fun p f z => OkS.eat p f z)) (OkS.set (fun f y z a b => z.up (by omega) (by omega) (by omega) (by omega) (by omega) (by omega) (by omega)))⟩
theorem i_draught (h : LnI n q (.ok (p, fr))) : LnI n q (bnd (pNx tp n p fr) (pSet tp n 0 (fun _ => 10) 27)) :=
  ⟨h.1.nx0.b (l_set (M := 9) (by omega) WF1.ten (by omega) (by omega) (by omega) (by omega)), OkS.b (S := FK 4) (OkS.nx h.2) (OkS.set (fun f y z a b => z.up (by omega) (by omega) (by omega) (by omega) (by omega) (by omega) (by omega)))⟩
theorem i_hint {i : Nat} (h : LnI n q (.ok (p, fr))) : LnI n q (pHint tp n i p fr) := by
  have h8 := h.1.2.2.2.2.2.1
  show LnI n q (bnd (pTk tp n 0 (fun fr => fr 4) (lxE tp n p) fr) (pHint2 tp n i (lxN tp n (lxE tp n p))))
  have h1 : LnI n q (.ok (lxE tp n p, fr)) := ⟨h.1.nx0, h.2⟩
  unfold pTk
  split
  · split
    · rename_i hr
      show LnI n q (pHint2 tp n i (lxN tp n (lxE tp n p)) (lxE tp n (lxE tp n p)) fr)
      have h2 : LnI n q (.ok (lxE tp n (lxE tp n p), fr)) := ⟨h1.1.nx0, h.2⟩
      unfold pHint2
      split
      · exact ⟨h2.1.fl (L := fr) (by decide) (by decide), trivial⟩
      · unfold pTk
        split
        · split
          · rename_i hs
            have ha4 : lxN tp n (lxE tp n p) < fr 4 := hr.2
            have hb4 : lxN tp n (lxE tp n (lxE tp n p)) < fr 4 := hs.2
            have h3 := h2.1.nx0 (tp := tp)
            refine ⟨⟨h3.1, h3.2.1, ?_, ?_⟩, FK.of h.2 (fun k hk => hintN_out (by omega) (by omega) hk)⟩
            · rw [hintN_out (by omega) (by omega) (by omega)]; exact h3.2.2.1
            · obtain ⟨w1, w3, w4, w5, w6, w7⟩ := h3.2.2.2
              have o : ∀ k, k < 29 → hintN fr (lxN tp n (lxE tp n p)) (lxN tp n (lxE tp n (lxE tp n p))) i k = fr k := fun k hk => hintN_out (by omega) (by omega) (Or.inl hk)
              refine ⟨?_, ?_, ?_, ?_, fun j hj => hintN_lt (by omega) (by omega) w6 w7 (w6 j hj), fun j hj => hintN_lt (by omega) (by omega) w6 w7 (w7 j hj)⟩
              · rw [o 1 (by omega)]; exact w1
              · rw [o 3 (by omega)]; exact w3
              · rw [o 4 (by omega)]; exact w4
              · rw [o 5 (by omega)]; exact w5
          · exact ⟨h2.1.fl (L := fr) (by decide) (by decide), trivial⟩
        · exact ⟨h2.1.fl (L := fr) (by decide) (by decide), trivial⟩
    · exact ⟨h1.1.fl (L := fr) (by decide) (by decide), trivial⟩
  · exact ⟨h1.1.fl (L := fr) (by decide) (by decide), trivial⟩
theorem i_law {rd : Nat} (hrd : rd < 2) (h : LnI n q (.ok (p, fr))) : LnI n q (pLaw tp n rd p fr) := by
  refine LnI.b (LnI.b (x := .ok (lxE tp n p, fr)) ⟨h.1.nx0, h.2⟩ (fun p f z => ⟨l_eat _ _ _ z.1, OkS.eat p f z.2⟩)) (fun p fr h => ?_)
  have hI : IV n (fr 276) q ((lvl tp n rd 6).1 p []) := (g_lvl tp n rd 6).1 (fr 276) q p [] ⟨h.1.1, h.1.2.1, by show fr 276 + 0 ≤ p; exact h.1.2.2.1⟩
  have hA := (Ad_lvl tp n rd hrd 6).1 p []
  have hB := (Ap_lvl tp n rd 6).1 p []
  unfold pLaw2
  revert hI hA hB
  generalize (lvl tp n rd 6).1 p [] = y
  intro hI hA hB
  match y, hI, hA, hB with
  | .error (w, a), hI, _, _ => exact ⟨hI, trivial⟩
  | .ok (p2, L), hI, hA, hB =>
    obtain ⟨M, e, s⟩ := hA
    obtain ⟨M2, e2, s2⟩ := hB
    rw [List.nil_append] at e e2
    subst e
    subst e2
    obtain ⟨w1, w3, w4, w5, w6, w7⟩ := h.1.2.2.2
    have ne : ∀ k, k < 8 ∨ (14 ≤ k ∧ k < 276) → lawSet rd fr L k = fr k := fun k q => lawSet_ne (by omega) (by omega) (by omega) (by omega) (by omega)
    refine ⟨⟨hI.1, hI.2.1, by rw [lawSet_276 hrd]; exact hI.2.2, ?_, ?_, ?_, ?_, fun j hj => ?_, fun j hj => ?_⟩, FK.law hrd h.2 s s2 (by decide)⟩
    · rw [ne 1 (by omega)]; exact w1
    · rw [ne 3 (by omega)]; exact w3
    · rw [ne 4 (by omega)]; exact w4
    · rw [ne 5 (by omega)]; exact w5
    · rw [ne _ (by omega)]; exact w6 j hj
    · rw [ne _ (by omega)]; exact w7 j hj
theorem i_line (h : LnI n q (.ok (p, fr))) : LnI n q (pLine tp n p fr) := by
  unfold pLine
  repeat' split
  · exact i_goer h
  · exact i_people h
  · exact i_hint h
  · exact i_hint h
  · exact i_cart h
  · exact i_draught h
  · exact i_law (by decide) h
  · exact i_law (by decide) h
  · exact ⟨h.1.fl (L := fr) (by decide) (by decide), trivial⟩
theorem LnI.bu {x : PX FR} {F : PL} (h : LnI n q x) (hF : ∀ p fr, LnI n q (.ok (p, fr)) → LnI n (q + 1) (F p fr)) : LnI n (q + 1) (bnd x F) := by
  match x, h with
  | .ok (p, L), h => exact hF p L h
  | .error (w, a), h => exact h
theorem i_line1 (h : LnI n q (.ok (p, fr))) : LnI n (q + 1) (bnd (pLine tp n p fr) (pEnds tp n)) := (i_line h).bu (fun _ _ z => i_ends z)
theorem i_lines : ∀ (m : Nat) {p : Nat} {fr : FR}, LnI n 0 (.ok (p, fr)) → LnI n 0 (pLines tp n m p fr) := by
  intro m
  induction m with
  | zero => intro p fr h; exact h
  | succ m ih =>
    intro p fr h
    unfold pLines
    split
    · exact h
    · exact ((i_line1 h).mono (Nat.zero_le _)).b (fun p fr z => ih z)
theorem i_head {f0 : FR} (h0 : ∀ k, k < 1177 → f0 k = plainF k) : LnI n 0 (pHead tp n f0) := by
  have e : ∀ k, k < 1177 → k ≠ 1 → k ≠ 26 → f0 k = 0 := fun k h1 h2 h3 => by rw [h0 k h1]; unfold plainF; rw [if_neg h2, if_neg h3]
  have z0 : ∀ j, j < 4 → f0 (22 + j) = 0 := fun j hj => e _ (by omega) (by omega) (by omega)
  have k0 : FK 4 f0 := ⟨by rw [h0 1 (by omega)]; decide, by rw [e 2 (by omega) (by omega) (by omega)]; decide, fun j hj => by rw [e _ (by omega) (by omega) (by omega)]; decide, fun j hj => by rw [e _ (by omega) (by omega) (by omega)]; decide, fun j hj => by rw [z0 j hj]; exact Nat.zero_le _, fun j _ hj _ => z0 j hj, by rw [e 6 (by omega) (by omega) (by omega), e 7 (by omega) (by omega) (by omega)]; decide, by rw [h0 26 (by omega), e 27 (by omega) (by omega) (by omega)]; decide, ⟨e 28 (by omega) (by omega) (by omega), e 45 (by omega) (by omega) (by omega)⟩, ⟨Or.inl (e 8 (by omega) (by omega) (by omega)), fun q => by rw [e 8 (by omega) (by omega) (by omega)] at q; omega⟩, ⟨Or.inl (e 9 (by omega) (by omega) (by omega)), fun q => by rw [e 9 (by omega) (by omega) (by omega)] at q; omega⟩⟩
  have w0 : WI n 0 (.ok (0, f0)) := ⟨Nat.le_refl _, Nat.zero_le _, by rw [e 276 (by omega) (by omega) (by omega)]; exact Nat.le_refl _, by rw [h0 1 (by omega)]; decide, by rw [e 3 (by omega) (by omega) (by omega)]; decide, by rw [e 4 (by omega) (by omega) (by omega)]; decide, by rw [e 5 (by omega) (by omega) (by omega)]; decide, fun j hj => by rw [e _ (by omega) (by omega) (by omega)]; decide, fun j hj => by rw [e _ (by omega) (by omega) (by omega)]; decide⟩
  have w : WI n 0 (bnd (bnd (bnd (bnd (bnd (bnd (.ok (0, f0)) (pEat tp n 0)) (pSet tp n 1 (fun _ => 7) 1)) (pEat tp n 1)) (pSet tp n 0 (fun fr => fr 1) 2)) (pEat tp n 2)) (pSet tp n 1 (fun _ => 10) 26)) := (((((w0.b l_eat).b (l_set (M := 6) (by omega) WF1.ten (by omega) (by omega) (by omega) (by omega))).b l_eat).b (l_set (M := 6) (by omega) (fun fr z => Nat.le_succ_of_le z.1) (by omega) (by omega) (by omega) (by omega))).b l_eat).b (l_set (M := 9) (by omega) WF1.ten (by omega) (by omega) (by omega) (by omega))
  have o : OkS (FK 4) (bnd (bnd (bnd (bnd (bnd (bnd (.ok (0, f0)) (pEat tp n 0)) (pSet tp n 1 (fun _ => 7) 1)) (pEat tp n 1)) (pSet tp n 0 (fun fr => fr 1) 2)) (pEat tp n 2)) (pSet tp n 1 (fun _ => 10) 26)) := by
    refine OkS.b (S := FK 4) (OkS.b (S := FK 4) (OkS.b (S := FK 4) (OkS.b (S := FK 4) (OkS.b (S := fun f => FK 4 f ∧ ∀ j, j < 4 → f (22 + j) = 0) (OkS.b (S := fun f => FK 4 f ∧ ∀ j, j < 4 → f (22 + j) = 0) (x := .ok (0, f0)) ⟨k0, z0⟩ (fun p L z => OkS.eat p L z)) (OkS.set (fun f y z a b => z.1.up1 z.2 a (by omega)))) (fun p L z => OkS.eat p L z)) (OkS.set (fun f y z a b => z.up (by omega) (fun _ => by have := z.1.2; omega) (by omega) (by omega) (by omega) (by omega) (by omega)))) (fun p L z => OkS.eat p L z)) (OkS.set (fun f y z a b => z.up (by omega) (by omega) (by omega) (by omega) (by omega) (by omega) (by omega)))
  exact (LnI.bu ⟨w, o⟩ (fun _ _ z => i_ends z)).mono (Nat.zero_le _)
theorem i_street {f0 : FR} (h0 : ∀ k, k < 1177 → f0 k = plainF k) : LnI n 0 (pStreet tp n f0) := (i_head h0).b (fun p fr z => i_lines 901 z)
end LINES
theorem FK.ain {n p : Nat} {fr a : FR} (h : LnI n 0 (.ok (p, fr))) (hn : n ≤ 900) (e : ∀ k, k < 1177 → a k = fr k) : AIN a := by
  obtain ⟨⟨_, hp, h276, w1, w3, w4, w5, w6, w7⟩, a1, a2, a3, a4, a5, a6, a7, a8, a9, b1, b2⟩ := h
  have l : ∀ lw, lw < 2 → LWy fr lw → LWok a lw := fun lw hl q => by
    rcases q.1 with q | ⟨q1, q2, q3, q4⟩
    · exact Or.inl (by rw [e _ (by omega)]; exact q)
    · have ef : ∀ k, k < fr (12 + lw) → lawF a lw k = lawF fr lw k := fun k hk => by
        unfold lawF
        rw [e (10 + lw) (by omega)]
        exact e _ (by omega)
      refine Or.inr ⟨by rw [e _ (by omega)]; exact q1, by rw [e _ (by omega), e _ (by omega)]; omega, by rw [e (12 + lw) (by omega)]; exact q3.of ef, fun k hk => ?_⟩
      rw [e (12 + lw) (by omega)] at hk
      rw [ef k hk]
      exact q4 k hk
  refine ⟨⟨by rw [e 1 (by omega)]; exact a1, by rw [e 2 (by omega)]; exact a2, by rw [e 3 (by omega)]; exact w3, by rw [e 4 (by omega)]; exact w4, by rw [e 6 (by omega), e 7 (by omega)]; exact a7, fun g hg => by rw [e _ (by omega)]; exact a3 g hg, fun g hg => by rw [e _ (by omega)]; exact a4 g hg, l 0 (by decide) b1, l 1 (by decide) b2⟩, ⟨fun g hg => ?_, fun g h1 h2 => ?_, ?_, ?_, fun j hj => ?_, fun j hj => ?_⟩, ?_, fun j hj => ?_⟩
  · show a (22 + g) ≤ a 1
    rw [e _ (by omega), e 1 (by omega)]; exact a5 g hg
  · show a (22 + g) = 0
    rw [e 3 (by omega)] at h1
    rw [e _ (by omega)]; exact a6 g h1 h2 (by omega)
  · show a 26 ≤ 9
    rw [e 26 (by omega)]; exact a8.1
  · show a 27 ≤ 9
    rw [e 27 (by omega)]; exact a8.2
  · show a (22 + (7 + j)) < 256
    rw [show 22 + (7 + j) = 29 + j by omega, e _ (by omega)]; exact w6 j hj
  · show a (22 + (15 + j)) < 256
    rw [show 22 + (15 + j) = 37 + j by omega, e _ (by omega)]; exact w7 j hj
  · rw [e 45 (by omega), a9.2]; decide
  · rw [e 45 (by omega), a9.2] at hj; omega
