/-! a street that is told keeps what holds between calls -/
set_option maxRecDepth 20000 in
set_option maxHeartbeats 1000000 in
theorem cs_sE {Z : Nat → Prop} {reg : Nat → FR} {ns s sg kd w1 w2 c : Nat} {wk dt : Value} {a b : FR} {hi rs rm : Nat → Int32} {nu : Nat → Int64} {fk fp : Int32} {t : Nat} {tp : Nat → Nat} {h h2 : Hp} {fk2 fp2 : Int32} {t2 : Nat} (x : CSx Z reg ns s sg kd w1 w2 wk dt b h c a hi rs rm nu fk fp t tp) (hA : AIN a) (hs : h2.2.1 ≤ h.2.1 + 184 ∧ h2.2.2 ≤ h.2.2 + 927) (e : Gx [64, 65, 67, 76] h h2) (q1 : NW h2 s ns w1 w2 wk dt a) (q : MR h2 fk2 fp2 t2 tp) : CSt h2 (c + 1) a hi rs rm nu fk2 fp2 t2 tp ∧ NM h h2 := by
  obtain ⟨⟨xN, xD, xS, xR, xT, xI, xY, xW, x9, xK, xd⟩, ⟨hkl, hns⟩, hr1, hr2⟩ := x
  have hn := xD.n
  have hk0 := xD.k0
  have rm9 : RmE 184 927 h h2 wk dt kd wk dt kd := ⟨e.1, by omega, by omega, Or.inl rfl, fun z => by have := e.1; omega⟩
  have f : Fm (fun y => y ∈ [64, 65, 67, 76]) h h2 := e.fm
  have hz : ∀ y, Z y → h2.1 y = h.1 y := xD.zfm f (fun y z => by have := xD.at_ y z; exact (by simp <;> omega))
  obtain ⟨r1, r2, r3, r4, r5⟩ := rm9
  refine ⟨⟨Z, reg, ns, s, sg, kd, w1, w2, wk, dt, b, ⟨?_, ?_, ?_, ?_, ?_, ?_, ?_, ?_, ?_, ?_, ?_⟩, ⟨r5 hkl, by omega⟩, by omega, by omega⟩, fun y h1 h9 => f.2 y (by omega) (by simp <;> omega)⟩
  · exact q1
  · exact xD.fm (xD.1.fm f hn hkl (fun y hy => by simp <;> omega)) f (fun y z => by have := xD.at_ y z; exact (by simp <;> omega)) (Or.inl rfl)
  · exact xS
  · exact q
  · exact xT.fm f hn (fun y hy => by simp <;> omega)
  · exact xI.fm hz f hn (fun y hy => by simp <;> omega) (fun _ _ _ => rfl)
  · exact xY.fm f hn (fun y h1 h9 => by simp <;> omega)
  · exact xW.fm f hn (fun y h1 h9 => by simp <;> omega)
  · exact tf_fm x9 f hn (by simp <;> omega)
  · exact xK.fm hz f (Or.inl rfl) (fun y hy => by have := xK.at_ y hy; exact (by simp <;> omega))
  · exact xd.fm hz f (Or.inl rfl) (Nat.le_succ _) (fun y hy => by have := xd.at_ y hy; exact (by simp <;> omega))
set_option maxRecDepth 20000 in
set_option maxHeartbeats 1000000 in
theorem cs_sO {Z : Nat → Prop} {reg : Nat → FR} {ns s sg kd w1 w2 c : Nat} {wk dt : Value} {a b : FR} {hi rs rm : Nat → Int32} {nu : Nat → Int64} {fk fp : Int32} {t : Nat} {tp : Nat → Nat} {h h2 : Hp} {fk2 fp2 : Int32} {t2 n p : Nat} {fr : FR} (x : CSx Z reg ns s sg kd w1 w2 wk dt b h c a hi rs rm nu fk fp t tp) (hA : AIN a) (hc : c < 800) (hs : h2.2.1 ≤ h.2.1 + 184 ∧ h2.2.2 ≤ h.2.2 + 927) (e : Gx [64, 65, 67, 76] h h2) (hI : LnI n 0 (.ok (p, fr))) (hn9 : n ≤ 900) (q1 : NW h2 h.2.1 (ns + 1) w1 w2 wk dt (sA a (.ok (p, fr)))) (q2 : StO (fun y => h.2.1 ≤ y ∧ y < h2.2.1) h2 h.2.1 (ns + 1) fr) (q : MR h2 fk2 fp2 t2 tp) : CSt h2 (c + 1) (sA a (.ok (p, fr))) hi rs rm nu fk2 fp2 t2 tp ∧ NM h h2 := by
  obtain ⟨⟨xN, xD, xS, xR, xT, xI, xY, xW, x9, xK, xd⟩, ⟨hkl, hns⟩, hr1, hr2⟩ := x
  have hn := xD.n
  have hk0 := xD.k0
  have f : Fm (fun y => y ∈ [64, 65, 67, 76]) h h2 := e.fm
  have hz : ∀ y, Z y → h2.1 y = h.1 y := xD.zfm f (fun y z => by have := xD.at_ y z; exact (by simp <;> omega))
  have e1 := e.1
  refine ⟨⟨fun y => Z y ∨ (h.2.1 ≤ y ∧ y < h2.2.1), fun j => if j = ns + 1 then fr else reg j, ns + 1, h.2.1, ns + 1, kd, w1, w2, wk, dt, fr, ⟨q1, xD.grow (a := a) hkl e (by simp) hI hn9 q2 (by omega), fun k hk => sA_lo (by omega), q, ?_, ?_, ?_, ?_, ?_, ?_, ?_⟩, ⟨by omega, by omega⟩, by omega, by omega⟩, fun y h1 h9 => f.2 y (by omega) (by simp <;> omega)⟩
  · exact xT.fm f hn (fun y hy => by simp <;> omega)
  · exact xI.grow (fun y z => ⟨Or.inl z, hz y z⟩) (fun y hy => f.2 y (by omega) (by simp <;> omega)) (fun j hj => if_neg (by omega)) (by omega) (fun k hk _ => sA_hi hk)
  · exact xY.fm f hn (fun y h1 h9 => by simp <;> omega)
  · exact xW.fm f hn (fun y h1 h9 => by simp <;> omega)
  · exact tf_fm x9 f hn (by simp)
  · rcases xK with x | ⟨y9, x1, x2, x3⟩
    · exact Or.inl x
    · have l := x3.1
      refine Or.inr ⟨y9, x1, ⟨x2.1, x2.2.1, fun y z => z.elim (fun z => x2.2.2 y z) (fun z => Or.inr (by omega))⟩, x3.frame (fun y y1 y2 => f.2 y (by omega) (by have := x2.1; exact (by simp <;> omega))) f.1 (fun y z => ⟨Or.inl z, hz y z⟩) (fun j hj => if_neg (by omega)) (by omega)⟩
  · rcases xd with x | ⟨y9, x1, x2, x3⟩
    · exact Or.inl x
    · have l := x3.1
      refine Or.inr ⟨y9, x1, ⟨x2.1, x2.2.1, fun y z => z.elim (fun z => x2.2.2 y z) (fun z => Or.inr (by omega))⟩, x3.frame (fun y y1 y2 => f.2 y (by omega) (by have := x2.1; exact (by simp <;> omega))) f.1 (fun y z => ⟨Or.inl z, hz y z⟩) (fun j hj => if_neg (by omega)) (by omega) (Nat.le_succ _)⟩
