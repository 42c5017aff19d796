/-! a call of the class keeps what holds between calls -/
theorem AIN.low {a a2 : FR} (hA : AIN a) (e : ∀ k, k < 1177 → a2 k = a k) : AIN a2 := by
  refine ⟨hA.1.stat (fun k hk => e k (by omega)), hA.2.1.congr (e 1 (by omega)) (e 3 (by omega)) (fun j hj => e _ (by omega)), by rw [e 45 (by omega)]; exact hA.nd, fun j hj => ?_⟩
  rw [e 45 (by omega)] at hj
  have := hA.nd
  exact (hA.2.2.2 j hj).congr (e 1 (by omega)) (e 3 (by omega)) (fun k hk => e _ (by omega))
theorem KE.rm9 {c e : Nat} {h h2 : Hp} {wk dt : Value} {kd kd2 : Nat} (x : KE c e h h2 kd kd2) (hn : 139 ≤ h.2.1) : RmE c e h h2 wk dt kd wk dt kd2 := by
  unfold RmE ptC ptS
  obtain ⟨x0, x | x⟩ := x
  · obtain ⟨x1, x2, x3⟩ := x
    rw [x1]
    exact ⟨x0, by omega, by omega, Or.inl rfl, fun z => by omega⟩
  · obtain ⟨x1, x2, x3, x4, x5⟩ := x
    rw [if_neg (show ¬ kd2 = 0 by omega), if_pos x1]
    exact ⟨x0, by omega, by omega, Or.inr ⟨x1, x2⟩, fun z => x3⟩
set_option maxRecDepth 20000 in
set_option maxHeartbeats 1000000 in
theorem cs_qn {Z : Nat → Prop} {reg : Nat → FR} {ns s sg kd w1 w2 c : Nat} {wk dt : Value} {a b : FR} {hi rs rm : Nat → Int32} {nu : Nat → Int64} {fk fp : Int32} {t : Nat} {tp : Nat → Nat} {h h2 : Hp} {a2 : FR} (x : CSx Z reg ns s sg kd w1 w2 wk dt b h c a hi rs rm nu fk fp t tp) (hA : AIN a) (hP : PAk a a2) (q : ∃ kd2, KQ h h2 kd kd2 ∧ LWA h2 reg ns kd2 ∧ Gx (SH kd) h h2 ∧ NW h2 s ns w1 w2 wk dt a2) : CSt h2 (c + 1) a2 hi rs rm nu fk fp t tp ∧ NM h h2 := by
  obtain ⟨⟨xN, xD, xS, xR, xT, xI, xY, xW, x9, xK, xd⟩, ⟨hkl, hns⟩, hr1, hr2⟩ := x
  have hn := xD.n
  have hk0 := xD.k0
  obtain ⟨kd2, qk, ql, qg, qn⟩ := q
  have rm9 := qk.rm (wk := wk) (dt := dt) hn
  have f : Fm (fun y => y ∈ SH kd) h h2 := qg.fm
  have hz : ∀ y, Z y → h2.1 y = h.1 y := xD.zfm f (fun y z => by have := xD.at_ y z; exact (by simp <;> omega))
  obtain ⟨r1, r2, r3, r4, r5⟩ := rm9
  refine ⟨⟨Z, reg, ns, s, sg, kd2, w1, w2, wk, dt, b, ⟨?_, ?_, ?_, ?_, ?_, ?_, ?_, ?_, ?_, ?_, ?_⟩, ⟨r5 hkl, by omega⟩, by omega, by omega⟩, fun y h1 h9 => f.2 y (by omega) (by simp <;> omega)⟩
  · exact qn
  · exact xD.fm ql f (fun y z => by have := xD.at_ y z; exact (by simp <;> omega)) (by rcases r4 with z | z; exact Or.inl z; exact Or.inr z.2)
  · exact hP.stat xS
  · exact xR.fm f hn (fun y h1 h9 => by simp <;> omega)
  · exact xT.fm f hn (fun y hy => by simp <;> omega)
  · exact xI.fm hz f hn (fun y hy => by simp <;> omega) (fun k k1 _ => hP.2 k (by omega))
  · exact xY.fm f hn (fun y h1 h9 => by simp <;> omega)
  · exact xW.fm f hn (fun y h1 h9 => by simp <;> omega)
  · exact tf_fm x9 f hn (by simp <;> omega)
  · exact xK.fm hz f (by rcases r4 with z | z; exact Or.inl z; exact Or.inr z.2) (fun y hy => by have := xK.at_ y hy; exact (by simp <;> omega))
  · exact xd.fm hz f (by rcases r4 with z | z; exact Or.inl z; exact Or.inr z.2) (Nat.le_succ _) (fun y hy => by have := xd.at_ y hy; exact (by simp <;> omega))
set_option maxRecDepth 20000 in
set_option maxHeartbeats 1000000 in
theorem cs_qe {Z : Nat → Prop} {reg : Nat → FR} {ns s sg kd w1 w2 c : Nat} {wk dt : Value} {a b : FR} {hi rs rm : Nat → Int32} {nu : Nat → Int64} {fk fp : Int32} {t : Nat} {tp : Nat → Nat} {h h2 : Hp} {a2 : FR} (x : CSx Z reg ns s sg kd w1 w2 wk dt b h c a hi rs rm nu fk fp t tp) (hA : AIN a) (hP : PAk a a2) (q : ∃ kd2, KE 1 1 h h2 kd kd2 ∧ LWA h2 reg ns kd2 ∧ Gx (SH kd) h h2 ∧ NW h2 s ns w1 w2 wk dt a2) : CSt h2 (c + 1) a2 hi rs rm nu fk fp t tp ∧ NM h h2 := by
  obtain ⟨⟨xN, xD, xS, xR, xT, xI, xY, xW, x9, xK, xd⟩, ⟨hkl, hns⟩, hr1, hr2⟩ := x
  have hn := xD.n
  have hk0 := xD.k0
  obtain ⟨kd2, qk, ql, qg, qn⟩ := q
  have rm9 := qk.rm9 (wk := wk) (dt := dt) hn
  have f : Fm (fun y => y ∈ SH kd) h h2 := qg.fm
  have hz : ∀ y, Z y → h2.1 y = h.1 y := xD.zfm f (fun y z => by have := xD.at_ y z; exact (by simp <;> omega))
  obtain ⟨r1, r2, r3, r4, r5⟩ := rm9
  refine ⟨⟨Z, reg, ns, s, sg, kd2, w1, w2, wk, dt, b, ⟨?_, ?_, ?_, ?_, ?_, ?_, ?_, ?_, ?_, ?_, ?_⟩, ⟨r5 hkl, by omega⟩, by omega, by omega⟩, fun y h1 h9 => f.2 y (by omega) (by simp <;> omega)⟩
  · exact qn
  · exact xD.fm ql f (fun y z => by have := xD.at_ y z; exact (by simp <;> omega)) (by rcases r4 with z | z; exact Or.inl z; exact Or.inr z.2)
  · exact hP.stat xS
  · exact xR.fm f hn (fun y h1 h9 => by simp <;> omega)
  · exact xT.fm f hn (fun y hy => by simp <;> omega)
  · exact xI.fm hz f hn (fun y hy => by simp <;> omega) (fun k k1 _ => hP.2 k (by omega))
  · exact xY.fm f hn (fun y h1 h9 => by simp <;> omega)
  · exact xW.fm f hn (fun y h1 h9 => by simp <;> omega)
  · exact tf_fm x9 f hn (by simp <;> omega)
  · exact xK.fm hz f (by rcases r4 with z | z; exact Or.inl z; exact Or.inr z.2) (fun y hy => by have := xK.at_ y hy; exact (by simp <;> omega))
  · exact xd.fm hz f (by rcases r4 with z | z; exact Or.inl z; exact Or.inr z.2) (Nat.le_succ _) (fun y hy => by have := xd.at_ y hy; exact (by simp <;> omega))
set_option maxRecDepth 20000 in
set_option maxHeartbeats 1000000 in
theorem cs_tr {Z : Nat → Prop} {reg : Nat → FR} {ns s sg kd w1 w2 c : Nat} {wk dt : Value} {a b : FR} {hi rs rm : Nat → Int32} {nu : Nat → Int64} {fk fp : Int32} {t : Nat} {tp : Nat → Nat} {h h2 : Hp} {rs2 rm2 : Nat → Int32} {nu2 : Nat → Int64} (x : CSx Z reg ns s sg kd w1 w2 wk dt b h c a hi rs rm nu fk fp t tp) (hA : AIN a) (e : Ex TR h h2) (q : MT h2 rs2 rm2 nu2) : CSt h2 (c + 1) a hi rs2 rm2 nu2 fk fp t tp ∧ NM h h2 := by
  obtain ⟨⟨xN, xD, xS, xR, xT, xI, xY, xW, x9, xK, xd⟩, ⟨hkl, hns⟩, hr1, hr2⟩ := x
  have hn := xD.n
  have hk0 := xD.k0
  have rm9 := (KQ.of (kd := kd) e).rm (wk := wk) (dt := dt) hn
  have f : Fm (fun y => y ∈ TR) h h2 := e.fm
  have hz : ∀ y, Z y → h2.1 y = h.1 y := xD.zfm f (fun y z => by have := xD.at_ y z; exact (by simp <;> omega))
  obtain ⟨r1, r2, r3, r4, r5⟩ := rm9
  refine ⟨⟨Z, reg, ns, s, sg, kd, w1, w2, wk, dt, b, ⟨?_, ?_, ?_, ?_, ?_, ?_, ?_, ?_, ?_, ?_, ?_⟩, ⟨r5 hkl, by omega⟩, by omega, by omega⟩, fun y h1 h9 => f.2 y (by omega) (by simp <;> omega)⟩
  · exact xN.fm hA.nd f hn (fun y hy => by simp <;> omega)
  · exact xD.fm (xD.1.fm f hn hkl (fun y hy => by simp <;> omega)) f (fun y z => by have := xD.at_ y z; exact (by simp <;> omega)) (Or.inl rfl)
  · exact xS
  · exact xR.fm f hn (fun y h1 h9 => by simp <;> omega)
  · exact q
  · exact xI.fm hz f hn (fun y hy => by simp <;> omega) (fun _ _ _ => rfl)
  · exact xY.fm f hn (fun y h1 h9 => by simp <;> omega)
  · exact xW.fm f hn (fun y h1 h9 => by simp <;> omega)
  · exact tf_fm x9 f hn (by simp <;> omega)
  · exact xK.fm hz f (Or.inl rfl) (fun y hy => by have := xK.at_ y hy; exact (by simp <;> omega))
  · exact xd.fm hz f (Or.inl rfl) (Nat.le_succ _) (fun y hy => by have := xd.at_ y hy; exact (by simp <;> omega))
set_option maxRecDepth 20000 in
set_option maxHeartbeats 1000000 in
theorem cs_xs {Z : Nat → Prop} {reg : Nat → FR} {ns s sg kd w1 w2 c : Nat} {wk dt : Value} {a b : FR} {hi rs rm : Nat → Int32} {nu : Nat → Int64} {fk fp : Int32} {t : Nat} {tp : Nat → Nat} {h h2 : Hp}  (x : CSx Z reg ns s sg kd w1 w2 wk dt b h c a hi rs rm nu fk fp t tp) (hA : AIN a) (e : Ex XS h h2) (q : MY h2) : CSt h2 (c + 1) a hi rs rm nu fk fp t tp ∧ NM h h2 := by
  obtain ⟨⟨xN, xD, xS, xR, xT, xI, xY, xW, x9, xK, xd⟩, ⟨hkl, hns⟩, hr1, hr2⟩ := x
  have hn := xD.n
  have hk0 := xD.k0
  have rm9 := (KQ.of (kd := kd) e).rm (wk := wk) (dt := dt) hn
  have f : Fm (fun y => y ∈ XS) h h2 := e.fm
  have hz : ∀ y, Z y → h2.1 y = h.1 y := xD.zfm f (fun y z => by have := xD.at_ y z; exact (by simp <;> omega))
  obtain ⟨r1, r2, r3, r4, r5⟩ := rm9
  refine ⟨⟨Z, reg, ns, s, sg, kd, w1, w2, wk, dt, b, ⟨?_, ?_, ?_, ?_, ?_, ?_, ?_, ?_, ?_, ?_, ?_⟩, ⟨r5 hkl, by omega⟩, by omega, by omega⟩, fun y h1 h9 => f.2 y (by omega) (by simp <;> omega)⟩
  · exact xN.fm hA.nd f hn (fun y hy => by simp <;> omega)
  · exact xD.fm (xD.1.fm f hn hkl (fun y hy => by simp <;> omega)) f (fun y z => by have := xD.at_ y z; exact (by simp <;> omega)) (Or.inl rfl)
  · exact xS
  · exact xR.fm f hn (fun y h1 h9 => by simp <;> omega)
  · exact xT.fm f hn (fun y hy => by simp <;> omega)
  · exact xI.fm hz f hn (fun y hy => by simp <;> omega) (fun _ _ _ => rfl)
  · exact q
  · exact xW.fm f hn (fun y h1 h9 => by simp <;> omega)
  · exact tf_fm x9 f hn (by simp <;> omega)
  · exact xK.fm hz f (Or.inl rfl) (fun y hy => by have := xK.at_ y hy; exact (by simp <;> omega))
  · exact xd.fm hz f (Or.inl rfl) (Nat.le_succ _) (fun y hy => by have := xd.at_ y hy; exact (by simp <;> omega))
set_option maxRecDepth 20000 in
set_option maxHeartbeats 1000000 in
theorem cs_hs {Z : Nat → Prop} {reg : Nat → FR} {ns s sg kd w1 w2 c : Nat} {wk dt : Value} {a b : FR} {hi rs rm : Nat → Int32} {nu : Nat → Int64} {fk fp : Int32} {t : Nat} {tp : Nat → Nat} {h h2 : Hp} {a2 : FR} (x : CSx Z reg ns s sg kd w1 w2 wk dt b h c a hi rs rm nu fk fp t tp) (hA : AIN a) (hP : PAk a a2) (e : Ex HS h h2) (q1 : NW h2 s ns w1 w2 wk dt a2) (q : MY h2) : CSt h2 (c + 1) a2 hi rs rm nu fk fp t tp ∧ NM h h2 := by
  obtain ⟨⟨xN, xD, xS, xR, xT, xI, xY, xW, x9, xK, xd⟩, ⟨hkl, hns⟩, hr1, hr2⟩ := x
  have hn := xD.n
  have hk0 := xD.k0
  have rm9 := (KQ.of (kd := kd) e).rm (wk := wk) (dt := dt) hn
  have f : Fm (fun y => y ∈ HS) h h2 := e.fm
  have hz : ∀ y, Z y → h2.1 y = h.1 y := xD.zfm f (fun y z => by have := xD.at_ y z; exact (by simp <;> omega))
  obtain ⟨r1, r2, r3, r4, r5⟩ := rm9
  refine ⟨⟨Z, reg, ns, s, sg, kd, w1, w2, wk, dt, b, ⟨?_, ?_, ?_, ?_, ?_, ?_, ?_, ?_, ?_, ?_, ?_⟩, ⟨r5 hkl, by omega⟩, by omega, by omega⟩, fun y h1 h9 => f.2 y (by omega) (by simp <;> omega)⟩
  · exact q1
  · exact xD.fm (xD.1.fm f hn hkl (fun y hy => by simp <;> omega)) f (fun y z => by have := xD.at_ y z; exact (by simp <;> omega)) (Or.inl rfl)
  · exact hP.stat xS
  · exact xR.fm f hn (fun y h1 h9 => by simp <;> omega)
  · exact xT.fm f hn (fun y hy => by simp <;> omega)
  · exact xI.fm hz f hn (fun y hy => by simp <;> omega) (fun k k1 _ => hP.2 k (by omega))
  · exact q
  · exact xW.fm f hn (fun y h1 h9 => by simp <;> omega)
  · exact tf_fm x9 f hn (by simp <;> omega)
  · exact xK.fm hz f (Or.inl rfl) (fun y hy => by have := xK.at_ y hy; exact (by simp <;> omega))
  · exact xd.fm hz f (Or.inl rfl) (Nat.le_succ _) (fun y hy => by have := xd.at_ y hy; exact (by simp <;> omega))
set_option maxRecDepth 20000 in
set_option maxHeartbeats 1000000 in
theorem cs_img {Z : Nat → Prop} {reg : Nat → FR} {ns s sg kd w1 w2 c : Nat} {wk dt : Value} {a b : FR} {hi rs rm : Nat → Int32} {nu : Nat → Int64} {fk fp : Int32} {t : Nat} {tp : Nat → Nat} {h h2 : Hp} {a2 : FR} {hi2 : Nat → Int32} (x : CSx Z reg ns s sg kd w1 w2 wk dt b h c a hi rs rm nu fk fp t tp) (hA : AIN a) (hs : Stat a2 b) (e : Ex [79, 107, 108] h h2) (q1 : NW h2 s ns w1 w2 wk dt a2) (q : MI Z h2 reg ns hi2 a2) : CSt h2 (c + 1) a2 hi2 rs rm nu fk fp t tp ∧ NM h h2 := by
  obtain ⟨⟨xN, xD, xS, xR, xT, xI, xY, xW, x9, xK, xd⟩, ⟨hkl, hns⟩, hr1, hr2⟩ := x
  have hn := xD.n
  have hk0 := xD.k0
  have rm9 := (KQ.of (kd := kd) e).rm (wk := wk) (dt := dt) hn
  have f : Fm (fun y => y ∈ [79, 107, 108]) h h2 := e.fm
  have hz : ∀ y, Z y → h2.1 y = h.1 y := xD.zfm f (fun y z => by have := xD.at_ y z; exact (by simp <;> omega))
  obtain ⟨r1, r2, r3, r4, r5⟩ := rm9
  refine ⟨⟨Z, reg, ns, s, sg, kd, w1, w2, wk, dt, b, ⟨?_, ?_, ?_, ?_, ?_, ?_, ?_, ?_, ?_, ?_, ?_⟩, ⟨r5 hkl, by omega⟩, by omega, by omega⟩, fun y h1 h9 => f.2 y (by omega) (by simp <;> omega)⟩
  · exact q1
  · exact xD.fm (xD.1.fm f hn hkl (fun y hy => by simp <;> omega)) f (fun y z => by have := xD.at_ y z; exact (by simp <;> omega)) (Or.inl rfl)
  · exact hs
  · exact xR.fm f hn (fun y h1 h9 => by simp <;> omega)
  · exact xT.fm f hn (fun y hy => by simp <;> omega)
  · exact q
  · exact xY.fm f hn (fun y h1 h9 => by simp <;> omega)
  · exact xW.fm f hn (fun y h1 h9 => by simp <;> omega)
  · exact tf_fm x9 f hn (by simp <;> omega)
  · exact xK.fm hz f (Or.inl rfl) (fun y hy => by have := xK.at_ y hy; exact (by simp <;> omega))
  · exact xd.fm hz f (Or.inl rfl) (Nat.le_succ _) (fun y hy => by have := xd.at_ y hy; exact (by simp <;> omega))
set_option maxRecDepth 20000 in
set_option maxHeartbeats 1000000 in
theorem cs_rst {Z : Nat → Prop} {reg : Nat → FR} {ns s sg kd w1 w2 c : Nat} {wk dt : Value} {a b : FR} {hi rs rm : Nat → Int32} {nu : Nat → Int64} {fk fp : Int32} {t : Nat} {tp : Nat → Nat} {h h2 : Hp} {a2 : FR} {s2 sg2 : Nat} (x : CSx Z reg ns s sg kd w1 w2 wk dt b h c a hi rs rm nu fk fp t tp) (hA : AIN a) (e : Ex [64, 76] h h2) (q1 : NW h2 s2 ns w1 w2 wk dt a2) (q2 : DV Z h2 reg ns s2 sg2 kd (reg sg2)) (q3 : Stat a2 (reg sg2)) (ea : ∀ k, 1177 ≤ k → k < 3531 → a2 k = a k) : CSt h2 (c + 1) a2 hi rs rm nu fk fp t tp ∧ NM h h2 := by
  obtain ⟨⟨xN, xD, xS, xR, xT, xI, xY, xW, x9, xK, xd⟩, ⟨hkl, hns⟩, hr1, hr2⟩ := x
  have hn := xD.n
  have hk0 := xD.k0
  have rm9 := (KQ.of (kd := kd) e).rm (wk := wk) (dt := dt) hn
  have f : Fm (fun y => y ∈ [64, 76]) h h2 := e.fm
  have hz : ∀ y, Z y → h2.1 y = h.1 y := xD.zfm f (fun y z => by have := xD.at_ y z; exact (by simp <;> omega))
  obtain ⟨r1, r2, r3, r4, r5⟩ := rm9
  refine ⟨⟨Z, reg, ns, s2, sg2, kd, w1, w2, wk, dt, (reg sg2), ⟨?_, ?_, ?_, ?_, ?_, ?_, ?_, ?_, ?_, ?_, ?_⟩, ⟨r5 hkl, by omega⟩, by omega, by omega⟩, fun y h1 h9 => f.2 y (by omega) (by simp <;> omega)⟩
  · exact q1
  · exact q2
  · exact q3
  · exact xR.fm f hn (fun y h1 h9 => by simp <;> omega)
  · exact xT.fm f hn (fun y hy => by simp <;> omega)
  · exact xI.fm hz f hn (fun y hy => by simp <;> omega) (ea)
  · exact xY.fm f hn (fun y h1 h9 => by simp <;> omega)
  · exact xW.fm f hn (fun y h1 h9 => by simp <;> omega)
  · exact tf_fm x9 f hn (by simp <;> omega)
  · exact xK.fm hz f (Or.inl rfl) (fun y hy => by have := xK.at_ y hy; exact (by simp <;> omega))
  · exact xd.fm hz f (Or.inl rfl) (Nat.le_succ _) (fun y hy => by have := xd.at_ y hy; exact (by simp <;> omega))
set_option maxRecDepth 20000 in
set_option maxHeartbeats 1000000 in
theorem cs_fd {Z : Nat → Prop} {reg : Nat → FR} {ns s sg kd w1 w2 c : Nat} {wk dt : Value} {a b : FR} {hi rs rm : Nat → Int32} {nu : Nat → Int64} {fk fp : Int32} {t : Nat} {tp : Nat → Nat} {h h2 : Hp} {t2 : Nat} {tp2 : Nat → Nat} (x : CSx Z reg ns s sg kd w1 w2 wk dt b h c a hi rs rm nu fk fp t tp) (hA : AIN a) (e : Ex [65, 66] h h2) (q : MR h2 fk fp t2 tp2) : CSt h2 (c + 1) a hi rs rm nu fk fp t2 tp2 ∧ NM h h2 := by
  obtain ⟨⟨xN, xD, xS, xR, xT, xI, xY, xW, x9, xK, xd⟩, ⟨hkl, hns⟩, hr1, hr2⟩ := x
  have hn := xD.n
  have hk0 := xD.k0
  have rm9 := (KQ.of (kd := kd) e).rm (wk := wk) (dt := dt) hn
  have f : Fm (fun y => y ∈ [65, 66]) h h2 := e.fm
  have hz : ∀ y, Z y → h2.1 y = h.1 y := xD.zfm f (fun y z => by have := xD.at_ y z; exact (by simp <;> omega))
  obtain ⟨r1, r2, r3, r4, r5⟩ := rm9
  refine ⟨⟨Z, reg, ns, s, sg, kd, w1, w2, wk, dt, b, ⟨?_, ?_, ?_, ?_, ?_, ?_, ?_, ?_, ?_, ?_, ?_⟩, ⟨r5 hkl, by omega⟩, by omega, by omega⟩, fun y h1 h9 => f.2 y (by omega) (by simp <;> omega)⟩
  · exact xN.fm hA.nd f hn (fun y hy => by simp <;> omega)
  · exact xD.fm (xD.1.fm f hn hkl (fun y hy => by simp <;> omega)) f (fun y z => by have := xD.at_ y z; exact (by simp <;> omega)) (Or.inl rfl)
  · exact xS
  · exact q
  · exact xT.fm f hn (fun y hy => by simp <;> omega)
  · exact xI.fm hz f hn (fun y hy => by simp <;> omega) (fun _ _ _ => rfl)
  · exact xY.fm f hn (fun y h1 h9 => by simp <;> omega)
  · exact xW.fm f hn (fun y h1 h9 => by simp <;> omega)
  · exact tf_fm x9 f hn (by simp <;> omega)
  · exact xK.fm hz f (Or.inl rfl) (fun y hy => by have := xK.at_ y hy; exact (by simp <;> omega))
  · exact xd.fm hz f (Or.inl rfl) (Nat.le_succ _) (fun y hy => by have := xd.at_ y hy; exact (by simp <;> omega))
set_option maxRecDepth 20000 in
set_option maxHeartbeats 1000000 in
theorem cs_gq {Z : Nat → Prop} {reg : Nat → FR} {ns s sg kd w1 w2 c : Nat} {wk dt : Value} {a b : FR} {hi rs rm : Nat → Int32} {nu : Nat → Int64} {fk fp : Int32} {t : Nat} {tp : Nat → Nat} {h h2 : Hp}  (x : CSx Z reg ns s sg kd w1 w2 wk dt b h c a hi rs rm nu fk fp t tp) (hA : AIN a) {kd2 : Nat} (q : GQ [] kd h h2 kd2) (q2 : DV Z h2 reg ns s sg kd2 b) : CSt h2 (c + 1) a hi rs rm nu fk fp t tp ∧ NM h h2 := by
  obtain ⟨⟨xN, xD, xS, xR, xT, xI, xY, xW, x9, xK, xd⟩, ⟨hkl, hns⟩, hr1, hr2⟩ := x
  have hn := xD.n
  have hk0 := xD.k0
  obtain ⟨qk, qg⟩ := q
  have rm9 := qk.rm (wk := wk) (dt := dt) hn
  have f : Fm (fun y => y ∈ [82, 87, 88, 89, kd]) h h2 := qg.fm
  have hz : ∀ y, Z y → h2.1 y = h.1 y := xD.zfm f (fun y z => by have := xD.at_ y z; exact (by simp <;> omega))
  obtain ⟨r1, r2, r3, r4, r5⟩ := rm9
  refine ⟨⟨Z, reg, ns, s, sg, kd2, w1, w2, wk, dt, b, ⟨?_, ?_, ?_, ?_, ?_, ?_, ?_, ?_, ?_, ?_, ?_⟩, ⟨r5 hkl, by omega⟩, by omega, by omega⟩, fun y h1 h9 => f.2 y (by omega) (by simp <;> omega)⟩
  · exact xN.fm hA.nd f hn (fun y hy => by simp <;> omega)
  · exact q2
  · exact xS
  · exact xR.fm f hn (fun y h1 h9 => by simp <;> omega)
  · exact xT.fm f hn (fun y hy => by simp <;> omega)
  · exact xI.fm hz f hn (fun y hy => by simp <;> omega) (fun _ _ _ => rfl)
  · exact xY.fm f hn (fun y h1 h9 => by simp <;> omega)
  · exact xW.fm f hn (fun y h1 h9 => by simp <;> omega)
  · exact tf_fm x9 f hn (by simp <;> omega)
  · exact xK.fm hz f (by rcases r4 with z | z; exact Or.inl z; exact Or.inr z.2) (fun y hy => by have := xK.at_ y hy; exact (by simp <;> omega))
  · exact xd.fm hz f (by rcases r4 with z | z; exact Or.inl z; exact Or.inr z.2) (Nat.le_succ _) (fun y hy => by have := xd.at_ y hy; exact (by simp <;> omega))
set_option maxRecDepth 20000 in
set_option maxHeartbeats 1000000 in
theorem cs_94 {Z : Nat → Prop} {reg : Nat → FR} {ns s sg kd w1 w2 c : Nat} {wk dt : Value} {a b : FR} {hi rs rm : Nat → Int32} {nu : Nat → Int64} {fk fp : Int32} {t : Nat} {tp : Nat → Nat} {h h2 : Hp}  (x : CSx Z reg ns s sg kd w1 w2 wk dt b h c a hi rs rm nu fk fp t tp) (hA : AIN a) {kd2 : Nat} (q : GQ [94] kd h h2 kd2) (q2 : DV Z h2 reg ns s sg kd2 b) (q3 : ∃ tf, h2.1 94 = some (aI 10 tf)) : CSt h2 (c + 1) a hi rs rm nu fk fp t tp ∧ NM h h2 := by
  obtain ⟨⟨xN, xD, xS, xR, xT, xI, xY, xW, x9, xK, xd⟩, ⟨hkl, hns⟩, hr1, hr2⟩ := x
  have hn := xD.n
  have hk0 := xD.k0
  obtain ⟨qk, qg⟩ := q
  have rm9 := qk.rm (wk := wk) (dt := dt) hn
  have f : Fm (fun y => y ∈ [94, 82, 87, 88, 89, kd]) h h2 := qg.fm
  have hz : ∀ y, Z y → h2.1 y = h.1 y := xD.zfm f (fun y z => by have := xD.at_ y z; exact (by simp <;> omega))
  obtain ⟨r1, r2, r3, r4, r5⟩ := rm9
  refine ⟨⟨Z, reg, ns, s, sg, kd2, w1, w2, wk, dt, b, ⟨?_, ?_, ?_, ?_, ?_, ?_, ?_, ?_, ?_, ?_, ?_⟩, ⟨r5 hkl, by omega⟩, by omega, by omega⟩, fun y h1 h9 => f.2 y (by omega) (by simp <;> omega)⟩
  · exact xN.fm hA.nd f hn (fun y hy => by simp <;> omega)
  · exact q2
  · exact xS
  · exact xR.fm f hn (fun y h1 h9 => by simp <;> omega)
  · exact xT.fm f hn (fun y hy => by simp <;> omega)
  · exact xI.fm hz f hn (fun y hy => by simp <;> omega) (fun _ _ _ => rfl)
  · exact xY.fm f hn (fun y h1 h9 => by simp <;> omega)
  · exact xW.fm f hn (fun y h1 h9 => by simp <;> omega)
  · exact q3
  · exact xK.fm hz f (by rcases r4 with z | z; exact Or.inl z; exact Or.inr z.2) (fun y hy => by have := xK.at_ y hy; exact (by simp <;> omega))
  · exact xd.fm hz f (by rcases r4 with z | z; exact Or.inl z; exact Or.inr z.2) (Nat.le_succ _) (fun y hy => by have := xd.at_ y hy; exact (by simp <;> omega))
set_option maxRecDepth 20000 in
set_option maxHeartbeats 1000000 in
theorem cs_mw {Z : Nat → Prop} {reg : Nat → FR} {ns s sg kd w1 w2 c : Nat} {wk dt : Value} {a b : FR} {hi rs rm : Nat → Int32} {nu : Nat → Int64} {fk fp : Int32} {t : Nat} {tp : Nat → Nat} {h h2 : Hp}  (x : CSx Z reg ns s sg kd w1 w2 wk dt b h c a hi rs rm nu fk fp t tp) (hA : AIN a) {w3 w4 kd2 : Nat} (q : GQ [64, 95, 96] kd h h2 kd2) (q2 : DV Z h2 reg ns s sg kd2 b) (q3 : MW h2 w3 w4) (q4 : h2.1 64 = some (.inr (9, coL s ns (a 45) w3 w4 wk dt))) : CSt h2 (c + 1) a hi rs rm nu fk fp t tp ∧ NM h h2 := by
  obtain ⟨⟨xN, xD, xS, xR, xT, xI, xY, xW, x9, xK, xd⟩, ⟨hkl, hns⟩, hr1, hr2⟩ := x
  have hn := xD.n
  have hk0 := xD.k0
  obtain ⟨qk, qg⟩ := q
  have rm9 := qk.rm (wk := wk) (dt := dt) hn
  have f : Fm (fun y => y ∈ [64, 95, 96, 82, 87, 88, 89, kd]) h h2 := qg.fm
  have hz : ∀ y, Z y → h2.1 y = h.1 y := xD.zfm f (fun y z => by have := xD.at_ y z; exact (by simp <;> omega))
  obtain ⟨r1, r2, r3, r4, r5⟩ := rm9
  refine ⟨⟨Z, reg, ns, s, sg, kd2, w3, w4, wk, dt, b, ⟨?_, ?_, ?_, ?_, ?_, ?_, ?_, ?_, ?_, ?_, ?_⟩, ⟨r5 hkl, by omega⟩, by omega, by omega⟩, fun y h1 h9 => f.2 y (by omega) (by simp <;> omega)⟩
  · exact ⟨q4, (f.2 76 (by omega) (by simp <;> omega)).trans xN.2.1, xN.2.2.1.ex (f.2 77 (by omega) (by simp <;> omega)), xN.2.2.2.frame hA.nd (fun y hy => f.2 y (by omega) (by simp <;> omega))⟩
  · exact q2
  · exact xS
  · exact xR.fm f hn (fun y h1 h9 => by simp <;> omega)
  · exact xT.fm f hn (fun y hy => by simp <;> omega)
  · exact xI.fm hz f hn (fun y hy => by simp <;> omega) (fun _ _ _ => rfl)
  · exact xY.fm f hn (fun y h1 h9 => by simp <;> omega)
  · exact q3
  · exact tf_fm x9 f hn (by simp <;> omega)
  · exact xK.fm hz f (by rcases r4 with z | z; exact Or.inl z; exact Or.inr z.2) (fun y hy => by have := xK.at_ y hy; exact (by simp <;> omega))
  · exact xd.fm hz f (by rcases r4 with z | z; exact Or.inl z; exact Or.inr z.2) (Nat.le_succ _) (fun y hy => by have := xd.at_ y hy; exact (by simp <;> omega))
set_option maxRecDepth 20000 in
set_option maxHeartbeats 1000000 in
theorem cs_wk {Z : Nat → Prop} {reg : Nat → FR} {ns s sg kd w1 w2 c : Nat} {wk dt : Value} {a b : FR} {hi rs rm : Nat → Int32} {nu : Nat → Int64} {fk fp : Int32} {t : Nat} {tp : Nat → Nat} {h h2 : Hp}  (x : CSx Z reg ns s sg kd w1 w2 wk dt b h c a hi rs rm nu fk fp t tp) (hA : AIN a) (q : ∃ (wk2 : Value) (kd2 : Nat), RmE 0 0 h h2 wk dt kd wk2 dt kd2 ∧ MKw Z h2 reg ns kd2 wk2 ∧ DV Z h2 reg ns s sg kd2 b ∧ FrW [] wk kd h h2 ∧ NW h2 s ns w1 w2 wk2 dt a) : CSt h2 (c + 1) a hi rs rm nu fk fp t tp ∧ NM h h2 := by
  obtain ⟨⟨xN, xD, xS, xR, xT, xI, xY, xW, x9, xK, xd⟩, ⟨hkl, hns⟩, hr1, hr2⟩ := x
  have hn := xD.n
  have hk0 := xD.k0
  obtain ⟨wk2, kd2, rm9, qw, qd, qf, qn⟩ := q
  have f : Fm (fun y => y ∈ [] ∨ y = 64 ∨ wkIn wk y ∨ y = 82 ∨ y = 87 ∨ y = 88 ∨ y = 89 ∨ y = kd) h h2 := ⟨qf.1, fun y y1 y2 => qf.2 y y1 (fun z => y2 (Or.inl z)) (fun z => y2 (Or.inr (Or.inl z))) (fun z => y2 (Or.inr (Or.inr (Or.inl z)))) ⟨fun z => y2 (Or.inr (Or.inr (Or.inr (Or.inl z)))), fun z => y2 (Or.inr (Or.inr (Or.inr (Or.inr (Or.inl z))))), fun z => y2 (Or.inr (Or.inr (Or.inr (Or.inr (Or.inr (Or.inl z)))))), fun z => y2 (Or.inr (Or.inr (Or.inr (Or.inr (Or.inr (Or.inr (Or.inl z))))))), fun z => y2 (Or.inr (Or.inr (Or.inr (Or.inr (Or.inr (Or.inr (Or.inr z))))))) ⟩⟩
  have hz : ∀ y, Z y → h2.1 y = h.1 y := xD.zfm f (fun y z => by have := xD.at_ y z; exact (fun z => by rcases z with z | z | z | z; (simp at z <;> omega); omega; (exact (xK.at_ _ z).2.2.2 (by assumption)); omega))
  obtain ⟨r1, r2, r3, r4, r5⟩ := rm9
  refine ⟨⟨Z, reg, ns, s, sg, kd2, w1, w2, wk2, dt, b, ⟨?_, ?_, ?_, ?_, ?_, ?_, ?_, ?_, ?_, ?_, ?_⟩, ⟨r5 hkl, by omega⟩, by omega, by omega⟩, fun y h1 h9 => f.2 y (by omega) (fun z => by rcases z with z | z | z | z; (simp at z <;> omega); omega; (have := xK.at_ _ z; omega); omega)⟩
  · exact qn
  · exact qd
  · exact xS
  · exact xR.fm f hn (fun y h1 h9 => fun z => by rcases z with z | z | z | z; (simp at z <;> omega); omega; (have := xK.at_ _ z; omega); omega)
  · exact xT.fm f hn (fun y hy => fun z => by rcases z with z | z | z | z; (simp at z <;> omega); omega; (have := xK.at_ _ z; omega); omega)
  · exact xI.fm hz f hn (fun y hy => fun z => by rcases z with z | z | z | z; (simp at z <;> omega); omega; (have := xK.at_ _ z; omega); omega) (fun _ _ _ => rfl)
  · exact xY.fm f hn (fun y h1 h9 => fun z => by rcases z with z | z | z | z; (simp at z <;> omega); omega; (have := xK.at_ _ z; omega); omega)
  · exact xW.fm f hn (fun y h1 h9 => fun z => by rcases z with z | z | z | z; (simp at z <;> omega); omega; (have := xK.at_ _ z; omega); omega)
  · exact tf_fm x9 f hn (fun z => by rcases z with z | z | z | z; (simp at z <;> omega); omega; (have := xK.at_ _ z; omega); omega)
  · exact qw
  · exact xd.fm hz f (by rcases r4 with z | z; exact Or.inl z; exact Or.inr z.2) (Nat.le_succ _) (fun y hy => by have := xd.at_ y hy; exact (fun z => by rcases z with z | z | z | z; (simp at z <;> omega); omega; (exact wd_apart xK xd _ z hy); omega))
set_option maxRecDepth 20000 in
set_option maxHeartbeats 1000000 in
theorem cs_wt {Z : Nat → Prop} {reg : Nat → FR} {ns s sg kd w1 w2 c : Nat} {wk dt : Value} {a b : FR} {hi rs rm : Nat → Int32} {nu : Nat → Int64} {fk fp : Int32} {t : Nat} {tp : Nat → Nat} {h h2 : Hp}  (x : CSx Z reg ns s sg kd w1 w2 wk dt b h c a hi rs rm nu fk fp t tp) (hA : AIN a) {nu2 : Nat → Int64} (q : ∃ (wk2 : Value) (kd2 : Nat), RmE 0 0 h h2 wk dt kd wk2 dt kd2 ∧ MKw Z h2 reg ns kd2 wk2 ∧ DV Z h2 reg ns s sg kd2 b ∧ FrW TR wk kd h h2 ∧ NW h2 s ns w1 w2 wk2 dt a) (q9 : MT h2 rs rm nu2) : CSt h2 (c + 1) a hi rs rm nu2 fk fp t tp ∧ NM h h2 := by
  obtain ⟨⟨xN, xD, xS, xR, xT, xI, xY, xW, x9, xK, xd⟩, ⟨hkl, hns⟩, hr1, hr2⟩ := x
  have hn := xD.n
  have hk0 := xD.k0
  obtain ⟨wk2, kd2, rm9, qw, qd, qf, qn⟩ := q
  have f : Fm (fun y => y ∈ TR ∨ y = 64 ∨ wkIn wk y ∨ y = 82 ∨ y = 87 ∨ y = 88 ∨ y = 89 ∨ y = kd) h h2 := ⟨qf.1, fun y y1 y2 => qf.2 y y1 (fun z => y2 (Or.inl z)) (fun z => y2 (Or.inr (Or.inl z))) (fun z => y2 (Or.inr (Or.inr (Or.inl z)))) ⟨fun z => y2 (Or.inr (Or.inr (Or.inr (Or.inl z)))), fun z => y2 (Or.inr (Or.inr (Or.inr (Or.inr (Or.inl z))))), fun z => y2 (Or.inr (Or.inr (Or.inr (Or.inr (Or.inr (Or.inl z)))))), fun z => y2 (Or.inr (Or.inr (Or.inr (Or.inr (Or.inr (Or.inr (Or.inl z))))))), fun z => y2 (Or.inr (Or.inr (Or.inr (Or.inr (Or.inr (Or.inr (Or.inr z))))))) ⟩⟩
  have hz : ∀ y, Z y → h2.1 y = h.1 y := xD.zfm f (fun y z => by have := xD.at_ y z; exact (fun z => by rcases z with z | z | z | z; (simp at z <;> omega); omega; (exact (xK.at_ _ z).2.2.2 (by assumption)); omega))
  obtain ⟨r1, r2, r3, r4, r5⟩ := rm9
  refine ⟨⟨Z, reg, ns, s, sg, kd2, w1, w2, wk2, dt, b, ⟨?_, ?_, ?_, ?_, ?_, ?_, ?_, ?_, ?_, ?_, ?_⟩, ⟨r5 hkl, by omega⟩, by omega, by omega⟩, fun y h1 h9 => f.2 y (by omega) (fun z => by rcases z with z | z | z | z; (simp at z <;> omega); omega; (have := xK.at_ _ z; omega); omega)⟩
  · exact qn
  · exact qd
  · exact xS
  · exact xR.fm f hn (fun y h1 h9 => fun z => by rcases z with z | z | z | z; (simp at z <;> omega); omega; (have := xK.at_ _ z; omega); omega)
  · exact q9
  · exact xI.fm hz f hn (fun y hy => fun z => by rcases z with z | z | z | z; (simp at z <;> omega); omega; (have := xK.at_ _ z; omega); omega) (fun _ _ _ => rfl)
  · exact xY.fm f hn (fun y h1 h9 => fun z => by rcases z with z | z | z | z; (simp at z <;> omega); omega; (have := xK.at_ _ z; omega); omega)
  · exact xW.fm f hn (fun y h1 h9 => fun z => by rcases z with z | z | z | z; (simp at z <;> omega); omega; (have := xK.at_ _ z; omega); omega)
  · exact tf_fm x9 f hn (fun z => by rcases z with z | z | z | z; (simp at z <;> omega); omega; (have := xK.at_ _ z; omega); omega)
  · exact qw
  · exact xd.fm hz f (by rcases r4 with z | z; exact Or.inl z; exact Or.inr z.2) (Nat.le_succ _) (fun y hy => by have := xd.at_ y hy; exact (fun z => by rcases z with z | z | z | z; (simp at z <;> omega); omega; (exact wd_apart xK xd _ z hy); omega))
set_option maxRecDepth 20000 in
set_option maxHeartbeats 1000000 in
theorem cs_dr {Z : Nat → Prop} {reg : Nat → FR} {ns s sg kd w1 w2 c : Nat} {wk dt : Value} {a b : FR} {hi rs rm : Nat → Int32} {nu : Nat → Int64} {fk fp : Int32} {t : Nat} {tp : Nat → Nat} {h h2 : Hp}  (x : CSx Z reg ns s sg kd w1 w2 wk dt b h c a hi rs rm nu fk fp t tp) (hA : AIN a) (q : ∃ (dt2 : Value) (kd2 : Nat), RmE 0 0 h h2 wk dt kd wk dt2 kd2 ∧ MKd Z h2 reg ns kd2 dt2 (c + 1) ∧ DV Z h2 reg ns s sg kd2 b ∧ FrD dt kd h h2 ∧ NW h2 s ns w1 w2 wk dt2 a) : CSt h2 (c + 1) a hi rs rm nu fk fp t tp ∧ NM h h2 := by
  obtain ⟨⟨xN, xD, xS, xR, xT, xI, xY, xW, x9, xK, xd⟩, ⟨hkl, hns⟩, hr1, hr2⟩ := x
  have hn := xD.n
  have hk0 := xD.k0
  obtain ⟨dt2, kd2, rm9, qw, qd, qf, qn⟩ := q
  have f : Fm (fun y => y = 64 ∨ drIn dt y ∨ y = 82 ∨ y = 87 ∨ y = 88 ∨ y = 89 ∨ y = kd) h h2 := ⟨qf.1, fun y y1 y2 => qf.2 y y1 (fun z => y2 (Or.inl z)) (fun z => y2 (Or.inr (Or.inl z))) ⟨fun z => y2 (Or.inr (Or.inr (Or.inl z))), fun z => y2 (Or.inr (Or.inr (Or.inr (Or.inl z)))), fun z => y2 (Or.inr (Or.inr (Or.inr (Or.inr (Or.inl z))))), fun z => y2 (Or.inr (Or.inr (Or.inr (Or.inr (Or.inr (Or.inl z)))))), fun z => y2 (Or.inr (Or.inr (Or.inr (Or.inr (Or.inr (Or.inr z))))))⟩⟩
  have hz : ∀ y, Z y → h2.1 y = h.1 y := xD.zfm f (fun y z => by have := xD.at_ y z; exact (fun z => by rcases z with z | z | z; omega; (exact (xd.at_ _ z).2.2.2 (by assumption)); omega))
  obtain ⟨r1, r2, r3, r4, r5⟩ := rm9
  refine ⟨⟨Z, reg, ns, s, sg, kd2, w1, w2, wk, dt2, b, ⟨?_, ?_, ?_, ?_, ?_, ?_, ?_, ?_, ?_, ?_, ?_⟩, ⟨r5 hkl, by omega⟩, by omega, by omega⟩, fun y h1 h9 => f.2 y (by omega) (fun z => by rcases z with z | z | z; omega; (have := xd.at_ _ z; omega); omega)⟩
  · exact qn
  · exact qd
  · exact xS
  · exact xR.fm f hn (fun y h1 h9 => fun z => by rcases z with z | z | z; omega; (have := xd.at_ _ z; omega); omega)
  · exact xT.fm f hn (fun y hy => fun z => by rcases z with z | z | z; omega; (have := xd.at_ _ z; omega); omega)
  · exact xI.fm hz f hn (fun y hy => fun z => by rcases z with z | z | z; omega; (have := xd.at_ _ z; omega); omega) (fun _ _ _ => rfl)
  · exact xY.fm f hn (fun y h1 h9 => fun z => by rcases z with z | z | z; omega; (have := xd.at_ _ z; omega); omega)
  · exact xW.fm f hn (fun y h1 h9 => fun z => by rcases z with z | z | z; omega; (have := xd.at_ _ z; omega); omega)
  · exact tf_fm x9 f hn (fun z => by rcases z with z | z | z; omega; (have := xd.at_ _ z; omega); omega)
  · exact xK.fm hz f (by rcases r4 with z | z; exact Or.inl z; exact Or.inr z.2) (fun y hy => by have := xK.at_ y hy; exact (fun z => by rcases z with z | z | z; omega; (exact wd_apart xK xd _ hy z); omega))
  · exact qw
