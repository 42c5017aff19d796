/-! new objects of both: what holds between calls holds -/
theorem NEW.fr {h h2 : Hp} (x : NEW h) (e : ∀ q, 64 ≤ q → q < 117 → h2.1 q = h.1 q) : NEW h2 := by
  obtain ⟨x1, x2, x3, x4, x5, x6, x7, x8, x9⟩ := x
  exact ⟨x1.frame (fun q a1 a2 _ _ _ _ => e q (by omega) (by omega)), (e 64 (by decide) (by decide)).trans x2, (e 76 (by decide) (by decide)).trans x3, (e 78 (by decide) (by decide)).trans x4, fun j hj => (e _ (by omega) (by omega)).trans (x5 j hj), (e 80 (by decide) (by decide)).trans x6, fun j hj => (e _ (by omega) (by omega)).trans (x7 j hj), (e 81 (by decide) (by decide)).trans x8, fun t ht => ⟨(e _ (by omega) (by omega)).trans (x9 t ht).1, (e _ (by omega) (by omega)).trans (x9 t ht).2⟩⟩
theorem plF {k : Nat} (h1 : k ≠ 1) (h2 : k ≠ 26) : plainF k = 0 := by
  unfold plainF
  rw [if_neg h1, if_neg h2]
theorem fk0 : FK 4 plainF := by
  refine ⟨⟨by decide, by decide⟩, by decide, fun j hj => ?_, fun j hj => ?_, fun j hj => ?_, fun j _ hj _ => ?_, ⟨by decide, by decide⟩, ⟨by decide, by decide⟩, ⟨by decide, by decide⟩, ⟨Or.inl (by decide), fun z => absurd z (by decide)⟩, ⟨Or.inl (by decide), fun z => absurd z (by decide)⟩⟩
  · rw [plF (by omega) (by omega)]; omega
  · rw [plF (by omega) (by omega)]; omega
  · rw [plF (by omega) (by omega)]; omega
  · rw [plF (by omega) (by omega)]
theorem lni0 : LnI 0 0 (.ok (0, plainF)) := ⟨LI0 (fun _ _ => rfl), fk0⟩
theorem sd0 : sdL (keepV plainF) = [.int 0, .int 9, .long 0, .long 0, .int 0, .int 0] := by
  rw [sdL_congr (k2 := fun k => if k = 4 then 9 else 0) (fun j hj => by
      show plainF (22 + j) = _
      by_cases h4 : j = 4
      · subst h4; rfl
      · rw [plF (by omega) (by omega), if_neg h4])]
  rfl
theorem CN.zero {reg : Nat → FR} {ns : Nat} : CN reg ns (fun _ => 0) := fun j hj sg dr h1 h2 e => by
  have e : (0 : Int32) >>> ((7 : Int32) &&& 31) = nI (stN sg dr) := e
  rw [show (0 : Int32) >>> ((7 : Int32) &&& 31) = nI 0 by decide] at e
  have := (nI_eq (by omega) (by unfold stN; omega)).mp e
  unfold stN at this
  omega
theorem js0 {h : Hp} (n : NEW h) (r : RS h (fun k => if k = 14 then -1 else 0) plainF (fun _ => 0) (fun _ => 0) (fun k => if k < 4 then -1 else 0) (fun _ => 0) (fun _ => 0)) (h1 : h.2.1 = 139) (h2 : h.2.2 ≤ 1040000) : JS h 0 := by
  obtain ⟨n1, n2, n3, n4, n5, n6, n7, n8, n9⟩ := n
  obtain ⟨a1, a2, a3, a4, a5, a6, a7, a8, a9, a10, a11, a12, a13, a14, a15, a16, a17, a18, a19, a20⟩ := n1
  obtain ⟨lk, an⟩ := FK.lk lni0 (by decide)
  have st : StO (fun y => 72 ≤ y ∧ y ≤ 75) h 72 0 plainF := ⟨73, 74, 75, .null, .null, ⟨⟨by decide, by decide⟩, ⟨by decide, by decide⟩, ⟨by decide, by decide⟩, ⟨by decide, by decide⟩⟩, a4, ⟨_, a5, fun j hj => by rw [plF (by omega) (by omega)]; rfl⟩, ⟨_, a6, fun j hj => by rw [plF (by omega) (by omega)]; rfl⟩, by rw [sd0]; exact a7, Or.inl ⟨rfl, rfl⟩, Or.inl ⟨rfl, rfl⟩⟩
  have nw : NW h 72 0 95 96 .null .null plainF := ⟨n2, by rw [sd0]; exact n3, ⟨_, _, _, _, _, _, a8⟩, fU 97 10, fun j => 97 + j, n4, fun j hj => ⟨if_pos hj, Nat.le_add_right _ _, (by show 97 + j ≤ 106; omega), _, _, _, _, _, _, n5 j hj⟩, fun i j _ _ e => (by have e : 97 + i = 97 + j := e; omega), fun j hj => absurd hj (Nat.not_lt_zero _)⟩
  have lw : LWA h (fun _ => plainF) 0 0 := ⟨⟨⟨83, by decide⟩, _, _, a10⟩, ⟨_, a11, CN.zero⟩, ⟨_, a12⟩, ⟨_, a13⟩, fun z => absurd rfl z⟩
  have dv : DV (fun y => 72 ≤ y ∧ y ≤ 75) h (fun _ => plainF) 0 72 0 0 plainF := ⟨lw, st, fun q hq => ⟨by omega, by omega, by omega⟩, lk, rfl, Nat.le_refl _, by decide, by omega, ⟨by decide, by decide⟩⟩
  have mt : MT h (fun k => if k < 4 then -1 else 0) (fun _ => 0) (fun _ => 0) := ⟨⟨fT 4, n8, fun t ht => if_pos ht⟩, fun t ht => ⟨1, 0, 0, fun _ => 0, by rw [show 110 + 2 * t = 109 + 2 * t + 1 by omega]; exact (n9 t ht).1, by rw [show 110 + 2 * t = 109 + 2 * t + 1 by omega]; exact (n9 t ht).2, fun _ => rfl, fun z => absurd (if_pos ht) z⟩⟩
  have mi : MI (fun y => 72 ≤ y ∧ y ≤ 75) h (fun _ => plainF) 0 (fun _ => 0) plainF := ⟨fun _ => none, a9, ⟨fU 107 2, n6, fun i hi => if_pos hi⟩, fun i hi => ⟨⟨_, _, _, _, _, _, n7 i hi⟩, fun _ => rfl, fun z => absurd rfl z⟩⟩
  refine ⟨plainF, fun _ => 0, fun k => if k < 4 then -1 else 0, fun _ => 0, fun _ => 0, 0, -1, 0, fun _ => 0, ⟨fun y => 72 ≤ y ∧ y ≤ 75, fun _ => plainF, 0, 72, 0, 0, 95, 96, .null, .null, plainF, ⟨nw, dv, fun _ _ => rfl, ⟨⟨_, _, _, _, _, _, _, _, _, a1⟩, ⟨_, a2, fun _ _ => rfl⟩, _, a3⟩, mt, mi, Or.inl ⟨_, _, _, _, _, _, a14, a15, a16, a17⟩, ⟨Or.inl ⟨rfl, rfl⟩, ⟨_, a19⟩, _, a20⟩, ⟨_, a18⟩, Or.inl rfl, Or.inl rfl⟩, ⟨by omega, Nat.le_refl _⟩, ?_, ?_⟩, ⟨_, r, rfl, rfl, rfl⟩, an, fun t ht => ⟨rfl, Nat.zero_le _⟩, by decide, fun _ _ => Nat.zero_lt_succ _⟩
  · rw [h1]
    decide
  · have : ptS .null .null 0 = 154000 := by decide
    omega
