/-! a call of the class and one of the reference: the same answer -/
theorem tok_num {rs rm : Nat → Int32} {x y z : Int32} (hT : TOK rs rm) : TOK (numS rs x y z) (numM rm x y z) := by
  unfold numS numM
  by_cases h : numC x y z
  · rw [if_pos h, if_pos h]
    obtain ⟨_, h3⟩ := h
    obtain ⟨h4, h5⟩ := (inR_iff (l := 0) (h := 40) (by decide) (by decide) z).mp h3
    obtain ⟨j, hj, rfl⟩ := nI_of2 (M := 40) (n := 40) (by decide) (Int32.not_lt.mpr h4) h5
    intro t ht
    unfold rowN
    unfold upd
    by_cases e : t = x.toNatClampNeg
    · rw [if_pos e, nI_clamp (by omega)]
      exact ⟨rfl, hj⟩
    · rw [if_neg e]
      exact hT t ht
  · rw [if_neg h, if_neg h]
    exact hT
theorem feedT_le {t : Nat} (h : t ≤ 900) : feedT t ≤ 900 := by
  unfold feedT
  split <;> omega
theorem feedP_lt {tp : Nat → Nat} {t : Nat} {x1 x2 x3 x4 x5 : Int32} (h : ∀ k, k < 900 → tp k < 256) : ∀ k, k < 900 → feedP tp t x1 x2 x3 x4 x5 k < 256 := fun k hk => by
  unfold feedP
  split
  · by_cases e : t ≤ k ∧ k < t + 20
    · rw [fillN_at e.1 e.2]
      exact btN_lt _ _
    · rw [fillN_out (by omega)]
      exact h k hk
  · exact h k hk
set_option maxRecDepth 20000 in
set_option maxHeartbeats 1000000 in
theorem b_feed {E : EnvT} {h : Hp} {c : Nat} {x1 : Int32} {x2 : Int32} {x3 : Int32} {x4 : Int32} {x5 : Int32} (hJ : JS h c) (hc : c < 512) : BothI E mX9_feed mX10_feed [.int x1, .int x2, .int x3, .int x4, .int x5] h c := by
  obtain ⟨a, hi, rs, rm, nu, fk, fp, t, tp, ⟨Z, reg, ns, s, sg, kd, w1, w2, wk, dt, b, x⟩, ⟨v, hR0, v5, v13, v14⟩, hA, hT, ht, htp⟩ := hJ
  have x0 := x
  obtain ⟨⟨xN, xD, xS, xR, xT, xI, xY, xW, x9, xK, xd⟩, ⟨hkl, hns⟩, hr1, hr2⟩ := x0
  refine ⟨feedF t, (cl_feed xN.1 xR ht (by decide)).mono fun r h1 q => ?_⟩
  obtain ⟨qc, qm⟩ := cs_fd x hA q.2.1 q.2.2
  have hR := hR0.nm qm
  exact ⟨q.1, ⟨v, hR.1⟩, (ref_feed hR v5 ht).mono fun r2 h2 q2 => by rw [v13, v14] at q2; exact JS.mkV qc ⟨hA, hT, feedT_le ht, feedP_lt htp⟩ q2⟩
set_option maxRecDepth 20000 in
set_option maxHeartbeats 1000000 in
theorem b_fault {E : EnvT} {h : Hp} {c : Nat} {y1 : Int32} (hJ : JS h c) (hc : c < 512) : BothI E mX9_fault mX10_fault [.int y1] h c := by
  obtain ⟨a, hi, rs, rm, nu, fk, fp, t, tp, ⟨Z, reg, ns, s, sg, kd, w1, w2, wk, dt, b, x⟩, ⟨v, hR0, v5, v13, v14⟩, hA, hT, ht, htp⟩ := hJ
  have x0 := x
  obtain ⟨⟨xN, xD, xS, xR, xT, xI, xY, xW, x9, xK, xd⟩, ⟨hkl, hns⟩, hr1, hr2⟩ := x0
  refine ⟨faultF v y1, (cl_fault (a := a) xN xD xR v13 v14).mono fun r h1 q => ?_⟩
  obtain ⟨qc, qm⟩ := cs_qn x hA (PAk.rf hA) q.2
  have hR := hR0.nm qm
  exact ⟨q.1, ⟨v, hR.1⟩, (ref_fault hR).mono fun r2 h2 q2 => JS.mk qc ⟨hA, hT, ht, htp⟩ v5 v13 v14 q2⟩
set_option maxRecDepth 20000 in
set_option maxHeartbeats 1000000 in
theorem b_goer {E : EnvT} {h : Hp} {c : Nat} {y1 : Int32} {y2 : Int32} (hJ : JS h c) (hc : c < 512) : BothI E mX9_goer mX10_goer [.int y1, .int y2] h c := by
  obtain ⟨a, hi, rs, rm, nu, fk, fp, t, tp, ⟨Z, reg, ns, s, sg, kd, w1, w2, wk, dt, b, x⟩, ⟨v, hR0, v5, v13, v14⟩, hA, hT, ht, htp⟩ := hJ
  have x0 := x
  obtain ⟨⟨xN, xD, xS, xR, xT, xI, xY, xW, x9, xK, xd⟩, ⟨hkl, hns⟩, hr1, hr2⟩ := x0
  refine ⟨goerF a y1 y2, (cl_goer xN xD hA xS (by decide)).mono fun r h1 q => ?_⟩
  obtain ⟨qc, qm⟩ := cs_qn x hA (PAk.rf hA) q.2
  have hR := hR0.nm qm
  exact ⟨q.1, ⟨v, hR.1⟩, (ref_goer hR hA (by decide)).mono fun r2 h2 q2 => JS.mk qc ⟨hA, hT, ht, htp⟩ v5 v13 v14 q2⟩
set_option maxRecDepth 20000 in
set_option maxHeartbeats 1000000 in
theorem b_by {E : EnvT} {h : Hp} {c : Nat} {y1 : Int32} (hJ : JS h c) (hc : c < 512) : BothI E mX9_by mX10_by [.int y1] h c := by
  obtain ⟨a, hi, rs, rm, nu, fk, fp, t, tp, ⟨Z, reg, ns, s, sg, kd, w1, w2, wk, dt, b, x⟩, ⟨v, hR0, v5, v13, v14⟩, hA, hT, ht, htp⟩ := hJ
  have x0 := x
  obtain ⟨⟨xN, xD, xS, xR, xT, xI, xY, xW, x9, xK, xd⟩, ⟨hkl, hns⟩, hr1, hr2⟩ := x0
  refine ⟨byF a y1, (cl_by xN xD hA xS (by decide)).mono fun r h1 q => ?_⟩
  obtain ⟨qc, qm⟩ := cs_qn x hA (PAk.rf hA) q.2
  have hR := hR0.nm qm
  exact ⟨q.1, ⟨v, hR.1⟩, (ref_by hR hA (by decide)).mono fun r2 h2 q2 => JS.mk qc ⟨hA, hT, ht, htp⟩ v5 v13 v14 q2⟩
set_option maxRecDepth 20000 in
set_option maxHeartbeats 1000000 in
theorem b_hour {E : EnvT} {h : Hp} {c : Nat} {y1 : Int32} (hJ : JS h c) (hc : c < 512) : BothI E mX9_hour mX10_hour [.int y1] h c := by
  obtain ⟨a, hi, rs, rm, nu, fk, fp, t, tp, ⟨Z, reg, ns, s, sg, kd, w1, w2, wk, dt, b, x⟩, ⟨v, hR0, v5, v13, v14⟩, hA, hT, ht, htp⟩ := hJ
  have x0 := x
  obtain ⟨⟨xN, xD, xS, xR, xT, xI, xY, xW, x9, xK, xd⟩, ⟨hkl, hns⟩, hr1, hr2⟩ := x0
  refine ⟨hourF a y1, (cl_hour xN xD hA xS (by decide)).mono fun r h1 q => ?_⟩
  obtain ⟨qc, qm⟩ := cs_qn x hA (pa_hour hA) q.2
  have hR := hR0.nm qm
  exact ⟨q.1, ⟨v, hR.1⟩, (ref_hour hR hA (by decide)).mono fun r2 h2 q2 => JS.mk qc ⟨(pa_hour hA).1, hT, ht, htp⟩ v5 v13 v14 q2⟩
set_option maxRecDepth 20000 in
set_option maxHeartbeats 1000000 in
theorem b_hours {E : EnvT} {h : Hp} {c : Nat} {y1 : Int32} (hJ : JS h c) (hc : c < 512) : BothI E mX9_hours mX10_hours [.int y1] h c := by
  obtain ⟨a, hi, rs, rm, nu, fk, fp, t, tp, ⟨Z, reg, ns, s, sg, kd, w1, w2, wk, dt, b, x⟩, ⟨v, hR0, v5, v13, v14⟩, hA, hT, ht, htp⟩ := hJ
  have x0 := x
  obtain ⟨⟨xN, xD, xS, xR, xT, xI, xY, xW, x9, xK, xd⟩, ⟨hkl, hns⟩, hr1, hr2⟩ := x0
  refine ⟨hoursF a y1, (cl_hours xN xD hA xS (by decide)).mono fun r h1 q => ?_⟩
  obtain ⟨qc, qm⟩ := cs_qn x hA (pa_hours hA) q.2
  have hR := hR0.nm qm
  exact ⟨q.1, ⟨v, hR.1⟩, (ref_hours hR hA (by decide)).mono fun r2 h2 q2 => JS.mk qc ⟨(pa_hours hA).1, hT, ht, htp⟩ v5 v13 v14 q2⟩
set_option maxRecDepth 20000 in
set_option maxHeartbeats 1000000 in
theorem b_draught {E : EnvT} {h : Hp} {c : Nat} {y1 : Int32} (hJ : JS h c) (hc : c < 512) : BothI E mX9_draught mX10_draught [.int y1] h c := by
  obtain ⟨a, hi, rs, rm, nu, fk, fp, t, tp, ⟨Z, reg, ns, s, sg, kd, w1, w2, wk, dt, b, x⟩, ⟨v, hR0, v5, v13, v14⟩, hA, hT, ht, htp⟩ := hJ
  have x0 := x
  obtain ⟨⟨xN, xD, xS, xR, xT, xI, xY, xW, x9, xK, xd⟩, ⟨hkl, hns⟩, hr1, hr2⟩ := x0
  refine ⟨draughtF a y1, (cl_draught xN xD hA xS (by decide)).mono fun r h1 q => ?_⟩
  obtain ⟨qc, qm⟩ := cs_qn x hA (pa_draught hA) q.2
  have hR := hR0.nm qm
  exact ⟨q.1, ⟨v, hR.1⟩, (ref_draught hR hA (by decide)).mono fun r2 h2 q2 => JS.mk qc ⟨(pa_draught hA).1, hT, ht, htp⟩ v5 v13 v14 q2⟩
set_option maxRecDepth 20000 in
set_option maxHeartbeats 1000000 in
theorem b_undo {E : EnvT} {h : Hp} {c : Nat} {y1 : Int32} (hJ : JS h c) (hc : c < 512) : BothI E mX9_undo mX10_undo [.int y1] h c := by
  obtain ⟨a, hi, rs, rm, nu, fk, fp, t, tp, ⟨Z, reg, ns, s, sg, kd, w1, w2, wk, dt, b, x⟩, ⟨v, hR0, v5, v13, v14⟩, hA, hT, ht, htp⟩ := hJ
  have x0 := x
  obtain ⟨⟨xN, xD, xS, xR, xT, xI, xY, xW, x9, xK, xd⟩, ⟨hkl, hns⟩, hr1, hr2⟩ := x0
  refine ⟨undoF a y1, (cl_undo xN xD hA xS (by decide)).mono fun r h1 q => ?_⟩
  obtain ⟨qc, qm⟩ := cs_qn x hA (pa_undo hA) q.2
  have hR := hR0.nm qm
  exact ⟨q.1, ⟨v, hR.1⟩, (ref_undo hR hA (by decide)).mono fun r2 h2 q2 => JS.mk qc ⟨(pa_undo hA).1, hT, ht, htp⟩ v5 v13 v14 q2⟩
set_option maxRecDepth 20000 in
set_option maxHeartbeats 1000000 in
theorem b_hint {E : EnvT} {h : Hp} {c : Nat} {y1 : Int32} {y2 : Int32} {y3 : Int32} (hJ : JS h c) (hc : c < 512) : BothI E mX9_hint mX10_hint [.int y1, .int y2, .int y3] h c := by
  obtain ⟨a, hi, rs, rm, nu, fk, fp, t, tp, ⟨Z, reg, ns, s, sg, kd, w1, w2, wk, dt, b, x⟩, ⟨v, hR0, v5, v13, v14⟩, hA, hT, ht, htp⟩ := hJ
  have x0 := x
  obtain ⟨⟨xN, xD, xS, xR, xT, xI, xY, xW, x9, xK, xd⟩, ⟨hkl, hns⟩, hr1, hr2⟩ := x0
  refine ⟨hintF a y1 y2 y3, (cl_hint xN xD hA xS xY (by decide)).mono fun r h1 q => ?_⟩
  obtain ⟨qc, qm⟩ := cs_hs x hA (pa_hint hA) q.2.1 q.2.2.1 q.2.2.2
  have hR := hR0.nm qm
  exact ⟨q.1, ⟨v, hR.1⟩, (ref_hint hR hA (by decide)).mono fun r2 h2 q2 => JS.mk qc ⟨(pa_hint hA).1, hT, ht, htp⟩ v5 v13 v14 q2⟩
set_option maxRecDepth 20000 in
set_option maxHeartbeats 1000000 in
theorem b_judge {E : EnvT} {h : Hp} {c : Nat} {y1 : Int32} {y2 : Int32} (hJ : JS h c) (hc : c < 512) : BothI E mX9_judge mX10_judge [.int y1, .int y2] h c := by
  obtain ⟨a, hi, rs, rm, nu, fk, fp, t, tp, ⟨Z, reg, ns, s, sg, kd, w1, w2, wk, dt, b, x⟩, ⟨v, hR0, v5, v13, v14⟩, hA, hT, ht, htp⟩ := hJ
  have x0 := x
  obtain ⟨⟨xN, xD, xS, xR, xT, xI, xY, xW, x9, xK, xd⟩, ⟨hkl, hns⟩, hr1, hr2⟩ := x0
  refine ⟨judgeF a rs rm nu y1 y2, (cl_judge xN xD hA xS xT hT (by decide)).mono fun r h1 q => ?_⟩
  obtain ⟨qc, qm⟩ := cs_qn x hA (PAk.rf hA) q.2
  have hR := hR0.nm qm
  exact ⟨q.1, ⟨v, hR.1⟩, (ref_judge hR hA hT (by decide)).mono fun r2 h2 q2 => JS.mk qc ⟨hA, hT, ht, htp⟩ v5 v13 v14 q2⟩
set_option maxRecDepth 20000 in
set_option maxHeartbeats 1000000 in
theorem b_perform {E : EnvT} {h : Hp} {c : Nat} {y1 : Int32} (hJ : JS h c) (hc : c < 512) : BothI E mX9_perform mX10_perform [.int y1] h c := by
  obtain ⟨a, hi, rs, rm, nu, fk, fp, t, tp, ⟨Z, reg, ns, s, sg, kd, w1, w2, wk, dt, b, x⟩, ⟨v, hR0, v5, v13, v14⟩, hA, hT, ht, htp⟩ := hJ
  have x0 := x
  obtain ⟨⟨xN, xD, xS, xR, xT, xI, xY, xW, x9, xK, xd⟩, ⟨hkl, hns⟩, hr1, hr2⟩ := x0
  refine ⟨performF a rs rm nu y1, (cl_perform xN xD hA xS xT hT (by decide)).mono fun r h1 q => ?_⟩
  obtain ⟨qc, qm⟩ := cs_qn x hA (pa_perform hA) q.2
  have hR := hR0.nm qm
  exact ⟨q.1, ⟨v, hR.1⟩, (ref_perform hR hA hT (by decide)).mono fun r2 h2 q2 => JS.mk qc ⟨(pa_perform hA).1, hT, ht, htp⟩ v5 v13 v14 q2⟩
set_option maxRecDepth 20000 in
set_option maxHeartbeats 1000000 in
theorem b_night {E : EnvT} {h : Hp} {c : Nat} {y1 : Int32} {y2 : Int32} (hJ : JS h c) (hc : c < 512) : BothI E mX9_night mX10_night [.int y1, .int y2] h c := by
  obtain ⟨a, hi, rs, rm, nu, fk, fp, t, tp, ⟨Z, reg, ns, s, sg, kd, w1, w2, wk, dt, b, x⟩, ⟨v, hR0, v5, v13, v14⟩, hA, hT, ht, htp⟩ := hJ
  have x0 := x
  obtain ⟨⟨xN, xD, xS, xR, xT, xI, xY, xW, x9, xK, xd⟩, ⟨hkl, hns⟩, hr1, hr2⟩ := x0
  refine ⟨nightF a y1 y2, (cl_night xN xD hA xS hkl (by decide)).mono fun r h1 q => ?_⟩
  obtain ⟨qc, qm⟩ := cs_qe x hA (pa_night hA) q.2
  have hR := hR0.nm qm
  exact ⟨q.1, ⟨v, hR.1⟩, (ref_night hR hA (by decide)).mono fun r2 h2 q2 => JS.mk qc ⟨(pa_night hA).1, hT, ht, htp⟩ v5 v13 v14 q2⟩
set_option maxRecDepth 20000 in
set_option maxHeartbeats 1000000 in
theorem b_soonest {E : EnvT} {h : Hp} {c : Nat} {y1 : Int32} (hJ : JS h c) (hc : c < 512) : BothI E mX9_soonest mX10_soonest [.int y1] h c := by
  obtain ⟨a, hi, rs, rm, nu, fk, fp, t, tp, ⟨Z, reg, ns, s, sg, kd, w1, w2, wk, dt, b, x⟩, ⟨v, hR0, v5, v13, v14⟩, hA, hT, ht, htp⟩ := hJ
  have x0 := x
  obtain ⟨⟨xN, xD, xS, xR, xT, xI, xY, xW, x9, xK, xd⟩, ⟨hkl, hns⟩, hr1, hr2⟩ := x0
  obtain ⟨dx, gl, hX⟩ := DX_ex a
  refine ⟨soonF a dx y1, (cl_soonest xN xD hA xS xK hkl hX (by decide)).mono fun r h1 q => ?_⟩
  obtain ⟨qc, qm⟩ := cs_wk x hA q.2
  have hR := hR0.nm qm
  exact ⟨q.1, ⟨v, hR.1⟩, (ref_soonest hR hA hX (by decide)).mono fun r2 h2 q2 => JS.mk qc ⟨hA, hT, ht, htp⟩ v5 v13 v14 q2⟩
set_option maxRecDepth 20000 in
set_option maxHeartbeats 1000000 in
theorem b_way {E : EnvT} {h : Hp} {c : Nat} {y1 : Int32} {y2 : Int32} (hJ : JS h c) (hc : c < 512) : BothI E mX9_way mX10_way [.int y1, .int y2] h c := by
  obtain ⟨a, hi, rs, rm, nu, fk, fp, t, tp, ⟨Z, reg, ns, s, sg, kd, w1, w2, wk, dt, b, x⟩, ⟨v, hR0, v5, v13, v14⟩, hA, hT, ht, htp⟩ := hJ
  have x0 := x
  obtain ⟨⟨xN, xD, xS, xR, xT, xI, xY, xW, x9, xK, xd⟩, ⟨hkl, hns⟩, hr1, hr2⟩ := x0
  obtain ⟨dx, gl, hX⟩ := DX_ex a
  refine ⟨wayF a dx gl y1 y2, (cl_way xN xD hA xS xK hkl hX (by decide)).mono fun r h1 q => ?_⟩
  obtain ⟨qc, qm⟩ := cs_wk x hA q.2
  have hR := hR0.nm qm
  exact ⟨q.1, ⟨v, hR.1⟩, (ref_way hR hA hX (by decide)).mono fun r2 h2 q2 => JS.mk qc ⟨hA, hT, ht, htp⟩ v5 v13 v14 q2⟩
set_option maxRecDepth 20000 in
set_option maxHeartbeats 1000000 in
theorem b_rows {E : EnvT} {h : Hp} {c : Nat} {y1 : Int32} {y2 : Int32} (hJ : JS h c) (hc : c < 512) : BothL E mX9_rows mX10_rows [.int y1, .int y2] h c := by
  obtain ⟨a, hi, rs, rm, nu, fk, fp, t, tp, ⟨Z, reg, ns, s, sg, kd, w1, w2, wk, dt, b, x⟩, ⟨v, hR0, v5, v13, v14⟩, hA, hT, ht, htp⟩ := hJ
  have x0 := x
  obtain ⟨⟨xN, xD, xS, xR, xT, xI, xY, xW, x9, xK, xd⟩, ⟨hkl, hns⟩, hr1, hr2⟩ := x0
  refine ⟨rowsF a y1 y2, (cl_rows xN xD hA xS xK hkl (by decide)).mono fun r h1 q => ?_⟩
  obtain ⟨qc, qm⟩ := cs_wk x hA q.2
  have hR := hR0.nm qm
  exact ⟨q.1, ⟨v, hR.1⟩, (ref_rows hR hA (by decide)).mono fun r2 h2 q2 => JS.mk qc ⟨hA, hT, ht, htp⟩ v5 v13 v14 q2⟩
set_option maxRecDepth 20000 in
set_option maxHeartbeats 1000000 in
theorem b_can {E : EnvT} {h : Hp} {c : Nat} (hJ : JS h c) (hc : c < 512) : BothI E mX9_can mX10_can [] h c := by
  obtain ⟨a, hi, rs, rm, nu, fk, fp, t, tp, ⟨Z, reg, ns, s, sg, kd, w1, w2, wk, dt, b, x⟩, ⟨v, hR0, v5, v13, v14⟩, hA, hT, ht, htp⟩ := hJ
  have x0 := x
  obtain ⟨⟨xN, xD, xS, xR, xT, xI, xY, xW, x9, xK, xd⟩, ⟨hkl, hns⟩, hr1, hr2⟩ := x0
  obtain ⟨n9, hX⟩ := can_ex hA
  refine ⟨nI n9, (cl_can xN xD hA xS xK hkl hX (by decide)).mono fun r h1 q => ?_⟩
  obtain ⟨qc, qm⟩ := cs_wk x hA q.2
  have hR := hR0.nm qm
  exact ⟨q.1, ⟨v, hR.1⟩, (ref_can hR hA hX (by decide)).mono fun r2 h2 q2 => JS.mk qc ⟨hA, hT, ht, htp⟩ v5 v13 v14 q2⟩
set_option maxRecDepth 20000 in
set_option maxHeartbeats 1000000 in
theorem b_most {E : EnvT} {h : Hp} {c : Nat} {y1 : Int32} (hJ : JS h c) (hc : c < 512) : BothI E mX9_most mX10_most [.int y1] h c := by
  obtain ⟨a, hi, rs, rm, nu, fk, fp, t, tp, ⟨Z, reg, ns, s, sg, kd, w1, w2, wk, dt, b, x⟩, ⟨v, hR0, v5, v13, v14⟩, hA, hT, ht, htp⟩ := hJ
  have x0 := x
  obtain ⟨⟨xN, xD, xS, xR, xT, xI, xY, xW, x9, xK, xd⟩, ⟨hkl, hns⟩, hr1, hr2⟩ := x0
  obtain ⟨n9, hX⟩ := most_ex hA
  refine ⟨mostF n9 y1, (cl_most xN xD hA xS xK hkl hX (by decide)).mono fun r h1 q => ?_⟩
  obtain ⟨qc, qm⟩ := cs_wk x hA q.2
  have hR := hR0.nm qm
  exact ⟨q.1, ⟨v, hR.1⟩, (ref_most hR hA hX (by decide)).mono fun r2 h2 q2 => JS.mk qc ⟨hA, hT, ht, htp⟩ v5 v13 v14 q2⟩
set_option maxRecDepth 20000 in
set_option maxHeartbeats 1000000 in
theorem b_deepest {E : EnvT} {h : Hp} {c : Nat} (hJ : JS h c) (hc : c < 512) : BothI E mX9_deepest mX10_deepest [] h c := by
  obtain ⟨a, hi, rs, rm, nu, fk, fp, t, tp, ⟨Z, reg, ns, s, sg, kd, w1, w2, wk, dt, b, x⟩, ⟨v, hR0, v5, v13, v14⟩, hA, hT, ht, htp⟩ := hJ
  have x0 := x
  obtain ⟨⟨xN, xD, xS, xR, xT, xI, xY, xW, x9, xK, xd⟩, ⟨hkl, hns⟩, hr1, hr2⟩ := x0
  obtain ⟨n9, hX⟩ := deep_ex hA
  refine ⟨nI n9, (cl_deepest xN xD hA xS xK hkl hX (by decide)).mono fun r h1 q => ?_⟩
  obtain ⟨qc, qm⟩ := cs_wk x hA q.2
  have hR := hR0.nm qm
  exact ⟨q.1, ⟨v, hR.1⟩, (ref_deepest hR hA hX (by decide)).mono fun r2 h2 q2 => JS.mk qc ⟨hA, hT, ht, htp⟩ v5 v13 v14 q2⟩
set_option maxRecDepth 20000 in
set_option maxHeartbeats 1000000 in
theorem b_atOnce {E : EnvT} {h : Hp} {c : Nat} (hJ : JS h c) (hc : c < 512) : BothI E mX9_atOnce mX10_atOnce [] h c := by
  obtain ⟨a, hi, rs, rm, nu, fk, fp, t, tp, ⟨Z, reg, ns, s, sg, kd, w1, w2, wk, dt, b, x⟩, ⟨v, hR0, v5, v13, v14⟩, hA, hT, ht, htp⟩ := hJ
  have x0 := x
  obtain ⟨⟨xN, xD, xS, xR, xT, xI, xY, xW, x9, xK, xd⟩, ⟨hkl, hns⟩, hr1, hr2⟩ := x0
  refine ⟨aoF a, (cl_atOnce xN xD hA xS (by decide)).mono fun r h1 q => ?_⟩
  obtain ⟨q1, kd2, qg, qd⟩ := q
  obtain ⟨qc, qm⟩ := cs_gq x hA qg qd
  have hR := hR0.nm qm
  exact ⟨q1, ⟨v, hR.1⟩, (ref_atOnce hR hA (by decide)).mono fun r2 h2 q2 => JS.mk qc ⟨hA, hT, ht, htp⟩ v5 v13 v14 q2⟩
set_option maxRecDepth 20000 in
set_option maxHeartbeats 1000000 in
theorem b_stands {E : EnvT} {h : Hp} {c : Nat} (hJ : JS h c) (hc : c < 512) : BothI E mX9_stands mX10_stands [] h c := by
  obtain ⟨a, hi, rs, rm, nu, fk, fp, t, tp, ⟨Z, reg, ns, s, sg, kd, w1, w2, wk, dt, b, x⟩, ⟨v, hR0, v5, v13, v14⟩, hA, hT, ht, htp⟩ := hJ
  have x0 := x
  obtain ⟨⟨xN, xD, xS, xR, xT, xI, xY, xW, x9, xK, xd⟩, ⟨hkl, hns⟩, hr1, hr2⟩ := x0
  obtain ⟨n9, hX⟩ := sts_ex hA
  refine ⟨nI n9, (cl_stands xN xD hA xS xK hkl hX (by decide)).mono fun r h1 q => ?_⟩
  obtain ⟨qc, qm⟩ := cs_wk x hA q.2
  have hR := hR0.nm qm
  exact ⟨q.1, ⟨v, hR.1⟩, (ref_stands hR hA hX (by decide)).mono fun r2 h2 q2 => JS.mk qc ⟨hA, hT, ht, htp⟩ v5 v13 v14 q2⟩
set_option maxRecDepth 20000 in
set_option maxHeartbeats 1000000 in
theorem b_ways {E : EnvT} {h : Hp} {c : Nat} (hJ : JS h c) (hc : c < 512) : BothI E mX9_ways mX10_ways [] h c := by
  obtain ⟨a, hi, rs, rm, nu, fk, fp, t, tp, ⟨Z, reg, ns, s, sg, kd, w1, w2, wk, dt, b, x⟩, ⟨v, hR0, v5, v13, v14⟩, hA, hT, ht, htp⟩ := hJ
  have x0 := x
  obtain ⟨⟨xN, xD, xS, xR, xT, xI, xY, xW, x9, xK, xd⟩, ⟨hkl, hns⟩, hr1, hr2⟩ := x0
  refine ⟨waysF a, (cl_ways xN xD hA xS xY (by decide)).mono fun r h1 q => ?_⟩
  obtain ⟨qc, qm⟩ := cs_xs x hA q.2.1 q.2.2
  have hR := hR0.nm qm
  exact ⟨q.1, ⟨v, hR.1⟩, (ref_ways hR hA (by decide)).mono fun r2 h2 q2 => JS.mk qc ⟨hA, hT, ht, htp⟩ v5 v13 v14 q2⟩
set_option maxRecDepth 20000 in
set_option maxHeartbeats 1000000 in
theorem b_first {E : EnvT} {h : Hp} {c : Nat} {y1 : Int32} (hJ : JS h c) (hc : c < 512) : BothI E mX9_first mX10_first [.int y1] h c := by
  obtain ⟨a, hi, rs, rm, nu, fk, fp, t, tp, ⟨Z, reg, ns, s, sg, kd, w1, w2, wk, dt, b, x⟩, ⟨v, hR0, v5, v13, v14⟩, hA, hT, ht, htp⟩ := hJ
  have x0 := x
  obtain ⟨⟨xN, xD, xS, xR, xT, xI, xY, xW, x9, xK, xd⟩, ⟨hkl, hns⟩, hr1, hr2⟩ := x0
  refine ⟨firstF a y1, (cl_first xN xD hA xS xY (by decide)).mono fun r h1 q => ?_⟩
  obtain ⟨qc, qm⟩ := cs_xs x hA q.2.1 q.2.2
  have hR := hR0.nm qm
  exact ⟨q.1, ⟨v, hR.1⟩, (ref_first hR hA (by decide)).mono fun r2 h2 q2 => JS.mk qc ⟨hA, hT, ht, htp⟩ v5 v13 v14 q2⟩
set_option maxRecDepth 20000 in
set_option maxHeartbeats 1000000 in
theorem b_surely {E : EnvT} {h : Hp} {c : Nat} {y1 : Int32} (hJ : JS h c) (hc : c < 512) : BothI E mX9_surely mX10_surely [.int y1] h c := by
  obtain ⟨a, hi, rs, rm, nu, fk, fp, t, tp, ⟨Z, reg, ns, s, sg, kd, w1, w2, wk, dt, b, x⟩, ⟨v, hR0, v5, v13, v14⟩, hA, hT, ht, htp⟩ := hJ
  have x0 := x
  obtain ⟨⟨xN, xD, xS, xR, xT, xI, xY, xW, x9, xK, xd⟩, ⟨hkl, hns⟩, hr1, hr2⟩ := x0
  refine ⟨surelyF a y1, (cl_surely xN xD hA xS xY (by decide)).mono fun r h1 q => ?_⟩
  obtain ⟨qc, qm⟩ := cs_xs x hA q.2.1 q.2.2
  have hR := hR0.nm qm
  exact ⟨q.1, ⟨v, hR.1⟩, (ref_surely hR hA (by decide)).mono fun r2 h2 q2 => JS.mk qc ⟨hA, hT, ht, htp⟩ v5 v13 v14 q2⟩
set_option maxRecDepth 20000 in
set_option maxHeartbeats 1000000 in
theorem b_odds {E : EnvT} {h : Hp} {c : Nat} {y1 : Int32} {y2 : Int32} {y3 : Int32} (hJ : JS h c) (hc : c < 512) : BothI E mX9_odds mX10_odds [.int y1, .int y2, .int y3] h c := by
  obtain ⟨a, hi, rs, rm, nu, fk, fp, t, tp, ⟨Z, reg, ns, s, sg, kd, w1, w2, wk, dt, b, x⟩, ⟨v, hR0, v5, v13, v14⟩, hA, hT, ht, htp⟩ := hJ
  have x0 := x
  obtain ⟨⟨xN, xD, xS, xR, xT, xI, xY, xW, x9, xK, xd⟩, ⟨hkl, hns⟩, hr1, hr2⟩ := x0
  refine ⟨oddsF a y1 y2 y3, (cl_odds xN xD hA xS xY (by decide)).mono fun r h1 q => ?_⟩
  obtain ⟨qc, qm⟩ := cs_xs x hA q.2.1 q.2.2
  have hR := hR0.nm qm
  exact ⟨q.1, ⟨v, hR.1⟩, (ref_odds hR hA (by decide)).mono fun r2 h2 q2 => JS.mk qc ⟨hA, hT, ht, htp⟩ v5 v13 v14 q2⟩
set_option maxRecDepth 20000 in
set_option maxHeartbeats 1000000 in
theorem b_clause {E : EnvT} {h : Hp} {c : Nat} (hJ : JS h c) (hc : c < 512) : BothI E mX9_clause mX10_clause [] h c := by
  obtain ⟨a, hi, rs, rm, nu, fk, fp, t, tp, ⟨Z, reg, ns, s, sg, kd, w1, w2, wk, dt, b, x⟩, ⟨v, hR0, v5, v13, v14⟩, hA, hT, ht, htp⟩ := hJ
  have x0 := x
  obtain ⟨⟨xN, xD, xS, xR, xT, xI, xY, xW, x9, xK, xd⟩, ⟨hkl, hns⟩, hr1, hr2⟩ := x0
  refine ⟨clauseF a, (cl_clause xN xD hA xS xY (by decide)).mono fun r h1 q => ?_⟩
  obtain ⟨qc, qm⟩ := cs_xs x hA q.2.1 q.2.2
  have hR := hR0.nm qm
  exact ⟨q.1, ⟨v, hR.1⟩, (ref_clause hR hA (by decide)).mono fun r2 h2 q2 => JS.mk qc ⟨hA, hT, ht, htp⟩ v5 v13 v14 q2⟩
set_option maxRecDepth 20000 in
set_option maxHeartbeats 1000000 in
theorem b_hints {E : EnvT} {h : Hp} {c : Nat} {y1 : Int32} (hJ : JS h c) (hc : c < 512) : BothI E mX9_hints mX10_hints [.int y1] h c := by
  obtain ⟨a, hi, rs, rm, nu, fk, fp, t, tp, ⟨Z, reg, ns, s, sg, kd, w1, w2, wk, dt, b, x⟩, ⟨v, hR0, v5, v13, v14⟩, hA, hT, ht, htp⟩ := hJ
  have x0 := x
  obtain ⟨⟨xN, xD, xS, xR, xT, xI, xY, xW, x9, xK, xd⟩, ⟨hkl, hns⟩, hr1, hr2⟩ := x0
  refine ⟨hintsF a y1, (cl_hints xN hA (by decide)).mono fun r h1 q => ?_⟩
  obtain ⟨q1, rfl⟩ := q
  obtain ⟨qc, qm⟩ := cs_tr x hA Ex.rf xT
  have hR := hR0.nm qm
  exact ⟨q1, ⟨v, hR.1⟩, (ref_hints hR hA (by decide)).mono fun r2 h2 q2 => JS.mk qc ⟨hA, hT, ht, htp⟩ v5 v13 v14 q2⟩
set_option maxRecDepth 20000 in
set_option maxHeartbeats 1000000 in
theorem b_draughts {E : EnvT} {h : Hp} {c : Nat} {y1 : Int32} (hJ : JS h c) (hc : c < 512) : BothI E mX9_draughts mX10_draughts [.int y1] h c := by
  obtain ⟨a, hi, rs, rm, nu, fk, fp, t, tp, ⟨Z, reg, ns, s, sg, kd, w1, w2, wk, dt, b, x⟩, ⟨v, hR0, v5, v13, v14⟩, hA, hT, ht, htp⟩ := hJ
  have x0 := x
  obtain ⟨⟨xN, xD, xS, xR, xT, xI, xY, xW, x9, xK, xd⟩, ⟨hkl, hns⟩, hr1, hr2⟩ := x0
  refine ⟨drF a rs rm nu y1, (cl_draughts xN xD hA xS xT hT (by decide)).mono fun r h1 q => ?_⟩
  obtain ⟨q1, kd2, qg, qd⟩ := q
  obtain ⟨qc, qm⟩ := cs_gq x hA qg qd
  have hR := hR0.nm qm
  exact ⟨q1, ⟨v, hR.1⟩, (ref_draughts hR hA hT (by decide)).mono fun r2 h2 q2 => JS.mk qc ⟨hA, hT, ht, htp⟩ v5 v13 v14 q2⟩
set_option maxRecDepth 20000 in
set_option maxHeartbeats 1000000 in
theorem b_attempt {E : EnvT} {h : Hp} {c : Nat} {y1 : Int32} (hJ : JS h c) (hc : c < 512) : BothI E mX9_attempt mX10_attempt [.int y1] h c := by
  obtain ⟨a, hi, rs, rm, nu, fk, fp, t, tp, ⟨Z, reg, ns, s, sg, kd, w1, w2, wk, dt, b, x⟩, ⟨v, hR0, v5, v13, v14⟩, hA, hT, ht, htp⟩ := hJ
  have x0 := x
  obtain ⟨⟨xN, xD, xS, xR, xT, xI, xY, xW, x9, xK, xd⟩, ⟨hkl, hns⟩, hr1, hr2⟩ := x0
  obtain ⟨tf, c94⟩ := x9
  refine ⟨attF a rs rm nu y1, (cl_attempt xN xD hA xS xT hT c94 (by decide)).mono fun r h1 q => ?_⟩
  obtain ⟨q1, kd2, qg, qd, q94⟩ := q
  obtain ⟨qc, qm⟩ := cs_94 x hA qg qd q94
  have hR := hR0.nm qm
  exact ⟨q1, ⟨v, hR.1⟩, (ref_attempt hR hA hT (by decide)).mono fun r2 h2 q2 => JS.mk qc ⟨hA, hT, ht, htp⟩ v5 v13 v14 q2⟩
set_option maxRecDepth 20000 in
set_option maxHeartbeats 1000000 in
theorem b_daring {E : EnvT} {h : Hp} {c : Nat} {y1 : Int32} (hJ : JS h c) (hc : c < 512) : BothI E mX9_daring mX10_daring [.int y1] h c := by
  obtain ⟨a, hi, rs, rm, nu, fk, fp, t, tp, ⟨Z, reg, ns, s, sg, kd, w1, w2, wk, dt, b, x⟩, ⟨v, hR0, v5, v13, v14⟩, hA, hT, ht, htp⟩ := hJ
  have x0 := x
  obtain ⟨⟨xN, xD, xS, xR, xT, xI, xY, xW, x9, xK, xd⟩, ⟨hkl, hns⟩, hr1, hr2⟩ := x0
  refine ⟨daringF a y1, (cl_daring xN xD hA xS xd (by omega) hkl (by decide)).mono fun r h1 q => ?_⟩
  obtain ⟨qc, qm⟩ := cs_dr x hA q.2
  have hR := hR0.nm qm
  exact ⟨q.1, ⟨v, hR.1⟩, (ref_daring hR hA (by decide)).mono fun r2 h2 q2 => JS.mk qc ⟨hA, hT, ht, htp⟩ v5 v13 v14 q2⟩
set_option maxRecDepth 20000 in
set_option maxHeartbeats 1000000 in
theorem b_dares {E : EnvT} {h : Hp} {c : Nat} {y1 : Int32} (hJ : JS h c) (hc : c < 512) : BothI E mX9_dares mX10_dares [.int y1] h c := by
  obtain ⟨a, hi, rs, rm, nu, fk, fp, t, tp, ⟨Z, reg, ns, s, sg, kd, w1, w2, wk, dt, b, x⟩, ⟨v, hR0, v5, v13, v14⟩, hA, hT, ht, htp⟩ := hJ
  have x0 := x
  obtain ⟨⟨xN, xD, xS, xR, xT, xI, xY, xW, x9, xK, xd⟩, ⟨hkl, hns⟩, hr1, hr2⟩ := x0
  refine ⟨daresF a y1, (cl_dares xN xD hA xS xd (by omega) hkl (by decide)).mono fun r h1 q => ?_⟩
  obtain ⟨qc, qm⟩ := cs_dr x hA q.2
  have hR := hR0.nm qm
  exact ⟨q.1, ⟨v, hR.1⟩, (ref_dares hR hA (by decide)).mono fun r2 h2 q2 => JS.mk qc ⟨hA, hT, ht, htp⟩ v5 v13 v14 q2⟩
set_option maxRecDepth 20000 in
set_option maxHeartbeats 1000000 in
theorem b_chance {E : EnvT} {h : Hp} {c : Nat} {y1 : Int32} {y2 : Int32} (hJ : JS h c) (hc : c < 512) : BothI E mX9_chance mX10_chance [.int y1, .int y2] h c := by
  obtain ⟨a, hi, rs, rm, nu, fk, fp, t, tp, ⟨Z, reg, ns, s, sg, kd, w1, w2, wk, dt, b, x⟩, ⟨v, hR0, v5, v13, v14⟩, hA, hT, ht, htp⟩ := hJ
  have x0 := x
  obtain ⟨⟨xN, xD, xS, xR, xT, xI, xY, xW, x9, xK, xd⟩, ⟨hkl, hns⟩, hr1, hr2⟩ := x0
  refine ⟨chF a rs rm nu y1 y2, (cl_chance xN xD hA xS xT hT xW (by decide)).mono fun r h1 q => ?_⟩
  obtain ⟨q1, w3, w4, kd2, qw, q64, qd, qg⟩ := q
  obtain ⟨qc, qm⟩ := cs_mw x hA qg qd qw q64
  have hR := hR0.nm qm
  exact ⟨q1, ⟨v, hR.1⟩, (ref_chance hR hA hT (by decide)).mono fun r2 h2 q2 => JS.mk qc ⟨hA, hT, ht, htp⟩ v5 v13 v14 q2⟩
set_option maxRecDepth 20000 in
set_option maxHeartbeats 1000000 in
theorem b_mean {E : EnvT} {h : Hp} {c : Nat} {y1 : Int32} {y2 : Int32} (hJ : JS h c) (hc : c < 512) : BothI E mX9_mean mX10_mean [.int y1, .int y2] h c := by
  obtain ⟨a, hi, rs, rm, nu, fk, fp, t, tp, ⟨Z, reg, ns, s, sg, kd, w1, w2, wk, dt, b, x⟩, ⟨v, hR0, v5, v13, v14⟩, hA, hT, ht, htp⟩ := hJ
  have x0 := x
  obtain ⟨⟨xN, xD, xS, xR, xT, xI, xY, xW, x9, xK, xd⟩, ⟨hkl, hns⟩, hr1, hr2⟩ := x0
  refine ⟨meF a rs rm nu y1 y2, (cl_mean xN xD hA xS xT hT xW (by decide)).mono fun r h1 q => ?_⟩
  obtain ⟨q1, w3, w4, kd2, qw, q64, qd, qg⟩ := q
  obtain ⟨qc, qm⟩ := cs_mw x hA qg qd qw q64
  have hR := hR0.nm qm
  exact ⟨q1, ⟨v, hR.1⟩, (ref_mean hR hA hT (by decide)).mono fun r2 h2 q2 => JS.mk qc ⟨hA, hT, ht, htp⟩ v5 v13 v14 q2⟩
set_option maxRecDepth 20000 in
set_option maxHeartbeats 1000000 in
theorem b_numbers {E : EnvT} {h : Hp} {c : Nat} {y1 : Int32} {y2 : Int32} {y3 : Int32} (hJ : JS h c) (hc : c < 512) : BothI E mX9_numbers mX10_numbers [.int y1, .int y2, .int y3] h c := by
  obtain ⟨a, hi, rs, rm, nu, fk, fp, t, tp, ⟨Z, reg, ns, s, sg, kd, w1, w2, wk, dt, b, x⟩, ⟨v, hR0, v5, v13, v14⟩, hA, hT, ht, htp⟩ := hJ
  have x0 := x
  obtain ⟨⟨xN, xD, xS, xR, xT, xI, xY, xW, x9, xK, xd⟩, ⟨hkl, hns⟩, hr1, hr2⟩ := x0
  refine ⟨numF y1 y2 y3, (cl_numbers xN.1 xT hT (by decide)).mono fun r h1 q => ?_⟩
  obtain ⟨qc, qm⟩ := cs_tr x hA q.2.1 q.2.2
  have hR := hR0.nm qm
  exact ⟨q.1, ⟨v, hR.1⟩, (ref_numbers hR (by decide)).mono fun r2 h2 q2 => JS.mk qc ⟨hA, tok_num hT, ht, htp⟩ v5 v13 v14 q2⟩
set_option maxRecDepth 20000 in
set_option maxHeartbeats 1000000 in
theorem b_write {E : EnvT} {h : Hp} {c : Nat} {y1 : Int32} {y2 : Int32} {y3 : Int64} (hJ : JS h c) (hc : c < 512) : BothL E mX9_write mX10_write [.int y1, .int y2, .long y3] h c := by
  obtain ⟨a, hi, rs, rm, nu, fk, fp, t, tp, ⟨Z, reg, ns, s, sg, kd, w1, w2, wk, dt, b, x⟩, ⟨v, hR0, v5, v13, v14⟩, hA, hT, ht, htp⟩ := hJ
  have x0 := x
  obtain ⟨⟨xN, xD, xS, xR, xT, xI, xY, xW, x9, xK, xd⟩, ⟨hkl, hns⟩, hr1, hr2⟩ := x0
  refine ⟨wriF rs rm y1 y2 y3, (cl_write xN.1 xT hT (by decide)).mono fun r h1 q => ?_⟩
  obtain ⟨qc, qm⟩ := cs_tr x hA q.2.1 q.2.2
  have hR := hR0.nm qm
  exact ⟨q.1, ⟨v, hR.1⟩, (ref_write hR hT (by decide)).mono fun r2 h2 q2 => JS.mk qc ⟨hA, hT, ht, htp⟩ v5 v13 v14 q2⟩
set_option maxRecDepth 20000 in
set_option maxHeartbeats 1000000 in
theorem b_lists {E : EnvT} {h : Hp} {c : Nat} {y1 : Int32} {y2 : Int32} (hJ : JS h c) (hc : c < 512) : BothI E mX9_lists mX10_lists [.int y1, .int y2] h c := by
  obtain ⟨a, hi, rs, rm, nu, fk, fp, t, tp, ⟨Z, reg, ns, s, sg, kd, w1, w2, wk, dt, b, x⟩, ⟨v, hR0, v5, v13, v14⟩, hA, hT, ht, htp⟩ := hJ
  have x0 := x
  obtain ⟨⟨xN, xD, xS, xR, xT, xI, xY, xW, x9, xK, xd⟩, ⟨hkl, hns⟩, hr1, hr2⟩ := x0
  obtain ⟨dx, gl, hX⟩ := DX_ex a
  refine ⟨lisF a dx rs rm y1 y2, (cl_lists xN xD hA xS xK hkl hX xT hT (by decide)).mono fun r h1 q => ?_⟩
  obtain ⟨qc, qm⟩ := cs_wt x hA q.1.2 q.2
  have hR := hR0.nm qm
  exact ⟨q.1.1, ⟨v, hR.1⟩, (ref_lists hR hA hX hT (by decide)).mono fun r2 h2 q2 => JS.mk qc ⟨hA, hT, ht, htp⟩ v5 v13 v14 q2⟩
set_option maxRecDepth 20000 in
set_option maxHeartbeats 1000000 in
theorem b_image {E : EnvT} {h : Hp} {c : Nat} {y1 : Int32} (hJ : JS h c) (hc : c < 512) : BothI E mX9_image mX10_image [.int y1] h c := by
  obtain ⟨a, hi, rs, rm, nu, fk, fp, t, tp, ⟨Z, reg, ns, s, sg, kd, w1, w2, wk, dt, b, x⟩, ⟨v, hR0, v5, v13, v14⟩, hA, hT, ht, htp⟩ := hJ
  have x0 := x
  obtain ⟨⟨xN, xD, xS, xR, xT, xI, xY, xW, x9, xK, xd⟩, ⟨hkl, hns⟩, hr1, hr2⟩ := x0
  refine ⟨imgF y1, (cl_image xN xD hA xS xI (by decide)).mono fun r h1 q => ?_⟩
  obtain ⟨qc, qm⟩ := cs_img x hA (fun k hk => (imgA_lo (by omega)).trans (xS k hk)) q.2.1 q.2.2.1 q.2.2.2
  have hR := hR0.nm qm
  exact ⟨q.1, ⟨v, hR.1⟩, (ref_image hR (by decide)).mono fun r2 h2 q2 => JS.mk qc ⟨hA.low (fun k hk => imgA_lo hk), hT, ht, htp⟩ v5 v13 v14 q2⟩
theorem rstA_hi {a : FR} {hi : Nat → Int32} {x : Int32} {k : Nat} (hk : 1177 ≤ k) : rstA a hi x k = a k := by
  unfold rstA
  split
  · unfold rstN
    rw [va_up_ne _ _ (by omega)]
    exact fillN_out (Or.inr (by omega))
  · rfl
set_option maxRecDepth 20000 in
set_option maxHeartbeats 1000000 in
theorem b_restore {E : EnvT} {h : Hp} {c : Nat} {y1 : Int32} (hJ : JS h c) (hc : c < 512) : BothI E mX9_restore mX10_restore [.int y1] h c := by
  obtain ⟨a, hi, rs, rm, nu, fk, fp, t, tp, ⟨Z, reg, ns, s, sg, kd, w1, w2, wk, dt, b, x⟩, ⟨v, hR0, v5, v13, v14⟩, hA, hT, ht, htp⟩ := hJ
  have x0 := x
  obtain ⟨⟨xN, xD, xS, xR, xT, xI, xY, xW, x9, xK, xd⟩, ⟨hkl, hns⟩, hr1, hr2⟩ := x0
  refine ⟨rstF hi y1, (cl_restore xN xD hA xS xI (by decide)).mono fun r h1 q => ?_⟩
  obtain ⟨q1, qe, s2, sg2, qn, qd, qs, qa⟩ := q
  obtain ⟨qc, qm⟩ := cs_rst x hA qe qn qd qs (fun k hk _ => rstA_hi hk)
  have hR := hR0.nm qm
  exact ⟨q1, ⟨v, hR.1⟩, (ref_restore hR (by decide)).mono fun r2 h2 q2 => JS.mk qc ⟨qa, hT, ht, htp⟩ v5 v13 v14 q2⟩
set_option maxRecDepth 20000 in
set_option maxHeartbeats 1000000 in
theorem b_count {E : EnvT} {h : Hp} {c : Nat} {y1 : Int32} (hJ : JS h c) (hc : c < 512) : BothI E mX9_count mX10_count [.int y1] h c := by
  obtain ⟨a, hi, rs, rm, nu, fk, fp, t, tp, ⟨Z, reg, ns, s, sg, kd, w1, w2, wk, dt, b, x⟩, ⟨v, hR0, v5, v13, v14⟩, hA, hT, ht, htp⟩ := hJ
  have x0 := x
  obtain ⟨⟨xN, xD, xS, xR, xT, xI, xY, xW, x9, xK, xd⟩, ⟨hkl, hns⟩, hr1, hr2⟩ := x0
  refine ⟨countF a v y1, (cl_count (v := v) xN xD hA xS xR v5 (by decide)).mono fun r h1 q => ?_⟩
  obtain ⟨qc, qm⟩ := cs_qn x hA (PAk.rf hA) q.2
  have hR := hR0.nm qm
  exact ⟨q.1, ⟨v, hR.1⟩, (ref_count hR hA (by decide)).mono fun r2 h2 q2 => JS.mk qc ⟨hA, hT, ht, htp⟩ v5 v13 v14 q2⟩
