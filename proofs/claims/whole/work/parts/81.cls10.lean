/-! the class: hour, draught, undo, hours -/
abbrev SH (kd : Nat) : List Nat := [64, 76, 77, 78, 82, 87, 88, 89, 97, 98, 99, 100, 101, 102, 103, 104, 105, 106, kd]
def NW (h : Hp) (s ns w1 w2 : Nat) (wk dt : Value) (a : FR) : Prop := h.1 64 = some (.inr (9, coL s ns (a 45) w1 w2 wk dt)) ∧ h.1 76 = some (.inr (5, sdL (keepV a))) ∧ aSt h 77 ∧ MU h a
def QN (reg : Nat → FR) (s ns w1 w2 : Nat) (wk dt : Value) (h0 : Hp) (kd : Nat) (r0 : Value) (a2 : FR) : Option Value → Hp → Prop := fun r h2 => r = some r0 ∧ ∃ kd2, KQ h0 h2 kd kd2 ∧ LWA h2 reg ns kd2 ∧ Gx (SH kd) h0 h2 ∧ NW h2 s ns w1 w2 wk dt a2
theorem DV.ex {Z : Nat → Prop} {h h2 : Hp} {reg : Nat → FR} {ns s sg kd p : Nat} {b : FR} (x : DV Z h reg ns s sg kd b) (hp : p = 76 ∨ p = 77) (e : Ex [p] h h2) : DV Z h2 reg ns s sg kd b := x.next hp (KQ.of e) (x.1.put2 hp e) (e.gx.mono (by simp))
theorem keepV_notes {a w : FR} (h : a 45 ≤ 10) : sdL (keepV (notesN a w)) = sdL (keepV a) := sdL_congr (fun j hj => notesN_out (Or.inl (by omega)) h)
theorem LWA.ex {h h2 : Hp} {reg : Nat → FR} {ns kd : Nat} {S : List Nat} (l : LWA h reg ns kd) (x : Ex S h h2) (hS : ∀ q ∈ S, q ≠ 82 ∧ q ≠ 87 ∧ q ≠ 88 ∧ q ≠ 89 ∧ q < 139) : LWA h2 reg ns kd := by
  obtain ⟨⟨V0, V1, V2, c1⟩, ⟨kn, c2, q2⟩, ⟨w, c3⟩, ⟨f, c4⟩, c5⟩ := l
  refine ⟨⟨V0, V1, V2, x.get (fun z => (hS _ z).1 rfl) c1⟩, ⟨kn, x.get (fun z => (hS _ z).2.1 rfl) c2, q2⟩, ⟨w, x.get (fun z => (hS _ z).2.2.1 rfl) c3⟩, ⟨f, x.get (fun z => (hS _ z).2.2.2.1 rfl) c4⟩, fun z => ⟨(c5 z).1, ?_⟩⟩
  obtain ⟨g, q, r⟩ := (c5 z).2
  exact ⟨g, x.get (fun y => by have := (hS _ y).2.2.2.2; have := (c5 z).1; omega) q, r⟩
set_option maxRecDepth 20000 in
set_option maxHeartbeats 1000000 in
theorem cl_hour {E : EnvT} {d : Nat} {h0 : Hp} {ns s w1 w2 : Nat} {wk dt : Value} {Z : Nat → Prop} {reg : Nat → FR} {sg kd : Nat} {a b : FR} {x : Int32} (hN : NW h0 s ns w1 w2 wk dt a) (hD : DV Z h0 reg ns s sg kd b) (hA : AIN a) (hst : Stat a b) (hd : 6 ≤ d) : Cn E mX9_hour d [.ref 64, .int x] h0 (QN reg s ns w1 w2 wk dt h0 kd (.int (hourF a x)) (hourA a x)) := by
  obtain ⟨c64, c76, h77, hM⟩ := hN
  obtain ⟨y0, y1, y2, y3, y4, y5, c77⟩ := id h77
  have hn := hD.2.2.2.2.2.2.2.1
  have hk0 : kd = 0 ∨ 139 ≤ kd := by
    by_cases z : kd = 0
    · exact Or.inl z
    · exact Or.inr (hD.1.2.2.2.2 z).1
  have hD0 := hn
  by_cases hw : whyF a x.toInt64 = 0
  · have hv : vS (a 3) x.toInt64 := by
      have hw2 := hw
      unfold whyF at hw2
      split at hw2
      · assumption
      · omega
    obtain ⟨n, hn1, hn16, rfl⟩ := vS_i hA.G hv
    refine Cn.go (ls := [.ref 64, .int (nI n), .float 0]) (by decide +kernel) rfl (Nat.le_of_ble_eq_true rfl) ?_
    refine r_aload_n (pc2 := 1) 0 dX9_hour_0 rfl rfl rfl rfl ?_
    refine r_getf (pc2 := 4) (v := .ref 77) fX9_32 dX9_hour_1 c64 (by decide) rfl rfl ?_
    refine r_aload_n (pc2 := 5) 0 dX9_hour_4 rfl rfl rfl rfl ?_
    refine r_getf (pc2 := 8) (v := .ref 76) fX9_28 dX9_hour_5 c64 (by decide) rfl rfl ?_
    refine r_callV0 (pc2 := 11) (As := [.ref 76]) (st := []) kX9_81 rfl rfl dX9_hour_8 c77 (by decide) rfl rfl (Nat.le_of_ble_eq_true rfl) (by omega) (c_becomeK h77 c76 (by decide) (by decide) (by decide)) rfl (fun h hq8 => ?_)
    obtain ⟨hxb, c77⟩ := hq8
    have c64 := hxb.get (by decide) c64
    have c76 := hxb.get (by decide) c76
    have hD := hD.ex (Or.inr rfl) hxb
    have hM := hM.frame hA.nd (fun q hq => hxb.2 q (by simp; omega))
    have hn := hD.2.2.2.2.2.2.2.1
    refine r_aload_n (pc2 := 12) 0 dX9_hour_11 rfl rfl rfl rfl ?_
    refine r_aload_n (pc2 := 13) 0 dX9_hour_12 rfl rfl rfl rfl ?_
    refine r_getf (pc2 := 16) (v := .ref 76) fX9_28 dX9_hour_13 c64 (by decide) rfl rfl ?_
    refine r_iload_n (pc2 := 17) 1 dX9_hour_16 rfl rfl rfl ?_
    refine r_callV1 (pc2 := 20) (As := [.ref 76, .int (nI n)]) (st := []) kX9_182 rfl rfl dX9_hour_17 c64 (by decide) rfl rfl (Nat.le_of_ble_eq_true rfl) (by omega) (c_stepHour c64 c76 (Or.inl rfl) hD hA hst (by omega)) rfl (fun h hq17 => ?_)
    obtain ⟨kd2, hKQ, hL2, hg, c76⟩ := hq17
    have c64 := hg.get (by simp; omega) (by omega) c64
    have c77 := hg.get (by simp; omega) (by omega) c77
    rw [if_pos hw, nI_clamp (by omega)] at c76
    have hM := hM.frame hA.nd (fun q hq => hg.2 q (by omega) (by simp; omega))
    have hGx : Gx (SH kd) h0 h := (hxb.gx.mono (by simp)).trans hg (by simp)
    have hKQ0 := (KQ.of hxb).trans hKQ hD0
    have hn2 : 139 ≤ h.2.1 := Nat.le_trans hn hg.1
    refine r_istore_n (pc2 := 21) (ls2 := [.ref 64, .int (nI n), .int (nI (whyF a (nI n).toInt64))]) 2 dX9_hour_20 rfl (by decide) rfl rfl rfl ?_
    refine r_iload_n (pc2 := 22) 2 dX9_hour_21 rfl rfl rfl ?_
    refine r_if_eq (tgt := 30) (pc2 := 25) dX9_hour_22 (by decide) rfl (fun b22 => ?_) (fun b22 => ?_)
    · skip
      have e45 : goesN a n 45 = a 45 := goesN_out hA.G (by omega)
      have h45 : goesN a n 45 ≤ 10 := by rw [e45]; exact hA.nd
      rw [← e45] at c64
      have hMg : MU h (goesN a n) := hM.ext (fun k _ _ => goesN_out hA.G (by omega)) hA.nd
      refine r_aload_n (pc2 := 31) 0 dX9_hour_30 rfl rfl rfl rfl ?_
      refine r_aload_n (pc2 := 32) 0 dX9_hour_31 rfl rfl rfl rfl ?_
      refine r_getf (pc2 := 35) (v := .ref 77) fX9_32 dX9_hour_32 c64 (by decide) rfl rfl ?_
      refine r_callV0 (pc2 := 38) (As := [.ref 77]) (st := []) kX9_200 rfl rfl dX9_hour_35 c64 (by decide) rfl rfl (Nat.le_of_ble_eq_true rfl) (by omega) (c_keepForUndo (a := (goesN a n)) (w := (keepV a)) c64 hMg h45 c77 (Or.inr rfl) (by omega)) rfl (fun h hq35 => ?_)
      obtain ⟨hxk, c64, hM2⟩ := hq35
      have c76 := hxk.get (by decide) c76
      have c77 := hxk.get (by decide) c77
      refine r_aload_n (pc2 := 39) 0 dX9_hour_38 rfl rfl rfl rfl ?_
      refine r_getf (pc2 := 42) (v := .ref 76) fX9_28 dX9_hour_39 c64 (by decide) rfl rfl ?_
      refine r_getf (pc2 := 45) (v := .int (nI ((keepV (goesN a n)) 4))) fX9_137 dX9_hour_42 c76 (by decide) rfl rfl ?_
      exact r_iret rfl dX9_hour_45 ⟨by unfold hourF; rw [if_pos hw, nI_clamp (by omega)]; rfl, kd2, hKQ0.same hxk.1, hL2.ex hxk (by simp), hGx.ex hxk (by simp), by unfold hourA; rw [if_pos hw, nI_clamp (by omega)]; exact ⟨c64, by rw [keepV_notes h45]; exact c76, aSt.of c77, hM2⟩⟩
    · exact absurd (by rw [hw]; rfl) b22
  · skip
    refine Cn.go (ls := [.ref 64, .int x, .float 0]) (by decide +kernel) rfl (Nat.le_of_ble_eq_true rfl) ?_
    refine r_aload_n (pc2 := 1) 0 dX9_hour_0 rfl rfl rfl rfl ?_
    refine r_getf (pc2 := 4) (v := .ref 77) fX9_32 dX9_hour_1 c64 (by decide) rfl rfl ?_
    refine r_aload_n (pc2 := 5) 0 dX9_hour_4 rfl rfl rfl rfl ?_
    refine r_getf (pc2 := 8) (v := .ref 76) fX9_28 dX9_hour_5 c64 (by decide) rfl rfl ?_
    refine r_callV0 (pc2 := 11) (As := [.ref 76]) (st := []) kX9_81 rfl rfl dX9_hour_8 c77 (by decide) rfl rfl (Nat.le_of_ble_eq_true rfl) (by omega) (c_becomeK h77 c76 (by decide) (by decide) (by decide)) rfl (fun h hq8 => ?_)
    obtain ⟨hxb, c77⟩ := hq8
    have c64 := hxb.get (by decide) c64
    have c76 := hxb.get (by decide) c76
    have hD := hD.ex (Or.inr rfl) hxb
    have hM := hM.frame hA.nd (fun q hq => hxb.2 q (by simp; omega))
    have hn := hD.2.2.2.2.2.2.2.1
    refine r_aload_n (pc2 := 12) 0 dX9_hour_11 rfl rfl rfl rfl ?_
    refine r_aload_n (pc2 := 13) 0 dX9_hour_12 rfl rfl rfl rfl ?_
    refine r_getf (pc2 := 16) (v := .ref 76) fX9_28 dX9_hour_13 c64 (by decide) rfl rfl ?_
    refine r_iload_n (pc2 := 17) 1 dX9_hour_16 rfl rfl rfl ?_
    refine r_callV1 (pc2 := 20) (As := [.ref 76, .int x]) (st := []) kX9_182 rfl rfl dX9_hour_17 c64 (by decide) rfl rfl (Nat.le_of_ble_eq_true rfl) (by omega) (c_stepHour c64 c76 (Or.inl rfl) hD hA hst (by omega)) rfl (fun h hq17 => ?_)
    obtain ⟨kd2, hKQ, hL2, hg, c76⟩ := hq17
    have c64 := hg.get (by simp; omega) (by omega) c64
    have c77 := hg.get (by simp; omega) (by omega) c77
    rw [if_neg hw] at c76
    have hM := hM.frame hA.nd (fun q hq => hg.2 q (by omega) (by simp; omega))
    have hGx : Gx (SH kd) h0 h := (hxb.gx.mono (by simp)).trans hg (by simp)
    have hKQ0 := (KQ.of hxb).trans hKQ hD0
    have hn2 : 139 ≤ h.2.1 := Nat.le_trans hn hg.1
    refine r_istore_n (pc2 := 21) (ls2 := [.ref 64, .int x, .int (nI (whyF a x.toInt64))]) 2 dX9_hour_20 rfl (by decide) rfl rfl rfl ?_
    refine r_iload_n (pc2 := 22) 2 dX9_hour_21 rfl rfl rfl ?_
    refine r_if_eq (tgt := 30) (pc2 := 25) dX9_hour_22 (by decide) rfl (fun b22 => ?_) (fun b22 => ?_)
    · exact absurd ((nI_eq (b := 0) (by have := whyF_lt a x.toInt64; omega) (by decide)).mp b22) hw
    · skip
      refine r_bipush (pc2 := 27) (v := -10) dX9_hour_25 (by decide) rfl ?_
      refine r_iload_n (pc2 := 28) 2 dX9_hour_27 rfl rfl rfl ?_
      refine r_isub (pc2 := 29) dX9_hour_28 rfl ?_
      exact r_iret rfl dX9_hour_29 ⟨by unfold hourF; rw [if_neg hw], kd2, hKQ0, hL2, hGx, by unfold hourA; rw [if_neg hw]; exact ⟨c64, c76, aSt.of c77, hM⟩⟩
set_option maxRecDepth 20000 in
set_option maxHeartbeats 1000000 in
theorem cl_draught {E : EnvT} {d : Nat} {h0 : Hp} {ns s w1 w2 : Nat} {wk dt : Value} {Z : Nat → Prop} {reg : Nat → FR} {sg kd : Nat} {a b : FR} {x : Int32} (hN : NW h0 s ns w1 w2 wk dt a) (hD : DV Z h0 reg ns s sg kd b) (hA : AIN a) (hst : Stat a b) (hd : 6 ≤ d) : Cn E mX9_draught d [.ref 64, .int x] h0 (QN reg s ns w1 w2 wk dt h0 kd (.int (draughtF a x)) (draughtA a x)) := by
  obtain ⟨c64, c76, h77, hM⟩ := hN
  obtain ⟨y0, y1, y2, y3, y4, y5, c77⟩ := id h77
  have hn := hD.2.2.2.2.2.2.2.1
  have hk0 : kd = 0 ∨ 139 ≤ kd := by
    by_cases z : kd = 0
    · exact Or.inl z
    · exact Or.inr (hD.1.2.2.2.2 z).1
  by_cases hr : inR 0 9 x
  · obtain ⟨n, _, h9, rfl⟩ := inR_of (by decide) (by decide) hr
    refine Cn.go (ls := [.ref 64, .int (nI n)]) (by decide +kernel) rfl (Nat.le_of_ble_eq_true rfl) ?_
    refine r_aload_n (pc2 := 1) 0 dX9_draught_0 rfl rfl rfl rfl ?_
    refine r_getf (pc2 := 4) (v := .ref 77) fX9_32 dX9_draught_1 c64 (by decide) rfl rfl ?_
    refine r_aload_n (pc2 := 5) 0 dX9_draught_4 rfl rfl rfl rfl ?_
    refine r_getf (pc2 := 8) (v := .ref 76) fX9_28 dX9_draught_5 c64 (by decide) rfl rfl ?_
    refine r_callV0 (pc2 := 11) (As := [.ref 76]) (st := []) kX9_81 rfl rfl dX9_draught_8 c77 (by decide) rfl rfl (Nat.le_of_ble_eq_true rfl) (by omega) (c_becomeK h77 c76 (by decide) (by decide) (by decide)) rfl (fun h hq8 => ?_)
    obtain ⟨hxb, c77⟩ := hq8
    have c64 := hxb.get (by decide) c64
    have c76 := hxb.get (by decide) c76
    have hD := hD.ex (Or.inr rfl) hxb
    have hM := hM.frame hA.nd (fun q hq => hxb.2 q (by simp; omega))
    have hn := hD.2.2.2.2.2.2.2.1
    refine r_aload_n (pc2 := 12) 0 dX9_draught_11 rfl rfl rfl rfl ?_
    refine r_aload_n (pc2 := 13) 0 dX9_draught_12 rfl rfl rfl rfl ?_
    refine r_getf (pc2 := 16) (v := .ref 76) fX9_28 dX9_draught_13 c64 (by decide) rfl rfl ?_
    refine r_iload_n (pc2 := 17) 1 dX9_draught_16 rfl rfl rfl ?_
    refine r_callV1 (pc2 := 20) (As := [.ref 76, .int (nI n)]) (st := []) kX9_189 rfl rfl dX9_draught_17 c64 (by decide) rfl rfl (Nat.le_of_ble_eq_true rfl) (by omega) ((c_changeDraught c76 (Or.inl rfl)).mono fun r h2 q => ⟨q.1.trans (by rw [if_pos hr]), q.2⟩) rfl (fun h hq17 => ?_)
    obtain ⟨hxc, c76⟩ := hq17
    have c64 := hxc.get (by decide) c64
    have c77 := hxc.get (by decide) c77
    rw [if_pos hr, nI_clamp (by omega)] at c76
    have hM := hM.frame hA.nd (fun q hq => hxc.2 q (by simp; omega))
    have hD := hD.ex (Or.inl rfl) hxc
    have hx2 : Ex [76, 77] h0 h := (hxb.mono (S := [76, 77]) (by simp)).trans hxc (by simp)
    refine r_if_eq (tgt := 26) (pc2 := 23) dX9_draught_20 (by decide) rfl (fun b20 => ?_) (fun b20 => ?_)
    · skip
      have e45 : va_up a 27 n 45 = a 45 := va_up_ne _ _ (by omega)
      have h45 : va_up a 27 n 45 ≤ 10 := by rw [e45]; exact hA.nd
      rw [← e45] at c64
      have hMg : MU h (va_up a 27 n) := hM.ext (fun k _ _ => va_up_ne _ _ (by omega)) hA.nd
      refine r_aload_n (pc2 := 27) 0 dX9_draught_26 rfl rfl rfl rfl ?_
      refine r_aload_n (pc2 := 28) 0 dX9_draught_27 rfl rfl rfl rfl ?_
      refine r_getf (pc2 := 31) (v := .ref 77) fX9_32 dX9_draught_28 c64 (by decide) rfl rfl ?_
      refine r_callV0 (pc2 := 34) (As := [.ref 77]) (st := []) kX9_200 rfl rfl dX9_draught_31 c64 (by decide) rfl rfl (Nat.le_of_ble_eq_true rfl) (by omega) (c_keepForUndo (a := (va_up a 27 n)) (w := (keepV a)) c64 hMg h45 c77 (Or.inr rfl) (by omega)) rfl (fun h hq31 => ?_)
      obtain ⟨hxk, c64, hM2⟩ := hq31
      have c76 := hxk.get (by decide) c76
      have c77 := hxk.get (by decide) c77
      refine r_aload_n (pc2 := 35) 0 dX9_draught_34 rfl rfl rfl rfl ?_
      refine r_getf (pc2 := 38) (v := .ref 77) fX9_32 dX9_draught_35 c64 (by decide) rfl rfl ?_
      refine r_getf (pc2 := 41) (v := .int (nI ((keepV a) 5))) fX9_127 dX9_draught_38 c77 (by decide) rfl rfl ?_
      exact r_iret rfl dX9_draught_41 ⟨by unfold draughtF; rw [if_pos hr]; rfl, kd, (KQ.of hx2).same hxk.1, hD.1.ex hxk (by simp), (hx2.gx.mono (S2 := SH kd) (by simp)).ex hxk (by simp), by unfold draughtA; rw [if_pos hr, nI_clamp (by omega)]; exact ⟨c64, by rw [keepV_notes h45]; exact c76, aSt.of c77, hM2⟩⟩
    · exact absurd b20 (by decide)
  · skip
    refine Cn.go (ls := [.ref 64, .int x]) (by decide +kernel) rfl (Nat.le_of_ble_eq_true rfl) ?_
    refine r_aload_n (pc2 := 1) 0 dX9_draught_0 rfl rfl rfl rfl ?_
    refine r_getf (pc2 := 4) (v := .ref 77) fX9_32 dX9_draught_1 c64 (by decide) rfl rfl ?_
    refine r_aload_n (pc2 := 5) 0 dX9_draught_4 rfl rfl rfl rfl ?_
    refine r_getf (pc2 := 8) (v := .ref 76) fX9_28 dX9_draught_5 c64 (by decide) rfl rfl ?_
    refine r_callV0 (pc2 := 11) (As := [.ref 76]) (st := []) kX9_81 rfl rfl dX9_draught_8 c77 (by decide) rfl rfl (Nat.le_of_ble_eq_true rfl) (by omega) (c_becomeK h77 c76 (by decide) (by decide) (by decide)) rfl (fun h hq8 => ?_)
    obtain ⟨hxb, c77⟩ := hq8
    have c64 := hxb.get (by decide) c64
    have c76 := hxb.get (by decide) c76
    have hD := hD.ex (Or.inr rfl) hxb
    have hM := hM.frame hA.nd (fun q hq => hxb.2 q (by simp; omega))
    have hn := hD.2.2.2.2.2.2.2.1
    refine r_aload_n (pc2 := 12) 0 dX9_draught_11 rfl rfl rfl rfl ?_
    refine r_aload_n (pc2 := 13) 0 dX9_draught_12 rfl rfl rfl rfl ?_
    refine r_getf (pc2 := 16) (v := .ref 76) fX9_28 dX9_draught_13 c64 (by decide) rfl rfl ?_
    refine r_iload_n (pc2 := 17) 1 dX9_draught_16 rfl rfl rfl ?_
    refine r_callV1 (pc2 := 20) (As := [.ref 76, .int x]) (st := []) kX9_189 rfl rfl dX9_draught_17 c64 (by decide) rfl rfl (Nat.le_of_ble_eq_true rfl) (by omega) ((c_changeDraught c76 (Or.inl rfl)).mono fun r h2 q => ⟨q.1.trans (by rw [if_neg hr]), q.2⟩) rfl (fun h hq17 => ?_)
    obtain ⟨hxc, c76⟩ := hq17
    have c64 := hxc.get (by decide) c64
    have c77 := hxc.get (by decide) c77
    rw [if_neg hr] at c76
    have hM := hM.frame hA.nd (fun q hq => hxc.2 q (by simp; omega))
    have hD := hD.ex (Or.inl rfl) hxc
    have hx2 : Ex [76, 77] h0 h := (hxb.mono (S := [76, 77]) (by simp)).trans hxc (by simp)
    refine r_if_eq (tgt := 26) (pc2 := 23) dX9_draught_20 (by decide) rfl (fun b20 => ?_) (fun b20 => ?_)
    · exact absurd b20 (by decide)
    · skip
      refine r_bipush (pc2 := 25) (v := -11) dX9_draught_23 (by decide) rfl ?_
      exact r_iret rfl dX9_draught_25 ⟨by unfold draughtF; rw [if_neg hr], kd, KQ.of hx2, hD.1, hx2.gx.mono (by simp), by unfold draughtA; rw [if_neg hr]; exact ⟨c64, c76, aSt.of c77, hM⟩⟩
