/-! the class: undo, hours, by -/
theorem Gx.ds {h0 h h2 : Hp} {kd kd1 p : Nat} (x : Gx (SH kd) h0 h) (k : KQ h0 h kd kd1) (y : Gx (DS p kd1) h h2) (hp : p = 76 ∨ p = 77) : Gx (SH kd) h0 h2 := ⟨Nat.le_trans x.1 y.1, fun q a b => by
  refine (y.2 q (Nat.lt_of_lt_of_le a x.1) (fun m => b ?_)).trans (x.2 q a b)
  simp at m
  rcases m with m | m | m | m | m | m
  · simp [m]
  · simp [m]
  · simp [m]
  · simp [m]
  · rcases hp with rfl | rfl <;> simp [m]
  · rcases k with ⟨k1, _⟩ | ⟨_, k2, _, _⟩
    · simp [m, k1]
    · omega⟩
theorem rowU_undo {a : FR} {n k : Nat} (hk : k < 23) : keepV (undoA a n) k = rowU a (a 45 - n) k := by
  show undoA a n (22 + k) = _
  unfold undoA
  rw [fillN_in hk]
  rfl
theorem undoA_out {a : FR} {n k : Nat} (hk : k < 22 ∨ 46 ≤ k) : undoA a n k = a k := by
  unfold undoA
  rw [fillN_out (by omega), va_up_ne _ _ (by omega)]
theorem undoA_45 {a : FR} {n : Nat} : undoA a n 45 = a 45 - n := by
  unfold undoA
  rw [fillN_out (by omega), va_up_self]
theorem MU.less {h : Hp} {a : FR} {n : Nat} (x : MU h a) : MU h (undoA a n) := by
  obtain ⟨f, g, c, p, i, r⟩ := x
  refine ⟨f, g, c, p, i, fun j hj => ?_⟩
  rw [undoA_45] at hj
  rw [r j (by omega), sdL_congr (k := rowU a j) (k2 := rowU (undoA a n) j) (fun k hk => (show undoA a n (46 + 23 * j + k) = a (46 + 23 * j + k) from undoA_out (by omega)).symm)]
theorem goesI_out {a : FR} (hA : AIN a) : ∀ n k, k < 22 ∨ (26 < k ∧ k ≠ 28) → goesI a n k = a k := by
  intro n
  induction n with
  | zero => intro k _; rfl
  | succ n ih =>
    intro k hk
    unfold goesI
    split
    · exact ih k hk
    · rw [goesN_out (hA.goI n).G hk, ih k hk]
theorem notesN_congr {a b w : FR} (e : ∀ k, 45 ≤ k → k < 276 → a k = b k) (h10 : b 45 ≤ 10) : ∀ k, 45 ≤ k → k < 276 → notesN a w k = notesN b w k := by
  intro k h1 h2
  have e45 := e 45 (by omega) (by omega)
  have sh : ∀ k, 45 ≤ k → k < 276 → shiftD a k = shiftD b k := fun k h1 h2 => by
    unfold shiftD
    by_cases q : k = 45
    · rw [q, va_up_self, va_up_self, e45]
    · rw [va_up_ne _ _ q, va_up_ne _ _ q]
      unfold fillN
      by_cases z : 46 ≤ k ∧ k < 46 + 207
      · rw [if_pos z, if_pos z]; exact e _ (by omega) (by omega)
      · rw [if_neg z, if_neg z]; exact e k h1 h2
  have nb : ∀ a b : FR, (∀ k, 45 ≤ k → k < 276 → a k = b k) → notesB a w k = notesB b w k := fun a b e => by
    have e45 := e 45 (by omega) (by omega)
    unfold notesB
    by_cases q : k = 45
    · rw [q, va_up_self, va_up_self, e45]
    · rw [va_up_ne _ _ q, va_up_ne _ _ q, e45]
      unfold fillN
      by_cases z : 46 + 23 * b 45 ≤ k ∧ k < 46 + 23 * b 45 + 23
      · rw [if_pos z, if_pos z]
      · rw [if_neg z, if_neg z]; exact e k h1 h2
  unfold notesN
  rw [e45]
  split
  · exact nb _ _ sh
  · exact nb _ _ e
theorem Stat.goI {a b : FR} (hA : AIN a) (h : Stat a b) (n : Nat) : Stat (goesI a n) b := fun k hk => (goesI_out hA n k (by omega)).trans (h k hk)
set_option maxRecDepth 20000 in
set_option maxHeartbeats 1000000 in
theorem cl_undo {E : EnvT} {d : Nat} {h0 : Hp} {ns s w1 w2 : Nat} {wk dt : Value} {Z : Nat → Prop} {reg : Nat → FR} {sg kd : Nat} {a b : FR} {x : Int32} (hN : NW h0 s ns w1 w2 wk dt a) (hD : DV Z h0 reg ns s sg kd b) (hA : AIN a) (hst : Stat a b) (hd : 2 ≤ d) : Cn E mX9_undo d [.ref 64, .int x] h0 (QN reg s ns w1 w2 wk dt h0 kd (.int (undoF a x)) (undoR a x)) := by
  obtain ⟨c64, c76, h77, hM⟩ := hN
  obtain ⟨y0, y1, y2, y3, y4, y5, c77⟩ := id h77
  have hn := hD.2.2.2.2.2.2.2.1
  have hk0 : kd = 0 ∨ 139 ≤ kd := by
    by_cases z : kd = 0
    · exact Or.inl z
    · exact Or.inr (hD.1.2.2.2.2 z).1
  by_cases hc : undoC a x
  · obtain ⟨n, n1, h10, rfl⟩ := inR_of (by decide) (by decide) hc.1
    have h45 := hA.nd
    have hn45 : n ≤ a 45 := (nI_leI (by omega) (by omega)).mp hc.2
    have hx : Ex [64] h0 h0 := Ex.rf
    obtain ⟨f, g, c78, pp, inj, rr⟩ := id hM
    obtain ⟨p1, p2, p3, p4⟩ := pp (a 45 - n) (by omega)
    have cq := rr (a 45 - n) (by omega)
    generalize g (a 45 - n) = q at p1 p2 p3 p4 cq
    refine Cn.go (ls := [.ref 64, .int (nI n)]) (by decide +kernel) rfl (Nat.le_of_ble_eq_true rfl) ?_
    refine r_iload_n (pc2 := 1) 1 dX9_undo_0 rfl rfl rfl ?_
    refine r_iconst (pc2 := 2) (v := 1) dX9_undo_1 (by decide) rfl ?_
    refine r_icmp_lt (tgt := 19) (pc2 := 5) dX9_undo_2 (by decide) rfl (fun b2 => ?_) (fun b2 => ?_)
    · exact absurd b2 (nI_nlt (b := 1) (by omega) (by omega))
    · skip
      refine r_iload_n (pc2 := 6) 1 dX9_undo_5 rfl rfl rfl ?_
      refine r_bipush (pc2 := 8) (v := 10) dX9_undo_6 (by decide) rfl ?_
      refine r_icmp_gt (tgt := 19) (pc2 := 11) dX9_undo_8 (by decide) rfl (fun b8 => ?_) (fun b8 => ?_)
      · exact absurd b8 (nI_nlt (a := 10) h10 (by decide))
      · skip
        refine r_iload_n (pc2 := 12) 1 dX9_undo_11 rfl rfl rfl ?_
        refine r_aload_n (pc2 := 13) 0 dX9_undo_12 rfl rfl rfl rfl ?_
        refine r_getf (pc2 := 16) (v := .int (nI (a 45))) fX9_102 dX9_undo_13 c64 (by decide) rfl rfl ?_
        refine r_icmp_le (tgt := 22) (pc2 := 19) dX9_undo_16 (by decide) rfl (fun b16 => ?_) (fun b16 => ?_)
        · skip
          refine r_aload_n (pc2 := 23) 0 dX9_undo_22 rfl rfl rfl rfl ?_
          refine r_dup (pc2 := 24) dX9_undo_23 rfl rfl ?_
          refine r_getf (pc2 := 27) (v := .int (nI (a 45))) fX9_102 dX9_undo_24 c64 (by decide) rfl rfl ?_
          refine r_iload_n (pc2 := 28) 1 dX9_undo_27 rfl rfl rfl ?_
          refine r_isub (pc2 := 29) dX9_undo_28 rfl ?_
          refine r_cast (nI (a 45 - n)) (pk_sub hn45) ?_
          refine r_putfX (pc2 := 32) [.ref 65, .int (nI ns), .ref s, .ref 76, .ref 77, .ref 78, .int (nI (a 45 - n)), .ref 79, .ref 80, .ref 81, .ref 82, .ref 90, .ref 94, .ref w1, .ref w2, wk, dt] fX9_102 dX9_undo_29 c64 (by decide) (Nat.le_of_ble_eq_true rfl) rfl rfl rfl (fun h z29 o29 c64 => ?_)
          have c76 := (o29 76 (by decide)).trans c76
          have c78 := (o29 78 (by decide)).trans c78
          have hx := hx.step (a := 64) (by simp) z29 o29
          have cq := (o29 q (by omega)).trans cq
          refine r_aload_n (pc2 := 33) 0 dX9_undo_32 rfl rfl rfl rfl ?_
          refine r_getf (pc2 := 36) (v := .ref 76) fX9_28 dX9_undo_33 c64 (by decide) rfl rfl ?_
          refine r_aload_n (pc2 := 37) 0 dX9_undo_36 rfl rfl rfl rfl ?_
          refine r_getf (pc2 := 40) (v := .ref 78) fX9_35 dX9_undo_37 c64 (by decide) rfl rfl ?_
          refine r_aload_n (pc2 := 41) 0 dX9_undo_40 rfl rfl rfl rfl ?_
          refine r_getf (pc2 := 44) (v := .int (nI (a 45 - n))) fX9_102 dX9_undo_41 c64 (by decide) rfl rfl ?_
          refine r_aald (pc2 := 45) dX9_undo_44 c78 (by decide) (by decide) (nI_vp (j := a 45 - n) rfl (by omega) (by decide)).1 (by rw [nI_clamp (by omega)]; exact p1) (by omega) rfl ?_
          refine r_callV0 (pc2 := 48) (As := [.ref q]) (st := []) kX9_81 rfl rfl dX9_undo_45 c76 (by decide) rfl rfl (Nat.le_of_ble_eq_true rfl) (by omega) (c_becomeK (aSt.of c76) cq (by decide) (by omega) (by omega)) rfl (fun h hq45 => ?_)
          obtain ⟨hxb, c76⟩ := hq45
          have c64 := hxb.get (by simp) c64
          have c78 := hxb.get (by simp) c78
          refine r_aload_n (pc2 := 49) 0 dX9_undo_48 rfl rfl rfl rfl ?_
          refine r_getf (pc2 := 52) (v := .int (nI (a 45 - n))) fX9_102 dX9_undo_49 c64 (by decide) rfl rfl ?_
          exact r_iret rfl dX9_undo_52 ⟨by unfold undoF; rw [if_pos hc, nI_clamp (by omega)], kd, (KQ.of hx).same hxb.1, (hD.1.ex hx (by simp)).ex hxb (by simp), (hx.gx.mono (S2 := SH kd) (by simp)).ex hxb (by simp), by unfold undoR; rw [if_pos hc, nI_clamp (by omega)]; exact ⟨by rw [undoA_45]; exact c64, by rw [sdL_congr (k := keepV (undoA a n)) (k2 := rowU a (a 45 - n)) (fun k hk => rowU_undo hk)]; exact c76, h77.ex ((hxb.2 77 (by simp)).trans (hx.2 77 (by simp))), (hM.frame hA.nd (fun q hq => (hxb.2 q (by simp; omega)).trans (hx.2 q (by simp; omega)))).less⟩⟩
        · exact absurd (nI_le hn45 (by omega)) b16
  · skip
    refine Cn.go (ls := [.ref 64, .int x]) (by decide +kernel) rfl (Nat.le_of_ble_eq_true rfl) ?_
    refine r_iload_n (pc2 := 1) 1 dX9_undo_0 rfl rfl rfl ?_
    refine r_iconst (pc2 := 2) (v := 1) dX9_undo_1 (by decide) rfl ?_
    refine r_icmp_lt (tgt := 19) (pc2 := 5) dX9_undo_2 (by decide) rfl (fun b2 => ?_) (fun b2 => ?_)
    · skip
      refine r_bipush (pc2 := 21) (v := -3) dX9_undo_19 (by decide) rfl ?_
      exact r_iret rfl dX9_undo_21 ⟨by unfold undoF; rw [if_neg hc], kd, KQ.rf, hD.1, Gx.rf, by unfold undoR; rw [if_neg hc]; exact ⟨c64, c76, h77, hM⟩⟩
    · skip
      refine r_iload_n (pc2 := 6) 1 dX9_undo_5 rfl rfl rfl ?_
      refine r_bipush (pc2 := 8) (v := 10) dX9_undo_6 (by decide) rfl ?_
      refine r_icmp_gt (tgt := 19) (pc2 := 11) dX9_undo_8 (by decide) rfl (fun b8 => ?_) (fun b8 => ?_)
      · skip
        refine r_bipush (pc2 := 21) (v := -3) dX9_undo_19 (by decide) rfl ?_
        exact r_iret rfl dX9_undo_21 ⟨by unfold undoF; rw [if_neg hc], kd, KQ.rf, hD.1, Gx.rf, by unfold undoR; rw [if_neg hc]; exact ⟨c64, c76, h77, hM⟩⟩
      · skip
        refine r_iload_n (pc2 := 12) 1 dX9_undo_11 rfl rfl rfl ?_
        refine r_aload_n (pc2 := 13) 0 dX9_undo_12 rfl rfl rfl rfl ?_
        refine r_getf (pc2 := 16) (v := .int (nI (a 45))) fX9_102 dX9_undo_13 c64 (by decide) rfl rfl ?_
        refine r_icmp_le (tgt := 22) (pc2 := 19) dX9_undo_16 (by decide) rfl (fun b16 => ?_) (fun b16 => ?_)
        · exact absurd ⟨(inR_iff (l := 1) (h := 10) (by decide) (by decide) x).mpr ⟨Int32.not_lt.mp b2, Int32.not_lt.mp b8⟩, b16⟩ hc
        · skip
          refine r_bipush (pc2 := 21) (v := -3) dX9_undo_19 (by decide) rfl ?_
          exact r_iret rfl dX9_undo_21 ⟨by unfold undoF; rw [if_neg hc], kd, KQ.rf, hD.1, Gx.rf, by unfold undoR; rw [if_neg hc]; exact ⟨c64, c76, h77, hM⟩⟩
theorem DV.keep {Z : Nat → Prop} {h h2 : Hp} {reg : Nat → FR} {ns s sg kd : Nat} {b : FR} (x : DV Z h reg ns s sg kd b) (e : Ex [64, 78, 97, 98, 99, 100, 101, 102, 103, 104, 105, 106] h h2) : DV Z h2 reg ns s sg kd b := by
  obtain ⟨x1, x2, x3, x4, x5, x6, x7, x8, x9⟩ := x
  refine ⟨x1.ex e (by simp), x2.gx x3 e.gx (fun a m => ?_), x3.kq (KQ.of e), x4, x5, x6, x7, by rw [e.1]; exact x8, x9⟩
  simp at m
  omega
set_option maxRecDepth 20000 in
set_option maxHeartbeats 1000000 in
theorem cl_hours {E : EnvT} {d : Nat} {h0 : Hp} {ns s w1 w2 : Nat} {wk dt : Value} {Z : Nat → Prop} {reg : Nat → FR} {sg kd : Nat} {a b : FR} {x : Int32} (hN : NW h0 s ns w1 w2 wk dt a) (hD : DV Z h0 reg ns s sg kd b) (hA : AIN a) (hst : Stat a b) (hd : 6 ≤ d) : Cn E mX9_hours d [.ref 64, .int x] h0 (QN reg s ns w1 w2 wk dt h0 kd (.int (hoursF a x)) (hoursA a x)) := by
  obtain ⟨c64, c76, h77, hM⟩ := hN
  obtain ⟨y0, y1, y2, y3, y4, y5, c77⟩ := id h77
  have hn := hD.2.2.2.2.2.2.2.1
  have hk0 : kd = 0 ∨ 139 ≤ kd := by
    by_cases z : kd = 0
    · exact Or.inl z
    · exact Or.inr (hD.1.2.2.2.2 z).1
  have hn0 := hn
  by_cases hr : inR 1 99 x
  · obtain ⟨n, n1, h99, rfl⟩ := inR_of (by decide) (by decide) hr
    by_cases h26 : a 26 = 0
    · skip
      refine Cn.go (ls := [.ref 64, .int (nI n), .float 0]) (by decide +kernel) rfl (Nat.le_of_ble_eq_true rfl) ?_
      refine r_iload_n (pc2 := 1) 1 dX9_hours_0 rfl rfl rfl ?_
      refine r_iconst (pc2 := 2) (v := 1) dX9_hours_1 (by decide) rfl ?_
      refine r_icmp_lt (tgt := 11) (pc2 := 5) dX9_hours_2 (by decide) rfl (fun b2 => ?_) (fun b2 => ?_)
      · exact absurd b2 (nI_nlt (b := 1) (by omega) (by omega))
      · skip
        refine r_iload_n (pc2 := 6) 1 dX9_hours_5 rfl rfl rfl ?_
        refine r_bipush (pc2 := 8) (v := 99) dX9_hours_6 (by decide) rfl ?_
        refine r_icmp_le (tgt := 14) (pc2 := 11) dX9_hours_8 (by decide) rfl (fun b8 => ?_) (fun b8 => ?_)
        · skip
          refine r_aload_n (pc2 := 15) 0 dX9_hours_14 rfl rfl rfl rfl ?_
          refine r_getf (pc2 := 18) (v := .ref 76) fX9_28 dX9_hours_15 c64 (by decide) rfl rfl ?_
          refine r_getf (pc2 := 21) (v := .int (nI ((keepV a) 4))) fX9_137 dX9_hours_18 c76 (by decide) rfl rfl ?_
          refine r_if_ne (tgt := 27) (pc2 := 24) dX9_hours_21 (by decide) rfl (fun b21 => ?_) (fun b21 => ?_)
          · exact absurd (congrArg nI h26) b21
          · skip
            refine r_bipush (pc2 := 26) (v := -13) dX9_hours_24 (by decide) rfl ?_
            exact r_iret rfl dX9_hours_26 ⟨by unfold hoursF; rw [if_pos hr, if_pos h26], kd, KQ.rf, hD.1, Gx.rf, by unfold hoursA; rw [if_neg (fun z => z.2 h26)]; exact ⟨c64, c76, h77, hM⟩⟩
        · exact absurd (nI_le (b := 99) h99 (by decide)) b8
    · have hN10 : notesN a (keepV a) 45 ≤ 10 := (hA.notes hA.2.1).nd
      have loop : ∀ (m k : Nat) (h : Hp) (kd1 : Nat), k + m = n → KQ h0 h kd kd1 → DV Z h reg ns s sg kd1 b → Gx (SH kd) h0 h → h.1 64 = some (.inr (9, coL s ns (notesN a (keepV a) 45) w1 w2 wk dt)) → h.1 76 = some (.inr (5, sdL (keepV (goesI a k)))) → aSt h 77 → MU h (notesN a (keepV a)) → Fr E mX9_hours d 37 [.ref 64, .int (nI n), .int (nI k)] [] h (QN reg s ns w1 w2 wk dt h0 kd (.int (hoursF a (nI n))) (hoursA a (nI n))) := by
        intro m
        induction m with
        | zero =>
          intro k h kd1 hk hKQ hD hGx c64 c76 h77 hM
          obtain rfl : k = n := by omega
          have eE : goesI a k = goesI a k := rfl
          have nE : ∀ q, 45 ≤ q → q < 276 → notesN (goesI a k) (keepV a) q = notesN a (keepV a) q := notesN_congr (fun q _ _ => goesI_out hA _ _ (by omega)) hA.nd
          refine r_iload_n (pc2 := 38) 2 dX9_hours_37 rfl rfl rfl ?_
          refine r_iload_n (pc2 := 39) 1 dX9_hours_38 rfl rfl rfl ?_
          refine r_icmp_ge (tgt := 68) (pc2 := 42) dX9_hours_39 (by decide) rfl (fun b39 => ?_) (fun b39 => ?_)
          · skip
            refine r_aload_n (pc2 := 69) 0 dX9_hours_68 rfl rfl rfl rfl ?_
            refine r_getf (pc2 := 72) (v := .ref 76) fX9_28 dX9_hours_69 c64 (by decide) rfl rfl ?_
            refine r_getf (pc2 := 75) (v := .int (nI ((keepV (goesI a k)) 4))) fX9_137 dX9_hours_72 c76 (by decide) rfl rfl ?_
            exact r_iret rfl dX9_hours_75 ⟨by unfold hoursF; rw [if_pos hr, if_neg h26, nI_clamp (by omega), eE]; rfl, kd1, hKQ, hD.1, hGx, by unfold hoursA; rw [if_pos ⟨hr, h26⟩, nI_clamp (by omega), eE]; exact ⟨by rw [nE 45 (by omega) (by omega)]; exact c64, by rw [keepV_notes (by rw [goesI_out hA _ _ (by omega)]; exact hA.nd)]; exact c76, h77, hM.ext nE hN10⟩⟩
          · exact absurd (nI_le (Nat.le_refl _) (by omega)) b39
        | succ m ih =>
          intro k h kd1 hk hKQ hD hGx c64 c76 h77 hM
          have hlt : k < n := by omega
          have hn := hD.2.2.2.2.2.2.2.1
          have hk1 : kd1 = 0 ∨ 139 ≤ kd1 := by
            by_cases z : kd1 = 0
            · exact Or.inl z
            · exact Or.inr (hD.1.2.2.2.2 z).1
          by_cases hz : goesI a k 26 = 0
          · have eE : goesI a n = goesI a k := by rw [show n = k + (n - k) by omega]; exact goesI_stop hz _
            have nE : ∀ q, 45 ≤ q → q < 276 → notesN (goesI a k) (keepV a) q = notesN a (keepV a) q := notesN_congr (fun q _ _ => goesI_out hA _ _ (by omega)) hA.nd
            refine r_iload_n (pc2 := 38) 2 dX9_hours_37 rfl rfl rfl ?_
            refine r_iload_n (pc2 := 39) 1 dX9_hours_38 rfl rfl rfl ?_
            refine r_icmp_ge (tgt := 68) (pc2 := 42) dX9_hours_39 (by decide) rfl (fun b39 => ?_) (fun b39 => ?_)
            · exact absurd b39 (nI_ge hlt (by omega))
            · skip
              refine r_aload_n (pc2 := 43) 0 dX9_hours_42 rfl rfl rfl rfl ?_
              refine r_getf (pc2 := 46) (v := .ref 76) fX9_28 dX9_hours_43 c64 (by decide) rfl rfl ?_
              refine r_getf (pc2 := 49) (v := .int (nI ((keepV (goesI a k)) 4))) fX9_137 dX9_hours_46 c76 (by decide) rfl rfl ?_
              refine r_if_le (tgt := 68) (pc2 := 52) dX9_hours_49 (by decide) rfl (fun b49 => ?_) (fun b49 => ?_)
              · skip
                refine r_aload_n (pc2 := 69) 0 dX9_hours_68 rfl rfl rfl rfl ?_
                refine r_getf (pc2 := 72) (v := .ref 76) fX9_28 dX9_hours_69 c64 (by decide) rfl rfl ?_
                refine r_getf (pc2 := 75) (v := .int (nI ((keepV (goesI a k)) 4))) fX9_137 dX9_hours_72 c76 (by decide) rfl rfl ?_
                exact r_iret rfl dX9_hours_75 ⟨by unfold hoursF; rw [if_pos hr, if_neg h26, nI_clamp (by omega), eE]; rfl, kd1, hKQ, hD.1, hGx, by unfold hoursA; rw [if_pos ⟨hr, h26⟩, nI_clamp (by omega), eE]; exact ⟨by rw [nE 45 (by omega) (by omega)]; exact c64, by rw [keepV_notes (by rw [goesI_out hA _ _ (by omega)]; exact hA.nd)]; exact c76, h77, hM.ext nE hN10⟩⟩
              · exact absurd (by show nI (goesI a k 26) ≤ 0; rw [hz]; decide) b49
          · have hw0 : whyF (goesI a k) (Int32.toInt64 0) = 0 := by
              have e0 : (0 : Int32).toInt64 = lN 0 := by decide
              rw [e0, whyF_of (hA.goI k) (Nat.two_pow_pos _)]
              unfold why2
              rw [if_neg (by simp), if_neg (by rw [(hA.goI k).pdep]; exact hz)]
            have eG : goesN (goesI a k) 0 = goesI a (k + 1) := by rw [goesI, if_neg hz]
            refine r_iload_n (pc2 := 38) 2 dX9_hours_37 rfl rfl rfl ?_
            refine r_iload_n (pc2 := 39) 1 dX9_hours_38 rfl rfl rfl ?_
            refine r_icmp_ge (tgt := 68) (pc2 := 42) dX9_hours_39 (by decide) rfl (fun b39 => ?_) (fun b39 => ?_)
            · exact absurd b39 (nI_ge hlt (by omega))
            · skip
              refine r_aload_n (pc2 := 43) 0 dX9_hours_42 rfl rfl rfl rfl ?_
              refine r_getf (pc2 := 46) (v := .ref 76) fX9_28 dX9_hours_43 c64 (by decide) rfl rfl ?_
              refine r_getf (pc2 := 49) (v := .int (nI ((keepV (goesI a k)) 4))) fX9_137 dX9_hours_46 c76 (by decide) rfl rfl ?_
              refine r_if_le (tgt := 68) (pc2 := 52) dX9_hours_49 (by decide) rfl (fun b49 => ?_) (fun b49 => ?_)
              · exact absurd b49 (nI_nle (n := goesI a k 26) (by omega) (by have := (hA.goI k).dp; omega))
              · skip
                refine r_aload_n (pc2 := 53) 0 dX9_hours_52 rfl rfl rfl rfl ?_
                refine r_aload_n (pc2 := 54) 0 dX9_hours_53 rfl rfl rfl rfl ?_
                refine r_getf (pc2 := 57) (v := .ref 76) fX9_28 dX9_hours_54 c64 (by decide) rfl rfl ?_
                refine r_iconst (pc2 := 58) (v := 0) dX9_hours_57 (by decide) rfl ?_
                refine r_callV1 (pc2 := 61) (As := [.ref 76, .int 0]) (st := []) kX9_182 rfl rfl dX9_hours_58 c64 (by decide) rfl rfl (Nat.le_of_ble_eq_true rfl) (by omega) (c_stepHour (a := goesI a k) (x := 0) c64 c76 (Or.inl rfl) hD (hA.goI k) (hst.goI hA k) (by omega)) rfl (fun h hq58 => ?_)
                obtain ⟨kd2, hKQ2, hL2, hg2, c76⟩ := hq58
                have c64 := hg2.get (by simp; omega) (by omega) c64
                have h77 := h77.ex (hg2.2 77 (by omega) (by simp; omega))
                have hM := hM.frame hN10 (fun q hq => hg2.2 q (by omega) (by simp; omega))
                rw [if_pos hw0, show ((0 : Int32).toNatClampNeg) = 0 by decide, eG] at c76
                have hGx := hGx.ds hKQ hg2 (Or.inl rfl)
                have hKQ := hKQ.trans hKQ2 hn0
                have hD := hD.next (Or.inl rfl) hKQ2 hL2 hg2
                refine r_pop (pc2 := 62) dX9_hours_61 rfl rfl ?_
                obtain ⟨x62, e62⟩ : ∃ z : Int32, z = (nI k) + (1) := ⟨_, rfl⟩
                refine r_iinc (pc2 := 65) (ls2 := [.ref 64, .int (nI n), .int x62]) (v := x62) 2 dX9_hours_62 rfl (by rw [e62]; rfl) rfl rfl rfl ?_
                refine r_goto (pc2 := 37) dX9_hours_65 (by decide) ?_
                rw [e62, nI_1]
                exact ih (k + 1) h kd2 (by omega) hKQ hD hGx c64 c76 h77 hM
      refine Cn.go (ls := [.ref 64, .int (nI n), .float 0]) (by decide +kernel) rfl (Nat.le_of_ble_eq_true rfl) ?_
      refine r_iload_n (pc2 := 1) 1 dX9_hours_0 rfl rfl rfl ?_
      refine r_iconst (pc2 := 2) (v := 1) dX9_hours_1 (by decide) rfl ?_
      refine r_icmp_lt (tgt := 11) (pc2 := 5) dX9_hours_2 (by decide) rfl (fun b2 => ?_) (fun b2 => ?_)
      · exact absurd b2 (nI_nlt (b := 1) (by omega) (by omega))
      · skip
        refine r_iload_n (pc2 := 6) 1 dX9_hours_5 rfl rfl rfl ?_
        refine r_bipush (pc2 := 8) (v := 99) dX9_hours_6 (by decide) rfl ?_
        refine r_icmp_le (tgt := 14) (pc2 := 11) dX9_hours_8 (by decide) rfl (fun b8 => ?_) (fun b8 => ?_)
        · skip
          refine r_aload_n (pc2 := 15) 0 dX9_hours_14 rfl rfl rfl rfl ?_
          refine r_getf (pc2 := 18) (v := .ref 76) fX9_28 dX9_hours_15 c64 (by decide) rfl rfl ?_
          refine r_getf (pc2 := 21) (v := .int (nI ((keepV a) 4))) fX9_137 dX9_hours_18 c76 (by decide) rfl rfl ?_
          refine r_if_ne (tgt := 27) (pc2 := 24) dX9_hours_21 (by decide) rfl (fun b21 => ?_) (fun b21 => ?_)
          · skip
            refine r_aload_n (pc2 := 28) 0 dX9_hours_27 rfl rfl rfl rfl ?_
            refine r_aload_n (pc2 := 29) 0 dX9_hours_28 rfl rfl rfl rfl ?_
            refine r_getf (pc2 := 32) (v := .ref 76) fX9_28 dX9_hours_29 c64 (by decide) rfl rfl ?_
            refine r_callV0 (pc2 := 35) (As := [.ref 76]) (st := []) kX9_200 rfl rfl dX9_hours_32 c64 (by decide) rfl rfl (Nat.le_of_ble_eq_true rfl) (by omega) (c_keepForUndo (a := a) (w := keepV a) c64 hM hA.nd c76 (Or.inl rfl) (by omega)) rfl (fun h hq32 => ?_)
            obtain ⟨hxk, c64, hM⟩ := hq32
            have c76 := hxk.get (by decide) c76
            refine r_iconst (pc2 := 36) (v := 0) dX9_hours_35 (by decide) rfl ?_
            refine r_cast (nI 0) (rfl) ?_
            refine r_istore_n (pc2 := 37) (ls2 := [.ref 64, .int (nI n), .int (nI 0)]) 2 dX9_hours_36 rfl (by decide) rfl rfl rfl ?_
            exact loop n 0 _ kd (by omega) (KQ.of hxk) (hD.keep hxk) ((hxk.gx.mono (by simp))) c64 c76 (h77.ex (hxk.2 77 (by simp))) hM
          · exact absurd ((nI_eq (a := a 26) (b := 0) (by have := hA.dp; omega) (by decide)).mp b21) h26
        · exact absurd (nI_le (b := 99) h99 (by decide)) b8
  · skip
    refine Cn.go (ls := [.ref 64, .int x, .float 0]) (by decide +kernel) rfl (Nat.le_of_ble_eq_true rfl) ?_
    refine r_iload_n (pc2 := 1) 1 dX9_hours_0 rfl rfl rfl ?_
    refine r_iconst (pc2 := 2) (v := 1) dX9_hours_1 (by decide) rfl ?_
    refine r_icmp_lt (tgt := 11) (pc2 := 5) dX9_hours_2 (by decide) rfl (fun b2 => ?_) (fun b2 => ?_)
    · skip
      refine r_bipush (pc2 := 13) (v := -11) dX9_hours_11 (by decide) rfl ?_
      exact r_iret rfl dX9_hours_13 ⟨by unfold hoursF; rw [if_neg hr], kd, KQ.rf, hD.1, Gx.rf, by unfold hoursA; rw [if_neg (fun z => hr z.1)]; exact ⟨c64, c76, h77, hM⟩⟩
    · skip
      refine r_iload_n (pc2 := 6) 1 dX9_hours_5 rfl rfl rfl ?_
      refine r_bipush (pc2 := 8) (v := 99) dX9_hours_6 (by decide) rfl ?_
      refine r_icmp_le (tgt := 14) (pc2 := 11) dX9_hours_8 (by decide) rfl (fun b8 => ?_) (fun b8 => ?_)
      · exact absurd ((inR_iff (l := 1) (h := 99) (by decide) (by decide) x).mpr ⟨Int32.not_lt.mp b2, b8⟩) hr
      · skip
        refine r_bipush (pc2 := 13) (v := -11) dX9_hours_11 (by decide) rfl ?_
        exact r_iret rfl dX9_hours_13 ⟨by unfold hoursF; rw [if_neg hr], kd, KQ.rf, hD.1, Gx.rf, by unfold hoursA; rw [if_neg (fun z => hr z.1)]; exact ⟨c64, c76, h77, hM⟩⟩
