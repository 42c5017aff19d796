/-! the class: what can be undone -/
def rowU (a : FR) (j : Nat) : Nat → Nat := fun k => a (46 + 23 * j + k)
def MU (h : Hp) (a : FR) : Prop := ∃ (f : Nat → Option Nat) (g : Nat → Nat), h.1 78 = some (aR 4 10 f) ∧ (∀ j, j < 10 → f j = some (g j) ∧ 97 ≤ g j ∧ g j ≤ 106 ∧ aSt h (g j)) ∧ (∀ i j, i < 10 → j < 10 → g i = g j → i = j) ∧ ∀ j, j < a 45 → h.1 (g j) = some (.inr (5, sdL (rowU a j)))
theorem aSt.ex {h h2 : Hp} {p : Nat} (x : aSt h p) (e : h2.1 p = h.1 p) : aSt h2 p := by
  obtain ⟨y0, y1, y2, y3, y4, y5, c⟩ := x
  exact ⟨y0, y1, y2, y3, y4, y5, e.trans c⟩
theorem sdL_congr {k k2 : Nat → Nat} (e : ∀ j, j < 23 → k j = k2 j) : sdL k = sdL k2 := by
  unfold sdL tow bL
  rw [e 0 (by decide), e 1 (by decide), e 2 (by decide), e 3 (by decide), e 4 (by decide), e 5 (by decide), e 6 (by decide), e 7 (by decide), e 8 (by decide), e 9 (by decide), e 10 (by decide), e 11 (by decide), e 12 (by decide), e 13 (by decide), e 14 (by decide), e 15 (by decide), e 16 (by decide), e 17 (by decide), e 18 (by decide), e 19 (by decide), e 20 (by decide), e 21 (by decide), e 22 (by decide)]
theorem MU.ext {h : Hp} {a a2 : FR} (x : MU h a) (e : ∀ k, 45 ≤ k → k < 276 → a2 k = a k) (h10 : a 45 ≤ 10) : MU h a2 := by
  obtain ⟨f, g, c, p, i, r⟩ := x
  refine ⟨f, g, c, p, i, fun j hj => ?_⟩
  rw [e 45 (by omega) (by omega)] at hj
  rw [r j hj, sdL_congr (k := rowU a j) (k2 := rowU a2 j) (fun k hk => (e _ (by omega) (by omega)).symm)]
theorem MU.frame {h h2 : Hp} {a : FR} (x : MU h a) (h10 : a 45 ≤ 10) (e : ∀ q, q = 78 ∨ (97 ≤ q ∧ q ≤ 106) → h2.1 q = h.1 q) : MU h2 a := by
  obtain ⟨f, g, c, p, i, r⟩ := x
  refine ⟨f, g, (e 78 (by omega)).trans c, fun j hj => ?_, i, fun j hj => ?_⟩
  · obtain ⟨p1, p2, p3, p4⟩ := p j hj
    exact ⟨p1, p2, p3, p4.ex (e _ (by omega))⟩
  · obtain ⟨p1, p2, p3, p4⟩ := p j (Nat.lt_of_lt_of_le hj h10)
    exact (e _ (by omega)).trans (r j hj)
theorem notesB_45 (a w : FR) : notesB a w 45 = a 45 + 1 := va_up_self _ _ _
theorem shiftD_45 (a : FR) : shiftD a 45 = a 45 - 1 := va_up_self _ _ _
theorem rowU_shift {a : FR} {j k : Nat} (hj : j < 9) (hk : k < 23) : rowU (shiftD a) j k = rowU a (j + 1) k := by
  unfold rowU shiftD
  rw [va_up_ne _ _ (by omega), show 46 + 23 * j + k = 46 + (23 * j + k) by omega, fillN_in (by omega)]
  congr 1
  omega
theorem rowU_old {a w : FR} {j k : Nat} (hj : j < a 45) (hk : k < 23) : rowU (notesB a w) j k = rowU a j k := by
  unfold rowU notesB
  rw [va_up_ne _ _ (by omega), fillN_out (by omega)]
theorem rowU_new {a w : FR} {k : Nat} (hk : k < 23) : rowU (notesB a w) (a 45) k = w k := by
  unfold rowU notesB
  rw [va_up_ne _ _ (by omega), fillN_in hk]
/-- the one that is kept now, behind those that were -/
theorem MU.note {h h2 : Hp} {a w : FR} {f : Nat → Option Nat} {g : Nat → Nat} (c : h2.1 78 = some (aR 4 10 f)) (hf : ∀ j, j < 10 → f j = some (g j) ∧ 97 ≤ g j ∧ g j ≤ 106 ∧ aSt h (g j)) (inj : ∀ i j, i < 10 → j < 10 → g i = g j → i = j) (h45 : a 45 < 10) (r : ∀ j, j < a 45 → h.1 (g j) = some (.inr (5, sdL (rowU a j)))) (cg : h2.1 (g (a 45)) = some (.inr (5, sdL w))) (o : ∀ q, 97 ≤ q → q ≤ 106 → q ≠ g (a 45) → h2.1 q = h.1 q) : MU h2 (notesB a w) := by
  refine ⟨f, g, c, fun j hj => ?_, inj, fun j hj => ?_⟩
  · obtain ⟨p1, p2, p3, p4⟩ := hf j hj
    by_cases e : g j = g (a 45)
    · exact ⟨p1, p2, p3, by rw [e]; exact aSt.of cg⟩
    · exact ⟨p1, p2, p3, p4.ex (o _ p2 p3 e)⟩
  · rw [notesB_45] at hj
    by_cases e : j = a 45
    · rw [e, cg, sdL_congr (k2 := rowU (notesB a w) (a 45)) (fun k hk => (rowU_new hk).symm)]
    · have hj2 : j < a 45 := by omega
      obtain ⟨p1, p2, p3, p4⟩ := hf j (by omega)
      rw [o _ p2 p3 (fun z => e (inj j (a 45) (by omega) h45 z)), r j hj2, sdL_congr (k2 := rowU (notesB a w) j) (fun k hk => (rowU_old hj2 hk).symm)]
set_option maxRecDepth 20000 in
set_option maxHeartbeats 1000000 in
theorem keep_62 {E : EnvT} {d : Nat} {h0 : Hp} {ns s w1 w2 : Nat} {wk dt : Value} {p q j : Nat} {f : Nat → Option Nat} {w : FR} {u2 u3 : Value} (c64 : h0.1 64 = some (.inr (9, coL s ns j w1 w2 wk dt))) (c78 : h0.1 78 = some (aR 4 10 f)) (hj : j < 10) (hf : f j = some q) (q1 : 97 ≤ q) (q2 : q ≤ 106) (hq : aSt h0 q) (cp : h0.1 p = some (.inr (5, sdL w))) (hp : p = 76 ∨ p = 77) (hd : 1 ≤ d) : Fr E mX9_keepForUndo d 62 [.ref 64, .ref p, u2, u3] [] h0 (fun r h2 => r = none ∧ h2.2 = h0.2 ∧ h2.1 64 = some (.inr (9, coL s ns (j + 1) w1 w2 wk dt)) ∧ h2.1 q = some (.inr (5, sdL w)) ∧ ∀ b, b ≠ 64 → b ≠ q → h2.1 b = h0.1 b) := by
  obtain ⟨y0, y1, y2, y3, y4, y5, cq⟩ := id hq
  refine r_aload_n (pc2 := 63) 0 dX9_keepForUndo_62 rfl rfl rfl rfl ?_
  refine r_getf (pc2 := 66) (v := .ref 78) fX9_35 dX9_keepForUndo_63 c64 (by decide) rfl rfl ?_
  refine r_aload_n (pc2 := 67) 0 dX9_keepForUndo_66 rfl rfl rfl rfl ?_
  refine r_getf (pc2 := 70) (v := .int (nI j)) fX9_102 dX9_keepForUndo_67 c64 (by decide) rfl rfl ?_
  refine r_aald (pc2 := 71) dX9_keepForUndo_70 c78 (by decide) (by decide) (nI_vp (j := j) rfl hj (by decide)).1 (by rw [nI_clamp (by omega)]; exact hf) (by omega) rfl ?_
  refine r_aload_n (pc2 := 72) 1 dX9_keepForUndo_71 rfl rfl rfl rfl ?_
  refine r_callV0 (pc2 := 75) (As := [.ref p]) (st := []) kX9_81 rfl rfl dX9_keepForUndo_72 cq (by omega) rfl rfl (Nat.le_of_ble_eq_true rfl) (by omega) (c_becomeK hq cp (by omega) (by omega) (by omega)) rfl (fun h hq72 => ?_)
  obtain ⟨hxc, cq⟩ := hq72
  have c64 := hxc.get (by simp; omega) c64
  refine r_aload_n (pc2 := 76) 0 dX9_keepForUndo_75 rfl rfl rfl rfl ?_
  refine r_dup (pc2 := 77) dX9_keepForUndo_76 rfl rfl ?_
  refine r_getf (pc2 := 80) (v := .int (nI j)) fX9_102 dX9_keepForUndo_77 c64 (by decide) rfl rfl ?_
  refine r_iconst (pc2 := 81) (v := 1) dX9_keepForUndo_80 (by decide) rfl ?_
  refine r_iadd (pc2 := 82) dX9_keepForUndo_81 rfl ?_
  refine r_cast (nI (j + 1)) (nI_1 _) ?_
  refine r_putfX (pc2 := 85) [.ref 65, .int (nI ns), .ref s, .ref 76, .ref 77, .ref 78, .int (nI (j + 1)), .ref 79, .ref 80, .ref 81, .ref 82, .ref 90, .ref 94, .ref w1, .ref w2, wk, dt] fX9_102 dX9_keepForUndo_82 c64 (by decide) (Nat.le_of_ble_eq_true rfl) rfl rfl rfl (fun h z82 o82 c64 => ?_)
  exact r_vret rfl dX9_keepForUndo_85 ⟨rfl, z82.trans hxc.1, c64, (o82 q (by omega)).trans cq, fun b h1 h2 => (o82 b h1).trans (hxc.2 b (by simpa using h2))⟩
set_option maxRecDepth 20000 in
set_option maxHeartbeats 1000000 in
theorem c_keepForUndo {E : EnvT} {d : Nat} {h0 : Hp} {ns s w1 w2 : Nat} {wk dt : Value} {p : Nat} {a w : FR} (c64 : h0.1 64 = some (.inr (9, coL s ns (a 45) w1 w2 wk dt))) (hM : MU h0 a) (h45 : a 45 ≤ 10) (cp : h0.1 p = some (.inr (5, sdL w))) (hp : p = 76 ∨ p = 77) (hd : 1 ≤ d) : Cn E mX9_keepForUndo d [.ref 64, .ref p] h0 (fun r h2 => r = none ∧ Ex [64, 78, 97, 98, 99, 100, 101, 102, 103, 104, 105, 106] h0 h2 ∧ h2.1 64 = some (.inr (9, coL s ns (notesN a w 45) w1 w2 wk dt)) ∧ MU h2 (notesN a w)) := by
  obtain ⟨f, g, c78, pp, inj, rr⟩ := hM
  by_cases h10 : a 45 = 10
  · have gg : ∀ j, j < 10 → 97 ≤ g j ∧ g j ≤ 106 := fun j hj => ⟨(pp j hj).2.1, (pp j hj).2.2.1⟩
    have fin : ∀ (f2 : Nat → Option Nat) (u3 : Value) (h : Hp), Ex [64, 78] h0 h → h.1 64 = some (.inr (9, coL s ns 9 w1 w2 wk dt)) → h.1 78 = some (aR 4 10 f2) → (∀ j, j < 9 → f2 j = some (g (j + 1))) → f2 9 = some (g 0) → Fr E mX9_keepForUndo d 62 [.ref 64, .ref p, .ref (g 0), u3] [] h (fun r h2 => r = none ∧ Ex [64, 78, 97, 98, 99, 100, 101, 102, 103, 104, 105, 106] h0 h2 ∧ h2.1 64 = some (.inr (9, coL s ns (notesN a w 45) w1 w2 wk dt)) ∧ MU h2 (notesN a w)) := by
      intro f2 u3 h hx c64 c78 e1 e2
      have ho : ∀ q, 97 ≤ q → q ≤ 106 → h.1 q = h0.1 q := fun q a1 a2 => hx.2 q (by simp; omega)
      refine (keep_62 c64 c78 (by decide) e2 (gg 0 (by decide)).1 (gg 0 (by decide)).2 ((pp 0 (by decide)).2.2.2.ex (ho _ (gg 0 (by decide)).1 (gg 0 (by decide)).2)) ((hx.2 p (by simp; omega)).trans cp) hp hd).mono (fun r h2 z => ⟨z.1, ⟨z.2.1.trans hx.1, fun b hb => ?_⟩, ?_, ?_⟩)
      · have n64 : b ≠ 64 := fun y => hb (by rw [y]; simp)
        have n78 : b ≠ 78 := fun y => hb (by rw [y]; simp)
        have ng : b ≠ g 0 := fun y => hb (by have := gg 0 (by decide); rw [y]; simp; omega)
        exact (z.2.2.2.2 b n64 ng).trans (hx.2 b (by simp; omega))
      · unfold notesN
        rw [if_pos h10, notesB_45, shiftD_45, h10]
        exact z.2.2.1
      · unfold notesN
        rw [if_pos h10]
        have e45 : shiftD a 45 = 9 := by rw [shiftD_45, h10]
        refine MU.note (h := h) (f := f2) (g := (fun j => if j < 9 then g (j + 1) else g 0)) ((z.2.2.2.2 78 (by decide) (by have := gg 0 (by decide); omega)).trans c78) (fun j hj => ?_) (fun i j hi hj e => ?_) (by omega) (fun j hj => ?_) (by rw [e45]; exact z.2.2.2.1) (fun b b1 b2 b3 => z.2.2.2.2 b (by omega) (by rw [e45] at b3; exact b3))
        · by_cases q : j < 9
          · simp only [if_pos q]
            exact ⟨e1 j q, (gg (j + 1) (by omega)).1, (gg (j + 1) (by omega)).2, (pp (j + 1) (by omega)).2.2.2.ex (ho _ (gg (j + 1) (by omega)).1 (gg (j + 1) (by omega)).2)⟩
          · obtain rfl : j = 9 := by omega
            simp only [if_neg q]
            exact ⟨e2, (gg 0 (by decide)).1, (gg 0 (by decide)).2, (pp 0 (by decide)).2.2.2.ex (ho _ (gg 0 (by decide)).1 (gg 0 (by decide)).2)⟩
        · by_cases q1 : i < 9 <;> by_cases q2 : j < 9
          · simp only [if_pos q1, if_pos q2] at e
            have := inj _ _ (by omega) (by omega) e; omega
          · simp only [if_pos q1, if_neg q2] at e
            have := inj _ _ (by omega) (by decide) e; omega
          · simp only [if_neg q1, if_pos q2] at e
            have := inj _ _ (by decide) (by omega) e; omega
          · omega
        · rw [e45] at hj
          simp only [if_pos hj]
          rw [ho _ (gg (j + 1) (by omega)).1 (gg (j + 1) (by omega)).2, rr (j + 1) (by omega), sdL_congr (k2 := rowU (shiftD a) j) (fun k hk => (rowU_shift hj hk).symm)]
    have loop : ∀ (m k : Nat) (h : Hp) (f2 : Nat → Option Nat), k + m = 10 → 1 ≤ k → Ex [64, 78] h0 h → h.1 64 = some (.inr (9, coL s ns (a 45) w1 w2 wk dt)) → h.1 78 = some (aR 4 10 f2) → (∀ j, k ≤ j → j < 10 → f2 j = some (g j)) → (∀ j, j + 1 < k → f2 j = some (g (j + 1))) → Fr E mX9_keepForUndo d 18 [.ref 64, .ref p, .ref (g 0), .int (nI k)] [] h (fun r h2 => r = none ∧ Ex [64, 78, 97, 98, 99, 100, 101, 102, 103, 104, 105, 106] h0 h2 ∧ h2.1 64 = some (.inr (9, coL s ns (notesN a w 45) w1 w2 wk dt)) ∧ MU h2 (notesN a w)) := by
      intro m
      induction m with
      | zero =>
        intro k h f2 hk hk1 hx c64 c78 hk2 hk3
        obtain rfl : k = 10 := by omega
        obtain ⟨y0, y1, y2, y3, y4, y5, cg0⟩ := (pp 0 (by decide)).2.2.2
        have cg0 := (hx.2 (g 0) (by have := gg 0 (by decide); simp; omega)).trans cg0
        refine r_iload_n (pc2 := 19) 3 dX9_keepForUndo_18 rfl rfl rfl ?_
        refine r_bipush (pc2 := 21) (v := 10) dX9_keepForUndo_19 (by decide) rfl ?_
        refine r_icmp_ge (tgt := 44) (pc2 := 24) dX9_keepForUndo_21 (by decide) rfl (fun b21 => ?_) (fun b21 => ?_)
        · skip
          refine r_aload_n (pc2 := 45) 0 dX9_keepForUndo_44 rfl rfl rfl rfl ?_
          refine r_getf (pc2 := 48) (v := .ref 78) fX9_35 dX9_keepForUndo_45 c64 (by decide) rfl rfl ?_
          refine r_bipush (pc2 := 50) (v := 9) dX9_keepForUndo_48 (by decide) rfl ?_
          refine r_aload_n (pc2 := 51) 2 dX9_keepForUndo_50 rfl rfl rfl rfl ?_
          refine r_aastX (pc2 := 52) dX9_keepForUndo_51 c78 rfl (fun _ => rfl) (by decide) (nI_vp (j := 9) rfl (by decide) (by decide)).1 (show Int32.toNatClampNeg 9 = 9 by decide) cg0 (by have := (pp 0 (by decide)).2.1; omega) rfl (fun h z51 o51 c78 => ?_)
          have c64 := (o51 64 (by decide)).trans c64
          have hx := hx.step (a := 78) (by simp) z51 o51
          refine r_aload_n (pc2 := 53) 0 dX9_keepForUndo_52 rfl rfl rfl rfl ?_
          refine r_dup (pc2 := 54) dX9_keepForUndo_53 rfl rfl ?_
          refine r_getf (pc2 := 57) (v := .int (nI (a 45))) fX9_102 dX9_keepForUndo_54 c64 (by decide) rfl rfl ?_
          refine r_iconst (pc2 := 58) (v := 1) dX9_keepForUndo_57 (by decide) rfl ?_
          refine r_isub (pc2 := 59) dX9_keepForUndo_58 rfl ?_
          refine r_cast (nI 9) (by rw [h10]; rfl) ?_
          refine r_putfX (pc2 := 62) [.ref 65, .int (nI ns), .ref s, .ref 76, .ref 77, .ref 78, .int (nI 9), .ref 79, .ref 80, .ref 81, .ref 82, .ref 90, .ref 94, .ref w1, .ref w2, wk, dt] fX9_102 dX9_keepForUndo_59 c64 (by decide) (Nat.le_of_ble_eq_true rfl) rfl rfl rfl (fun h z59 o59 c64 => ?_)
          have c78 := (o59 78 (by decide)).trans c78
          have hx := hx.step (a := 64) (by simp) z59 o59
          exact fin _ _ h hx c64 c78 (fun j hj => by rw [va_up_ne _ _ (by omega)]; exact hk3 j (by omega)) (va_up_self _ _ _)
        · exact absurd (nI_le (a := 10) (b := 10) (Nat.le_refl _) (by decide)) b21
      | succ m ih =>
        intro k h f2 hk hk1 hx c64 c78 hk2 hk3
        have hlt : k < 10 := by omega
        obtain ⟨y0, y1, y2, y3, y4, y5, cgk⟩ := (pp k hlt).2.2.2
        have cgk := (hx.2 (g k) (by have := gg k hlt; simp; omega)).trans cgk
        refine r_iload_n (pc2 := 19) 3 dX9_keepForUndo_18 rfl rfl rfl ?_
        refine r_bipush (pc2 := 21) (v := 10) dX9_keepForUndo_19 (by decide) rfl ?_
        refine r_icmp_ge (tgt := 44) (pc2 := 24) dX9_keepForUndo_21 (by decide) rfl (fun b21 => ?_) (fun b21 => ?_)
        · exact absurd b21 (nI_ge (b := 10) hlt (by decide))
        · skip
          refine r_aload_n (pc2 := 25) 0 dX9_keepForUndo_24 rfl rfl rfl rfl ?_
          refine r_getf (pc2 := 28) (v := .ref 78) fX9_35 dX9_keepForUndo_25 c64 (by decide) rfl rfl ?_
          refine r_iload_n (pc2 := 29) 3 dX9_keepForUndo_28 rfl rfl rfl ?_
          refine r_iconst (pc2 := 30) (v := 1) dX9_keepForUndo_29 (by decide) rfl ?_
          refine r_isub (pc2 := 31) dX9_keepForUndo_30 rfl ?_
          refine r_cast (nI (k - 1)) (pk_sub (b := 1) hk1) ?_
          refine r_aload_n (pc2 := 32) 0 dX9_keepForUndo_31 rfl rfl rfl rfl ?_
          refine r_getf (pc2 := 35) (v := .ref 78) fX9_35 dX9_keepForUndo_32 c64 (by decide) rfl rfl ?_
          refine r_iload_n (pc2 := 36) 3 dX9_keepForUndo_35 rfl rfl rfl ?_
          refine r_aald (pc2 := 37) dX9_keepForUndo_36 c78 (by decide) (by decide) (nI_vp (j := k) rfl hlt (by decide)).1 (by rw [nI_clamp (by omega)]; exact hk2 k (Nat.le_refl _) hlt) (by have := (pp k hlt).2.1; omega) rfl ?_
          refine r_aastX (pc2 := 38) dX9_keepForUndo_37 c78 rfl (fun _ => rfl) (by decide) (nI_vp (j := k - 1) rfl (by omega) (by decide)).1 (nI_clamp (by omega)) cgk (by have := (pp k hlt).2.1; omega) rfl (fun h z37 o37 c78 => ?_)
          have c64 := (o37 64 (by decide)).trans c64
          have hx := hx.step (a := 78) (by simp) z37 o37
          obtain ⟨x38, e38⟩ : ∃ z : Int32, z = (nI k) + (1) := ⟨_, rfl⟩
          refine r_iinc (pc2 := 41) (ls2 := [.ref 64, .ref p, .ref (g 0), .int x38]) (v := x38) 3 dX9_keepForUndo_38 rfl (by rw [e38]; rfl) rfl rfl rfl ?_
          refine r_goto (pc2 := 18) dX9_keepForUndo_41 (by decide) ?_
          rw [e38, nI_1]
          exact ih (k + 1) h _ (by omega) (by omega) hx c64 c78 (fun j h1 h2 => by rw [va_up_ne _ _ (by omega)]; exact hk2 j (by omega) h2) (fun j h1 => by by_cases z : j = k - 1; rw [z, va_up_self, show k - 1 + 1 = k by omega]; rw [va_up_ne _ _ z]; exact hk3 j (by omega))
    refine Cn.go (ls := [.ref 64, .ref p, .float 0, .float 0]) (by decide +kernel) rfl (Nat.le_of_ble_eq_true rfl) ?_
    refine r_aload_n (pc2 := 1) 0 dX9_keepForUndo_0 rfl rfl rfl rfl ?_
    refine r_getf (pc2 := 4) (v := .int (nI (a 45))) fX9_102 dX9_keepForUndo_1 c64 (by decide) rfl rfl ?_
    refine r_bipush (pc2 := 6) (v := 10) dX9_keepForUndo_4 (by decide) rfl ?_
    refine r_icmp_ne (tgt := 62) (pc2 := 9) dX9_keepForUndo_6 (by decide) rfl (fun b6 => ?_) (fun b6 => ?_)
    · exact absurd (congrArg nI h10) b6
    · skip
      refine r_aload_n (pc2 := 10) 0 dX9_keepForUndo_9 rfl rfl rfl rfl ?_
      refine r_getf (pc2 := 13) (v := .ref 78) fX9_35 dX9_keepForUndo_10 c64 (by decide) rfl rfl ?_
      refine r_iconst (pc2 := 14) (v := 0) dX9_keepForUndo_13 (by decide) rfl ?_
      refine r_aald (pc2 := 15) dX9_keepForUndo_14 c78 (by decide) (by decide) (nI_vp (j := 0) rfl (by decide) (by decide)).1 (pp 0 (by decide)).1 (by have := (pp 0 (by decide)).2.1; omega) rfl ?_
      refine r_astore_n (pc2 := 16) (ls2 := [.ref 64, .ref p, .ref (g 0), .float 0]) 2 dX9_keepForUndo_15 rfl (by decide) rfl rfl rfl rfl ?_
      refine r_iconst (pc2 := 17) (v := 1) dX9_keepForUndo_16 (by decide) rfl ?_
      refine r_istore_n (pc2 := 18) (ls2 := [.ref 64, .ref p, .ref (g 0), .int 1]) 3 dX9_keepForUndo_17 rfl (by decide) rfl rfl rfl ?_
      exact loop 9 1 h0 f (by omega) (Nat.le_refl _) Ex.rf c64 c78 (fun j h1 h2 => (pp j h2).1) (fun j h1 => by omega)
  · obtain ⟨p1, p2, p3, p4⟩ := pp (a 45) (by omega)
    refine Cn.go (ls := [.ref 64, .ref p, .float 0, .float 0]) (by decide +kernel) rfl (Nat.le_of_ble_eq_true rfl) ?_
    refine r_aload_n (pc2 := 1) 0 dX9_keepForUndo_0 rfl rfl rfl rfl ?_
    refine r_getf (pc2 := 4) (v := .int (nI (a 45))) fX9_102 dX9_keepForUndo_1 c64 (by decide) rfl rfl ?_
    refine r_bipush (pc2 := 6) (v := 10) dX9_keepForUndo_4 (by decide) rfl ?_
    refine r_icmp_ne (tgt := 62) (pc2 := 9) dX9_keepForUndo_6 (by decide) rfl (fun b6 => ?_) (fun b6 => ?_)
    · skip
      exact (keep_62 c64 c78 (by omega) p1 p2 p3 p4 cp hp hd).mono (fun r h2 z => ⟨z.1, ⟨z.2.1, fun b hb => z.2.2.2.2 b (fun y => hb (by rw [y]; simp)) (fun y => hb (by rw [y]; simp; omega))⟩, by unfold notesN; rw [if_neg h10, notesB_45]; exact z.2.2.1, by unfold notesN; rw [if_neg h10]; exact MU.note ((z.2.2.2.2 78 (by decide) (by omega)).trans c78) pp inj (by omega) rr z.2.2.2.1 (fun b q1 q2 q3 => z.2.2.2.2 b (by omega) q3)⟩)
    · exact absurd ((nI_eq (b := 10) (by omega) (by decide)).mp b6) h10
