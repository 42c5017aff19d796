/-! what deeds leave as it was -/
/-- a2 is a with another stand and other rows for undoing -/
def PAk (a a2 : FR) : Prop := AIN a2 ∧ ∀ k, (k < 22 ∨ 276 ≤ k) → a2 k = a k
theorem PAk.rf {a : FR} (hA : AIN a) : PAk a a := ⟨hA, fun _ _ => rfl⟩
theorem PAk.stat {a a2 b : FR} (x : PAk a a2) (h : Stat a b) : Stat a2 b := fun k hk => (x.2 k (by omega)).trans (h k hk)
theorem PAk.notes {a a1 : FR} (hA : AIN a) (h1 : AIN a1) (e : ∀ k, (k < 22 ∨ 45 ≤ k) → a1 k = a k) : PAk a (notesN a1 (keepV a)) := by
  refine ⟨h1.notes (hA.2.1.congr (e 1 (by omega)) (e 3 (by omega)) (fun _ _ => rfl)), fun k hk => ?_⟩
  rw [notesN_out (by omega) h1.nd]
  exact e k (by omega)
theorem pa_hour {a : FR} {x : Int32} (hA : AIN a) : PAk a (hourA a x) := by
  unfold hourA
  by_cases hw : whyF a x.toInt64 = 0
  · rw [if_pos hw]
    have hv : vS (a 3) x.toInt64 := by
      unfold whyF at hw
      split at hw
      · assumption
      · omega
    obtain ⟨sn, hsn, hs16, rfl⟩ := vS_i hA.G hv
    rw [nI_l (by omega), whyF_of hA hsn] at hw
    rw [nI_clamp (by omega)]
    exact PAk.notes hA (hA.goes (why2_0 hA hw).1) (fun k hk => goesN_out hA.G (by omega))
  · rw [if_neg hw]
    exact PAk.rf hA
theorem pa_hours {a : FR} {x : Int32} (hA : AIN a) : PAk a (hoursA a x) := by
  unfold hoursA
  split
  · exact PAk.notes hA (hA.goI _) (fun k hk => goesI_out hA _ k (by omega))
  · exact PAk.rf hA
theorem pa_draught {a : FR} {x : Int32} (hA : AIN a) : PAk a (draughtA a x) := by
  unfold draughtA
  by_cases h : inR 0 9 x
  · rw [if_pos h]
    have h9 : x.toNatClampNeg ≤ 9 := by
      obtain ⟨h1, h2⟩ := (inR_iff (l := 0) (h := 9) (by decide) (by decide) x).mp h
      obtain ⟨j, hj, rfl⟩ := nI_of2 (M := 9) (n := 9) (by decide) (Int32.not_lt.mpr h1) h2
      rw [nI_clamp (by omega)]
      exact hj
    exact PAk.notes hA (hA.dra h9) (fun k hk => va_up_ne _ _ (by omega))
  · rw [if_neg h]
    exact PAk.rf hA
theorem pa_undo {a : FR} {x : Int32} (hA : AIN a) : PAk a (undoR a x) := by
  unfold undoR
  by_cases h : undoC a x
  · rw [if_pos h]
    obtain ⟨h1, h2⟩ := h
    obtain ⟨h3, h4⟩ := (inR_iff (l := 1) (h := 10) (by decide) (by decide) x).mp h1
    obtain ⟨j, hj, rfl⟩ := nI_of2 (M := 10) (n := 10) (by decide) (fun z => absurd (Int32.lt_of_lt_of_le z (show (0 : Int32) ≤ nI 1 by decide)) (fun y => absurd h3 (Int32.not_le.mpr y))) h4
    rw [nI_clamp (by omega)]
    rw [nI_leI (by omega) (by have := hA.nd; omega)] at h2
    have h5 : 1 ≤ j := (nI_leI (by omega) (by omega)).mp h3
    exact ⟨hA.undo h5 h2, fun k hk => undoA_out (by omega)⟩
  · rw [if_neg h]
    exact PAk.rf hA
theorem pa_perform {a : FR} {rs rm : Nat → Int32} {nu : Nat → Int64} {x : Int32} (hA : AIN a) : PAk a (performA a rs rm nu x) := by
  unfold performA
  split
  · exact PAk.rf hA
  · exact PAk.notes hA (AIN.telling _ _ _ hA) (fun k hk => tell_out _ _ a hA k hk)
theorem night_out : ∀ (m : Nat) (x : Int32) (a : FR) (n : Nat), AIN a → ∀ k, (k < 22 ∨ 45 ≤ k) → (nightT m x a n).2 k = a k := by
  intro m
  induction m with
  | zero => intro x a n _ k _; rfl
  | succ m ih =>
    intro x a n hA k hk
    unfold nightT
    split
    · rename_i h
      have hl := drawK_lt x
      rw [ih (drawX x) _ (n + 1) (hA.does h hl) k hk]
      have := do1_out hA h k hk
      rw [lN_clamp (by omega)] at this
      exact this
    · exact ih (drawX x) a n hA k hk
theorem pa_night {a : FR} {x y : Int32} (hA : AIN a) : PAk a (nightA a x y) := by
  unfold nightA
  split
  · exact PAk.notes hA (nightT_ok _ _ _ _ hA).1 (fun k hk => night_out _ _ a _ hA k hk)
  · exact PAk.rf hA
theorem pa_hint {a : FR} {x y z : Int32} (hA : AIN a) : PAk a (hintR a x y z) := by
  unfold hintR
  by_cases h : hintC a x y z
  · rw [if_pos h]
    obtain ⟨⟨⟨h1, h2⟩, h3⟩, h4⟩ := hintC_iff.mp h
    have hP := hA.P
    have in8 : ∀ v : Int32, inP (a 4) v → v.toNatClampNeg < 8 := fun v hv => by
      obtain ⟨u1, u2⟩ := hv
      rw [i2l_le] at u2
      have u1 : (0 : Int32) ≤ v := (i2l_le 0 v).mp u1
      have u3 : v ≤ 7 := Int32.le_trans u2 (by
        rcases (by omega : a 4 = 0 ∨ a 4 = 1 ∨ a 4 = 2 ∨ a 4 = 3 ∨ a 4 = 4 ∨ a 4 = 5 ∨ a 4 = 6 ∨ a 4 = 7 ∨ a 4 = 8) with e | e | e | e | e | e | e | e | e <;> rw [e] <;> decide)
      obtain ⟨j, hj, rfl⟩ := nI_of2 (M := 7) (n := 7) (by decide) (Int32.not_lt.mpr u1) u3
      rw [nI_clamp (by omega)]
      omega
    exact PAk.notes hA (hA.hint (in8 x h1) (in8 y h2)) (fun k hk => hintN_out (in8 x h1) (in8 y h2) (by omega))
  · rw [if_neg h]
    exact PAk.rf hA
