/-! the class: hints -/
theorem k85 : (6148914691236517205 : Int64) = lN (pkL (L8 (fun _ => 85))) := by decide +kernel
theorem k51 : (3689348814741910323 : Int64) = lN (pkL (L8 (fun _ => 51))) := by decide +kernel
theorem k15 : (1085102592571150095 : Int64) = lN (pkL (L8 (fun _ => 15))) := by decide +kernel
theorem L8_mask0 {f : Nat → Nat} {M : Nat} (h : ∀ p, p < 8 → f p < 256) (hM : M < 256) : pkL (L8 f) &&& pkL (L8 (fun _ => M)) = pkL (L8 (fun p => f p / 2 ^ 0 &&& M)) := by
  have := L8_mask (k := 0) h hM (fun q h1 h2 => absurd h2 (by omega))
  rw [Nat.pow_zero, Nat.div_one] at this
  exact this
theorem st1 {f : Nat → Nat} (h : ∀ p, p < 8 → f p < 256) : lN (pkL (L8 f)) - lN (pkL (L8 (fun p => f p / 2 ^ 1 &&& 85))) = lN (pkL (L8 (fun p => c1 (f p)))) := by
  have e := L8_subB (f := f) (g := fun p => f p / 2 ^ 1 &&& 85) (fun p hp => (c_byte _ (h p hp)).1)
  rw [lN_subB e.2, e.1]
  rfl
theorem st3 {f : Nat → Nat} (h : ∀ p, p < 8 → f p < 256) : (pkL (L8 (fun p => c2 (f p))) + pkL (L8 (fun p => c2 (f p))) / 2 ^ 4) &&& pkL (L8 (fun _ => 15)) = pkL (L8 (fun p => pop8 (f p))) := by
  have hb := fun p hp => c_byte _ (h p hp)
  rw [L8_nib (g := fun p => c2 (f p)) (fun p hp => ⟨(hb p hp).2.2.2.1, (hb p hp).2.2.2.2.1⟩)]
  have hn : ∀ p, p < 8 → (if p < 7 then c2 (f (p + 1)) % 16 else 0) ≤ 4 := fun p hp => by
    by_cases w : p < 7
    · rw [if_pos w]; exact (hb (p + 1) (by omega)).2.2.2.1
    · rw [if_neg w]; omega
  rw [L8_mask0 (fun p hp => by have := hn p hp; have := (hb p hp).2.2.2.1; have := (hb p hp).2.2.2.2.1; omega) (by decide)]
  rw [L8_congr (g := fun p => pop8 (f p)) (fun p hp => by
    have e := (hb p hp).2.2.2.2.2
    unfold c3 at e
    rw [← e]
    exact nib15 _ (by have := (hb p hp).2.2.2.1; have := (hb p hp).2.2.2.2.1; omega) _ (by have := hn p hp; have := (hb p hp).2.2.2.2.1; omega))]
