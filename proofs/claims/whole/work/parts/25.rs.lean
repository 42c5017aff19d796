/-! the reference as a whole -/
def RS (h : Hp) (v : Nat → Int32) (a : Nat → Nat) (hi : Nat → Int32) (tp : Nat → Nat) (rs rm : Nat → Int32) (nu : Nat → Int64) : Prop := h.1 117 = some (mO v) ∧ h.1 118 = some (aI 3531 (nA a)) ∧ h.1 119 = some (aZ 2 hi) ∧ h.1 120 = some (aI 900 (nA tp)) ∧ (∃ f, h.1 121 = some (aI 1177 f)) ∧ (∃ f, h.1 122 = some (aI 900 f)) ∧ (∃ f, h.1 123 = some (aI 9 f)) ∧ (∃ f, h.1 124 = some (aI 23 f)) ∧ (∃ f, h.1 125 = some (aI 40960 f)) ∧ (∃ f, h.1 126 = some (aI 655360 f)) ∧ (∃ f, h.1 127 = some (aI 40960 f)) ∧ (∃ f, h.1 128 = some (aZ 40960 f)) ∧ (∃ f, h.1 129 = some (aL 40960 f)) ∧ (∃ f, h.1 130 = some (aL 40960 f)) ∧ (∃ f, h.1 131 = some (aI 8 f)) ∧ (∃ f, h.1 132 = some (aI 8 f)) ∧ (∃ f, h.1 133 = some (aI 8 f)) ∧ (∃ f, h.1 134 = some (aI 10 f)) ∧ (∃ f, h.1 135 = some (aB 81920 f)) ∧ h.1 136 = some (aI 4 rs) ∧ h.1 137 = some (aI 4 rm) ∧ h.1 138 = some (aL 160 nu)
def VK (v v2 : Nat → Int32) : Prop := v2 5 = v 5 ∧ v2 13 = v 13 ∧ v2 14 = v 14
abbrev MS : List Nat := [117, 118, 119, 120, 121, 122, 123, 124, 125, 126, 127, 128, 129, 130, 131, 132, 133, 134, 135, 136, 137, 138]
/-- what a call of the reference leaves: its answer, and the row a2 -/
def RP (r0 : Value) (h0 : Hp) (v : Nat → Int32) (a2 : Nat → Nat) (hi : Nat → Int32) (tp : Nat → Nat) (rs rm : Nat → Int32) (nu : Nat → Int64) : Option Value → Hp → Prop := fun r h2 => r = some r0 ∧ ∃ v2, VK v v2 ∧ RS h2 v2 a2 hi tp rs rm nu ∧ Ex MS h0 h2
theorem AOK.of {a b : Nat → Nat} (h : AOK a) (e : ∀ k, k < 22 ∨ 276 ≤ k → b k = a k) : AOK b := by
  have e1 : ∀ k, k < 22 → b k = a k := fun k hk => e k (Or.inl hk)
  obtain ⟨h1, h2, h3, h4, h5, h6, h7, h8, h9⟩ := h
  have hl : ∀ lw, lw < 2 → LWok a lw → LWok b lw := by
    intro lw hlw hL
    have ef : lawF b lw = lawF a lw := by
      funext k
      unfold lawF
      rw [e1 (10 + lw) (by omega)]
      exact e _ (Or.inr (by omega))
    unfold LWok
    rw [ef, e1 (8 + lw) (by omega), e1 (10 + lw) (by omega), e1 (12 + lw) (by omega)]
    exact hL
  refine ⟨?_, ?_, ?_, ?_, ?_, fun g hg => ?_, fun g hg => ?_, hl 0 (by decide) h8, hl 1 (by decide) h9⟩
  · rw [e1 1 (by decide)]; exact h1
  · rw [e1 2 (by decide)]; exact h2
  · rw [e1 3 (by decide)]; exact h3
  · rw [e1 4 (by decide)]; exact h4
  · rw [e1 6 (by decide), e1 7 (by decide)]; exact h5
  · rw [e1 (14 + g) (by omega)]; exact h6 g hg
  · rw [e1 (18 + g) (by omega)]; exact h7 g hg
theorem SOK.of {a b s : Nat → Nat} (h : SOK a s) (e1 : b 1 = a 1) (e3 : b 3 = a 3) : SOK b s := by
  unfold SOK at h ⊢
  rw [e1, e3]
  exact h
theorem SOK.ext {a s t : Nat → Nat} (h : SOK a s) (e : ∀ k, k < 23 → t k = s k) : SOK a t := by
  obtain ⟨h1, h2, h3, h4, h5, h6⟩ := h
  refine ⟨fun g hg => ?_, fun g hg hg2 => ?_, ?_, ?_, fun p hp => ?_, fun p hp => ?_⟩
  · rw [e g (by omega)]; exact h1 g hg
  · rw [e g (by omega)]; exact h2 g hg hg2
  · rw [e 4 (by decide)]; exact h3
  · rw [e 5 (by decide)]; exact h4
  · rw [e (7 + p) (by omega)]; exact h5 p hp
  · rw [e (15 + p) (by omega)]; exact h6 p hp
/-- the digits of an hour's stand -/
theorem hCs_dig {st sn : Nat} (k : Nat) (hk : k ≤ 4) (h : ∀ g, g < k → sn.testBit g = true → st / 8 ^ g % 8 < 7) (g : Nat) (hg : g < 4) : hCs st sn k / 8 ^ g % 8 = st / 8 ^ g % 8 + (if g < k ∧ sn.testBit g = true then 1 else 0) := by
  have key : ∀ b0 b1 b2 b3 : Nat, (b0 = 0 ∨ (b0 = 1 ∧ st / 1 % 8 < 7)) → (b1 = 0 ∨ (b1 = 1 ∧ st / 8 % 8 < 7)) → (b2 = 0 ∨ (b2 = 1 ∧ st / 64 % 8 < 7)) → (b3 = 0 ∨ (b3 = 1 ∧ st / 512 % 8 < 7)) → (st % 4096 + b0 + 8 * b1 + 64 * b2 + 512 * b3) / 1 % 8 = st / 1 % 8 + b0 ∧ (st % 4096 + b0 + 8 * b1 + 64 * b2 + 512 * b3) / 8 % 8 = st / 8 % 8 + b1 ∧ (st % 4096 + b0 + 8 * b1 + 64 * b2 + 512 * b3) / 64 % 8 = st / 64 % 8 + b2 ∧ (st % 4096 + b0 + 8 * b1 + 64 * b2 + 512 * b3) / 512 % 8 = st / 512 % 8 + b3 := by
    intro b0 b1 b2 b3 h0 h1 h2 h3
    omega
  have e : hCs st sn k = st % 4096 + (if 0 < k ∧ sn.testBit 0 = true then 1 else 0) + 8 * (if 1 < k ∧ sn.testBit 1 = true then 1 else 0) + 64 * (if 2 < k ∧ sn.testBit 2 = true then 1 else 0) + 512 * (if 3 < k ∧ sn.testBit 3 = true then 1 else 0) := by
    match k, hk with
    | 0, _ => simp [hCs]
    | 1, _ => simp [hCs] <;> (repeat' split) <;> omega
    | 2, _ => simp [hCs] <;> (repeat' split) <;> omega
    | 3, _ => simp [hCs] <;> (repeat' split) <;> omega
    | 4, _ => simp [hCs] <;> (repeat' split) <;> omega
  have one : ∀ g, ((if g < k ∧ sn.testBit g = true then 1 else 0) = 0 ∨ ((if g < k ∧ sn.testBit g = true then 1 else 0) = 1 ∧ st / 8 ^ g % 8 < 7)) := by
    intro g
    by_cases q : g < k ∧ sn.testBit g = true
    · rw [if_pos q]; exact Or.inr ⟨rfl, h g q.1 q.2⟩
    · rw [if_neg q]; exact Or.inl rfl
  have := key _ _ _ _ (one 0) (one 1) (one 2) (one 3)
  rw [e]
  match g, hg with
  | 0, _ => exact this.1
  | 1, _ => exact this.2.1
  | 2, _ => exact this.2.2.1
  | 3, _ => exact this.2.2.2
theorem dig_hi {c t g : Nat} (hc : c < 4096) (hg : g < 4) : (c + 4096 * t) / 8 ^ g % 8 = c / 8 ^ g % 8 := by
  match g, hg with
  | 0, _ => simp; omega
  | 1, _ => simp; omega
  | 2, _ => simp; omega
  | 3, _ => simp; omega
theorem goesN_out {a : Nat → Nat} {sn k : Nat} (hG : a 3 ≤ 4) (hk : k < 22 ∨ (26 < k ∧ k ≠ 28)) : goesN a sn k = a k := by
  unfold goesN standTo
  rw [va_up_ne _ _ (by omega), va_up_ne _ _ (by omega), fillN_out (by omega)]
theorem goesN_28 {a : Nat → Nat} {sn : Nat} : goesN a sn 28 = a 28 + 1 := va_up_self _ _ _
theorem goesN_26 {a : Nat → Nat} {sn : Nat} : goesN a sn 26 = hourN a (packS a) sn 0 (a 27) / 4096 := by
  unfold goesN standTo
  rw [va_up_ne _ _ (by decide), va_up_self]
def stepOk (a : Nat → Nat) (sn : Nat) : Prop := ∀ g, g < a 3 → sn.testBit g = true → a (22 + g) < a 1
theorem stepOk.dig {a : Nat → Nat} {sn : Nat} (hA : AIN a) (h : stepOk a sn) : ∀ g, g < a 3 → sn.testBit g = true → packS a / 8 ^ g % 8 < a 1 := fun g hg q => by
  rw [hA.pdig g (by have := hA.G; omega)]
  exact h g hg q
theorem goesN_cell {a : Nat → Nat} {sn g : Nat} (hA : AIN a) (h : stepOk a sn) (hg : g < a 3) : goesN a sn (22 + g) = a (22 + g) + (if sn.testBit g = true then 1 else 0) := by
  have hG := hA.G
  have hC := hA.C
  have hd := h.dig hA
  have h7 : ∀ g, g < a 3 → sn.testBit g = true → packS a / 8 ^ g % 8 < 7 := fun g hg q => by have := hd g hg q; omega
  have hlt := hCs_lt (packS a) sn (a 3) hG h7
  unfold goesN standTo
  rw [va_up_ne _ _ (by omega), va_up_ne _ _ (by omega), fillN_in hg]
  unfold hourN
  rw [dig_hi hlt (by omega), hCs_dig (a 3) hG h7 g (by omega), hA.pdig g (by omega)]
  by_cases q : sn.testBit g = true
  · rw [if_pos ⟨hg, q⟩, if_pos q]
  · rw [if_neg (fun z => q z.2), if_neg q]
theorem AIN.goes {a : Nat → Nat} {sn : Nat} (hA : AIN a) (h : stepOk a sn) : AIN (goesN a sn) := by
  have hG := hA.G
  have hC := hA.C
  have e : ∀ k, k < 22 ∨ (26 < k ∧ k ≠ 28) → goesN a sn k = a k := fun k hk => goesN_out hG hk
  have hd := h.dig hA
  have hlt := hourN_lt (b := 0) (dr := a 27) hG hC (by rw [hA.pdep]; exact hA.dp) hd
  refine ⟨hA.1.of (fun k hk => e k (by omega)), ?_, ?_⟩
  · refine SOK.of (a := a) ⟨fun g hg => ?_, fun g hg hg2 => ?_, ?_, ?_, fun p hp => ?_, fun p hp => ?_⟩ (e 1 (by omega)) (e 3 (by omega))
    · show goesN a sn (22 + g) ≤ a 1
      rcases Nat.lt_or_ge g (a 3) with q | q
      · rw [goesN_cell hA h q]
        have := hA.cl g hg
        split
        · rename_i z; have := h g q z; omega
        · omega
      · have : goesN a sn (22 + g) = a (22 + g) := by
          unfold goesN standTo
          rw [va_up_ne _ _ (by omega), va_up_ne _ _ (by omega), fillN_out (by omega)]
        rw [this]; exact hA.cl g hg
    · show goesN a sn (22 + g) = 0
      have : goesN a sn (22 + g) = a (22 + g) := by
        unfold goesN standTo
        rw [va_up_ne _ _ (by omega), va_up_ne _ _ (by omega), fillN_out (by omega)]
      rw [this]; exact hA.c0 g hg hg2
    · show goesN a sn 26 ≤ 9
      rw [goesN_26]; omega
    · show goesN a sn 27 ≤ 9
      rw [e 27 (by omega)]; exact hA.dr
    · show goesN a sn (22 + (7 + p)) < 256
      rw [e _ (by omega), show 22 + (7 + p) = 29 + p by omega]; exact hA.bd p hp
    · show goesN a sn (22 + (15 + p)) < 256
      rw [e _ (by omega), show 22 + (15 + p) = 37 + p by omega]; exact hA.ub p hp
  · refine ⟨by rw [e 45 (by omega)]; exact hA.nd, fun j hj => ?_⟩
    rw [e 45 (by omega)] at hj
    exact ((hA.2.2.2 j hj).ext (fun k hk => e _ (by omega))).of (e 1 (by omega)) (e 3 (by omega))
theorem notesB_out {a w : Nat → Nat} {k : Nat} (hk : k < 45 ∨ 276 ≤ k) (h : a 45 < 10) : notesB a w k = a k := by
  unfold notesB
  rw [va_up_ne _ _ (by omega), fillN_out (by omega)]
theorem shiftD_out {a : Nat → Nat} {k : Nat} (hk : k < 45 ∨ 253 ≤ k) : shiftD a k = a k := by
  unfold shiftD
  rw [va_up_ne _ _ (by omega), fillN_out (by omega)]
theorem AIN.noteB {a w : Nat → Nat} (hA : AIN a) (hw : SOK a w) (h : a 45 < 10) : AIN (notesB a w) := by
  have e : ∀ k, k < 45 ∨ 276 ≤ k → notesB a w k = a k := fun k hk => notesB_out hk h
  refine ⟨hA.1.of (fun k hk => e k (by omega)), ?_, ?_⟩
  · exact (hA.2.1.ext (fun k hk => e _ (by omega))).of (e 1 (by omega)) (e 3 (by omega))
  · have e45 : notesB a w 45 = a 45 + 1 := va_up_self _ _ _
    refine ⟨by rw [e45]; omega, fun j hj => ?_⟩
    rw [e45] at hj
    refine SOK.of (a := a) ?_ (e 1 (by omega)) (e 3 (by omega))
    rcases Nat.lt_or_ge j (a 45) with q | q
    · refine (hA.2.2.2 j q).ext (fun k hk => ?_)
      show notesB a w (46 + 23 * j + k) = _
      unfold notesB
      rw [va_up_ne _ _ (by omega), fillN_out (by omega)]
    · obtain rfl : j = a 45 := by omega
      refine hw.ext (fun k hk => ?_)
      show notesB a w (46 + 23 * a 45 + k) = _
      unfold notesB
      rw [va_up_ne _ _ (by omega), fillN_in hk]
theorem AIN.shift {a : Nat → Nat} (hA : AIN a) (h : a 45 = 10) : AIN (shiftD a) := by
  have e : ∀ k, k < 45 ∨ 253 ≤ k → shiftD a k = a k := fun k hk => shiftD_out hk
  refine ⟨hA.1.of (fun k hk => e k (by omega)), ?_, ?_⟩
  · exact (hA.2.1.ext (fun k hk => e _ (by omega))).of (e 1 (by omega)) (e 3 (by omega))
  · have e45 : shiftD a 45 = a 45 - 1 := va_up_self _ _ _
    refine ⟨by rw [e45]; omega, fun j hj => ?_⟩
    rw [e45] at hj
    refine SOK.of (a := a) ?_ (e 1 (by omega)) (e 3 (by omega))
    refine (hA.2.2.2 (j + 1) (by omega)).ext (fun k hk => ?_)
    show shiftD a (46 + 23 * j + k) = a (46 + 23 * (j + 1) + k)
    unfold shiftD
    rw [va_up_ne _ _ (by omega), show 46 + 23 * j + k = 46 + (23 * j + k) by omega, fillN_in (by omega)]
    congr 1
    omega
theorem AIN.notes {a w : Nat → Nat} (hA : AIN a) (hw : SOK a w) : AIN (notesN a w) := by
  unfold notesN
  by_cases h : a 45 = 10
  · rw [if_pos h]
    have e45 : shiftD a 45 = a 45 - 1 := va_up_self _ _ _
    exact (hA.shift h).noteB (hw.of (shiftD_out (by omega)) (shiftD_out (by omega))) (by omega)
  · rw [if_neg h]
    have := hA.nd
    exact hA.noteB hw (by omega)
theorem notesN_out {a w : Nat → Nat} {k : Nat} (hk : k < 45 ∨ 276 ≤ k) (h : a 45 ≤ 10) : notesN a w k = a k := by
  unfold notesN
  by_cases q : a 45 = 10
  · rw [if_pos q]
    have e45 : shiftD a 45 = a 45 - 1 := va_up_self _ _ _
    rw [notesB_out (by omega) (by omega), shiftD_out (by omega)]
  · rw [if_neg q, notesB_out (by omega) (by omega)]
