/-! the class: hints -/
theorem lN_addB (a b : Nat) : lN a + lN b = lN (a + b) := (Int64.ofNat_add a b).symm
theorem lN_subB {a b : Nat} (h : b ≤ a) : lN a - lN b = lN (a - b) := by
  have e : lN a = lN (a - b) + lN b := by rw [lN_addB]; congr 1; omega
  rw [e, Int64.add_sub_cancel]
theorem L8_mask {f : Nat → Nat} {M k : Nat} (h : ∀ p, p < 8 → f p < 256) (hM : M < 256) (hk : ∀ q, q < 8 → 8 ≤ q + k → M.testBit q = false) : pkL (L8 f) / 2 ^ k &&& pkL (L8 (fun _ => M)) = pkL (L8 (fun p => f p / 2 ^ k &&& M)) := by
  have hm : ∀ p, p < 8 → (fun _ : Nat => M) p < 256 := fun _ _ => hM
  refine L8_ext (Nat.lt_of_le_of_lt Nat.and_le_right (L8_lt hm)) (fun p _ => Nat.lt_of_le_of_lt Nat.and_le_right hM) (fun p q hp hq => ?_)
  rw [Nat.testBit_and, Nat.testBit_and, L8_bit hm hp hq, Nat.testBit_div_two_pow, Nat.testBit_div_two_pow]
  by_cases w : q + k < 8
  · rw [show 8 * p + q + k = 8 * p + (q + k) by omega, L8_bit h hp w]
  · rw [hk q hq (by omega), Bool.and_false, Bool.and_false]
theorem L8_sum (f : Nat → Nat) : pkL (L8 f) = f 0 + 256 * f 1 + 65536 * f 2 + 16777216 * f 3 + 4294967296 * f 4 + 1099511627776 * f 5 + 281474976710656 * f 6 + 72057594037927936 * f 7 := by
  simp only [pkL]
  omega
theorem L8_subB {f g : Nat → Nat} (h : ∀ p, p < 8 → g p ≤ f p) : pkL (L8 f) - pkL (L8 g) = pkL (L8 (fun p => f p - g p)) ∧ pkL (L8 g) ≤ pkL (L8 f) := by
  rw [L8_sum, L8_sum, L8_sum]
  have h0 := h 0 (by omega)
  have h1 := h 1 (by omega)
  have h2 := h 2 (by omega)
  have h3 := h 3 (by omega)
  have h4 := h 4 (by omega)
  have h5 := h 5 (by omega)
  have h6 := h 6 (by omega)
  have h7 := h 7 (by omega)
  omega
theorem L8_addB (f g : Nat → Nat) : pkL (L8 f) + pkL (L8 g) = pkL (L8 (fun p => f p + g p)) := by
  rw [L8_sum, L8_sum, L8_sum]
  omega
def c1 (x : Nat) : Nat := x - (x / 2 ^ 1 &&& 85)
def c2 (x : Nat) : Nat := (c1 x / 2 ^ 0 &&& 51) + (c1 x / 2 ^ 2 &&& 51)
def c3 (x : Nat) : Nat := c2 x % 16 + c2 x / 16
theorem c_byte : ∀ x, x < 256 → (x / 2 ^ 1 &&& 85) ≤ x ∧ c1 x < 256 ∧ c2 x < 256 ∧ c2 x % 16 ≤ 4 ∧ c2 x / 16 ≤ 4 ∧ c3 x = pop8 x := by decide +kernel
theorem m85 : ∀ q, q < 8 → 8 ≤ q + 1 → (85 : Nat).testBit q = false := by decide
theorem m51 : ∀ q, q < 8 → 8 ≤ q + 2 → (51 : Nat).testBit q = false := by decide
theorem m51z : ∀ q, q < 8 → 8 ≤ q + 0 → (51 : Nat).testBit q = false := by decide
theorem m15 : ∀ q, q < 8 → 8 ≤ q + 0 → (15 : Nat).testBit q = false := by decide
theorem nib15 : ∀ l, l ≤ 8 → ∀ h, h < 16 → (l + 16 * h) / 2 ^ 0 &&& 15 = l := by decide
theorem L8_nib {g : Nat → Nat} (h : ∀ p, p < 8 → g p % 16 ≤ 4 ∧ g p / 16 ≤ 4) : pkL (L8 g) + pkL (L8 g) / 2 ^ 4 = pkL (L8 (fun p => (g p % 16 + g p / 16) + 16 * (g p / 16 + (if p < 7 then g (p + 1) % 16 else 0)))) := by
  rw [L8_sum, L8_sum]
  have h0 := h 0 (by omega)
  have h1 := h 1 (by omega)
  have h2 := h 2 (by omega)
  have h3 := h 3 (by omega)
  have h4 := h 4 (by omega)
  have h5 := h 5 (by omega)
  have h6 := h 6 (by omega)
  have h7 := h 7 (by omega)
  simp only [show (0 : Nat) < 7 by decide, show (1 : Nat) < 7 by decide, show (2 : Nat) < 7 by decide, show (3 : Nat) < 7 by decide, show (4 : Nat) < 7 by decide, show (5 : Nat) < 7 by decide, show (6 : Nat) < 7 by decide, show ¬ (7 : Nat) < 7 by decide, if_true, if_false, Nat.reduceAdd]
  omega
theorem fo_a {e0 e1 e2 e3 e4 e5 e6 e7 : Nat} (h0 : e0 < 256) : (e0 + 256 * e1 + 65536 * e2 + 16777216 * e3 + 4294967296 * e4 + 1099511627776 * e5 + 281474976710656 * e6 + 72057594037927936 * e7) / 2 ^ 8 = e1 + 256 * e2 + 65536 * e3 + 16777216 * e4 + 4294967296 * e5 + 1099511627776 * e6 + 281474976710656 * e7 := by omega
theorem fo_b {e0 e1 e2 e3 e4 e5 e6 e7 : Nat} (h0 : e0 < 256) (h1 : e1 < 256) : (e0 + 256 * e1 + 65536 * e2 + 16777216 * e3 + 4294967296 * e4 + 1099511627776 * e5 + 281474976710656 * e6 + 72057594037927936 * e7) / 2 ^ 16 = e2 + 256 * e3 + 65536 * e4 + 16777216 * e5 + 4294967296 * e6 + 1099511627776 * e7 := by omega
theorem fo_c {e0 e1 e2 e3 e4 e5 e6 e7 : Nat} (h0 : e0 < 256) (h1 : e1 < 256) (h2 : e2 < 256) (h3 : e3 < 256) : (e0 + 256 * e1 + 65536 * e2 + 16777216 * e3 + 4294967296 * e4 + 1099511627776 * e5 + 281474976710656 * e6 + 72057594037927936 * e7) / 2 ^ 32 = e4 + 256 * e5 + 65536 * e6 + 16777216 * e7 := by omega
theorem fo_d {e0 e1 e2 e3 e4 e5 e6 e7 : Nat} (h0 : e0 < 128) : (e0 + 256 * e1 + 65536 * e2 + 16777216 * e3 + 4294967296 * e4 + 1099511627776 * e5 + 281474976710656 * e6 + 72057594037927936 * e7) % 128 = e0 := by omega
theorem fo_e {e0 e1 e2 e3 e4 e5 e6 e7 : Nat} : (e0 + 256 * e1 + 65536 * e2 + 16777216 * e3 + 4294967296 * e4 + 1099511627776 * e5 + 281474976710656 * e6 + 72057594037927936 * e7) + (e1 + 256 * e2 + 65536 * e3 + 16777216 * e4 + 4294967296 * e5 + 1099511627776 * e6 + 281474976710656 * e7) = (e0 + e1) + 256 * (e1 + e2) + 65536 * (e2 + e3) + 16777216 * (e3 + e4) + 4294967296 * (e4 + e5) + 1099511627776 * (e5 + e6) + 281474976710656 * (e6 + e7) + 72057594037927936 * e7 := by omega
theorem fo_f {e0 e1 e2 e3 e4 e5 e6 e7 : Nat} : (e0 + 256 * e1 + 65536 * e2 + 16777216 * e3 + 4294967296 * e4 + 1099511627776 * e5 + 281474976710656 * e6 + 72057594037927936 * e7) + (e2 + 256 * e3 + 65536 * e4 + 16777216 * e5 + 4294967296 * e6 + 1099511627776 * e7) = (e0 + e2) + 256 * (e1 + e3) + 65536 * (e2 + e4) + 16777216 * (e3 + e5) + 4294967296 * (e4 + e6) + 1099511627776 * (e5 + e7) + 281474976710656 * e6 + 72057594037927936 * e7 := by omega
theorem fo_g {e0 e1 e2 e3 e4 e5 e6 e7 : Nat} : (e0 + 256 * e1 + 65536 * e2 + 16777216 * e3 + 4294967296 * e4 + 1099511627776 * e5 + 281474976710656 * e6 + 72057594037927936 * e7) + (e4 + 256 * e5 + 65536 * e6 + 16777216 * e7) = (e0 + e4) + 256 * (e1 + e5) + 65536 * (e2 + e6) + 16777216 * (e3 + e7) + 4294967296 * e4 + 1099511627776 * e5 + 281474976710656 * e6 + 72057594037927936 * e7 := by omega
theorem fo_l {e0 e1 e2 e3 e4 e5 e6 e7 : Nat} (h : e0 < 256 ∧ e1 < 256 ∧ e2 < 256 ∧ e3 < 256 ∧ e4 < 256 ∧ e5 < 256 ∧ e6 < 256 ∧ e7 < 256) : e0 + 256 * e1 + 65536 * e2 + 16777216 * e3 + 4294967296 * e4 + 1099511627776 * e5 + 281474976710656 * e6 + 72057594037927936 * e7 < 2 ^ 64 := by omega
theorem fold8 {e : Nat → Nat} (h : ∀ p, p < 8 → e p ≤ 8) {x4 x5 x6 : Nat} (h4 : x4 = pkL (L8 e) + pkL (L8 e) / 2 ^ 8) (h5 : x5 = x4 + x4 / 2 ^ 16) (h6 : x6 = x5 + x5 / 2 ^ 32) : x4 < 2 ^ 64 ∧ x5 < 2 ^ 64 ∧ x6 < 2 ^ 64 ∧ x6 % 128 = (e 0 + e 1 + (e 2 + e 3)) + (e 4 + e 5 + (e 6 + e 7)) := by
  have g0 := h 0 (by decide)
  have g1 := h 1 (by decide)
  have g2 := h 2 (by decide)
  have g3 := h 3 (by decide)
  have g4 := h 4 (by decide)
  have g5 := h 5 (by decide)
  have g6 := h 6 (by decide)
  have g7 := h 7 (by decide)
  clear h
  rw [L8_sum, fo_a (by clear h4 h5 h6; omega), fo_e] at h4
  rw [h4, fo_b (by clear h4 h5 h6; omega) (by clear h4 h5 h6; omega), fo_f] at h5
  rw [h5, fo_c (by clear h4 h5 h6; omega) (by clear h4 h5 h6; omega) (by clear h4 h5 h6; omega) (by clear h4 h5 h6; omega), fo_g] at h6
  refine ⟨by rw [h4]; exact fo_l ⟨by clear h4 h5 h6; omega, by clear h4 h5 h6; omega, by clear h4 h5 h6; omega, by clear h4 h5 h6; omega, by clear h4 h5 h6; omega, by clear h4 h5 h6; omega, by clear h4 h5 h6; omega, by clear h4 h5 h6; omega⟩, by rw [h5]; exact fo_l ⟨by clear h4 h5 h6; omega, by clear h4 h5 h6; omega, by clear h4 h5 h6; omega, by clear h4 h5 h6; omega, by clear h4 h5 h6; omega, by clear h4 h5 h6; omega, by clear h4 h5 h6; omega, by clear h4 h5 h6; omega⟩, by rw [h6]; exact fo_l ⟨by clear h4 h5 h6; omega, by clear h4 h5 h6; omega, by clear h4 h5 h6; omega, by clear h4 h5 h6; omega, by clear h4 h5 h6; omega, by clear h4 h5 h6; omega, by clear h4 h5 h6; omega, by clear h4 h5 h6; omega⟩, ?_⟩
  rw [h6, fo_d (by clear h4 h5 h6; omega)]
