/-! the reference's cells: 117 the object (its numbers v, by the place of the field), 118 to 138 its rows -/
def moL (v : Nat → Int32) : List Value := [.int (v 0), .ref 118, .ref 119, .ref 120, .ref 121, .int (v 5), .int (v 6), .int (v 7), .int (v 8), .int (v 9), .int (v 10), .int (v 11), .int (v 12), .int (v 13), .int (v 14), .int (v 15), .ref 122, .ref 123, .ref 124, .int (v 19), .int (v 20), .ref 125, .ref 126, .ref 127, .ref 128, .int (v 25), .ref 129, .ref 130, .ref 131, .ref 132, .ref 133, .int (v 31), .int (v 32), .int (v 33), .int (v 34), .ref 134, .ref 135, .int (v 37), .int (v 38), .ref 136, .ref 137, .ref 138]
abbrev mO (v : Nat → Int32) : va_E := .inr (10, moL v)
abbrev nA (a : Nat → Nat) : Nat → Int32 := fun k => nI (a k)
abbrev aI (n : Nat) (f : Nat → Int32) : va_E := .inl (0, n, .inl f)
abbrev aL (n : Nat) (f : Nat → Int64) : va_E := .inl (1, n, .inr (.inl f))
abbrev aB (n : Nat) (f : Nat → Int32) : va_E := .inl (2, n, .inl f)
abbrev aZ (n : Nat) (f : Nat → Int32) : va_E := .inl (3, n, .inl f)
theorem upd_nA (a : Nat → Nat) (j y : Nat) : upd (nA a) j (nI y) = nA (va_up a j y) := by
  funext k
  show (if k = j then nI y else nI (a k)) = nI (if k = j then y else a k)
  split <;> rfl
theorem nI_or (a b : Nat) : nI a ||| nI b = nI (a ||| b) := by
  apply Int32.toBitVec_inj.mp
  show BitVec.ofNat 32 a ||| BitVec.ofNat 32 b = BitVec.ofNat 32 (a ||| b)
  rw [BitVec.ofNat_or]
theorem nI_and (a b : Nat) : nI a &&& nI b = nI (a &&& b) := by
  apply Int32.toBitVec_inj.mp
  show BitVec.ofNat 32 a &&& BitVec.ofNat 32 b = BitVec.ofNat 32 (a &&& b)
  rw [BitVec.ofNat_and]
theorem or_mid {i j D c low : Nat} (h1 : low < 2 ^ i) (h2 : 2 ^ i * c + low < 2 ^ j) : (2 ^ j * D + low) ||| (2 ^ i * c) = 2 ^ j * D + (2 ^ i * c + low) := by
  have h3 : low < 2 ^ j := by omega
  rw [Nat.two_pow_add_eq_or_of_lt h3, Nat.or_assoc, Nat.or_comm low, ← Nat.two_pow_add_eq_or_of_lt h1, ← Nat.two_pow_add_eq_or_of_lt h2]
/-- how the reference numbers a stand: the depth, and a cell in three bits each -/
def packC (a : Nat → Nat) : Nat → Nat
  | 0 => 0
  | k + 1 => 8 ^ k * a (22 + k) + packC a k
def packS (a : Nat → Nat) : Nat := 4096 * a 26 + packC a (a 3)
theorem packC_lt {a : Nat → Nat} (ha : ∀ g, g < 4 → a (22 + g) ≤ 7) : ∀ k, k ≤ 4 → packC a k < 8 ^ k := by
  intro k
  induction k with
  | zero => intro _; show 0 < 1; omega
  | succ k ih =>
    intro hk
    have h1 := ih (by omega)
    have h2 := ha k (by omega)
    have h3 : 8 ^ k * a (22 + k) ≤ 8 ^ k * 7 := Nat.mul_le_mul_left _ h2
    rw [packC, Nat.pow_succ]
    omega
theorem shl3 (n k : Nat) (hk : k < 4) (hn : n < 4096) : nI n <<< ((3 * nI k) &&& 31) = nI (8 ^ k * n) := by
  match k, hk with
  | 0, _ => rw [pk_shlN _ 0 (by decide) (by omega)]; congr 1; omega
  | 1, _ => rw [pk_shlN _ 3 (by decide) (by omega)]; congr 1; omega
  | 2, _ => rw [pk_shlN _ 6 (by decide) (by omega)]; congr 1; omega
  | 3, _ => rw [pk_shlN _ 9 (by decide) (by omega)]; congr 1; omega
theorem shl1 (k : Nat) (hk : k < 31) : (1 : Int32) <<< (nI k &&& 31) = nI (2 ^ k) := by
  have h1 : ∀ k, k < 31 → ((1 : Int32) <<< (nI k &&& 31)) = nI (2 ^ k) := by decide +kernel
  exact h1 k hk
theorem cellN {s k : Nat} (hs : s < 2 ^ 31) (hk : k < 4) : ((nI s >>> ((3 * nI k) &&& 31)) &&& 7) = nI (s / 8 ^ k % 8) := by
  match k, hk with
  | 0, _ => rw [pk_shrN hs _ 0 (by decide), pk_andN (by omega) 3 (by decide)]
  | 1, _ => rw [pk_shrN hs _ 3 (by decide), pk_andN (by omega) 3 (by decide)]
  | 2, _ => rw [pk_shrN hs _ 6 (by decide), pk_andN (by omega) 3 (by decide)]
  | 3, _ => rw [pk_shrN hs _ 9 (by decide), pk_andN (by omega) 3 (by decide)]
theorem depthN {s : Nat} (hs : s < 2 ^ 31) : (nI s >>> ((12 : Int32) &&& 31)) = nI (s / 4096) := by
  rw [pk_shrN hs _ 12 (by decide)]
theorem pm1 {G : Nat} (h : 1 ≤ G) : nI G - 1 = nI (G - 1) := by
  have := pk_sub (a := G) (b := 1) h
  exact this
theorem i2l_nI {n : Nat} (h : n < 2 ^ 31) : (nI n).toInt64 = lN n := nI_l h
