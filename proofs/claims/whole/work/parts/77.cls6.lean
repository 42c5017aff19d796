/-! hints in long numbers -/
theorem lN_or (a b : Nat) : lN a ||| lN b = lN (a ||| b) := by
  apply Int64.toBitVec_inj.mp
  rw [Int64.toBitVec_or]
  show BitVec.ofNat 64 a ||| BitVec.ofNat 64 b = BitVec.ofNat 64 (a ||| b)
  apply BitVec.eq_of_getLsbD_eq
  intro i hi
  simp [hi]
theorem lN_and (a b : Nat) : lN a &&& lN b = lN (a &&& b) := by
  apply Int64.toBitVec_inj.mp
  rw [Int64.toBitVec_and]
  show BitVec.ofNat 64 a &&& BitVec.ofNat 64 b = BitVec.ofNat 64 (a &&& b)
  apply BitVec.eq_of_getLsbD_eq
  intro i hi
  simp [hi]
theorem lN_xor (a b : Nat) : lN a ^^^ lN b = lN (a ^^^ b) := by
  apply Int64.toBitVec_inj.mp
  rw [Int64.toBitVec_xor]
  show BitVec.ofNat 64 a ^^^ BitVec.ofNat 64 b = BitVec.ofNat 64 (a ^^^ b)
  apply BitVec.eq_of_getLsbD_eq
  intro i hi
  simp [hi]
theorem lN_m1 : (-1 : Int64) = lN (2 ^ 64 - 1) := by decide +kernel
theorem shl64 : ∀ k, k < 64 → (1 : Int64) <<< ((nI k).toInt64 &&& 63) = lN (2 ^ k) := by decide +kernel
theorem pk_step {x y : Nat} (hx : x < 256) (j : Nat) : (x + 256 * y).testBit j = if j < 8 then x.testBit j else y.testBit (j - 8) := by
  have := Nat.testBit_two_pow_mul_add (i := 8) y hx j
  rw [← this]
  congr 1
  omega
theorem pkL_bit : ∀ (L : List Nat), (∀ x ∈ L, x < 256) → ∀ p q, q < 8 → (pkL L).testBit (8 * p + q) = (L.getD p 0).testBit q
  | [], _, p, q, _ => by simp [pkL]
  | x :: L, h, p, q, hq => by
    unfold pkL
    rw [pk_step (h x List.mem_cons_self)]
    match p with
    | 0 => rw [if_pos (by omega), show 8 * 0 + q = q by omega]; rfl
    | p + 1 => rw [if_neg (by omega), show 8 * (p + 1) + q - 8 = 8 * p + q by omega, pkL_bit L (fun y hy => h y (List.mem_cons_of_mem _ hy)) p q hq]; rfl
theorem pkL_lt : ∀ (L : List Nat), (∀ x ∈ L, x < 256) → pkL L < 256 ^ L.length
  | [], _ => by decide
  | x :: L, h => by
    have h1 := pkL_lt L (fun y hy => h y (List.mem_cons_of_mem _ hy))
    have h2 := h x List.mem_cons_self
    unfold pkL
    rw [List.length_cons, Nat.pow_succ]
    omega
abbrev L8 (f : Nat → Nat) : List Nat := [f 0, f 1, f 2, f 3, f 4, f 5, f 6, f 7]
theorem L8_mem {f : Nat → Nat} (h : ∀ p, p < 8 → f p < 256) : ∀ x ∈ L8 f, x < 256 := by
  intro x hx
  simp only [L8, List.mem_cons, List.not_mem_nil, or_false] at hx
  rcases hx with rfl | rfl | rfl | rfl | rfl | rfl | rfl | rfl <;> exact h _ (by decide)
theorem L8_bit {f : Nat → Nat} (h : ∀ p, p < 8 → f p < 256) {p q : Nat} (hp : p < 8) (hq : q < 8) : (pkL (L8 f)).testBit (8 * p + q) = (f p).testBit q := by
  rw [pkL_bit _ (L8_mem h) p q hq]
  match p, hp with
  | 0, _ => rfl
  | 1, _ => rfl
  | 2, _ => rfl
  | 3, _ => rfl
  | 4, _ => rfl
  | 5, _ => rfl
  | 6, _ => rfl
  | 7, _ => rfl
theorem L8_lt {f : Nat → Nat} (h : ∀ p, p < 8 → f p < 256) : pkL (L8 f) < 2 ^ 64 := by
  have := pkL_lt _ (L8_mem h)
  rw [show (L8 f).length = 8 from rfl, show (256 : Nat) ^ 8 = 2 ^ 64 by decide] at this
  exact this
theorem L8_ext {x : Nat} {f : Nat → Nat} (hx : x < 2 ^ 64) (h : ∀ p, p < 8 → f p < 256) (e : ∀ p q, p < 8 → q < 8 → x.testBit (8 * p + q) = (f p).testBit q) : x = pkL (L8 f) := by
  apply Nat.eq_of_testBit_eq
  intro i
  by_cases hi : i < 64
  · have e1 := e (i / 8) (i % 8) (by omega) (by omega)
    have e2 := L8_bit h (p := i / 8) (q := i % 8) (by omega) (by omega)
    rw [show 8 * (i / 8) + i % 8 = i by omega] at e1 e2
    rw [e1, e2]
  · rw [Nat.testBit_lt_two_pow (Nat.lt_of_lt_of_le hx (Nat.pow_le_pow_right (by decide) (by omega))), Nat.testBit_lt_two_pow (Nat.lt_of_lt_of_le (L8_lt h) (Nat.pow_le_pow_right (by decide) (by omega)))]
def hOr (f : Nat → Nat) (p q : Nat) : Nat → Nat := fun r => if r = p then f p ||| 2 ^ q else if r = q then f q ||| 2 ^ p else f r
def hCl (f : Nat → Nat) (p q : Nat) : Nat → Nat := fun r => if r = p then clrB (f p) q else if r = q then clrB (f q) p else f r
theorem pair_bit {p q r t : Nat} (hp : p < 8) (hq : q < 8) (hr : r < 8) (ht : t < 8) : (2 ^ (8 * p + q) ||| 2 ^ (8 * q + p)).testBit (8 * r + t) = (decide (r = p ∧ t = q) || decide (r = q ∧ t = p)) := by
  rw [Nat.testBit_or, Nat.testBit_two_pow, Nat.testBit_two_pow]
  congr 1
  · exact decide_eq_decide.mpr (by omega)
  · exact decide_eq_decide.mpr (by omega)
theorem pair_lt {p q : Nat} (hp : p < 8) (hq : q < 8) : 2 ^ (8 * p + q) ||| 2 ^ (8 * q + p) < 2 ^ 64 := Nat.or_lt_two_pow (Nat.pow_lt_pow_right (by decide) (by omega)) (Nat.pow_lt_pow_right (by decide) (by omega))
theorem or_pair {f : Nat → Nat} {p q : Nat} (h : ∀ p, p < 8 → f p < 256) (hp : p < 8) (hq : q < 8) (hpq : p ≠ q) : pkL (L8 f) ||| (2 ^ (8 * p + q) ||| 2 ^ (8 * q + p)) = pkL (L8 (hOr f p q)) := by
  refine L8_ext (Nat.or_lt_two_pow (L8_lt h) (pair_lt hp hq)) (fun r hr => ?_) (fun r t hr ht => ?_)
  · unfold hOr
    (repeat' split)
    · exact setB_lt _ (h p hp) q hq
    · exact setB_lt _ (h q hq) p hp
    · exact h r hr
  · rw [Nat.testBit_or, L8_bit h hr ht, pair_bit hp hq hr ht]
    unfold hOr
    by_cases e1 : r = p
    · subst e1
      rw [if_pos rfl, Nat.testBit_or, Nat.testBit_two_pow]
      congr 1
      rw [show decide (r = q ∧ t = r) = false from decide_eq_false (fun z => hpq z.1), Bool.or_false]
      exact decide_eq_decide.mpr ⟨fun z => z.2.symm, fun z => ⟨rfl, z.symm⟩⟩
    · rw [if_neg e1]
      by_cases e2 : r = q
      · subst e2
        rw [if_pos rfl, Nat.testBit_or, Nat.testBit_two_pow]
        congr 1
        rw [show decide (r = p ∧ t = r) = false from decide_eq_false (fun z => e1 z.1), Bool.false_or]
        exact decide_eq_decide.mpr ⟨fun z => z.2.symm, fun z => ⟨rfl, z.symm⟩⟩
      · rw [if_neg e2, show decide (r = p ∧ t = q) = false from decide_eq_false (fun z => e1 z.1), show decide (r = q ∧ t = p) = false from decide_eq_false (fun z => e2 z.1), Bool.or_false, Bool.or_false]
theorem clrB_bit {x q t : Nat} (hq : q < 8) (ht : t < 8) : (clrB x q).testBit t = (x.testBit t && !decide (q = t)) := by
  unfold clrB
  rw [Nat.testBit_and, Nat.testBit_xor, Nat.testBit_two_pow]
  have : ∀ t, t < 8 → (255 : Nat).testBit t = true := by decide
  rw [this t ht, Bool.true_xor]
theorem ones_bit {i : Nat} (hi : i < 64) : (2 ^ 64 - 1).testBit i = true := by
  rw [Nat.testBit_two_pow_sub_one]
  exact decide_eq_true hi
theorem cl_pair {f : Nat → Nat} {p q : Nat} (h : ∀ p, p < 8 → f p < 256) (hp : p < 8) (hq : q < 8) (hpq : p ≠ q) : pkL (L8 f) &&& ((2 ^ (8 * p + q) ||| 2 ^ (8 * q + p)) ^^^ (2 ^ 64 - 1)) = pkL (L8 (hCl f p q)) := by
  refine L8_ext (Nat.lt_of_le_of_lt Nat.and_le_left (L8_lt h)) (fun r hr => ?_) (fun r t hr ht => ?_)
  · unfold hCl
    (repeat' split)
    · exact clrB_lt _ _ (h p hp)
    · exact clrB_lt _ _ (h q hq)
    · exact h r hr
  · rw [Nat.testBit_and, Nat.testBit_xor, L8_bit h hr ht, pair_bit hp hq hr ht, ones_bit (by omega), Bool.xor_true]
    unfold hCl
    by_cases e1 : r = p
    · subst e1
      rw [if_pos rfl, clrB_bit hq ht]
      congr 2
      rw [show decide (r = q ∧ t = r) = false from decide_eq_false (fun z => hpq z.1), Bool.or_false]
      exact decide_eq_decide.mpr ⟨fun z => z.2.symm, fun z => ⟨rfl, z.symm⟩⟩
    · rw [if_neg e1]
      by_cases e2 : r = q
      · subst e2
        rw [if_pos rfl, clrB_bit hp ht]
        congr 2
        rw [show decide (r = p ∧ t = r) = false from decide_eq_false (fun z => e1 z.1), Bool.false_or]
        exact decide_eq_decide.mpr ⟨fun z => z.2.symm, fun z => ⟨rfl, z.symm⟩⟩
      · rw [if_neg e2, show decide (r = p ∧ t = q) = false from decide_eq_false (fun z => e1 z.1), show decide (r = q ∧ t = p) = false from decide_eq_false (fun z => e2 z.1)]
        simp
theorem bL_eq (k : Nat → Nat) (o : Nat) : bL k o = lN (pkL (L8 (fun r => k (o + r)))) := rfl
theorem L8_congr {f g : Nat → Nat} (h : ∀ r, r < 8 → f r = g r) : L8 f = L8 g := by
  unfold L8
  rw [h 0 (by decide), h 1 (by decide), h 2 (by decide), h 3 (by decide), h 4 (by decide), h 5 (by decide), h 6 (by decide), h 7 (by decide)]
abbrev pairL (p q : Nat) : Int64 := lN (2 ^ (8 * p + q) ||| 2 ^ (8 * q + p))
theorem hint_sd {a : FR} {p q i : Nat} (hA : AIN a) (hp : p < 8) (hq : q < 8) (hpq : p ≠ q) (hi : i < 2) : sdL (keepV (hintN a p q i)) = [.int (nI (tow (keepV a))), .int (nI (a 26)), .long (if i = 1 then bL (keepV a) 7 ||| pairL p q else bL (keepV a) 7 &&& (pairL p q ^^^ -1)), .long (if i = 1 then bL (keepV a) 15 &&& (pairL p q ^^^ -1) else bL (keepV a) 15 ||| pairL p q), .int (nI (a 27)), .int (nI (a 28))] := by
  have o : ∀ k, k < 29 → hintN a p q i k = a k := fun k hk => hintN_out hp hq (Or.inl hk)
  have hb7 : ∀ r, r < 8 → keepV a (7 + r) < 256 := fun r hr => by show a (22 + (7 + r)) < 256; rw [show 22 + (7 + r) = 29 + r by omega]; exact hA.bd r hr
  have hb15 : ∀ r, r < 8 → keepV a (15 + r) < 256 := fun r hr => by show a (22 + (15 + r)) < 256; rw [show 22 + (15 + r) = 37 + r by omega]; exact hA.ub r hr
  have k7 : ∀ r, r < 8 → keepV (hintN a p q i) (7 + r) = (if i = 1 then hOr (fun r => keepV a (7 + r)) p q r else hCl (fun r => keepV a (7 + r)) p q r) := fun r hr => by
    show hintN a p q i (22 + (7 + r)) = _
    rw [show 22 + (7 + r) = 29 + r by omega]
    have e : ∀ r, keepV a (7 + r) = a (29 + r) := fun r => by show a (22 + (7 + r)) = _; rw [show 22 + (7 + r) = 29 + r by omega]
    unfold hOr hCl hintN
    simp only [e]
    by_cases e1 : r = p
    · subst e1
      rw [va_up_ne _ _ (by omega), va_up_ne _ _ (by omega), va_up_ne _ _ (by omega), va_up_self, if_pos rfl, if_pos rfl]
    · by_cases e2 : r = q
      · subst e2
        rw [va_up_ne _ _ (by omega), va_up_self, if_neg e1, if_neg e1, if_pos rfl, if_pos rfl]
      · rw [va_up_ne _ _ (by omega), va_up_ne _ _ (by omega), va_up_ne _ _ (by omega), va_up_ne _ _ (by omega), if_neg e1, if_neg e1, if_neg e2, if_neg e2, ite_self]
  have k15 : ∀ r, r < 8 → keepV (hintN a p q i) (15 + r) = (if i = 1 then hCl (fun r => keepV a (15 + r)) p q r else hOr (fun r => keepV a (15 + r)) p q r) := fun r hr => by
    show hintN a p q i (22 + (15 + r)) = _
    rw [show 22 + (15 + r) = 37 + r by omega]
    have e : ∀ r, keepV a (15 + r) = a (37 + r) := fun r => by show a (22 + (15 + r)) = _; rw [show 22 + (15 + r) = 37 + r by omega]
    unfold hOr hCl hintN
    simp only [e]
    by_cases e1 : r = p
    · subst e1
      rw [va_up_ne _ _ (by omega), va_up_ne _ _ (by omega), va_up_self, if_pos rfl, if_pos rfl]
    · by_cases e2 : r = q
      · subst e2
        rw [va_up_self, if_neg e1, if_neg e1, if_pos rfl, if_pos rfl]
      · rw [va_up_ne _ _ (by omega), va_up_ne _ _ (by omega), va_up_ne _ _ (by omega), va_up_ne _ _ (by omega), if_neg e1, if_neg e1, if_neg e2, if_neg e2, ite_self]
  have t : tow (keepV (hintN a p q i)) = tow (keepV a) := by
    show hintN a p q i 22 + 7 * hintN a p q i 23 + 49 * hintN a p q i 24 + 343 * hintN a p q i 25 = _
    rw [o 22 (by omega), o 23 (by omega), o 24 (by omega), o 25 (by omega)]
    rfl
  have e4 : keepV (hintN a p q i) 4 = a 26 := o 26 (by omega)
  have e5 : keepV (hintN a p q i) 5 = a 27 := o 27 (by omega)
  have e6 : keepV (hintN a p q i) 6 = a 28 := o 28 (by omega)
  unfold sdL
  rw [t, e4, e5, e6, bL_eq (keepV (hintN a p q i)), bL_eq (keepV (hintN a p q i)), L8_congr k7, L8_congr k15, bL_eq, bL_eq, lN_m1, lN_xor, lN_and, lN_and, lN_or, lN_or, or_pair hb7 hp hq hpq, or_pair hb15 hp hq hpq, cl_pair hb7 hp hq hpq, cl_pair hb15 hp hq hpq]
  by_cases h1 : i = 1
  · simp only [if_pos h1]
  · simp only [if_neg h1]
