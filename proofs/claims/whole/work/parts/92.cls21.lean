/-! the class: ways, pure -/
theorem bit256 : ∀ x, x < 256 → ∀ k, k < 8 → (nI x >>> (nI k &&& 31)) &&& 1 = nI (x.testBit k).toNat := by decide +kernel
def FM (b : Nat → Int32) (P fm : Nat) : Prop := fm < 256 ∧ (∀ q, P ≤ q → fm.testBit q = false) ∧ ∀ q, q < P → (fm.testBit q = true ↔ b q = -1)
theorem FM.zero {b : Nat → Int32} {P : Nat} (h : FM b P 0) : ∀ q, q < P → b q ≠ -1 := fun q hq z => by
  have := (h.2.2 q hq).mpr z
  simp at this
theorem FM.some {b : Nat → Int32} {P fm : Nat} (h : FM b P fm) (hz : fm ≠ 0) : ∃ q, q < P ∧ b q = -1 := by
  by_cases e : ∃ q, fm.testBit q = true
  · obtain ⟨q, hq⟩ := e
    by_cases w : q < P
    · exact ⟨q, w, (h.2.2 q w).mp hq⟩
    · rw [h.2.1 q (by omega)] at hq; exact absurd hq (by decide)
  · exact absurd (Nat.eq_of_testBit_eq (fun i => by rw [Nat.zero_testBit]; cases w : fm.testBit i with | false => rfl | true => exact absurd ⟨i, w⟩ e)) hz
theorem FM.clr {b : Nat → Int32} {P fm p : Nat} {v : Int32} (h : FM b P fm) (hP : P ≤ 8) (hp : p < P) (hv : v ≠ -1) : FM (upd b p v) P (clrB fm p) := by
  refine ⟨clrB_lt _ _ h.1, fun q hq => ?_, fun q hq => ?_⟩
  · have e := h.2.1 q hq
    unfold clrB
    rw [Nat.testBit_and, e]; rfl
  · rw [clrB_bit (by omega) (by omega)]
    show _ ↔ (if q = p then v else b q) = -1
    by_cases w : q = p
    · rw [if_pos w, w]; simp [hv]
    · rw [if_neg w, ← h.2.2 q hq]
      have w2 : ¬ p = q := fun z => w z.symm
      simp [w2]
theorem fstF {b : Nat → Int32} : ∀ (m p : Nat), (∃ q, p ≤ q ∧ q < p + m ∧ b q = -1) → ∃ j, j < m ∧ b (p + j) = -1 ∧ ∀ i, i < j → b (p + i) ≠ -1
  | 0, p, ⟨q, h1, h2, _⟩ => by omega
  | m + 1, p, ⟨q, h1, h2, h3⟩ => by
    by_cases e : b p = -1
    · exact ⟨0, by omega, e, fun i hi => by omega⟩
    · have hq : q ≠ p := fun z => e (z ▸ h3)
      obtain ⟨j, j1, j2, j3⟩ := fstF m (p + 1) ⟨q, by omega, by omega, h3⟩
      refine ⟨j + 1, by omega, by rw [show p + (j + 1) = p + 1 + j by omega]; exact j2, fun i hi => ?_⟩
      match i with
      | 0 => exact e
      | i + 1 => rw [show p + (i + 1) = p + 1 + i by omega]; exact j3 i (by omega)
theorem wl_skip {a : FR} {l : Nat} {b : Nat → Int32} {m : Nat} : ∀ (j p : Nat), (∀ i, i < j → b (p + i) ≠ -1) → wl a (m + j) p l b = wl a m (p + j) l b
  | 0, p, _ => rfl
  | j + 1, p, h => by
    rw [show m + (j + 1) = (m + j) + 1 by omega, wl, if_pos (show b p ≠ -1 from h 0 (by omega)), wl_skip j (p + 1) (fun i hi => by rw [show p + 1 + i = p + (i + 1) by omega]; exact h (i + 1) (by omega)), show p + 1 + j = p + (j + 1) by omega]
theorem wl_full {a : FR} {l : Nat} {b : Nat → Int32} {m p : Nat} (h : ∀ i, i < m → b (p + i) ≠ -1) : wl a m p l b = [b] := by
  have := wl_skip (a := a) (l := l) (m := 0) m p h
  rw [Nat.zero_add] at this
  rw [this, wl]
def SW (pe n : Nat) (f tg : Nat → Int32) (L : List (Nat → Int32)) (n2 : Nat) (f2 tg2 : Nat → Int32) : Prop := n2 = n + L.length ∧ (∀ p, p < pe → f2 p = if n = 0 ∧ L.length ≠ 0 then nself (headL L p) (nI p) else f p) ∧ (∀ p, p < pe → tg2 (8 * p + p) = tg (8 * p + p)) ∧ ∀ p q, p < pe → q < pe → p ≠ q → tg2 (8 * p + q) = tg (8 * p + q) + nI (L.countP (wP (nI p) (nI q))) 
theorem SW.nil {pe n : Nat} {f tg : Nat → Int32} : SW pe n f tg [] n f tg := ⟨rfl, fun p hp => by rw [if_neg (fun z => z.2 rfl)], fun _ _ => rfl, fun p q _ _ _ => (Int32.add_zero _).symm⟩
theorem nIa (a b : Nat) : nI a + nI b = nI (a + b) := nI_add a b
theorem SW.app {pe n n1 n2 : Nat} {f tg f1 tg1 f2 tg2 : Nat → Int32} {L M : List (Nat → Int32)} (x : SW pe n f tg L n1 f1 tg1) (y : SW pe n1 f1 tg1 M n2 f2 tg2) : SW pe n f tg (L ++ M) n2 f2 tg2 := by
  obtain ⟨x1, x2, x4, x3⟩ := x
  obtain ⟨y1, y2, y4, y3⟩ := y
  refine ⟨by rw [y1, x1, List.length_append]; omega, fun p hp => ?_, fun p hp => (y4 p hp).trans (x4 p hp), fun p q hp hq hpq => ?_⟩
  · rw [y2 p hp, x2 p hp]
    cases L with
    | nil =>
      rw [x1]
      simp
    | cons c L =>
      rw [if_neg (fun z => by have := z.1; rw [x1] at this; simp at this)]
      by_cases hn : n = 0
      · rw [if_pos ⟨hn, by simp⟩, if_pos ⟨hn, by simp⟩]; rfl
      · rw [if_neg (fun z => hn z.1), if_neg (fun z => hn z.1)]
  · rw [y3 p q hp hq hpq, x3 p q hp hq hpq, List.countP_append, Int32.add_assoc, nIa]
def PAr (b pa : Nat → Int32) (pe : Nat) : Prop := ∀ q, q < pe → b q ≠ -1 → pa q = nself (b q) (nI q) ∧ ∃ r, r < pe ∧ b q = nI r
theorem SW.one {pe n : Nat} {f tg fk tk b pa : Nat → Int32} (h8 : pe ≤ 8) (hP : PAr b pa pe) (hb : ∀ q, q < pe → b q ≠ -1) (hf : ∀ p, fk p = if p < pe ∧ n = 0 then pa p else f p) (ht : ∀ p q, q < 8 → tk (8 * p + q) = tg (8 * p + q) + (if p < pe ∧ pa p = nI q then (1 : Int32) else 0)) : SW pe n f tg [b] (n + 1) fk tk := by
  refine ⟨rfl, fun p hp => ?_, fun p hp => ?_, fun p q hp hq hpq => ?_⟩
  rotate_left
  · rw [ht p p (by omega), if_neg (fun z => ?_), Int32.add_zero]
    have z2 := z.2
    rw [(hP p hp (hb p hp)).1] at z2
    unfold nself at z2
    by_cases w : b p = nI p
    · rw [if_pos w] at z2; exact absurd z2 (nI_m1 (by omega))
    · rw [if_neg w] at z2; exact w z2
  rotate_left
  · rw [hf p]
    by_cases hn : n = 0
    · rw [if_pos ⟨hp, hn⟩, if_pos ⟨hn, by simp⟩, (hP p hp (hb p hp)).1]; rfl
    · rw [if_neg (fun z => hn z.2), if_neg (fun z => hn z.1)]
  · rw [ht p q (by omega)]
    have e1 : (p < pe ∧ pa p = nI q) ↔ b p = nI q := by
      rw [(hP p hp (hb p hp)).1]
      unfold nself
      by_cases w : b p = nI p
      · rw [if_pos w, w]
        constructor
        · intro z; exact absurd z.2 (nI_m1 (by omega))
        · intro z; exact absurd ((nI_eq (by omega) (by omega)).mp z) hpq
      · rw [if_neg w]; exact ⟨fun z => z.2, fun z => ⟨hp, z⟩⟩
    have e2 : wP (nI p) (nI q) b = decide (b p = nI q) := by
      unfold wP
      rw [nI_clamp (by omega)]
      have : ¬ nI p = -1 := fun z => nI_m1 (q := p) (by omega) z.symm
      simp [this]
    congr 1
    rw [List.countP_cons, List.countP_nil, e2]
    by_cases w : b p = nI q
    · rw [if_pos (e1.mpr w), if_pos (by simp [w])]; rfl
    · rw [if_neg (fun z => w (e1.mp z)), if_neg (by simp [w])]; rfl
