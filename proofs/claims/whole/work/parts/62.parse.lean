/-! reading, without the machine: what stands behind a place p of the text (a token is looked at, none of it is eaten), or a fault and its place -/
abbrev PX (α : Type) : Type := Except (Nat × Nat) (Nat × α)
def bnd {α : Type} (x : PX α) (F : Nat → α → PX α) : PX α := match x with
  | .ok (p, L) => F p L
  | .error e => .error e
theorem bnd_ok {α : Type} (p : Nat) (L : α) (F : Nat → α → PX α) : bnd (.ok (p, L)) F = F p L := rfl
theorem bnd_err {α : Type} (e : Nat × Nat) (F : Nat → α → PX α) : bnd (.error e) F = .error e := rfl
def pFl {α : Type} (tp : Nat → Nat) (n f p : Nat) : PX α := .error (if lxK tp n p = 26 then 1 else f, lxS tp n p)
def pNx {α : Type} (tp : Nat → Nat) (n p : Nat) (L : α) : PX α := .ok (lxE tp n p, L)
def pEat {α : Type} (tp : Nat → Nat) (n k p : Nat) (L : α) : PX α := if lxK tp n p = k then pNx tp n p L else pFl tp n 2 p
def pIn {α : Type} (tp : Nat → Nat) (n b p : Nat) (L : α) : PX α := if b = 0 then pFl tp n 4 p else pNx tp n p L
def isX {α : Type} (tp : Nat → Nat) (n : Nat) (x : PX α) (k : Nat) : Prop := match x with
  | .ok (p, _) => lxK tp n p = k
  | .error _ => False
abbrev PF : Type := Nat → List Nat → PX (List Nat)
def pCo (c : Nat) : PF := fun p L => .ok (p, L ++ [c])
def wordN (rd k : Nat) : Nat := if k = 11 then 0 else if k = 2 then 1 else if rd = 1 then (if k = 10 then 6 else if k = 18 then 7 else if k = 19 then 8 else 9) else (if k = 3 then 2 else if k = 4 then 3 else if k = 6 then 4 else if k = 17 then 5 else 9)
def pIf (tp : Nat → Nat) (n b : Nat) (S T : PF) : PF := fun p L => bnd (bnd (bnd (bnd (bnd (bnd (bnd (pIn tp n b p L) T) (pEat tp n 14)) S) (pEat tp n 15)) S) (pEat tp n 16)) (pCo 3009)
def pAtom (tp : Nat → Nat) (n rd b : Nat) (S T : PF) : PF := fun p L =>
  if lxK tp n p = 24 then pNx tp n p (L ++ [lxN tp n p])
  else if wordN rd (lxK tp n p) < 9 then pNx tp n p (L ++ [1000 + wordN rd (lxK tp n p)])
  else if lxK tp n p = 35 then bnd (bnd (pIn tp n b p L) S) (pEat tp n 36)
  else if lxK tp n p = 13 then pIf tp n b S T p L
  else pFl tp n 2 p
/-- again and again: a sign or word k, then A, then the code c -/
def pRep (tp : Nat → Nat) (n k c : Nat) (A : PF) : Nat → PF
  | 0 => fun p L => .ok (p, L)
  | m + 1 => fun p L => if lxK tp n p = k then bnd (bnd (bnd (pNx tp n p L) A) (pCo c)) (pRep tp n k c A m) else .ok (p, L)
def pAdd (tp : Nat → Nat) (n : Nat) (A : PF) : Nat → PF
  | 0 => fun p L => .ok (p, L)
  | m + 1 => fun p L => if lxK tp n p = 32 ∨ lxK tp n p = 33 then bnd (bnd (bnd (pNx tp n p L) A) (pCo (if lxK tp n p = 32 then 3000 else 3001))) (pAdd tp n A m) else .ok (p, L)
def pTerm (tp : Nat → Nat) (n : Nat) (A : PF) : PF := fun p L => bnd (A p L) (pRep tp n 34 3002 A 901)
def pSum (tp : Nat → Nat) (n : Nat) (A : PF) : PF := fun p L => bnd (pTerm tp n A p L) (pAdd tp n (pTerm tp n A) 901)
def cmpC (k : Nat) : Nat := if k = 39 then 3003 else if k = 40 then 3004 else 3005
def pCmp (tp : Nat → Nat) (n : Nat) : PF := fun p L => if lxK tp n p = 39 ∨ lxK tp n p = 40 ∨ lxK tp n p = 41 then pNx tp n p L else pFl tp n 2 p
def pOrd (tp : Nat → Nat) (n : Nat) (S : PF) : PF := fun p L => bnd (bnd (pCmp tp n p L) S) (pCo (cmpC (lxK tp n p)))
def pUnit (tp : Nat → Nat) (n b : Nat) (S T U : PF) : PF := fun p L =>
  if lxK tp n p = 22 then bnd (bnd (pIn tp n b p L) U) (pCo 3006)
  else if lxK tp n p = 37 then bnd (bnd (pIn tp n b p L) T) (pEat tp n 38)
  else bnd (S p L) (pOrd tp n S)
def pBoth (tp : Nat → Nat) (n : Nat) (U : PF) : PF := fun p L => bnd (U p L) (pRep tp n 20 3007 U 901)
def pTruth (tp : Nat → Nat) (n : Nat) (U : PF) : PF := fun p L => bnd (pBoth tp n U p L) (pRep tp n 21 3008 (pBoth tp n U) 901)
/-- what may stand b deep within: sum, truth, unit -/
def lvl (tp : Nat → Nat) (n rd : Nat) : Nat → PF × PF × PF
  | 0 => (pSum tp n (pAtom tp n rd 0 (pNx tp n) (pNx tp n)), pTruth tp n (pUnit tp n 0 (pSum tp n (pAtom tp n rd 0 (pNx tp n) (pNx tp n))) (pNx tp n) (pNx tp n)), pUnit tp n 0 (pSum tp n (pAtom tp n rd 0 (pNx tp n) (pNx tp n))) (pNx tp n) (pNx tp n))
  | b + 1 => (pSum tp n (pAtom tp n rd (b + 1) (lvl tp n rd b).1 (lvl tp n rd b).2.1), pTruth tp n (pUnit tp n (b + 1) (pSum tp n (pAtom tp n rd (b + 1) (lvl tp n rd b).1 (lvl tp n rd b).2.1)) (lvl tp n rd b).2.1 (lvl tp n rd b).2.2), pUnit tp n (b + 1) (pSum tp n (pAtom tp n rd (b + 1) (lvl tp n rd b).1 (lvl tp n rd b).2.1)) (lvl tp n rd b).2.1 (lvl tp n rd b).2.2)
def sub1 (tp : Nat → Nat) (n rd : Nat) : Nat → PF
  | 0 => pNx tp n
  | b + 1 => (lvl tp n rd b).1
def sub2 (tp : Nat → Nat) (n rd : Nat) : Nat → PF
  | 0 => pNx tp n
  | b + 1 => (lvl tp n rd b).2.1
def sub3 (tp : Nat → Nat) (n rd : Nat) : Nat → PF
  | 0 => pNx tp n
  | b + 1 => (lvl tp n rd b).2.2
def lvA (tp : Nat → Nat) (n rd b : Nat) : PF := pAtom tp n rd b (sub1 tp n rd b) (sub2 tp n rd b)
theorem lvl_S (tp : Nat → Nat) (n rd b : Nat) : (lvl tp n rd b).1 = pSum tp n (lvA tp n rd b) := by cases b <;> rfl
theorem lvl_U (tp : Nat → Nat) (n rd b : Nat) : (lvl tp n rd b).2.2 = pUnit tp n b (lvl tp n rd b).1 (sub2 tp n rd b) (sub3 tp n rd b) := by cases b <;> rfl
theorem lvl_T (tp : Nat → Nat) (n rd b : Nat) : (lvl tp n rd b).2.1 = pTruth tp n (lvl tp n rd b).2.2 := by cases b <;> rfl
/-! places only grow, and no more codes are laid than there are signs -/
def IV (n c q : Nat) (x : PX (List Nat)) : Prop := match x with
  | .ok (p, L) => q ≤ p ∧ p ≤ n ∧ c + L.length ≤ p
  | .error (w, a) => 1 ≤ w ∧ w ≤ 4 ∧ a ≤ n
def Good (n : Nat) (F : PF) : Prop := ∀ c q p L, IV n c q (.ok (p, L)) → IV n c q (F p L)
theorem lxS_le (tp : Nat → Nat) (n p : Nat) : p ≤ lxS tp n p := scan_le _ _ _ _ _
theorem lxS_n {tp : Nat → Nat} {n p : Nat} (h : p ≤ n) : lxS tp n p ≤ n := scan_n _ _ _ _ _ h
theorem scan_gt {q : Nat → Bool} {tp : Nat → Nat} {n p : Nat} (h1 : p < n) (h2 : q (tp p) = true) : p < scan q tp n (n - p) p := by
  rw [scan_in h1 h2]
  exact Nat.lt_of_lt_of_le (Nat.lt_succ_self p) (scan_le _ _ _ _ _)
theorem lxE_n {tp : Nat → Nat} {n p : Nat} (h : p ≤ n) : lxE tp n p ≤ n := by
  have := lxS_n (tp := tp) h
  unfold lxE tkE
  repeat' split
  · exact this
  · exact scan_n _ _ _ _ _ this
  · exact scan_n _ _ _ _ _ this
  · omega
theorem lxK_25 {tp : Nat → Nat} {n p : Nat} (h : lxK tp n p ≠ 25) : lxS tp n p < n := by
  apply Nat.lt_of_not_le
  intro q
  apply h
  unfold lxK tkK
  exact if_pos q
theorem lxE_gt {tp : Nat → Nat} {n p : Nat} (h : lxK tp n p ≠ 25) : lxS tp n p < lxE tp n p := by
  have := lxK_25 h
  unfold lxE tkE
  rw [if_neg (by omega)]
  split
  · rename_i g; exact scan_gt this g
  · split
    · rename_i g; exact scan_gt this g
    · omega
theorem lxE_le {tp : Nat → Nat} {n p : Nat} : p ≤ lxE tp n p := by
  have := lxS_le tp n p
  by_cases h : lxK tp n p = 25
  · unfold lxE tkE
    repeat' split
    · exact this
    · exact Nat.le_trans this (scan_le _ _ _ _ _)
    · exact Nat.le_trans this (scan_le _ _ _ _ _)
    · omega
  · have := lxE_gt h; omega
theorem IV.mono {n c q c2 q2 : Nat} {x : PX (List Nat)} (h : IV n c q x) (hc : c2 ≤ c) (hq : q2 ≤ q) : IV n c2 q2 x := by
  match x, h with
  | .ok (p, L), h => exact ⟨Nat.le_trans hq h.1, h.2.1, by have := h.2.2; omega⟩
  | .error (w, a), h => exact h
theorem IV.nx {tp : Nat → Nat} {n c q p : Nat} {L : List Nat} (h : IV n c q (.ok (p, L))) (hk : lxK tp n p ≠ 25) : IV n (c + 1) (q + 1) (pNx tp n p L) := by
  obtain ⟨h1, h2, h3⟩ := h
  have a1 := lxE_gt hk
  have a2 := lxS_le tp n p
  exact ⟨by omega, lxE_n h2, by omega⟩
theorem IV.nx0 {tp : Nat → Nat} {n c q p : Nat} {L : List Nat} (h : IV n c q (.ok (p, L))) : IV n c q (pNx tp n p L) := by
  obtain ⟨h1, h2, h3⟩ := h
  have a1 := lxE_le (tp := tp) (n := n) (p := p)
  exact ⟨by omega, lxE_n h2, by omega⟩
theorem IV.fl {tp : Nat → Nat} {n c q p f : Nat} {L : List Nat} (h : IV n c q (.ok (p, L))) (h1 : 1 ≤ f) (h2 : f ≤ 4) : IV n c q (pFl tp n f p) := by
  refine ⟨?_, ?_, lxS_n h.2.1⟩ <;> split <;> omega
theorem IV.b {n c q : Nat} {x : PX (List Nat)} {F : PF} (h : IV n c q x) (hF : Good n F) : IV n c q (bnd x F) := by
  match x, h with
  | .ok (p, L), h => exact hF c q p L h
  | .error (w, a), h => exact h
theorem IV.co {n c q k : Nat} {x : PX (List Nat)} (h : IV n (c + 1) q x) : IV n c q (bnd x (pCo k)) := by
  match x, h with
  | .ok (p, L), h => exact ⟨h.1, h.2.1, by have := h.2.2; rw [List.length_append]; simp only [List.length_cons, List.length_nil]; omega⟩
  | .error (w, a), h => exact h
theorem g_eat {tp : Nat → Nat} {n k : Nat} : Good n (pEat tp n k) := by
  intro c q p L h
  unfold pEat
  split
  · exact h.nx0
  · exact h.fl (by decide) (by decide)
theorem IV.inn {tp : Nat → Nat} {n c q p b : Nat} {L : List Nat} (h : IV n c q (.ok (p, L))) (hk : lxK tp n p ≠ 25) (hb : lxK tp n p ≠ 26) : IV n (c + 1) (q + 1) (pIn tp n b p L) := by
  unfold pIn
  split
  · exact ⟨by split <;> omega, by split <;> omega, lxS_n h.2.1⟩
  · exact h.nx hk
theorem g_if {tp : Nat → Nat} {n b : Nat} {S T : PF} {p : Nat} {L : List Nat} {c q : Nat} (hS : Good n S) (hT : Good n T) (hk : lxK tp n p = 13) (h : IV n c q (.ok (p, L))) : IV n c q (pIf tp n b S T p L) := by
  have h1 := h.inn (tp := tp) (b := b) (by rw [hk]; decide) (by rw [hk]; decide)
  exact IV.mono ((((((((h1.b hT).b g_eat).b hS).b g_eat).b hS).b g_eat).co)) (Nat.le_refl _) (Nat.le_succ _)
theorem g_atom {tp : Nat → Nat} {n rd b : Nat} {S T : PF} (hS : Good n S) (hT : Good n T) : Good n (pAtom tp n rd b S T) := by
  intro c q p L h
  have one : ∀ k, lxK tp n p ≠ 25 → IV n c q (pNx tp n p (L ++ [k])) := fun k hk => by
    have := h.nx hk
    exact ⟨by have := this.1; omega, this.2.1, by have := this.2.2; rw [List.length_append]; simp only [List.length_cons, List.length_nil]; omega⟩
  unfold pAtom
  split
  · rename_i hk; exact one _ (by rw [hk]; decide)
  · split
    · rename_i hk; exact one _ (fun z => by rw [z] at hk; revert hk; unfold wordN; by_cases r : rd = 1 <;> simp [r])
    · split
      · rename_i hk
        exact IV.mono (((h.inn (tp := tp) (b := b) (by rw [hk]; decide) (by rw [hk]; decide)).b hS).b g_eat) (Nat.le_succ _) (Nat.le_succ _)
      · split
        · rename_i hk; exact g_if hS hT hk h
        · exact h.fl (by decide) (by decide)
theorem g_rep {tp : Nat → Nat} {n k co : Nat} {A : PF} (hA : Good n A) (hk : k ≠ 25) : ∀ m, Good n (pRep tp n k co A m) := by
  intro m
  induction m with
  | zero => intro c q p L h; exact h
  | succ m ih =>
    intro c q p L h
    unfold pRep
    split
    · rename_i e
      exact IV.b (IV.mono ((h.nx (by rw [e]; exact hk)).b hA).co (Nat.le_refl _) (Nat.le_succ _)) ih
    · exact h
theorem g_add {tp : Nat → Nat} {n : Nat} {A : PF} (hA : Good n A) : ∀ m, Good n (pAdd tp n A m) := by
  intro m
  induction m with
  | zero => intro c q p L h; exact h
  | succ m ih =>
    intro c q p L h
    unfold pAdd
    split
    · rename_i e
      exact IV.b (IV.mono ((h.nx (by rcases e with e | e <;> rw [e] <;> decide)).b hA).co (Nat.le_refl _) (Nat.le_succ _)) ih
    · exact h
theorem g_term {tp : Nat → Nat} {n : Nat} {A : PF} (hA : Good n A) : Good n (pTerm tp n A) := fun c q p L h => (hA c q p L h).b (g_rep hA (by decide) 901)
theorem g_sum {tp : Nat → Nat} {n : Nat} {A : PF} (hA : Good n A) : Good n (pSum tp n A) := fun c q p L h => (g_term hA c q p L h).b (g_add (g_term hA) 901)
theorem g_cmp {tp : Nat → Nat} {n c q p : Nat} {L : List Nat} (h : IV n c q (.ok (p, L))) : IV n (c + 1) (q + 1) (pCmp tp n p L) := by
  unfold pCmp
  split
  · rename_i e
    exact h.nx (by rcases e with e | e | e <;> rw [e] <;> decide)
  · have z := h.fl (tp := tp) (f := 2) (by decide) (by decide)
    exact z
theorem g_ord {tp : Nat → Nat} {n : Nat} {S : PF} (hS : Good n S) : Good n (pOrd tp n S) := fun c q p L h => IV.mono ((g_cmp h).b hS).co (Nat.le_refl _) (Nat.le_succ _)
theorem g_unit {tp : Nat → Nat} {n b : Nat} {S T U : PF} (hS : Good n S) (hT : Good n T) (hU : Good n U) : Good n (pUnit tp n b S T U) := by
  intro c q p L h
  unfold pUnit
  split
  · rename_i hk
    exact IV.mono ((h.inn (tp := tp) (b := b) (by rw [hk]; decide) (by rw [hk]; decide)).b hU).co (Nat.le_refl _) (Nat.le_succ _)
  · split
    · rename_i hk
      exact IV.mono (((h.inn (tp := tp) (b := b) (by rw [hk]; decide) (by rw [hk]; decide)).b hT).b g_eat) (Nat.le_succ _) (Nat.le_succ _)
    · exact (hS c q p L h).b (g_ord hS)
theorem g_both {tp : Nat → Nat} {n : Nat} {U : PF} (hU : Good n U) : Good n (pBoth tp n U) := fun c q p L h => (hU c q p L h).b (g_rep hU (by decide) 901)
theorem g_truth {tp : Nat → Nat} {n : Nat} {U : PF} (hU : Good n U) : Good n (pTruth tp n U) := fun c q p L h => (g_both hU c q p L h).b (g_rep (g_both hU) (by decide) 901)
theorem g_nx {tp : Nat → Nat} {n : Nat} : Good n (pNx tp n) := fun _ _ _ _ h => h.nx0
theorem g_lvl (tp : Nat → Nat) (n rd : Nat) : ∀ b, Good n (lvl tp n rd b).1 ∧ Good n (lvl tp n rd b).2.1 ∧ Good n (lvl tp n rd b).2.2
  | 0 => by
    have a : Good n (lvl tp n rd 0).1 := g_sum (g_atom g_nx g_nx)
    have u : Good n (lvl tp n rd 0).2.2 := g_unit a g_nx g_nx
    exact ⟨a, g_truth u, u⟩
  | b + 1 => by
    obtain ⟨h1, h2, h3⟩ := g_lvl tp n rd b
    have a : Good n (lvl tp n rd (b + 1)).1 := g_sum (g_atom h1 h2)
    have u : Good n (lvl tp n rd (b + 1)).2.2 := g_unit a h2 h3
    exact ⟨a, g_truth u, u⟩
theorem g_sub1 (tp : Nat → Nat) (n rd : Nat) : ∀ b, Good n (sub1 tp n rd b)
  | 0 => g_nx
  | b + 1 => (g_lvl tp n rd b).1
theorem g_sub2 (tp : Nat → Nat) (n rd : Nat) : ∀ b, Good n (sub2 tp n rd b)
  | 0 => g_nx
  | b + 1 => (g_lvl tp n rd b).2.1
theorem g_sub3 (tp : Nat → Nat) (n rd : Nat) : ∀ b, Good n (sub3 tp n rd b)
  | 0 => g_nx
  | b + 1 => (g_lvl tp n rd b).2.2
theorem g_lvA (tp : Nat → Nat) (n rd b : Nat) : Good n (lvA tp n rd b) := g_atom (g_sub1 tp n rd b) (g_sub2 tp n rd b)
