/-! codes are laid for numbers and truths: sums never leave the range -/
def bd (x : Int32) : Prop := -1000000 ≤ x.toInt ∧ x.toInt ≤ 1000000
theorem q_bm32 {n : Int} (h1 : -2 ^ 31 ≤ n) (h2 : n < 2 ^ 31) : n.bmod (2 ^ 32) = n := by
  rw [Int.bmod_def]; omega
theorem q_bm64 {n : Int} (h1 : -2 ^ 63 ≤ n) (h2 : n < 2 ^ 63) : n.bmod (2 ^ 64) = n := by
  rw [Int.bmod_def]; omega
theorem bd_clampM (v : Int64) : bd (clampM v) := by
  unfold clampM bd
  by_cases h1 : 1000000 < v
  · rw [if_pos h1]; decide
  · rw [if_neg h1]
    by_cases h2 : v < -1000000
    · rw [if_pos h2]; decide
    · rw [if_neg h2]
      have a1 := Int64.le_iff_toInt_le.mp (Int64.not_lt.mp h1)
      have a2 := Int64.le_iff_toInt_le.mp (Int64.not_lt.mp h2)
      have e1 : (1000000 : Int64).toInt = 1000000 := by decide
      have e2 : (-1000000 : Int64).toInt = -1000000 := by decide
      rw [e1] at a1
      rw [e2] at a2
      rw [Int64.toInt_toInt32, q_bm32 (by omega) (by omega)]
      omega
theorem bd_nI {n : Nat} (h : n ≤ 1000000) : bd (nI n) := by
  unfold bd
  rw [nI_toInt (by omega)]
  omega
/-- truths are 0 or 1 -/
def tr (x : Int32) : Prop := x = 0 ∨ x = 1
theorem tr_01 {c : Prop} [Decidable c] : tr (if c then (1 : Int32) else 0) := by
  split
  · exact Or.inr rfl
  · exact Or.inl rfl
def runL (w : Nat → Int32) : List Nat → List Int32 → List Int32
  | [], s => s
  | c :: M, s => runL w M (ev1 w c s)
def safL (w : Nat → Int32) : List Nat → List Int32 → Prop
  | [], _ => True
  | c :: M, s => (c = 3000 ∨ c = 3001 → ∀ y x r, s = y :: x :: r → bd x ∧ bd y) ∧ safL w M (ev1 w c s)
theorem runL_app (w : Nat → Int32) : ∀ (A B : List Nat) (s : List Int32), runL w (A ++ B) s = runL w B (runL w A s)
  | [], B, s => rfl
  | c :: A, B, s => runL_app w A B _
theorem safL_app (w : Nat → Int32) : ∀ (A B : List Nat) (s : List Int32), safL w A s → safL w B (runL w A s) → safL w (A ++ B) s
  | [], B, s, _, h => h
  | c :: A, B, s, h1, h2 => ⟨h1.1, safL_app w A B _ h1.2 h2⟩
def NumS (M : List Nat) : Prop := ∀ w : Nat → Int32, (∀ j, bd (w j)) → ∀ s, safL w M s ∧ ∃ x, runL w M s = x :: s ∧ bd x
def TruS (M : List Nat) : Prop := ∀ w : Nat → Int32, (∀ j, bd (w j)) → ∀ s, safL w M s ∧ ∃ x, runL w M s = x :: s ∧ tr x
theorem NumS.one {c : Nat} (h : c < 3000) (h2 : c < 1000 ∨ 1000 ≤ c) : NumS [c] := by
  intro w hw s
  by_cases h1 : c < 1000
  · exact ⟨⟨fun z => by omega, trivial⟩, nI c, ev1_A h1, bd_nI (by omega)⟩
  · exact ⟨⟨fun z => by omega, trivial⟩, w (c - 1000), ev1_B (by omega) h, hw _⟩
theorem NumS.bin {c : Nat} {M M2 : List Nat} (hc : c = 3000 ∨ c = 3001 ∨ c = 3002) (h : NumS M) (h2 : NumS M2) : NumS (M ++ M2 ++ [c]) := by
  intro w hw s
  obtain ⟨a1, x, ax, bx⟩ := h w hw s
  obtain ⟨b1, y, ay, bY⟩ := h2 w hw (x :: s)
  have hb : isBin c := by unfold isBin; omega
  have e : runL w (M ++ M2) s = y :: x :: s := by rw [runL_app, ax, ay]
  refine ⟨safL_app w _ _ s (safL_app w _ _ s a1 (by rw [ax]; exact b1)) ?_, btw c x y, ?_, ?_⟩
  · rw [e]
    exact ⟨fun _ y' x' r z => by cases z; exact ⟨bx, bY⟩, trivial⟩
  · rw [runL_app, e]
    exact ev1_bin hb
  · unfold btw
    rw [if_neg (by omega), if_neg (by omega), if_neg (by omega), if_neg (by omega), if_neg (by omega)]
    exact bd_clampM _
theorem TruS.cmp {c : Nat} {M M2 : List Nat} (hc : c = 3003 ∨ c = 3004 ∨ c = 3005) (h : NumS M) (h2 : NumS M2) : TruS (M ++ M2 ++ [c]) := by
  intro w hw s
  obtain ⟨a1, x, ax, bx⟩ := h w hw s
  obtain ⟨b1, y, ay, bY⟩ := h2 w hw (x :: s)
  have hb : isBin c := by unfold isBin; omega
  have e : runL w (M ++ M2) s = y :: x :: s := by rw [runL_app, ax, ay]
  refine ⟨safL_app w _ _ s (safL_app w _ _ s a1 (by rw [ax]; exact b1)) ?_, btw c x y, ?_, ?_⟩
  · rw [e]
    exact ⟨fun z => by omega, trivial⟩
  · rw [runL_app, e]
    exact ev1_bin hb
  · unfold btw
    by_cases h3 : c = 3003
    · rw [if_pos h3]; exact tr_01
    · rw [if_neg h3]
      by_cases h4 : c = 3004
      · rw [if_pos h4]; exact tr_01
      · rw [if_neg h4, if_pos (by omega)]; exact tr_01
theorem TruS.bin {c : Nat} {M M2 : List Nat} (hc : c = 3007 ∨ c = 3008) (h : TruS M) (h2 : TruS M2) : TruS (M ++ M2 ++ [c]) := by
  intro w hw s
  obtain ⟨a1, x, ax, bx⟩ := h w hw s
  obtain ⟨b1, y, ay, bY⟩ := h2 w hw (x :: s)
  have hb : isBin c := by unfold isBin; omega
  have e : runL w (M ++ M2) s = y :: x :: s := by rw [runL_app, ax, ay]
  refine ⟨safL_app w _ _ s (safL_app w _ _ s a1 (by rw [ax]; exact b1)) ?_, btw c x y, ?_, ?_⟩
  · rw [e]
    exact ⟨fun z => by omega, trivial⟩
  · rw [runL_app, e]
    exact ev1_bin hb
  · unfold btw
    rw [if_neg (by omega), if_neg (by omega), if_neg (by omega)]
    rcases hc with hc | hc
    · rw [if_pos hc]
      rcases bx with rfl | rfl <;> rcases bY with rfl | rfl <;> (unfold tr; decide)
    · rw [if_neg (by omega), if_pos hc]
      rcases bx with rfl | rfl <;> rcases bY with rfl | rfl <;> (unfold tr; decide)
theorem TruS.not {M : List Nat} (h : TruS M) : TruS (M ++ [3006]) := by
  intro w hw s
  obtain ⟨a1, x, ax, bx⟩ := h w hw s
  refine ⟨safL_app w _ _ s a1 ⟨fun z => by omega, trivial⟩, 1 - x, ?_, ?_⟩
  · rw [runL_app, ax]; simp [runL, ev1]
  · rcases bx with rfl | rfl <;> (unfold tr; decide)
theorem NumS.ifs {M M2 M3 : List Nat} (h : TruS M) (h2 : NumS M2) (h3 : NumS M3) : NumS (M ++ M2 ++ M3 ++ [3009]) := by
  intro w hw s
  obtain ⟨a1, x, ax, bx⟩ := h w hw s
  obtain ⟨b1, y, ay, bY⟩ := h2 w hw (x :: s)
  obtain ⟨c1, z, az, bz⟩ := h3 w hw (y :: x :: s)
  have e2 : runL w (M ++ M2) s = y :: x :: s := by rw [runL_app, ax, ay]
  have e : runL w (M ++ M2 ++ M3) s = z :: y :: x :: s := by rw [runL_app, e2, az]
  refine ⟨safL_app w _ _ s (safL_app w _ _ s (safL_app w _ _ s a1 (by rw [ax]; exact b1)) (by rw [e2]; exact c1)) ⟨fun z => by omega, trivial⟩, if x = 1 then y else z, ?_, ?_⟩
  · rw [runL_app, e]; simp [runL, ev1]
  · split
    · exact bY
    · exact bz
def Ap (N : List Nat → Prop) (L0 : List Nat) : List Nat → Prop := fun L => ∃ M, L = L0 ++ M ∧ N M
def ApF (N : List Nat → Prop) (F : PF) : Prop := ∀ p L, OkS (Ap N L) (F p L)
theorem ApF.rep {N : List Nat → Prop} {k c : Nat} {tp : Nat → Nat} {n : Nat} {A : PF} (hc : ∀ M M2, N M → N M2 → N (M ++ M2 ++ [c])) (hA : ApF N A) (L0 : List Nat) : ∀ m p L, Ap N L0 L → OkS (Ap N L0) (pRep tp n k c A m p L) := by
  intro m
  induction m with
  | zero => intro p L h; exact h
  | succ m ih =>
    intro p L h
    unfold pRep
    split
    · obtain ⟨M, e, s⟩ := h
      refine OkS.b (S := Ap N L0) (OkS.b (S := Ap N L) (hA _ L) (fun p L2 h2 => ?_)) ih
      obtain ⟨M2, e2, s2⟩ := h2
      exact ⟨M ++ M2 ++ [c], by rw [e2, e]; simp only [List.append_assoc], hc M M2 s s2⟩
    · exact h
theorem ApF.add {tp : Nat → Nat} {n : Nat} {A : PF} (hA : ApF NumS A) (L0 : List Nat) : ∀ m p L, Ap NumS L0 L → OkS (Ap NumS L0) (pAdd tp n A m p L) := by
  intro m
  induction m with
  | zero => intro p L h; exact h
  | succ m ih =>
    intro p L h
    unfold pAdd
    split
    · obtain ⟨M, e, s⟩ := h
      refine OkS.b (S := Ap NumS L0) (OkS.b (S := Ap NumS L) (hA _ L) (fun p2 L2 h2 => ?_)) ih
      obtain ⟨M2, e2, s2⟩ := h2
      exact ⟨M ++ M2 ++ [if lxK tp n p = 32 then 3000 else 3001], by rw [e2, e]; simp only [List.append_assoc], NumS.bin (by split <;> omega) s s2⟩
    · exact h
theorem ApF.sum {tp : Nat → Nat} {n : Nat} {A : PF} (hA : ApF NumS A) : ApF NumS (pSum tp n A) := by
  have ht : ApF NumS (pTerm tp n A) := fun p L => OkS.b (S := Ap NumS L) (hA p L) (ApF.rep (fun M M2 a b => NumS.bin (by omega) a b) hA L 901)
  exact fun p L => OkS.b (S := Ap NumS L) (ht p L) (ApF.add ht L 901)
theorem ApF.truth {tp : Nat → Nat} {n : Nat} {A : PF} (hA : ApF TruS A) : ApF TruS (pTruth tp n A) := by
  have ht : ApF TruS (pBoth tp n A) := fun p L => OkS.b (S := Ap TruS L) (hA p L) (ApF.rep (fun M M2 a b => TruS.bin (by omega) a b) hA L 901)
  exact fun p L => OkS.b (S := Ap TruS L) (ht p L) (ApF.rep (fun M M2 a b => TruS.bin (by omega) a b) ht L 901)
theorem cmpC_3 (k : Nat) : cmpC k = 3003 ∨ cmpC k = 3004 ∨ cmpC k = 3005 := by
  unfold cmpC
  by_cases a : k = 39
  · rw [if_pos a]; exact Or.inl rfl
  · rw [if_neg a]
    by_cases b : k = 40
    · rw [if_pos b]; exact Or.inr (Or.inl rfl)
    · rw [if_neg b]; exact Or.inr (Or.inr rfl)
theorem ApF.unit {b : Nat} {tp : Nat → Nat} {n : Nat} {S T U : PF} (hS : ApF NumS S) (hT : b ≠ 0 → ApF TruS T) (hU : b ≠ 0 → ApF TruS U) : ApF TruS (pUnit tp n b S T U) := by
  intro p L
  unfold pUnit
  split
  · unfold pIn
    split
    · trivial
    · rename_i hb
      refine OkS.b (S := Ap TruS L) (hU hb _ L) (fun p L2 h => ?_)
      obtain ⟨M, e, s⟩ := h
      exact ⟨M ++ [3006], by rw [e, List.append_assoc], s.not⟩
  · split
    · unfold pIn
      split
      · trivial
      · rename_i hb
        exact OkS.b (S := Ap TruS L) (hT hb _ L) (fun p L2 h => OkS.eat p L2 h)
    · refine OkS.b (S := Ap NumS L) (hS p L) (fun p L2 h => ?_)
      obtain ⟨M, e, s⟩ := h
      subst e
      unfold pOrd
      refine OkS.b (S := Ap NumS (L ++ M)) (OkS.b (S := fun L2 => L2 = L ++ M) ?_ (fun p L2 h => by rw [h]; exact hS p _)) (fun p2 L2 h => ?_)
      · unfold pCmp; split
        · rfl
        · trivial
      · obtain ⟨M2, e2, s2⟩ := h
        exact ⟨M ++ M2 ++ [cmpC (lxK tp n p)], by rw [e2]; simp only [List.append_assoc], TruS.cmp (cmpC_3 _) s s2⟩
theorem ApF.atom {rd b : Nat} {tp : Nat → Nat} {n : Nat} {S T : PF} (hS : b ≠ 0 → ApF NumS S) (hT : b ≠ 0 → ApF TruS T) : ApF NumS (pAtom tp n rd b S T) := by
  intro p L
  unfold pAtom
  split
  · exact ⟨[_], rfl, NumS.one (by have := lxN_lt tp n p; omega) (by omega)⟩
  · split
    · exact ⟨[_], rfl, NumS.one (by omega) (by omega)⟩
    · split
      · unfold pIn
        split
        · trivial
        · rename_i hb
          exact OkS.b (S := Ap NumS L) (hS hb _ L) (fun p L2 h => OkS.eat p L2 h)
      · split
        · unfold pIf pIn
          split
          · trivial
          · rename_i hb
            refine OkS.b (S := fun L4 => ∃ M M2 M3, L4 = L ++ M ++ M2 ++ M3 ∧ TruS M ∧ NumS M2 ∧ NumS M3) (OkS.b (S := fun L4 => ∃ M M2 M3, L4 = L ++ M ++ M2 ++ M3 ∧ TruS M ∧ NumS M2 ∧ NumS M3) (OkS.b (S := fun L3 => ∃ M M2, L3 = L ++ M ++ M2 ∧ TruS M ∧ NumS M2) (OkS.b (S := fun L3 => ∃ M M2, L3 = L ++ M ++ M2 ∧ TruS M ∧ NumS M2) (OkS.b (S := Ap TruS L) (OkS.b (S := Ap TruS L) (hT hb _ L) (fun p L h => OkS.eat p L h)) (fun p L2 h => ?_)) (fun p L h => OkS.eat p L h)) (fun p L3 h => ?_)) (fun p L h => OkS.eat p L h)) (fun p L4 h => ?_)
            · obtain ⟨M, e, sM⟩ := h
              exact OkS.mono (fun L3 z => by obtain ⟨M2, e2, s2⟩ := z; exact ⟨M, M2, by rw [e2, e], sM, s2⟩) (hS hb p L2)
            · obtain ⟨M, M2, e, sM, s2⟩ := h
              exact OkS.mono (fun L4 z => by obtain ⟨M3, e3, s3⟩ := z; exact ⟨M, M2, M3, by rw [e3, e], sM, s2, s3⟩) (hS hb p L3)
            · obtain ⟨M, M2, M3, e, sM, s2, s3⟩ := h
              exact ⟨M ++ M2 ++ M3 ++ [3009], by rw [e]; simp only [List.append_assoc], NumS.ifs sM s2 s3⟩
        · trivial
theorem Ap_lvl (tp : Nat → Nat) (n rd : Nat) : ∀ b, ApF NumS (lvl tp n rd b).1 ∧ ApF TruS (lvl tp n rd b).2.1 ∧ ApF TruS (lvl tp n rd b).2.2
  | 0 => by
    have a : ApF NumS (lvl tp n rd 0).1 := ApF.sum (ApF.atom (fun h => absurd rfl h) (fun h => absurd rfl h))
    have u : ApF TruS (lvl tp n rd 0).2.2 := ApF.unit a (fun h => absurd rfl h) (fun h => absurd rfl h)
    exact ⟨a, ApF.truth u, u⟩
  | b + 1 => by
    obtain ⟨h1, h2, h3⟩ := Ap_lvl tp n rd b
    have a : ApF NumS (lvl tp n rd (b + 1)).1 := ApF.sum (ApF.atom (fun _ => h1) (fun _ => h2))
    have u : ApF TruS (lvl tp n rd (b + 1)).2.2 := ApF.unit a (fun _ => h2) (fun _ => h3)
    exact ⟨a, ApF.truth u, u⟩
/-- no sum of the law leaves the range -/
def SafF (cf : Nat → Nat) (n : Nat) : Prop := ∀ w : Nat → Int32, (∀ j, bd (w j)) → ∀ k, k < n → cf k = 3000 ∨ cf k = 3001 → ∀ y x r, stk w cf k = y :: x :: r → bd x ∧ bd y
theorem SafF.of {cf cf2 : Nat → Nat} {n : Nat} (h : SafF cf n) (e : ∀ k, k < n → cf2 k = cf k) : SafF cf2 n := by
  intro w hw k hk hc y x r hs
  have hst : ∀ k, k ≤ n → stk w cf2 k = stk w cf k := by
    intro k
    induction k with
    | zero => intro _; rfl
    | succ k ih => intro hk; rw [stk, stk, ih (by omega), e k (by omega)]
  rw [e k hk] at hc
  rw [hst k (by omega)] at hs
  exact h w hw k hk hc y x r hs
theorem saf_run {cf : Nat → Nat} {w : Nat → Int32} : ∀ (B : List Nat) (j : Nat) (s : List Int32), (∀ k, k < B.length → cf (j + k) = B.getD k 0) → stk w cf j = s → safL w B s → ∀ k, k < B.length → cf (j + k) = 3000 ∨ cf (j + k) = 3001 → ∀ y x r, stk w cf (j + k) = y :: x :: r → bd x ∧ bd y
  | [], j, s, _, _, _ => fun k hk => absurd hk (Nat.not_lt_zero _)
  | c :: B, j, s, hc, e, h => by
    have hj : cf j = c := hc 0 (Nat.succ_pos _)
    have e2 : stk w cf (j + 1) = ev1 w c s := by
      show ev1 w (cf j) (stk w cf j) = _
      rw [hj, e]
    have ih := saf_run B (j + 1) (ev1 w c s) (fun k hk => by
      have := hc (k + 1) (Nat.succ_lt_succ hk)
      rw [show j + 1 + k = j + (k + 1) by omega]
      exact this) e2 h.2
    intro k hk
    match k, hk with
    | 0, _ => rw [Nat.add_zero, hj, e]; exact fun q y x r z => h.1 q y x r z
    | k + 1, hk => rw [show j + (k + 1) = j + 1 + k by omega]; exact ih k (Nat.lt_of_succ_lt_succ hk)
theorem NumS.saf {M : List Nat} (h : NumS M) {cf : Nat → Nat} (hc : ∀ k, k < M.length → cf k = M.getD k 0) : SafF cf M.length := by
  intro w hw k hk
  have := saf_run (cf := cf) (w := w) M 0 [] (fun k hk => by rw [Nat.zero_add]; exact hc k hk) rfl (h w hw []).1 k hk
  rw [Nat.zero_add] at this
  exact this
