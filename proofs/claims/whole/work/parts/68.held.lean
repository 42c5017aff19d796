/-! what holds of what was read -/
def OkS {α : Type} (S : α → Prop) (x : PX α) : Prop := match x with
  | .ok (_, L) => S L
  | .error _ => True
theorem OkS.b {α : Type} {S S2 : α → Prop} {x : PX α} {F : Nat → α → PX α} (h : OkS S x) (hF : ∀ p L, S L → OkS S2 (F p L)) : OkS S2 (bnd x F) := by
  match x, h with
  | .ok (p, L), h => exact hF p L h
  | .error e, _ => trivial
theorem OkS.nx {α : Type} {S : α → Prop} {tp : Nat → Nat} {n p : Nat} {L : α} (h : S L) : OkS S (pNx tp n p L) := h
theorem OkS.fl {α : Type} {S : α → Prop} {tp : Nat → Nat} {n p f : Nat} : OkS S (pFl tp n f p : PX α) := trivial
theorem OkS.eat {α : Type} {S : α → Prop} {tp : Nat → Nat} {n k : Nat} (p : Nat) (L : α) (h : S L) : OkS S (pEat tp n k p L) := by
  unfold pEat
  split
  · exact h
  · trivial
theorem OkS.tk {α : Type} {S : α → Prop} {tp : Nat → Nat} {n lo : Nat} {H : α → Nat} (p : Nat) (L : α) (h : S L) : OkS S (pTk tp n lo H p L) := by
  unfold pTk
  repeat' split
  · exact h
  · trivial
  · trivial
theorem OkS.set {S S2 : FR → Prop} {tp : Nat → Nat} {n lo i : Nat} {H : FR → Nat} (hs : ∀ fr y, S fr → lo ≤ y → y < H fr → S2 (va_up fr i y)) (p : Nat) (fr : FR) (h : S fr) : OkS S2 (pSet tp n lo H i p fr) := by
  unfold pSet
  repeat' split
  · rename_i r; exact hs fr _ h r.1 r.2
  · trivial
  · trivial
theorem OkS.flags {S : FR → Prop} {tp : Nat → Nat} {n g : Nat} (h5 : ∀ fr y, S fr → 0 ≤ y → y < fr 1 + 1 → S (va_up fr (22 + g) y)) (h6 : ∀ fr y, S fr → 0 ≤ y → y < 10 → S (va_up fr (18 + g) y)) : ∀ m p fr, S fr → OkS S (pFlags tp n g m p fr) := by
  intro m
  induction m with
  | zero => intro p fr h; exact h
  | succ m ih =>
    intro p fr h
    unfold pFlags
    split
    · exact OkS.b (S := S) (OkS.b (S := S) (OkS.nx h) (OkS.set h5)) ih
    · split
      · exact OkS.b (S := S) (OkS.b (S := S) (OkS.nx h) (OkS.set h6)) ih
      · exact h
/-! codes that a sum lays -/
def okL : List Nat → Nat → Prop
  | [], _ => True
  | c :: M, d => okc c d ∧ okL M (dstep c d)
def dkL : List Nat → Nat → Nat
  | [], d => d
  | c :: M, d => dkL M (dstep c d)
def hiL (X : Nat) : List Nat → Nat → Prop
  | [], d => d ≤ X
  | c :: M, d => d ≤ X ∧ hiL X M (dstep c d)
theorem okL_app : ∀ (A B : List Nat) (d : Nat), okL (A ++ B) d ↔ okL A d ∧ okL B (dkL A d)
  | [], B, d => by simp [okL, dkL]
  | c :: A, B, d => by simp only [List.cons_append, okL, dkL, okL_app A B, and_assoc]
theorem dkL_app : ∀ (A B : List Nat) (d : Nat), dkL (A ++ B) d = dkL B (dkL A d)
  | [], B, d => rfl
  | c :: A, B, d => by simp only [List.cons_append, dkL, dkL_app A B]
theorem hiL_app (X : Nat) : ∀ (A B : List Nat) (d : Nat), hiL X A d → hiL X B (dkL A d) → hiL X (A ++ B) d
  | [], B, d, _, h => h
  | c :: A, B, d, h1, h2 => ⟨h1.1, hiL_app X A B _ h1.2 h2⟩
theorem hiL_mono {X Y : Nat} (h : X ≤ Y) : ∀ (A : List Nat) (d : Nat), hiL X A d → hiL Y A d
  | [], d, q => Nat.le_trans q h
  | c :: A, d, q => ⟨Nat.le_trans q.1 h, hiL_mono h A _ q.2⟩
/-- a piece of code that puts one number on the stack, H high at most -/
def Sg (rd H : Nat) (M : List Nat) : Prop := (∀ d, okL M d ∧ dkL M d = d + 1 ∧ hiL (d + H) M d) ∧ ∀ c ∈ M, 1000 ≤ c → c < 3000 → usedW rd (c - 1000)
theorem Sg.mono {rd H H2 : Nat} {M : List Nat} (h : Sg rd H M) (q : H ≤ H2) : Sg rd H2 M := ⟨fun d => ⟨(h.1 d).1, (h.1 d).2.1, hiL_mono (by omega) _ _ (h.1 d).2.2⟩, h.2⟩
theorem hiL_end {X : Nat} : ∀ (A : List Nat) (d : Nat), hiL X A d → dkL A d ≤ X
  | [], _, h => h
  | _ :: A, _, h => hiL_end A _ h.2
theorem Sg.top {rd H : Nat} {M : List Nat} (h : Sg rd H M) : 1 ≤ H := by
  have := hiL_end M 0 (h.1 0).2.2
  rw [(h.1 0).2.1] at this
  omega
theorem Sg.one {rd c : Nat} (hc : c < 1000 ∨ (1000 ≤ c ∧ c < 1009)) (hu : 1000 ≤ c → c < 3000 → usedW rd (c - 1000)) : Sg rd 1 [c] := by
  have hs : ∀ d, dstep c d = d + 1 := fun d => by unfold dstep; rw [if_pos (by omega)]
  refine ⟨fun d => ⟨⟨by unfold okc; omega, trivial⟩, by show dstep c d = _; exact hs d, ⟨by omega, by show dstep c d ≤ _; rw [hs]; omega⟩⟩, fun k hk => ?_⟩
  rw [List.mem_singleton] at hk
  rw [hk]; exact hu
theorem Sg.not {rd H : Nat} {M : List Nat} (h : Sg rd H M) : Sg rd H (M ++ [3006]) := by
  have hs : ∀ d, dstep 3006 d = d := fun d => by unfold dstep; simp
  refine ⟨fun d => ?_, fun c hc => ?_⟩
  · obtain ⟨h1, h2, h3⟩ := h.1 d
    refine ⟨(okL_app _ _ _).mpr ⟨h1, ⟨?_, trivial⟩⟩, ?_, hiL_app _ _ _ _ h3 ⟨?_, ?_⟩⟩
    · rw [h2]; unfold okc; omega
    · rw [dkL_app, h2]; exact hs _
    · have := Sg.top h; rw [h2]; omega
    · show dstep 3006 _ ≤ _; rw [hs, h2]; have := Sg.top h; omega
  · rw [List.mem_append, List.mem_singleton] at hc
    rcases hc with hc | hc
    · exact h.2 c hc
    · rw [hc]; intro _ q; omega
theorem Sg.bin {rd H H2 c : Nat} {M M2 : List Nat} (hc : isBin c) (h : Sg rd H M) (h2 : Sg rd H2 M2) : Sg rd (max H (H2 + 1)) (M ++ M2 ++ [c]) := by
  have hs : ∀ d, dstep c (d + 1 + 1) = d + 1 := fun d => by unfold dstep isBin at *; rw [if_neg (by omega), if_neg (by omega), if_neg (by omega)]; rfl
  refine ⟨fun d => ?_, fun k hk => ?_⟩
  · obtain ⟨a1, a2, a3⟩ := h.1 d
    obtain ⟨b1, b2, b3⟩ := h2.1 (d + 1)
    have t1 := Sg.top h
    have t2 := Sg.top h2
    have e : dkL (M ++ M2) d = d + 1 + 1 := by rw [dkL_app, a2, b2]
    refine ⟨(okL_app _ _ _).mpr ⟨(okL_app _ _ _).mpr ⟨a1, by rw [a2]; exact b1⟩, ⟨?_, trivial⟩⟩, ?_, hiL_app _ _ _ _ (hiL_app _ _ _ _ (hiL_mono (by omega) _ _ a3) (by rw [a2]; exact hiL_mono (by omega) _ _ b3)) ?_⟩
    · rw [e]; unfold okc; exact Or.inr (Or.inr (Or.inr (Or.inr ⟨hc, by omega⟩)))
    · rw [dkL_app, e]; exact hs d
    · rw [e]; exact ⟨by omega, by show dstep c (d + 1 + 1) ≤ _; rw [hs]; omega⟩
  · rw [List.mem_append, List.mem_append, List.mem_singleton] at hk
    rcases hk with (hk | hk) | hk
    · exact h.2 k hk
    · exact h2.2 k hk
    · rw [hk]; intro _ q; unfold isBin at hc; omega
theorem Sg.ifs {rd H H2 H3 : Nat} {M M2 M3 : List Nat} (h : Sg rd H M) (h2 : Sg rd H2 M2) (h3 : Sg rd H3 M3) : Sg rd (max H (max (H2 + 1) (H3 + 2))) (M ++ M2 ++ M3 ++ [3009]) := by
  have hs : ∀ d, dstep 3009 (d + 1 + 1 + 1) = d + 1 := fun d => by unfold dstep; rw [if_neg (by omega), if_neg (by omega), if_pos rfl]; omega
  refine ⟨fun d => ?_, fun k hk => ?_⟩
  · obtain ⟨a1, a2, a3⟩ := h.1 d
    obtain ⟨b1, b2, b3⟩ := h2.1 (d + 1)
    obtain ⟨c1, c2, c3⟩ := h3.1 (d + 1 + 1)
    have t3 := Sg.top h3
    have e2 : dkL (M ++ M2) d = d + 1 + 1 := by rw [dkL_app, a2, b2]
    have e : dkL (M ++ M2 ++ M3) d = d + 1 + 1 + 1 := by rw [dkL_app, e2, c2]
    refine ⟨(okL_app _ _ _).mpr ⟨(okL_app _ _ _).mpr ⟨(okL_app _ _ _).mpr ⟨a1, by rw [a2]; exact b1⟩, by rw [e2]; exact c1⟩, ⟨?_, trivial⟩⟩, ?_, hiL_app _ _ _ _ (hiL_app _ _ _ _ (hiL_app _ _ _ _ (hiL_mono (by omega) _ _ a3) (by rw [a2]; exact hiL_mono (by omega) _ _ b3)) (by rw [e2]; exact hiL_mono (by omega) _ _ c3)) ?_⟩
    · rw [e]; unfold okc; exact Or.inr (Or.inr (Or.inr (Or.inl ⟨rfl, by omega⟩)))
    · rw [dkL_app, e]; exact hs d
    · rw [e]; exact ⟨by omega, by show dstep 3009 (d + 1 + 1 + 1) ≤ _; rw [hs]; omega⟩
  · rw [List.mem_append, List.mem_append, List.mem_append, List.mem_singleton] at hk
    rcases hk with ((hk | hk) | hk) | hk
    · exact h.2 k hk
    · exact h2.2 k hk
    · exact h3.2 k hk
    · rw [hk]; intro _ q; omega
/-- what F lays behind L -/
def Ad (rd H : Nat) (L0 : List Nat) : List Nat → Prop := fun L => ∃ M, L = L0 ++ M ∧ Sg rd H M
def AdF (rd H : Nat) (F : PF) : Prop := ∀ p L, OkS (Ad rd H L) (F p L)
theorem Ad.mono {rd H H2 : Nat} {L0 L : List Nat} (q : H ≤ H2) (h : Ad rd H L0 L) : Ad rd H2 L0 L := by
  obtain ⟨M, e, s⟩ := h
  exact ⟨M, e, s.mono q⟩
theorem OkS.mono {α : Type} {S S2 : α → Prop} (hs : ∀ L, S L → S2 L) {x : PX α} (h : OkS S x) : OkS S2 x := by
  match x, h with
  | .ok (p, L), h => exact hs L h
  | .error e, _ => trivial
theorem AdF.rep {rd H H2 k c : Nat} {tp : Nat → Nat} {n : Nat} {A : PF} (hc : isBin c) (hA : AdF rd H A) (hH : H + 1 ≤ H2) (L0 : List Nat) : ∀ m p L, Ad rd H2 L0 L → OkS (Ad rd H2 L0) (pRep tp n k c A m p L) := by
  intro m
  induction m with
  | zero => intro p L h; exact h
  | succ m ih =>
    intro p L h
    unfold pRep
    split
    · obtain ⟨M, e, s⟩ := h
      refine OkS.b (S := Ad rd H2 L0) (OkS.b (S := Ad rd H L) (hA _ L) (fun p L2 h2 => ?_)) ih
      obtain ⟨M2, e2, s2⟩ := h2
      refine ⟨M ++ M2 ++ [c], by rw [e2, e]; simp only [List.append_assoc], Sg.mono (Sg.bin hc s s2) (by omega)⟩
    · exact h
theorem AdF.add {rd H H2 : Nat} {tp : Nat → Nat} {n : Nat} {A : PF} (hA : AdF rd H A) (hH : H + 1 ≤ H2) (L0 : List Nat) : ∀ m p L, Ad rd H2 L0 L → OkS (Ad rd H2 L0) (pAdd tp n A m p L) := by
  intro m
  induction m with
  | zero => intro p L h; exact h
  | succ m ih =>
    intro p L h
    unfold pAdd
    split
    · obtain ⟨M, e, s⟩ := h
      refine OkS.b (S := Ad rd H2 L0) (OkS.b (S := Ad rd H L) (hA _ L) (fun p2 L2 h2 => ?_)) ih
      obtain ⟨M2, e2, s2⟩ := h2
      refine ⟨M ++ M2 ++ [if lxK tp n p = 32 then 3000 else 3001], by rw [e2, e]; simp only [List.append_assoc], Sg.mono (Sg.bin (by unfold isBin; split <;> omega) s s2) (by omega)⟩
    · exact h
theorem AdF.term {rd H : Nat} {tp : Nat → Nat} {n : Nat} {A : PF} (hA : AdF rd H A) : AdF rd (H + 1) (pTerm tp n A) := fun p L => OkS.b (S := Ad rd (H + 1) L) (OkS.mono (fun _ => Ad.mono (Nat.le_succ _)) (hA p L)) (AdF.rep (by unfold isBin; omega) hA (Nat.le_refl _) L 901)
theorem AdF.sum {rd H : Nat} {tp : Nat → Nat} {n : Nat} {A : PF} (hA : AdF rd H A) : AdF rd (H + 2) (pSum tp n A) := fun p L => OkS.b (S := Ad rd (H + 2) L) (OkS.mono (fun _ => Ad.mono (Nat.le_succ _)) (AdF.term hA p L)) (AdF.add (AdF.term hA) (Nat.le_refl _) L 901)
theorem AdF.both {rd H : Nat} {tp : Nat → Nat} {n : Nat} {A : PF} (hA : AdF rd H A) : AdF rd (H + 1) (pBoth tp n A) := fun p L => OkS.b (S := Ad rd (H + 1) L) (OkS.mono (fun _ => Ad.mono (Nat.le_succ _)) (hA p L)) (AdF.rep (by unfold isBin; omega) hA (Nat.le_refl _) L 901)
theorem AdF.truth {rd H : Nat} {tp : Nat → Nat} {n : Nat} {A : PF} (hA : AdF rd H A) : AdF rd (H + 2) (pTruth tp n A) := fun p L => OkS.b (S := Ad rd (H + 2) L) (OkS.mono (fun _ => Ad.mono (Nat.le_succ _)) (AdF.both hA p L)) (AdF.rep (by unfold isBin; omega) (AdF.both hA) (Nat.le_refl _) L 901)
theorem cmpC_bin (k : Nat) : isBin (cmpC k) := by
  have : cmpC k = 3003 ∨ cmpC k = 3004 ∨ cmpC k = 3005 := by
    unfold cmpC
    by_cases a : k = 39
    · rw [if_pos a]; exact Or.inl rfl
    · rw [if_neg a]
      by_cases b : k = 40
      · rw [if_pos b]; exact Or.inr (Or.inl rfl)
      · rw [if_neg b]; exact Or.inr (Or.inr rfl)
  unfold isBin
  omega
theorem AdF.ord {rd H : Nat} {tp : Nat → Nat} {n : Nat} {S : PF} {M0 L0 : List Nat} (hS : AdF rd H S) (h0 : Sg rd H M0) (p : Nat) : OkS (Ad rd (H + 1) L0) (pOrd tp n S p (L0 ++ M0)) := by
  unfold pOrd
  refine OkS.b (S := Ad rd H (L0 ++ M0)) (OkS.b (S := fun L => L = L0 ++ M0) ?_ (fun p L h => by rw [h]; exact hS p _)) (fun p2 L h => ?_)
  · unfold pCmp; split
    · rfl
    · trivial
  · obtain ⟨M2, e2, s2⟩ := h
    exact ⟨M0 ++ M2 ++ [cmpC (lxK tp n p)], by rw [e2]; simp only [List.append_assoc], Sg.mono (Sg.bin (cmpC_bin _) h0 s2) (by omega)⟩
theorem AdF.unit {rd H b HS : Nat} {tp : Nat → Nat} {n : Nat} {S T U : PF} (hS : AdF rd HS S) (h1 : HS + 1 ≤ H) (hT : b ≠ 0 → AdF rd H T) (hU : b ≠ 0 → AdF rd H U) : AdF rd H (pUnit tp n b S T U) := by
  intro p L
  unfold pUnit
  split
  · unfold pIn
    split
    · trivial
    · rename_i hb
      refine OkS.b (S := Ad rd H L) (hU hb _ L) (fun p L2 h => ?_)
      obtain ⟨M, e, s⟩ := h
      exact ⟨M ++ [3006], by rw [e, List.append_assoc], s.not⟩
  · split
    · unfold pIn
      split
      · trivial
      · rename_i hb
        exact OkS.b (S := Ad rd H L) (hT hb _ L) (fun p L2 h => OkS.eat p L2 h)
    · refine OkS.b (S := Ad rd HS L) (hS p L) (fun p L2 h => ?_)
      obtain ⟨M, e, s⟩ := h
      rw [e]
      exact OkS.mono (fun _ => Ad.mono h1) (AdF.ord hS s p)
theorem wordN_used (rd k : Nat) (hrd : rd < 2) (h : wordN rd k < 9) : usedW rd (wordN rd k) := by
  revert h
  unfold wordN usedW
  by_cases r : rd = 1
  · subst r
    simp
    repeat' split
    all_goals omega
  · obtain rfl : rd = 0 := by omega
    simp
    repeat' split
    all_goals omega
theorem AdF.atom {rd b H : Nat} {tp : Nat → Nat} {n : Nat} {S T : PF} (hrd : rd < 2) (hH : 1 ≤ H) (hS : b ≠ 0 → ∃ HS, HS + 2 ≤ H ∧ AdF rd HS S) (hT : b ≠ 0 → AdF rd H T) : AdF rd H (pAtom tp n rd b S T) := by
  intro p L
  unfold pAtom
  split
  · exact ⟨[_], rfl, Sg.mono (Sg.one (Or.inl (lxN_lt tp n p)) (fun q => by have := lxN_lt tp n p; omega)) hH⟩
  · split
    · rename_i h
      exact ⟨[_], rfl, Sg.mono (Sg.one (Or.inr ⟨by omega, by omega⟩) (fun _ _ => by rw [show 1000 + wordN rd (lxK tp n p) - 1000 = wordN rd (lxK tp n p) by omega]; exact wordN_used rd _ hrd h)) hH⟩
    · split
      · unfold pIn
        split
        · trivial
        · rename_i hb
          obtain ⟨HS, q, s⟩ := hS hb
          exact OkS.b (S := Ad rd H L) (OkS.mono (fun _ => Ad.mono (by omega)) (s _ L)) (fun p L2 h => OkS.eat p L2 h)
      · split
        · unfold pIf pIn
          split
          · trivial
          · rename_i hb
            obtain ⟨HS, q, s⟩ := hS hb
            refine OkS.b (S := fun L4 => ∃ M M2 M3, L4 = L ++ M ++ M2 ++ M3 ∧ Sg rd H M ∧ Sg rd HS M2 ∧ Sg rd HS M3) (OkS.b (S := fun L4 => ∃ M M2 M3, L4 = L ++ M ++ M2 ++ M3 ∧ Sg rd H M ∧ Sg rd HS M2 ∧ Sg rd HS M3) (OkS.b (S := fun L3 => ∃ M M2, L3 = L ++ M ++ M2 ∧ Sg rd H M ∧ Sg rd HS M2) (OkS.b (S := fun L3 => ∃ M M2, L3 = L ++ M ++ M2 ∧ Sg rd H M ∧ Sg rd HS M2) (OkS.b (S := Ad rd H L) (OkS.b (S := Ad rd H L) (hT hb _ L) (fun p L h => OkS.eat p L h)) (fun p L2 h => ?_)) (fun p L h => OkS.eat p L h)) (fun p L3 h => ?_)) (fun p L h => OkS.eat p L h)) (fun p L4 h => ?_)
            · obtain ⟨M, e, sM⟩ := h
              exact OkS.mono (fun L3 z => by obtain ⟨M2, e2, s2⟩ := z; exact ⟨M, M2, by rw [e2, e], sM, s2⟩) (s p L2)
            · obtain ⟨M, M2, e, sM, s2⟩ := h
              exact OkS.mono (fun L4 z => by obtain ⟨M3, e3, s3⟩ := z; exact ⟨M, M2, M3, by rw [e3, e], sM, s2, s3⟩) (s p L3)
            · obtain ⟨M, M2, M3, e, sM, s2, s3⟩ := h
              exact ⟨M ++ M2 ++ M3 ++ [3009], by rw [e]; simp only [List.append_assoc], Sg.mono (Sg.ifs sM s2 s3) (by omega)⟩
        · trivial
theorem Ad_lvl (tp : Nat → Nat) (n rd : Nat) (hrd : rd < 2) : ∀ b, AdF rd (5 * b + 3) (lvl tp n rd b).1 ∧ AdF rd (5 * b + 6) (lvl tp n rd b).2.1 ∧ AdF rd (5 * b + 4) (lvl tp n rd b).2.2
  | 0 => by
    have a : AdF rd (5 * 0 + 3) (lvl tp n rd 0).1 := AdF.sum (AdF.atom (H := 1) hrd (Nat.le_refl _) (fun h => absurd rfl h) (fun h => absurd rfl h))
    have u : AdF rd (5 * 0 + 4) (lvl tp n rd 0).2.2 := AdF.unit a (by omega) (fun h => absurd rfl h) (fun h => absurd rfl h)
    exact ⟨a, AdF.truth u, u⟩
  | b + 1 => by
    obtain ⟨h1, h2, h3⟩ := Ad_lvl tp n rd hrd b
    have a : AdF rd (5 * (b + 1) + 3) (lvl tp n rd (b + 1)).1 := AdF.sum (AdF.atom (H := 5 * b + 6) hrd (by omega) (fun _ => ⟨5 * b + 3, by omega, h1⟩) (fun _ => h2))
    have u : AdF rd (5 * (b + 1) + 4) (lvl tp n rd (b + 1)).2.2 := AdF.unit a (by omega) (fun _ p L => OkS.mono (fun _ => Ad.mono (by omega)) (h2 p L)) (fun _ p L => OkS.mono (fun _ => Ad.mono (by omega)) (h3 p L))
    exact ⟨a, AdF.truth u, u⟩
theorem dk_run {cf : Nat → Nat} {X : Nat} : ∀ (B : List Nat) (j d : Nat), (∀ k, k < B.length → cf (j + k) = B.getD k 0) → dk cf j = d → okL B d → hiL X B d → (∀ k, k ≤ B.length → dk cf (j + k) ≤ X) ∧ (∀ k, k < B.length → okc (cf (j + k)) (dk cf (j + k))) ∧ dk cf (j + B.length) = dkL B d
  | [], j, d, _, e, _, h => ⟨fun k hk => by rw [show k = 0 from Nat.le_zero.mp hk, Nat.add_zero, e]; exact h, fun k hk => absurd hk (Nat.not_lt_zero _), e⟩
  | c :: B, j, d, hc, e, ho, h => by
    have hj : cf j = c := hc 0 (Nat.succ_pos _)
    have e2 : dk cf (j + 1) = dstep c d := by
      show dstep (cf j) (dk cf j) = _
      rw [hj, e]
    obtain ⟨i1, i2, i3⟩ := dk_run B (j + 1) (dstep c d) (fun k hk => by
      have := hc (k + 1) (Nat.succ_lt_succ hk)
      rw [show j + 1 + k = j + (k + 1) by omega]
      exact this) e2 ho.2 h.2
    refine ⟨fun k hk => ?_, fun k hk => ?_, ?_⟩
    · match k, hk with
      | 0, _ => rw [Nat.add_zero, e]; exact h.1
      | k + 1, hk => rw [show j + (k + 1) = j + 1 + k by omega]; exact i1 k (Nat.le_of_succ_le_succ hk)
    · match k, hk with
      | 0, _ => rw [Nat.add_zero, e, hj]; exact ho.1
      | k + 1, hk => rw [show j + (k + 1) = j + 1 + k by omega]; exact i2 k (Nat.lt_of_succ_lt_succ hk)
    · rw [show j + (c :: B).length = j + 1 + B.length by simp only [List.length_cons]; omega]
      exact i3
theorem Sg.wf {rd H : Nat} {M : List Nat} (h : Sg rd H M) (hH : H ≤ 64) {cf : Nat → Nat} (hc : ∀ k, k < M.length → cf k = M.getD k 0) : LawWF cf M.length ∧ ∀ k, k < M.length → 1000 ≤ cf k → cf k < 3000 → usedW rd (cf k - 1000) := by
  obtain ⟨h1, h2, h3⟩ := h.1 0
  obtain ⟨k1, k2, k3⟩ := dk_run (cf := cf) M 0 0 (fun k hk => by rw [Nat.zero_add]; exact hc k hk) rfl h1 h3
  refine ⟨⟨fun k hk => by have := k2 k hk; rw [Nat.zero_add] at this; exact this, fun k hk => by have := k1 k hk; rw [Nat.zero_add] at this; omega, by rw [Nat.zero_add] at k3; rw [k3, h2]⟩, fun k hk q1 q2 => ?_⟩
  rw [hc k hk] at q1 q2 ⊢
  refine h.2 _ ?_ q1 q2
  rw [List.getD_eq_getElem?_getD, List.getElem?_eq_getElem hk]
  exact List.getElem_mem hk
