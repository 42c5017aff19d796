/-! the class's reader: places; hints -/
def plY (tp : Nat → Nat) (n : Nat) (y : PY) : Nat := match y with
  | .ok p => lxS tp n p
  | .error (_, a) => a
theorem plc_eqY {α : Type} {tp : Nat → Nat} {n : Nat} (x : PX α) : plc tp n x = plY tp n (yo tp n x) := by
  match x with
  | .error (w, a) => rfl
  | .ok (p, L) =>
    by_cases h : lxK tp n p = 26
    · rw [yo_26 h]; rfl
    · rw [yo_ok h]; rfl
theorem plY_nrp {tp : Nat → Nat} {n p : Nat} : plY tp n (nrp tp n p) = lxS tp n p := by
  unfold nrp
  split <;> rfl
theorem plY_nx {tp : Nat → Nat} {n p : Nat} (h : lxK tp n p ≠ 25) : lxS tp n p + 1 ≤ plY tp n (nrp tp n (lxE tp n p)) := by
  rw [plY_nrp]
  have h1 := lxE_gt (tp := tp) (n := n) (p := p) h
  have h2 := lxS_le tp n (lxE tp n p)
  omega
theorem plY_eat {tp : Nat → Nat} {n k : Nat} (hk : k ≠ 25) (y : PY) : plY tp n y ≤ plY tp n (eatY tp n k y) := by
  match y with
  | .error (w, a) => exact Nat.le_refl _
  | .ok p =>
    unfold eatY
    by_cases h : lxK tp n p = k
    · rw [if_pos (isY_y h)]
      exact Nat.le_of_succ_le (plY_nx (by rw [h]; exact hk))
    · rw [if_neg (isY_n h)]
      exact Nat.le_refl _
theorem plY_tk {tp : Nat → Nat} {n lo H : Nat} (y : PY) : plY tp n y ≤ plY tp n (tkY tp n lo H y) := by
  match y with
  | .error (w, a) => exact Nat.le_refl _
  | .ok p =>
    unfold tkY
    show lxS tp n p ≤ plY tp n (if _ then _ else _)
    by_cases h : lxK tp n p = 24
    · rw [if_pos h]
      by_cases h2 : lo ≤ lxN tp n p ∧ lxN tp n p < H
      · rw [if_pos h2]
        exact Nat.le_of_succ_le (plY_nx (by rw [h]; decide))
      · rw [if_neg h2]
        exact Nat.le_refl _
    · rw [if_neg h]
      exact Nat.le_refl _
theorem plc_of {tp : Nat → Nat} {n p : Nat} {fr : FR} {x : PX FR} {y : PY} (e : yo tp n x = y) (h : lxS tp n p ≤ plY tp n y) : plc tp n (.ok (p, fr) : PX FR) ≤ plc tp n x := by
  rw [plc_eqY x, e]
  exact h
theorem yo_bs {tp : Nat → Nat} {n : Nat} {x : PX FR} {F : PL} {g : Nat × Nat} (h : yo tp n x = .error g) (hB : Bs tp n F) : yo tp n (bnd x F) = .error g := by
  match x, h with
  | .error e, h => exact h
  | .ok (p, fr), h =>
    by_cases h2 : lxK tp n p = 26
    · rw [yo_26 h2] at h
      exact (hB p fr h2).trans h
    · rw [yo_ok h2] at h
      cases h
theorem yo_tk {tp : Nat → Nat} {n lo p : Nat} {H : FR → Nat} {fr : FR} : yo tp n (pTk tp n lo H p fr) = tkY tp n lo (H fr) (nrp tp n p) := by
  unfold pTk
  by_cases h26 : lxK tp n p = 26
  · rw [if_neg (by rw [h26]; decide), yo_fl26 h26]
    unfold nrp
    rw [if_pos h26]
    rfl
  · have e : nrp tp n p = .ok p := if_neg h26
    rw [e]
    unfold tkY
    by_cases hk : lxK tp n p = 24
    · rw [if_pos hk]
      show _ = if lxK tp n p = 24 then _ else _
      rw [if_pos hk]
      by_cases hr : lo ≤ lxN tp n p ∧ lxN tp n p < H fr
      · rw [if_pos hr, if_pos hr]
        rfl
      · rw [if_neg hr, if_neg hr, yo_fl h26]
    · rw [if_neg hk]
      show _ = if lxK tp n p = 24 then _ else _
      rw [if_neg hk, yo_fl h26]
theorem yoS {tp : Nat → Nat} {n lo i Hn : Nat} {H : FR → Nat} (x : PX FR) (e : ∀ p fr, x = .ok (p, fr) → H fr = Hn) : yo tp n (bnd x (pSet tp n lo H i)) = tkY tp n lo Hn (yo tp n x) := by
  match x, e with
  | .error g, e => rfl
  | .ok (p, fr), e =>
    show yo tp n (pSet tp n lo H i p fr) = _
    rw [yo_set, e p fr rfl]
    rfl
theorem setB_in {tp : Nat → Nat} {n lo i p2 : Nat} {H : FR → Nat} {x : PX FR} {f2 : FR} (h : bnd x (pSet tp n lo H i) = .ok (p2, f2)) : ∃ p fr, x = .ok (p, fr) ∧ lxK tp n p ≠ 26 ∧ f2 = va_up fr i (tkV tp n lo (H fr) (yo tp n x)) := by
  match x, h with
  | .error g, h => cases h
  | .ok (p, fr), h =>
    obtain ⟨s1, s2, s3, s4⟩ := set_in h
    refine ⟨p, fr, rfl, by rw [s1]; decide, ?_⟩
    rw [s4]
    exact congrArg _ (tkV_in s1 s2).symm
theorem eatB_in {tp : Nat → Nat} {n k p2 : Nat} {x : PX FR} {f2 : FR} (hk : k ≠ 26) (h : bnd x (pEat tp n k) = .ok (p2, f2)) : ∃ p, x = .ok (p, f2) ∧ lxK tp n p ≠ 26 := by
  match x, h with
  | .error g, h => cases h
  | .ok (p, fr), h =>
    change pEat tp n k p fr = _ at h
    unfold pEat at h
    by_cases h2 : lxK tp n p = k
    · rw [if_pos h2] at h
      cases h
      exact ⟨p, rfl, by rw [h2]; exact hk⟩
    · rw [if_neg h2] at h
      cases h
theorem b_tk {tp : Nat → Nat} {n lo : Nat} {H : FR → Nat} : Bs tp n (pTk tp n lo H) := fun p fr h => by rw [yo_tk]; unfold nrp; rw [if_pos h]; rfl
theorem b_set {tp : Nat → Nat} {n lo i : Nat} {H : FR → Nat} : Bs tp n (pSet tp n lo H i) := fun p fr h => by rw [yo_set]; unfold nrp; rw [if_pos h]; rfl
theorem b_hint2 {tp : Nat → Nat} {n i a : Nat} : Bs tp n (pHint2 tp n i a) := fun p fr h => by
  unfold pHint2
  rw [if_neg (fun z => by have := z.1; rw [h] at this; exact absurd this (by decide))]
  have e : pTk tp n 0 (fun fr => fr 4) p fr = pFl tp n 2 p := by unfold pTk; rw [if_neg (by rw [h]; decide)]
  rw [e]
  exact yo_fl26 h
/-- a number that was taken -/
theorem tk_ok {tp : Nat → Nat} {n lo H p2 : Nat} {y : PY} (h : tkY tp n lo H y = .ok p2) : ∃ p, y = .ok p ∧ lxK tp n p = 24 ∧ (lo ≤ lxN tp n p ∧ lxN tp n p < H) ∧ p2 = lxE tp n p ∧ lxK tp n p2 ≠ 26 ∧ tkV tp n lo H y = lxN tp n p := by
  match y, h with
  | .ok p, h =>
    change (if lxK tp n p = 24 then (if lo ≤ lxN tp n p ∧ lxN tp n p < H then nrp tp n (lxE tp n p) else .error (3, lxS tp n p)) else .error (2, lxS tp n p)) = Except.ok p2 at h
    by_cases hk : lxK tp n p = 24
    · rw [if_pos hk] at h
      by_cases hr : lo ≤ lxN tp n p ∧ lxN tp n p < H
      · rw [if_pos hr] at h
        unfold nrp at h
        by_cases h26 : lxK tp n (lxE tp n p) = 26
        · rw [if_pos h26] at h; cases h
        · rw [if_neg h26] at h
          cases h
          exact ⟨p, rfl, hk, hr, rfl, h26, if_pos ⟨hk, hr⟩⟩
      · rw [if_neg hr] at h; cases h
    · rw [if_neg hk] at h; cases h
theorem nrp_ok {tp : Nat → Nat} {n p p2 : Nat} (h : nrp tp n p = .ok p2) : p2 = p ∧ lxK tp n p ≠ 26 := by
  unfold nrp at h
  by_cases h26 : lxK tp n p = 26
  · rw [if_pos h26] at h; cases h
  · rw [if_neg h26] at h; cases h; exact ⟨rfl, h26⟩
theorem TK_z {tp : Nat → Nat} {n : Nat} {y : PY} {t : TkT} (hT : TK tp n y t) : (t.1 = 0 ∧ ∃ p, y = .ok p) ∨ (¬ t.1 = 0 ∧ t.2.2.1 = 0 ∧ ∃ g, y = .error g) := by
  match y, hT with
  | .ok p, ⟨_, _, e⟩ => exact Or.inl ⟨by rw [e], p, rfl⟩
  | .error (w, a), ⟨s, e, h1, _, _, e2⟩ =>
    refine Or.inr ⟨?_, by rw [e2], _, rfl⟩
    rw [e2]
    show ¬ nI w = 0
    exact nI_w0 h1.1 h1.2
theorem MFr.hint {h : Hp} {q : Nat} {fr : FR} {k f1 f2 : Nat → Int32} {w w2 : SDT} {nl sl : Value} {pt : Int32} {x y i : Nat} (m : MFr h q fr k f1 f2 w nl sl pt) (hx : x < 8) (hy : y < 8) (e : sdV w2 = sdL (keepV (hintN fr x y i))) : MFr h q (hintN fr x y i) k f1 f2 w2 nl sl pt := by
  obtain ⟨⟨a0, a1, a2, a3, a4, a5, a6, a7⟩, b1, b2, b3, b4, b5, b6⟩ := m
  have fe : ∀ j, j < 29 ∨ 45 ≤ j → hintN fr x y i j = fr j := fun j hj => hintN_out hx hy hj
  have lf : ∀ lw, lw < 2 → ∀ k, lawF (hintN fr x y i) lw k = lawF fr lw k := fun lw hl k => by
    unfold lawF
    rw [fe (10 + lw) (by omega), fe _ (by omega)]
  refine ⟨⟨?_, ?_, ?_, ?_, ?_, ?_, ?_, ?_⟩, fun j hj => by rw [fe _ (by omega)]; exact b1 j hj, fun j hj => by rw [fe _ (by omega)]; exact b2 j hj, e, b4.of (fe _ (by omega)) (fe _ (by omega)) (fun _ k _ => lf 0 (by omega) k), b5.of (fe _ (by omega)) (fe _ (by omega)) (fun _ k _ => lf 1 (by omega) k), fun j h1 h2 => by rw [fe 3 (by omega)] at h1; rw [fe _ (by omega)]; exact b6 j h1 h2⟩
  · rw [fe 0 (by omega)]; exact a0
  · rw [fe 1 (by omega)]; exact a1
  · rw [fe 2 (by omega)]; exact a2
  · rw [fe 3 (by omega)]; exact a3
  · rw [fe 4 (by omega)]; exact a4
  · rw [fe 6 (by omega)]; exact a5
  · rw [fe 7 (by omega)]; exact a6
  · rw [fe 5 (by omega)]; exact a7
/-- a stand's fields of a hint -/
def sdW (k : Nat → Nat) : SDT := (nI (tow k), nI (k 4), bL k 7, bL k 15, nI (k 5), nI (k 6))
theorem sdV_of (k : Nat → Nat) : sdV (sdW k) = sdL k := rfl
theorem r_fldI {A B : Int32} (h : A = B) : (Value.int A) = .int B := by rw [h]
set_option maxRecDepth 20000 in
set_option maxHeartbeats 1000000 in
theorem L_hint {E : EnvT} {d : Nat} {h0 : Hp} {tp : Nat → Nat} {n : Nat} {ta sg bv : Int32} {q p i : Nat} {fr : FR} (hW : WF1 fr) (h26 : lxK tp n p ≠ 26) (h25 : lxK tp n p ≠ 25) (hib : (i = 0 ∧ bv = 0) ∨ (i = 1 ∧ bv = 1)) (hL : LN tp n ta sg q (.ok (p, fr)) h0) (hP : TPo tp h0) (ht : TOk tp n) (hd : 6 ≤ d) : Cn E mX3_readHint d [.ref 65, .int bv] h0 (LNQ tp n ta sg q h0 (.ok (p, fr)) (pHint tp n i p fr)) := by
  obtain ⟨t, ne, inz, pt, cl, k, f1, f2, w, nl, sl, c65, hT, ⟨cd, c67⟩, cq, c1, c2, c3, hg, hpt, hq, hM⟩ := hL
  have hq1 := hq.1
  have hM := hM p fr rfl h26
  have hk4 := hM.1.2.2.2.2.1
  have hW4 := hW.2.2.1
  rw [yo_ok h26] at hT
  have hT9 := hT
  obtain ⟨hp, _, rfl⟩ := hT9
  have hx : Ex [65] h0 h0 := Ex.rf
  have hadd : ∀ h, h.1 (q + 3) = some (.inr (5, sdV w)) → ∀ a b : Nat, a < 8 → b < 8 → a ≠ b → Cn E mX5_addHint (d - 1) [.ref (q + 3), .int (nI a), .int (nI b), .int bv] h (fun r h2 => r = none ∧ Ex [q + 3] h h2 ∧ h2.1 (q + 3) = some (.inr (5, sdL (keepV (hintN fr a b i))))) := fun h c a b ha hb hab => by
    rw [hM.2.2.2.1] at c
    rcases hib with ⟨rfl, rfl⟩ | ⟨rfl, rfl⟩
    · exact c_addHintW0 c (by omega) ⟨hW.2.2.2.2.1, hW.2.2.2.2.2⟩ ha hb hab
    · exact c_addHintW1 c (by omega) ⟨hW.2.2.2.2.1, hW.2.2.2.2.2⟩ ha hb hab
  have tail2 : ∀ (h : Hp) (t2 : TkT) (p3 Pv Qv : Nat) (y : PY), Ex [65] h0 h → h.1 q = some (.inr (6, uwL sg k q nl sl)) → h.1 65 = some (.inr (3, rdL n ta ne inz pt cl (.ref q) t2)) → TK tp n (tkY tp n 0 (fr 4) y) t2 → tkY tp n 0 (fr 4) y = .ok p3 → yo tp n (pHint tp n i p fr) = tkY tp n 0 (fr 4) y → lxS tp n p ≤ plY tp n (yo tp n (pHint tp n i p fr)) → (pHint tp n i p fr) = .ok (p3, hintN fr Pv Qv i) → Pv < 8 → Qv < 8 → Pv ≠ Qv → Fr E mX3_readHint d 62 [.ref 65, .int bv, .int (nI Pv), .int (nI Qv)] [] h (LNQ tp n ta sg q h0 (.ok (p, fr)) (pHint tp n i p fr)) := by
    intro h t2 p3 Pv Qv y hx cq c65 hT2 z4 hyo hpl g4 g1 g2 g3
    have c3 := hx.get (by simp <;> omega) c3
    have hadd := fun h c => hadd h c Pv Qv g1 g2 g3
    have hx : Ex [65, q + 3] h0 h := hx.mono (by simp)
    refine r_aload_n (pc2 := 63) 0 dX3_readHint_62 rfl rfl rfl rfl ?_
    refine r_getf (pc2 := 66) (v := .ref q) fX3_28 dX3_readHint_63 c65 (by decide) rfl rfl ?_
    refine r_getf (pc2 := 69) (v := .ref (q + 3)) fX3_119 dX3_readHint_66 cq (by omega) rfl rfl ?_
    refine r_iload_n (pc2 := 70) 2 dX3_readHint_69 rfl rfl rfl ?_
    refine r_iload_n (pc2 := 71) 3 dX3_readHint_70 rfl rfl rfl ?_
    refine r_iload_n (pc2 := 72) 1 dX3_readHint_71 rfl rfl rfl ?_
    refine r_callV0 (pc2 := 75) (As := [.int (nI Pv), .int (nI Qv), .int bv]) (st := []) kX3_203 rfl rfl dX3_readHint_72 c3 (by omega) rfl rfl (Nat.le_of_ble_eq_true rfl) (by omega) (hadd h c3) rfl (fun h hq72 => ?_)
    obtain ⟨hxb, c3b⟩ := hq72
    have c65 := hxb.get (by simp <;> omega) c65
    have cq := hxb.get (by simp <;> omega) cq
    have hx := hx.trans hxb (by simp)
    exact r_vret rfl dX3_readHint_75 ⟨rfl, hx.gx.mono (by simp), RmL.same hx.1 (plc_of (hyo.trans z4) (by rw [← z4, ← hyo]; exact hpl)), t2, ne, inz, pt, cl, k, f1, f2, sdW (keepV (hintN fr Pv Qv i)), nl, sl, c65, by rw [hyo]; exact hT2, ⟨cd, hx.get (by simp <;> omega) c67⟩, cq, hx.get (by simp <;> omega) c1, hx.get (by simp <;> omega) c2, c3b, hg, hpt, by rw [hx.1]; exact hq, fun p2 fr2 z5 z6 => by
  rw [g4] at z5
  cases z5
  exact (hM.gr (Nat.le_of_eq (congrArg Prod.fst hx.1).symm) (fun y hy _ => hx.2 y (by simp <;> omega))).hint (by omega) (by omega) (sdV_of _)⟩
  have tail : ∀ (h : Hp) (t : TkT) (y : PY) (Pv : Nat), Ex [65] h0 h → h.1 q = some (.inr (6, uwL sg k q nl sl)) → h.1 65 = some (.inr (3, rdL n ta ne inz pt cl (.ref q) t)) → TK tp n y t → TPo tp h → yo tp n (pHint tp n i p fr) = tkY tp n 0 (fr 4) y → (∀ p3, tkY tp n 0 (fr 4) y = .ok p3 → (pHint tp n i p fr) = .ok (p3, hintN fr Pv (tkV tp n 0 (fr 4) y) i) ∧ Pv < 8 ∧ tkV tp n 0 (fr 4) y < 8 ∧ Pv ≠ tkV tp n 0 (fr 4) y) → lxS tp n p ≤ plY tp n (yo tp n (pHint tp n i p fr)) → Fr E mX3_readHint d 40 [.ref 65, .int bv, .int (nI Pv), .float 0] [] h (LNQ tp n ta sg q h0 (.ok (p, fr)) (pHint tp n i p fr)) := by
    intro h t y Pv hx cq c65 hT hP hyo hok hpl
    refine r_aload_n (pc2 := 41) 0 dX3_readHint_40 rfl rfl rfl rfl ?_
    refine r_iconst (pc2 := 42) (v := 0) dX3_readHint_41 (by decide) rfl ?_
    refine r_aload_n (pc2 := 43) 0 dX3_readHint_42 rfl rfl rfl rfl ?_
    refine r_getf (pc2 := 46) (v := .ref q) fX3_28 dX3_readHint_43 c65 (by decide) rfl rfl ?_
    refine r_getf (pc2 := 49) (v := .int (k 4)) fX3_201 dX3_readHint_46 cq (by omega) rfl rfl ?_
    refine r_iconst (pc2 := 50) (v := 1) dX3_readHint_49 (by decide) rfl ?_
    refine r_isub (pc2 := 51) dX3_readHint_50 rfl ?_
    refine r_callV1 (pc2 := 54) (As := [.int 0, .int ((k 4) - 1)]) (st := []) kX3_103 rfl rfl dX3_readHint_51 c65 (by decide) rfl rfl (Nat.le_of_ble_eq_true rfl) (by omega) (c_passNumber (lo := 0) (H := fr 4) (t := t) (y := y) (fun _ _ => ⟨rfl, by rw [hk4]⟩) (by decide) (by omega) c65 hT hP ht (by omega)) rfl (fun h hq51 => ?_)
    obtain ⟨hxa, t2, c65, hT2⟩ := hq51
    have cq := hxa.get (by simp <;> omega) cq
    have hx := hx.trans hxa (by simp)
    have hP := hP.ex hxa (by decide)
    refine r_istore_n (pc2 := 55) (ls2 := [.ref 65, .int bv, .int (nI Pv), .int (nI (tkV tp n 0 (fr 4) y))]) 3 dX3_readHint_54 rfl (by decide) rfl rfl rfl ?_
    have z2 := TK_z hT2
    refine r_aload_n (pc2 := 56) 0 dX3_readHint_55 rfl rfl rfl rfl ?_
    refine r_getf (pc2 := 59) (v := .int t2.1) fX3_44 dX3_readHint_56 c65 (by decide) rfl rfl ?_
    refine r_if_ne (tgt := 75) (pc2 := 62) dX3_readHint_59 (by decide) rfl (fun b59 => ?_) (fun b59 => ?_)
    · skip
      exact r_vret rfl dX3_readHint_75 (by
  rcases z2 with z | z
  · exact absurd z.1 b59
  · obtain ⟨z1, z3, g, z4⟩ := z
    exact ⟨rfl, hx.gx.mono (by simp), RmL.same hx.1 (plc_of (hyo.trans z4) (by rw [← z4, ← hyo]; exact hpl)), t2, ne, inz, pt, cl, k, f1, f2, w, nl, sl, c65, by rw [hyo]; exact hT2, ⟨cd, hx.get (by simp <;> omega) c67⟩, cq, hx.get (by simp <;> omega) c1, hx.get (by simp <;> omega) c2, hx.get (by simp <;> omega) c3, hg, hpt, by rw [hx.1]; exact hq, fun p2 fr2 z5 z6 => by rw [z5, yo_ok z6] at hyo; rw [← hyo] at z4; cases z4⟩)
    · skip
      obtain ⟨z3, p3, z4⟩ : t2.1 = 0 ∧ ∃ p, tkY tp n 0 (fr 4) y = .ok p := by
        rcases z2 with z | z
        · exact z
        · exact absurd b59 z.1
      obtain ⟨g1, g2, g3, g4⟩ := hok p3 z4
      exact tail2 h t2 p3 Pv (tkV tp n 0 (fr 4) y) y hx cq c65 hT2 z4 hyo hpl g1 g2 g3 g4
  have hpl : lxS tp n p ≤ plY tp n (nrp tp n (lxE tp n p)) := Nat.le_of_succ_le (plY_nx h25)
  have eX : (pHint tp n i p fr) = bnd (pTk tp n 0 (fun fr => fr 4) (lxE tp n p) fr) (pHint2 tp n i (lxN tp n (lxE tp n p))) := rfl
  have mid : ∀ (h : Hp) (t2 : TkT), Ex [65] h0 h → h.1 q = some (.inr (6, uwL sg k q nl sl)) → h.1 65 = some (.inr (3, rdL n ta ne inz pt cl (.ref q) t2)) → TK tp n (tkY tp n 0 (fr 4) (nrp tp n (lxE tp n p))) t2 → TPo tp h → Fr E mX3_readHint d 19 [.ref 65, .int bv, .int (nI (tkV tp n 0 (fr 4) (nrp tp n (lxE tp n p)))), .float 0] [] h (LNQ tp n ta sg q h0 (.ok (p, fr)) (pHint tp n i p fr)) := by
    intro h t2 hx cq c65 hT2 hP
    have hpl2 := Nat.le_trans hpl (plY_tk (lo := 0) (H := fr 4) (nrp tp n (lxE tp n p)))
    rcases hy2 : tkY tp n 0 (fr 4) (nrp tp n (lxE tp n p)) with g | p2
    · have z9 : t2.2.2.1 = 0 := by
        rcases TK_z hT2 with z | z
        · obtain ⟨_, p3, z⟩ := z
          rw [hy2] at z
          cases z
        · exact z.2.1
      have hyA : yo tp n (pHint tp n i p fr) = tkY tp n 0 (fr 4) (tkY tp n 0 (fr 4) (nrp tp n (lxE tp n p))) := by
        rw [eX, yo_bs (yo_tk.trans hy2) b_hint2, hy2]
        rfl
      have hplA : lxS tp n p ≤ plY tp n (yo tp n (pHint tp n i p fr)) := by rw [hyA]; exact Nat.le_trans hpl2 (plY_tk _)
      refine r_aload_n (pc2 := 20) 0 dX3_readHint_19 rfl rfl rfl rfl ?_
      refine r_getf (pc2 := 23) (v := .int t2.2.2.1) fX3_60 dX3_readHint_20 c65 (by decide) rfl rfl ?_
      refine r_iconst (pc2 := 24) (v := 2) dX3_readHint_23 (by decide) rfl ?_
      refine r_icmp_ne (tgt := 40) (pc2 := 27) dX3_readHint_24 (by decide) rfl (fun b24 => ?_) (fun b24 => ?_)
      · skip
        exact tail h t2 _ _ hx cq c65 hT2 hP hyA (fun p3 z => by rw [hy2] at z; cases z) hplA
      · exact absurd (z9.symm.trans b24) (by decide)
    · obtain ⟨p1, e1, k1, r1, e2, k2, v1⟩ := tk_ok hy2
      obtain ⟨e3, n26⟩ := nrp_ok e1
      subst e3
      have eT : pTk tp n 0 (fun fr => fr 4) (lxE tp n p) fr = .ok (p2, fr) := by
        unfold pTk
        rw [if_pos k1, if_pos r1, e2]
        rfl
      rw [hy2] at hT2 hpl2
      obtain ⟨hp2, _, et⟩ := id hT2
      by_cases hB : lxK tp n p2 = 24 ∧ lxN tp n p2 = lxN tp n (lxE tp n p)
      · have hk2 := hB.1
        have hc2 : t2.2.2.1 = 2 := by rw [et]; show nI (ckK tp n p2) = 2; rw [(ck2 ht k2).mpr hk2]; rfl
        have hnn : nI (lxN tp n p2) = nI (tkV tp n 0 (fr 4) (nrp tp n (lxE tp n p))) := by rw [v1, hB.2]
        have hyB : yo tp n (pHint tp n i p fr) = tkY tp n 0 (fr 4) (flY tp n 3 (.ok p2)) := by
          rw [eX, eT]
          show yo tp n (pHint2 tp n i _ p2 fr) = _
          unfold pHint2
          rw [if_pos hB, yo_fl k2]
          rfl
        have hplA : lxS tp n p ≤ plY tp n (yo tp n (pHint tp n i p fr)) := by rw [hyB]; exact hpl2
        refine r_aload_n (pc2 := 20) 0 dX3_readHint_19 rfl rfl rfl rfl ?_
        refine r_getf (pc2 := 23) (v := .int t2.2.2.1) fX3_60 dX3_readHint_20 c65 (by decide) rfl rfl ?_
        refine r_iconst (pc2 := 24) (v := 2) dX3_readHint_23 (by decide) rfl ?_
        refine r_icmp_ne (tgt := 40) (pc2 := 27) dX3_readHint_24 (by decide) rfl (fun b24 => ?_) (fun b24 => ?_)
        · exact absurd hc2 b24
        · skip
          refine r_aload_n (pc2 := 28) 0 dX3_readHint_27 rfl rfl rfl rfl ?_
          refine r_callV1 (pc2 := 31) (As := []) (st := []) kX3_96 rfl rfl dX3_readHint_28 c65 (by decide) rfl rfl (Nat.le_of_ble_eq_true rfl) (by omega) (c_numberHere (p := p2) (by rw [← et]; exact c65) hp2 hk2 hP ht (by omega)) rfl (fun h2 hq28 => ?_)
          obtain rfl := hq28.symm
          refine r_iload_n (pc2 := 32) 2 dX3_readHint_31 rfl rfl rfl ?_
          refine r_icmp_ne (tgt := 40) (pc2 := 35) dX3_readHint_32 (by decide) rfl (fun b32 => ?_) (fun b32 => ?_)
          · exact absurd hnn b32
          · skip
            refine r_aload_n (pc2 := 36) 0 dX3_readHint_35 rfl rfl rfl rfl ?_
            refine r_iconst (pc2 := 37) (v := 3) dX3_readHint_36 (by decide) rfl ?_
            refine r_callV0 (pc2 := 40) (As := [.int 3]) (st := []) kX3_76 rfl rfl dX3_readHint_37 c65 (by decide) rfl rfl (Nat.le_of_ble_eq_true rfl) (by omega) (c_refuse (f := 3) (t := t2) (y := .ok p2) (by decide) (by decide) rfl ht c65 hT2) rfl (fun h hq37 => ?_)
            obtain ⟨hxa, t3, c65, hT3⟩ := hq37
            have cq := hxa.get (by simp <;> omega) cq
            have hx := hx.trans hxa (by simp)
            have hP := hP.ex hxa (by decide)
            exact tail h t3 _ _ hx cq c65 hT3 hP hyB (fun p3 z => by cases z) hplA
      · have eP : (pHint tp n i p fr) = bnd (pTk tp n 0 (fun fr => fr 4) p2 fr) (fun q fr => .ok (q, hintN fr (lxN tp n (lxE tp n p)) (lxN tp n p2) i)) := by
          rw [eX, eT]
          show pHint2 tp n i _ p2 fr = _
          unfold pHint2
          rw [if_neg hB]
        have hyC : yo tp n (pHint tp n i p fr) = tkY tp n 0 (fr 4) (.ok p2) := by
          rw [eP]
          have := yo_tk (tp := tp) (n := n) (lo := 0) (p := p2) (H := fun fr => fr 4) (fr := fr)
          rw [show nrp tp n p2 = .ok p2 from if_neg k2] at this
          rw [← this]
          generalize pTk tp n 0 (fun fr => fr 4) p2 fr = X9
          match X9 with
          | .error e => rfl
          | .ok (p4, f4) => rfl
        have okC : ∀ p3, tkY tp n 0 (fr 4) (.ok p2) = .ok p3 → (pHint tp n i p fr) = .ok (p3, hintN fr (tkV tp n 0 (fr 4) (nrp tp n (lxE tp n p))) (tkV tp n 0 (fr 4) (.ok p2)) i) ∧ tkV tp n 0 (fr 4) (nrp tp n (lxE tp n p)) < 8 ∧ tkV tp n 0 (fr 4) (.ok p2) < 8 ∧ tkV tp n 0 (fr 4) (nrp tp n (lxE tp n p)) ≠ tkV tp n 0 (fr 4) (.ok p2) := fun p3 z => by
          obtain ⟨p5, f1, f2, f3, f4, f5, f6⟩ := tk_ok z
          cases f1
          rw [f6, v1]
          refine ⟨?_, by omega, by omega, fun z => hB ⟨f2, z.symm⟩⟩
          rw [eP]
          unfold pTk
          rw [if_pos f2, if_pos f3, f4]
          rfl
        have hplA : lxS tp n p ≤ plY tp n (yo tp n (pHint tp n i p fr)) := by rw [hyC]; exact Nat.le_trans hpl2 (plY_tk _)
        by_cases hk2 : lxK tp n p2 = 24
        · have hc2 : t2.2.2.1 = 2 := by rw [et]; show nI (ckK tp n p2) = 2; rw [(ck2 ht k2).mpr hk2]; rfl
          have hnn : ¬ nI (lxN tp n p2) = nI (tkV tp n 0 (fr 4) (nrp tp n (lxE tp n p))) := fun z => hB ⟨hk2, by rw [v1] at z; exact (nI_eq (by have := lxN_lt tp n p2; omega) (by have := lxN_lt tp n (lxE tp n p); omega)).mp z⟩
          refine r_aload_n (pc2 := 20) 0 dX3_readHint_19 rfl rfl rfl rfl ?_
          refine r_getf (pc2 := 23) (v := .int t2.2.2.1) fX3_60 dX3_readHint_20 c65 (by decide) rfl rfl ?_
          refine r_iconst (pc2 := 24) (v := 2) dX3_readHint_23 (by decide) rfl ?_
          refine r_icmp_ne (tgt := 40) (pc2 := 27) dX3_readHint_24 (by decide) rfl (fun b24 => ?_) (fun b24 => ?_)
          · exact absurd hc2 b24
          · skip
            refine r_aload_n (pc2 := 28) 0 dX3_readHint_27 rfl rfl rfl rfl ?_
            refine r_callV1 (pc2 := 31) (As := []) (st := []) kX3_96 rfl rfl dX3_readHint_28 c65 (by decide) rfl rfl (Nat.le_of_ble_eq_true rfl) (by omega) (c_numberHere (p := p2) (by rw [← et]; exact c65) hp2 hk2 hP ht (by omega)) rfl (fun h2 hq28 => ?_)
            obtain rfl := hq28.symm
            refine r_iload_n (pc2 := 32) 2 dX3_readHint_31 rfl rfl rfl ?_
            refine r_icmp_ne (tgt := 40) (pc2 := 35) dX3_readHint_32 (by decide) rfl (fun b32 => ?_) (fun b32 => ?_)
            · skip
              exact tail h t2 _ _ hx cq c65 hT2 hP hyC okC hplA
            · exact absurd b32 hnn
        · have hc2 : ¬ t2.2.2.1 = 2 := fun z => by
            rw [et] at z
            exact hk2 ((ck2 ht k2).mp ((nI_eq (b := 2) (by have := ck_le (tp := tp) (n := n) (p := p2); omega) (by decide)).mp z))
          refine r_aload_n (pc2 := 20) 0 dX3_readHint_19 rfl rfl rfl rfl ?_
          refine r_getf (pc2 := 23) (v := .int t2.2.2.1) fX3_60 dX3_readHint_20 c65 (by decide) rfl rfl ?_
          refine r_iconst (pc2 := 24) (v := 2) dX3_readHint_23 (by decide) rfl ?_
          refine r_icmp_ne (tgt := 40) (pc2 := 27) dX3_readHint_24 (by decide) rfl (fun b24 => ?_) (fun b24 => ?_)
          · skip
            exact tail h t2 _ _ hx cq c65 hT2 hP hyC okC hplA
          · exact absurd b24 hc2
  refine Cn.go (ls := [.ref 65, .int bv, .float 0, .float 0]) (by decide +kernel) rfl (Nat.le_of_ble_eq_true rfl) ?_
  refine r_aload_n (pc2 := 1) 0 dX3_readHint_0 rfl rfl rfl rfl ?_
  refine r_callV0 (pc2 := 4) (As := []) (st := []) kX3_54 rfl rfl dX3_readHint_1 c65 (by decide) rfl rfl (Nat.le_of_ble_eq_true rfl) (by omega) (c_advance (t := (0, -1, nI (ckK tp n p), nI (lxS tp n p), nI (lxE tp n p))) (y := .ok p) c65 hT hP ht (by omega)) rfl (fun h hq1 => ?_)
  obtain ⟨hxa, t1, c65, hT1⟩ := hq1
  have cq := hxa.get (by simp <;> omega) cq
  have hx := hx.trans hxa (by simp)
  have hP := hP.ex hxa (by decide)
  refine r_aload_n (pc2 := 5) 0 dX3_readHint_4 rfl rfl rfl rfl ?_
  refine r_iconst (pc2 := 6) (v := 0) dX3_readHint_5 (by decide) rfl ?_
  refine r_aload_n (pc2 := 7) 0 dX3_readHint_6 rfl rfl rfl rfl ?_
  refine r_getf (pc2 := 10) (v := .ref q) fX3_28 dX3_readHint_7 c65 (by decide) rfl rfl ?_
  refine r_getf (pc2 := 13) (v := .int (k 4)) fX3_201 dX3_readHint_10 cq (by omega) rfl rfl ?_
  refine r_iconst (pc2 := 14) (v := 1) dX3_readHint_13 (by decide) rfl ?_
  refine r_isub (pc2 := 15) dX3_readHint_14 rfl ?_
  refine r_callV1 (pc2 := 18) (As := [.int 0, .int ((k 4) - 1)]) (st := []) kX3_103 rfl rfl dX3_readHint_15 c65 (by decide) rfl rfl (Nat.le_of_ble_eq_true rfl) (by omega) (c_passNumber (lo := 0) (H := fr 4) (t := t1) (y := (nrp tp n (lxE tp n p))) (fun _ _ => ⟨rfl, by rw [hk4]⟩) (by decide) (by omega) c65 hT1 hP ht (by omega)) rfl (fun h hq15 => ?_)
  obtain ⟨hxa, t2, c65, hT2⟩ := hq15
  have cq := hxa.get (by simp <;> omega) cq
  have hx := hx.trans hxa (by simp)
  have hP := hP.ex hxa (by decide)
  refine r_istore_n (pc2 := 19) (ls2 := [.ref 65, .int bv, .int (nI (tkV tp n 0 (fr 4) (nrp tp n (lxE tp n p)))), .float 0]) 2 dX3_readHint_18 rfl (by decide) rfl rfl rfl ?_
  exact mid h t2 hx cq c65 hT2 hP
