/-! what holds between two calls -/
def Fm (D : Nat → Prop) (h h2 : Hp) : Prop := h.2.1 ≤ h2.2.1 ∧ ∀ y, y < h.2.1 → ¬ D y → h2.1 y = h.1 y
theorem Gx.fm {S : List Nat} {h h2 : Hp} (x : Gx S h h2) : Fm (fun y => y ∈ S) h h2 := ⟨x.1, x.2⟩
theorem Ex.fm {S : List Nat} {h h2 : Hp} (x : Ex S h h2) : Fm (fun y => y ∈ S) h h2 := x.gx.fm
/-- the class's state, as the reference's numbers have it; c calls were done -/
def CSx (Z : Nat → Prop) (reg : Nat → FR) (ns s sg kd w1 w2 : Nat) (wk dt : Value) (b : FR) (h : Hp) (c : Nat) (a : FR) (hi rs rm : Nat → Int32) (nu : Nat → Int64) (fk fp : Int32) (t : Nat) (tp : Nat → Nat) : Prop :=
  (NW h s ns w1 w2 wk dt a ∧ DV Z h reg ns s sg kd b ∧ Stat a b ∧ MR h fk fp t tp ∧ MT h rs rm nu ∧ MI Z h reg ns hi a ∧ MY h ∧ MW h w1 w2 ∧ (∃ tf, h.1 94 = some (aI 10 tf)) ∧ MKw Z h reg ns kd wk ∧ MKd Z h reg ns kd dt c) ∧ (kd < h.2.1 ∧ ns ≤ c) ∧ h.2.1 + ptC wk dt kd ≤ 160 + 184 * c ∧ h.2.2 + ptS wk dt kd ≤ 1200000 + 927 * c
def CSt (h : Hp) (c : Nat) (a : FR) (hi rs rm : Nat → Int32) (nu : Nat → Int64) (fk fp : Int32) (t : Nat) (tp : Nat → Nat) : Prop :=
  ∃ (Z : Nat → Prop) (reg : Nat → FR) (ns s sg kd w1 w2 : Nat) (wk dt : Value) (b : FR), CSx Z reg ns s sg kd w1 w2 wk dt b h c a hi rs rm nu fk fp t tp
/-- the reference's state -/
def MSt (h : Hp) (a : FR) (hi rs rm : Nat → Int32) (nu : Nat → Int64) (fk fp : Int32) (t : Nat) (tp : Nat → Nat) : Prop := ∃ v, RS h v a hi tp rs rm nu ∧ v 5 = nI t ∧ v 13 = fk ∧ v 14 = fp
def NM (h h2 : Hp) : Prop := ∀ y, 117 ≤ y → y ≤ 138 → h2.1 y = h.1 y
theorem MSt.nm {h h2 : Hp} {a : FR} {hi rs rm : Nat → Int32} {nu : Nat → Int64} {fk fp : Int32} {t : Nat} {tp : Nat → Nat} (x : MSt h a hi rs rm nu fk fp t tp) (e : NM h h2) : MSt h2 a hi rs rm nu fk fp t tp := by
  obtain ⟨v, x1, x2⟩ := x
  have e9 : ∀ (y : Nat) (w : Option va_E), 117 ≤ y → y ≤ 138 → h.1 y = w → h2.1 y = w := fun y w a1 a2 c => (e y a1 a2).trans c
  obtain ⟨k117, k118, k119, k120, ⟨f121, k121⟩, ⟨f122, k122⟩, ⟨f123, k123⟩, ⟨f124, k124⟩, ⟨f125, k125⟩, ⟨f126, k126⟩, ⟨f127, k127⟩, ⟨f128, k128⟩, ⟨f129, k129⟩, ⟨f130, k130⟩, ⟨f131, k131⟩, ⟨f132, k132⟩, ⟨f133, k133⟩, ⟨f134, k134⟩, ⟨f135, k135⟩, k136, k137, k138⟩ := x1
  exact ⟨v, ⟨e9 _ _ (by decide) (by decide) k117, e9 _ _ (by decide) (by decide) k118, e9 _ _ (by decide) (by decide) k119, e9 _ _ (by decide) (by decide) k120, ⟨_, e9 _ _ (by decide) (by decide) k121⟩, ⟨_, e9 _ _ (by decide) (by decide) k122⟩, ⟨_, e9 _ _ (by decide) (by decide) k123⟩, ⟨_, e9 _ _ (by decide) (by decide) k124⟩, ⟨_, e9 _ _ (by decide) (by decide) k125⟩, ⟨_, e9 _ _ (by decide) (by decide) k126⟩, ⟨_, e9 _ _ (by decide) (by decide) k127⟩, ⟨_, e9 _ _ (by decide) (by decide) k128⟩, ⟨_, e9 _ _ (by decide) (by decide) k129⟩, ⟨_, e9 _ _ (by decide) (by decide) k130⟩, ⟨_, e9 _ _ (by decide) (by decide) k131⟩, ⟨_, e9 _ _ (by decide) (by decide) k132⟩, ⟨_, e9 _ _ (by decide) (by decide) k133⟩, ⟨_, e9 _ _ (by decide) (by decide) k134⟩, ⟨_, e9 _ _ (by decide) (by decide) k135⟩, e9 _ _ (by decide) (by decide) k136, e9 _ _ (by decide) (by decide) k137, e9 _ _ (by decide) (by decide) k138⟩, x2⟩
/-- walks and dares lie apart: their cells are of other kinds -/
theorem wd_apart {Z : Nat → Prop} {h : Hp} {reg : Nat → FR} {ns kd c : Nat} {wk dt : Value} (x : MKw Z h reg ns kd wk) (y : MKd Z h reg ns kd dt c) (p : Nat) (h1 : wkIn wk p) (h2 : drIn dt p) : False := by
  obtain ⟨q, e1, a1, a2⟩ := h1
  obtain ⟨r, e2, b1, b2⟩ := h2
  rcases x with x | ⟨q2, x1, x2, x3⟩
  · rw [x] at e1; cases e1
  · rw [x1] at e1
    cases e1
    rcases y with y | ⟨r2, y1, y2, y3⟩
    · rw [y] at e2; cases e2
    · rw [y1] at e2
      cases e2
      obtain ⟨_, ws, wd, wst, wsd, lk, fd, go, gh, op, pa, fb, od, nz, sh, ps, rt, rh, _, w0, w1, w2, w3, w4, w5, w6, w7, _⟩ := x3
      obtain ⟨_, ws9, wd9, sp, fs, kn, _, _, d0, d1, d2, _⟩ := y3
      have wc : ∀ j, j ≤ 7 → ∃ e : va_E, h.1 (q + j) = some e ∧ (∀ n f, e = aI n f → n = 24010 ∨ n = 16) ∧ ∀ l, e ≠ .inr (0, l) := fun j hj => by
        rcases (by omega : j = 0 ∨ j = 1 ∨ j = 2 ∨ j = 3 ∨ j = 4 ∨ j = 5 ∨ j = 6 ∨ j = 7) with rfl | rfl | rfl | rfl | rfl | rfl | rfl | rfl
        · exact ⟨_, w0, fun n f z => (by cases z), fun l z => (by cases z)⟩
        · exact ⟨_, w1, fun n f z => (by cases z; exact Or.inl rfl), fun l z => (by cases z)⟩
        · exact ⟨_, w2, fun n f z => (by cases z; exact Or.inl rfl), fun l z => (by cases z)⟩
        · exact ⟨_, w3, fun n f z => (by cases z), fun l z => (by cases z)⟩
        · exact ⟨_, w4, fun n f z => (by cases z), fun l z => (by cases z)⟩
        · exact ⟨_, w5, fun n f z => (by cases z; exact Or.inr rfl), fun l z => (by cases z)⟩
        · exact ⟨_, w6, fun n f z => (by cases z; exact Or.inr rfl), fun l z => (by cases z)⟩
        · exact ⟨_, w7, fun n f z => (by cases z; exact Or.inr rfl), fun l z => (by cases z)⟩
      obtain ⟨e, u1, u2, u3⟩ := wc (p - q) (by omega)
      rw [show q + (p - q) = p by omega] at u1
      rcases (by omega : p = r ∨ p = r + 1 ∨ p = r + 2) with rfl | rfl | rfl
      · rw [d0] at u1
        cases u1
        exact u3 _ rfl
      · rw [d1] at u1
        cases u1
        rcases u2 _ _ rfl with z | z <;> exact absurd z (by decide)
      · rw [d2] at u1
        cases u1
        rcases u2 _ _ rfl with z | z <;> exact absurd z (by decide)
section fr
variable {Z : Nat → Prop} {reg : Nat → FR} {ns s sg kd kd2 w1 w2 c : Nat} {wk dt : Value} {a b : FR} {hi rs rm : Nat → Int32} {nu : Nat → Int64} {fk fp : Int32} {t : Nat} {tp : Nat → Nat} {h h2 : Hp} {D : Nat → Prop}
theorem MR.fm (x : MR h fk fp t tp) (f : Fm D h h2) (hn : 139 ≤ h.2.1) (hD : ∀ y, 65 ≤ y → y ≤ 67 → ¬ D y) : MR h2 fk fp t tp := by
  obtain ⟨⟨y4, y5, y6, y7, y8, y9, y10, y12, y13, x1⟩, ⟨tb, x2, x3⟩, cd, x4⟩ := x
  exact ⟨⟨y4, y5, y6, y7, y8, y9, y10, y12, y13, (f.2 65 (by omega) (hD 65 (by omega) (by omega))).trans x1⟩, ⟨tb, (f.2 66 (by omega) (hD 66 (by omega) (by omega))).trans x2, x3⟩, cd, (f.2 67 (by omega) (hD 67 (by omega) (by omega))).trans x4⟩
theorem MT.fm (x : MT h rs rm nu) (f : Fm D h h2) (hn : 139 ≤ h.2.1) (hD : ∀ y, y = 81 ∨ (109 ≤ y ∧ y ≤ 116) → ¬ D y) : MT h2 rs rm nu := x.frame (fun q hq => f.2 q (by omega) (hD q hq))
theorem MY.fm (x : MY h) (f : Fm D h h2) (hn : 139 ≤ h.2.1) (hD : ∀ y, 90 ≤ y → y ≤ 93 → ¬ D y) : MY h2 := x.frame (fun q h1 h9 => f.2 q (by omega) (hD q h1 h9))
theorem MW.fm (x : MW h w1 w2) (f : Fm D h h2) (hn : 139 ≤ h.2.1) (hD : ∀ y, 95 ≤ y → y ≤ 96 → ¬ D y) : MW h2 w1 w2 := by
  obtain ⟨x1, ⟨g, x2⟩, k, x3⟩ := x
  exact ⟨x1, ⟨g, (f.2 w1 (by omega) (hD w1 (by omega) (by omega))).trans x2⟩, k, (f.2 w2 (by omega) (hD w2 (by omega) (by omega))).trans x3⟩
theorem tf_fm (x : ∃ tf, h.1 94 = some (aI 10 tf)) (f : Fm D h h2) (hn : 139 ≤ h.2.1) (hD : ¬ D 94) : ∃ tf, h2.1 94 = some (aI 10 tf) := by
  obtain ⟨tf, x⟩ := x
  exact ⟨tf, (f.2 94 (by omega) hD).trans x⟩
theorem NW.fm (x : NW h s ns w1 w2 wk dt a) (h10 : a 45 ≤ 10) (f : Fm D h h2) (hn : 139 ≤ h.2.1) (hD : ∀ y, y = 64 ∨ (76 ≤ y ∧ y ≤ 78) ∨ (97 ≤ y ∧ y ≤ 106) → ¬ D y) : NW h2 s ns w1 w2 wk dt a := x.frame h10 (fun q hq => f.2 q (by omega) (hD q hq))
theorem DV.zfm (x : DV Z h reg ns s sg kd b) (f : Fm D h h2) (hD : ∀ y, Z y → ¬ D y) : ∀ y, Z y → h2.1 y = h.1 y := fun y z => f.2 y (x.2.2.1 y z).2.2 (hD y z)
theorem MI.fm {a2 : FR} (x : MI Z h reg ns hi a) (hz : ∀ y, Z y → h2.1 y = h.1 y) (f : Fm D h h2) (hn : 139 ≤ h.2.1) (hD : ∀ y, y = 79 ∨ y = 80 ∨ y = 107 ∨ y = 108 → ¬ D y) (ea : ∀ k, 1177 ≤ k → k < 3531 → a2 k = a k) : MI Z h2 reg ns hi a2 := x.frame (fun q hq => hq.elim (fun z => hz q z) (fun z => f.2 q (by omega) (hD q z))) ea
theorem MKw.fm (x : MKw Z h reg ns kd wk) (hz : ∀ y, Z y → h2.1 y = h.1 y) (f : Fm D h h2) (hk : kd2 = kd ∨ h.2.1 ≤ kd2) (hD : ∀ y, wkIn wk y → ¬ D y) : MKw Z h2 reg ns kd2 wk := by
  rcases x with x | ⟨q, x1, x2, x3⟩
  · exact Or.inl x
  · have l := x3.1
    refine Or.inr ⟨q, x1, ⟨x2.1, ?_, x2.2.2⟩, x3.frame (fun y y1 y2 => f.2 y (by omega) (hD y ⟨q, x1, y1, y2⟩)) f.1 (fun y z => ⟨z, hz y z⟩) (fun _ _ => rfl) (Nat.le_refl _)⟩
    have := x2.2.1
    omega
theorem MKd.fm {c2 : Nat} (x : MKd Z h reg ns kd dt c) (hz : ∀ y, Z y → h2.1 y = h.1 y) (f : Fm D h h2) (hk : kd2 = kd ∨ h.2.1 ≤ kd2) (hc : c ≤ c2) (hD : ∀ y, drIn dt y → ¬ D y) : MKd Z h2 reg ns kd2 dt c2 := by
  rcases x with x | ⟨q, x1, x2, x3⟩
  · exact Or.inl x
  · have l := x3.1
    refine Or.inr ⟨q, x1, ⟨x2.1, ?_, x2.2.2⟩, x3.frame (fun y y1 y2 => f.2 y (by omega) (hD y ⟨q, x1, y1, y2⟩)) f.1 (fun y z => ⟨z, hz y z⟩) (fun _ _ => rfl) (Nat.le_refl _) hc⟩
    have := x2.2.1
    omega
theorem MKw.at_ (x : MKw Z h reg ns kd wk) (y : Nat) (hy : wkIn wk y) : 139 ≤ y ∧ y < h.2.1 ∧ y ≠ kd ∧ ¬ Z y := by
  obtain ⟨q, e1, a1, a2⟩ := hy
  rcases x with x | ⟨q2, x1, x2, x3⟩
  · rw [x] at e1; cases e1
  · rw [x1] at e1
    cases e1
    have l := x3.1
    have := x2.1
    have := x2.2.1
    exact ⟨by omega, by omega, by omega, fun z => by have := x2.2.2 y z; omega⟩
theorem MKd.at_ (x : MKd Z h reg ns kd dt c) (y : Nat) (hy : drIn dt y) : 139 ≤ y ∧ y < h.2.1 ∧ y ≠ kd ∧ ¬ Z y := by
  obtain ⟨q, e1, a1, a2⟩ := hy
  rcases x with x | ⟨q2, x1, x2, x3⟩
  · rw [x] at e1; cases e1
  · rw [x1] at e1
    cases e1
    have l := x3.1
    have := x2.1
    have := x2.2.1
    exact ⟨by omega, by omega, by omega, fun z => by have := x2.2.2 y z; omega⟩
theorem DV.at_ (x : DV Z h reg ns s sg kd b) (y : Nat) (hy : Z y) : ((68 ≤ y ∧ y ≤ 75) ∨ (83 ≤ y ∧ y ≤ 86) ∨ 139 ≤ y) ∧ y ≠ kd ∧ y < h.2.1 := x.2.2.1 y hy
theorem DV.fm (x : DV Z h reg ns s sg kd b) (l : LWA h2 reg ns kd2) (f : Fm D h h2) (hD : ∀ y, Z y → ¬ D y) (hk : kd2 = kd ∨ h.2.1 ≤ kd2) : DV Z h2 reg ns s sg kd2 b := by
  have hz := x.zfm f hD
  obtain ⟨x1, x2, x3, x4, x5, x6, x7, x8, x9⟩ := x
  have := f.1
  refine ⟨l, x2.mono hz, fun y z => ?_, x4, x5, x6, x7, by omega, x9⟩
  have := x3 y z
  omega
theorem LWA.fm (x : LWA h reg ns kd) (f : Fm D h h2) (hn : 139 ≤ h.2.1) (hkl : kd < h.2.1) (hD : ∀ y, y = 82 ∨ y = 87 ∨ y = 88 ∨ y = 89 ∨ (kd ≠ 0 ∧ y = kd) → ¬ D y) : LWA h2 reg ns kd := x.grow (fun q hq => f.2 q (by omega) (hD q hq)) (fun _ _ => rfl) (Nat.le_refl _)
end fr
