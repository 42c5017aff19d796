/-! the class: image, restore -/
theorem AOK.stat {a b : FR} (hb : AOK b) (hs : Stat a b) : AOK a := by
  have lw : ∀ w, w < 2 → LWok b w → LWok a w := fun w hw x => by
    unfold LWok
    rw [hs (8 + w) (by omega), hs (10 + w) (by omega), hs (12 + w) (by omega)]
    rcases x with x | ⟨x1, x2, x3, x4⟩
    · exact Or.inl x
    · have e : ∀ k, k < b (12 + w) → lawF a w k = lawF b w k := fun k hk => by
        unfold lawF
        rw [hs (10 + w) (by omega)]
        exact hs _ (by omega)
      exact Or.inr ⟨x1, x2, x3.of e, fun k hk => by rw [e k hk]; exact x4 k hk⟩
  obtain ⟨h1, h2, h3, h4, h5, h6, h7, h8, h9⟩ := hb
  refine ⟨by rw [hs 1 (by omega)]; exact h1, by rw [hs 2 (by omega)]; exact h2, by rw [hs 3 (by omega)]; exact h3, by rw [hs 4 (by omega)]; exact h4, by rw [hs 6 (by omega), hs 7 (by omega)]; exact h5, fun g hg => by rw [hs (14 + g) (by omega)]; exact h6 g hg, fun g hg => by rw [hs (18 + g) (by omega)]; exact h7 g hg, lw 0 (by decide) h8, lw 1 (by decide) h9⟩
theorem SOK.congr {a a2 s s2 : FR} (x : SOK a s) (e1 : a2 1 = a 1) (e3 : a2 3 = a 3) (e : ∀ j, j < 23 → s2 j = s j) : SOK a2 s2 := by
  obtain ⟨h1, h2, h3, h4, h5, h6⟩ := x
  exact ⟨fun g hg => by rw [e g (by omega), e1]; exact h1 g hg, fun g h9 hg => by rw [e g (by omega)]; exact h2 g (by omega) hg, by rw [e 4 (by omega)]; exact h3, by rw [e 5 (by omega)]; exact h4, fun p hp => by rw [e (7 + p) (by omega)]; exact h5 p hp, fun p hp => by rw [e (15 + p) (by omega)]; exact h6 p hp⟩
def img (a : FR) (i : Nat) : FR := fun k => a (1177 * (i + 1) + k)
def ImO (Z : Nat → Prop) (h : Hp) (reg : Nat → FR) (ns i : Nat) (v : Option Nat) (c : FR) : Prop := ∃ si sg, v = some si ∧ StO Z h si sg (reg sg) ∧ sg ≤ ns ∧ LK (reg sg) ∧ Stat c (reg sg) ∧ SOK c (keepV c) ∧ h.1 (107 + i) = some (.inr (5, sdL (keepV c)))
def MI (Z : Nat → Prop) (h : Hp) (reg : Nat → FR) (ns : Nat) (hi : Nat → Int32) (a : FR) : Prop := ∃ f, h.1 79 = some (aR 5 2 f) ∧ (∃ g, h.1 80 = some (aR 4 2 g) ∧ ∀ i, i < 2 → g i = some (107 + i)) ∧ ∀ i, i < 2 → aSt h (107 + i) ∧ (hi i = 0 → f i = none) ∧ (hi i ≠ 0 → ImO Z h reg ns i (f i) (img a i))
theorem ImO.mono {Z : Nat → Prop} {h h2 : Hp} {reg : Nat → FR} {ns i : Nat} {v : Option Nat} {c c2 : FR} (x : ImO Z h reg ns i v c) (e : ∀ q, Z q → h2.1 q = h.1 q) (e1 : h2.1 (107 + i) = h.1 (107 + i)) (ec : ∀ k, k < 1177 → c2 k = c k) : ImO Z h2 reg ns i v c2 := by
  obtain ⟨si, sg, x1, x2, x3, x4, x5, x6, x7⟩ := x
  exact ⟨si, sg, x1, x2.mono e, x3, x4, fun k hk => (ec k (by omega)).trans (x5 k hk), x6.congr (ec 1 (by omega)) (ec 3 (by omega)) (fun j hj => ec _ (by omega)), by rw [e1, x7, sdL_congr (k := keepV c2) (k2 := keepV c) (fun j hj => ec _ (by omega))]⟩
theorem MI.frame {Z : Nat → Prop} {h h2 : Hp} {reg : Nat → FR} {ns : Nat} {hi : Nat → Int32} {a a2 : FR} (x : MI Z h reg ns hi a) (e : ∀ q, Z q ∨ q = 79 ∨ q = 80 ∨ q = 107 ∨ q = 108 → h2.1 q = h.1 q) (ea : ∀ k, 1177 ≤ k → k < 3531 → a2 k = a k) : MI Z h2 reg ns hi a2 := by
  obtain ⟨f, x1, ⟨g, x2, x3⟩, x4⟩ := x
  refine ⟨f, (e 79 (by omega)).trans x1, ⟨g, (e 80 (by omega)).trans x2, x3⟩, fun i h2i => ?_⟩
  obtain ⟨y1, y2, y3⟩ := x4 i h2i
  have e1 := e (107 + i) (by omega)
  exact ⟨y1.ex e1, y2, fun q => (y3 q).mono (fun q z => e q (Or.inl z)) e1 (fun k hk => ea _ (by omega) (by omega))⟩
theorem NW.ext {h : Hp} {s ns w1 w2 : Nat} {wk dt : Value} {a a2 : FR} (x : NW h s ns w1 w2 wk dt a) (h10 : a 45 ≤ 10) (e : ∀ k, k < 1177 → a2 k = a k) : NW h s ns w1 w2 wk dt a2 :=
  ⟨by rw [e 45 (by omega)]; exact x.1, by rw [sdL_congr (k := keepV a2) (k2 := keepV a) (fun j hj => e _ (by omega))]; exact x.2.1, x.2.2.1, x.2.2.2.ext (fun k _ hk => e k (by omega)) h10⟩
theorem imgA_lo {a : FR} {x : Int32} {k : Nat} (hk : k < 1177) : imgA a x k = a k := by
  unfold imgA
  split
  · exact fillN_out (Or.inl (by omega))
  · rfl
theorem imgA_in {a : FR} {i k : Nat} (hi : i < 2) (hk : k < 1177) : img (imgA a (nI i)) i k = a k := by
  unfold imgA img
  rw [if_pos ((inR_iff (l := 0) (h := 1) (by decide) (by decide) (nI i)).mpr ⟨nI_le (by omega) (by omega), nI_le (by omega) (by omega)⟩), nI_clamp (by omega), fillN_in hk]
theorem imgA_ot {a : FR} {i j k : Nat} (hi : i < 2) (hj : j < 2) (h : j ≠ i) (hk : k < 1177) : img (imgA a (nI i)) j k = img a j k := by
  unfold imgA img
  rw [nI_clamp (by omega)]
  split
  · exact fillN_out (by omega)
  · rfl
theorem rstN_k {a : FR} {i k : Nat} (hk : k < 1177) (h : k ≠ 45) : rstN a i k = img a i k := by
  unfold rstN img
  rw [va_up_ne _ _ h]
  have := fillN_in (a := a) (off := 0) (n := 1177) (g := fun k => a (1177 * (i + 1) + k)) hk
  rw [Nat.zero_add] at this
  exact this
theorem rstN_45 {a : FR} {i : Nat} : rstN a i 45 = 0 := va_up_self _ _ _
theorem rstN_ain {a b : FR} {i : Nat} (hb : AOK b) (hs : Stat (img a i) b) (hk : SOK (img a i) (keepV (img a i))) : Stat (rstN a i) b ∧ AIN (rstN a i) := by
  have h1 : Stat (rstN a i) b := fun k hk => (rstN_k (by omega) (by omega)).trans (hs k hk)
  exact ⟨h1, hb.stat h1, hk.congr (rstN_k (by decide) (by decide)) (rstN_k (by decide) (by decide)) (fun j hj => rstN_k (k := 22 + j) (by omega) (by omega)), by rw [rstN_45]; decide, fun j hj => by rw [rstN_45] at hj; omega⟩
theorem MU.none {h : Hp} {a a2 : FR} (x : MU h a) (e : a2 45 = 0) : MU h a2 := by
  obtain ⟨f, g, c, p, i, r⟩ := x
  exact ⟨f, g, c, p, i, fun j hj => by rw [e] at hj; omega⟩
theorem DV.of {Z : Nat → Prop} {h h2 : Hp} {reg : Nat → FR} {ns s sg kd : Nat} {b : FR} {S : List Nat} (x : DV Z h reg ns s sg kd b) (e : Ex S h h2) (hS : ∀ q ∈ S, q < 68 ∨ (76 ≤ q ∧ q ≤ 81) ∨ (90 ≤ q ∧ q ≤ 116)) : DV Z h2 reg ns s sg kd b := by
  obtain ⟨x1, x2, x3, x4, x5, x6, x7, x8, x9⟩ := x
  refine ⟨x1.ex e (fun q m => by have := hS q m; omega), x2.gx x3 e.gx (fun a m => by have := hS a m; omega), x3.kq (KQ.of e), x4, x5, x6, x7, by rw [e.1]; exact x8, x9⟩
theorem MI.put {Z : Nat → Prop} {h h2 : Hp} {reg : Nat → FR} {ns i kd s sg : Nat} {hi : Nat → Int32} {a : FR} {f : Nat → Option Nat} (x : MI Z h reg ns hi a) (h2i : i < 2) (hD : DV Z h2 reg ns s sg kd (reg sg)) (hA : AIN a) (hst : Stat a (reg sg)) (e : Ex [79, 107 + i] h h2) (hZ : ZP Z h kd) (c0 : h.1 79 = some (aR 5 2 f)) (c1 : h2.1 79 = some (aR 5 2 (va_up f i (some s)))) (c2 : h2.1 (107 + i) = some (.inr (5, sdL (keepV a)))) : MI Z h2 reg ns (imgH hi (nI i)) (imgA a (nI i)) := by
  obtain ⟨f2, x1, ⟨g, x2, x3⟩, x4⟩ := x
  rw [c0] at x1
  have ef : f = f2 := by injection x1 with x1; injection x1 with x1; injection x1 with _ x1; injection x1 with _ x1; injection x1 with x1; injection x1 with x1; injection x1 with x1; injection x1
  subst ef
  refine ⟨_, c1, ⟨g, (e.2 80 (by simp; omega)).trans x2, x3⟩, fun j hj => ?_⟩
  have eh : imgH hi (nI i) = upd hi i 1 := by
    unfold imgH
    rw [if_pos ((inR_iff (l := 0) (h := 1) (by decide) (by decide) (nI i)).mpr ⟨nI_le (by omega) (by omega), nI_le (by omega) (by omega)⟩), nI_clamp (by omega)]
  rw [eh]
  by_cases q : j = i
  · subst q
    rw [va_up_self, show upd hi j 1 j = 1 from if_pos rfl]
    refine ⟨aSt.of c2, fun z => absurd z (by decide), fun _ => ⟨s, sg, rfl, hD.2.1, hD.2.2.2.2.2.1, hD.2.2.2.1, fun k hk => (imgA_in h2i (by omega)).trans (hst k hk), hA.2.1.congr (imgA_in h2i (by decide)) (imgA_in h2i (by decide)) (fun t ht => imgA_in (k := 22 + t) h2i (by omega)), ?_⟩⟩
    rw [c2, sdL_congr (k := keepV (img (imgA a (nI j)) j)) (k2 := keepV a) (fun t ht => imgA_in (k := 22 + t) h2i (by omega))]
  · obtain ⟨y1, y2, y3⟩ := x4 j hj
    have e1 := e.2 (107 + j) (by simp; omega)
    rw [va_up_ne _ _ q, show upd hi i 1 j = hi j from if_neg q]
    exact ⟨y1.ex e1, y2, fun z => (y3 z).mono (fun w hw => e.2 w (by have := hZ w hw; simp; omega)) e1 (fun k hk => imgA_ot h2i hj q hk)⟩
theorem lt2 {x : Int32} (h : x < 2) : x ≤ nI 1 := by
  have h1 : x.toInt < 2 := by simpa using Int32.lt_iff_toInt_lt.mp h
  exact Int32.le_iff_toInt_le.mpr (by show x.toInt ≤ 1; omega)
theorem lt2_of {x : Int32} (h : x ≤ nI 1) : x < 2 := by
  have h1 : x.toInt ≤ 1 := Int32.le_iff_toInt_le.mp h
  exact Int32.lt_iff_toInt_lt.mpr (by show x.toInt < 2; omega)
set_option maxRecDepth 20000 in
set_option maxHeartbeats 1000000 in
theorem c_isImage {E : EnvT} {d : Nat} {h0 : Hp} {x : Int32} : Cn E mX9_isImage d [.int x] h0 (fun r h2 => r = some (.int (if inR 0 1 x then (1 : Int32) else 0)) ∧ h2 = h0) := by
  by_cases hx0 : inR 0 1 x
  · skip
    refine Cn.go (ls := [.int x]) (by decide +kernel) rfl (Nat.le_of_ble_eq_true rfl) ?_
    refine r_iload_n (pc2 := 1) 0 dX9_isImage_0 rfl rfl rfl ?_
    refine r_if_lt (tgt := 13) (pc2 := 4) dX9_isImage_1 (by decide) rfl (fun b1 => ?_) (fun b1 => ?_)
    · exact absurd b1 (Int32.not_lt.mpr ((inR_iff (l := 0) (h := 1) (by decide) (by decide) x).mp hx0).1)
    · skip
      refine r_iload_n (pc2 := 5) 0 dX9_isImage_4 rfl rfl rfl ?_
      refine r_iconst (pc2 := 6) (v := 2) dX9_isImage_5 (by decide) rfl ?_
      refine r_icmp_ge (tgt := 13) (pc2 := 9) dX9_isImage_6 (by decide) rfl (fun b6 => ?_) (fun b6 => ?_)
      · exact absurd (lt2_of ((inR_iff (l := 0) (h := 1) (by decide) (by decide) x).mp hx0).2) (Int32.not_lt.mpr b6)
      · skip
        refine r_iconst (pc2 := 10) (v := 1) dX9_isImage_9 (by decide) rfl ?_
        refine r_goto (pc2 := 14) dX9_isImage_10 (by decide) ?_
        exact r_zret (ty := .boolean) rfl (by decide) dX9_isImage_14 ⟨by rw [if_pos hx0], rfl⟩
  · skip
    refine Cn.go (ls := [.int x]) (by decide +kernel) rfl (Nat.le_of_ble_eq_true rfl) ?_
    refine r_iload_n (pc2 := 1) 0 dX9_isImage_0 rfl rfl rfl ?_
    refine r_if_lt (tgt := 13) (pc2 := 4) dX9_isImage_1 (by decide) rfl (fun b1 => ?_) (fun b1 => ?_)
    · skip
      refine r_iconst (pc2 := 14) (v := 0) dX9_isImage_13 (by decide) rfl ?_
      exact r_zret (ty := .boolean) rfl (by decide) dX9_isImage_14 ⟨by rw [if_neg hx0], rfl⟩
    · skip
      refine r_iload_n (pc2 := 5) 0 dX9_isImage_4 rfl rfl rfl ?_
      refine r_iconst (pc2 := 6) (v := 2) dX9_isImage_5 (by decide) rfl ?_
      refine r_icmp_ge (tgt := 13) (pc2 := 9) dX9_isImage_6 (by decide) rfl (fun b6 => ?_) (fun b6 => ?_)
      · skip
        refine r_iconst (pc2 := 14) (v := 0) dX9_isImage_13 (by decide) rfl ?_
        exact r_zret (ty := .boolean) rfl (by decide) dX9_isImage_14 ⟨by rw [if_neg hx0], rfl⟩
      · exact absurd ((inR_iff (l := 0) (h := 1) (by decide) (by decide) x).mpr ⟨Int32.not_lt.mp b1, lt2 (Int32.not_le.mp b6)⟩) hx0
set_option maxRecDepth 20000 in
set_option maxHeartbeats 1000000 in
theorem cl_image {E : EnvT} {d : Nat} {h0 : Hp} {ns s w1 w2 : Nat} {wk dt : Value} {Z : Nat → Prop} {reg : Nat → FR} {sg kd : Nat} {a b : FR} {hi : Nat → Int32} {x : Int32} (hN : NW h0 s ns w1 w2 wk dt a) (hD : DV Z h0 reg ns s sg kd b) (hA : AIN a) (hst : Stat a b) (hMI : MI Z h0 reg ns hi a) (hd : 1 ≤ d) : Cn E mX9_image d [.ref 64, .int x] h0 (fun r h2 => r = some (.int (imgF x)) ∧ Ex [79, 107, 108] h0 h2 ∧ NW h2 s ns w1 w2 wk dt (imgA a x) ∧ MI Z h2 reg ns (imgH hi x) (imgA a x)) := by
  obtain ⟨c64, c76, h77, hM⟩ := id hN
  obtain ⟨hL, hS, hZ, hb, hreg, hsg, hns, hn, zs⟩ := id hD
  have hs64 := (hZ.zl s zs).1
  obtain ⟨lo, so, sa, nl, sl, _, cs, _⟩ := id hS
  obtain ⟨f, c79, ⟨g, c80, hg⟩, hI⟩ := id hMI
  by_cases hx : inR 0 1 x
  · obtain ⟨i, _, h1i, rfl⟩ := inR_of (by decide) (by decide) hx
    have h2i : i < 2 := by omega
    have hap := (hI i h2i).1
    have c79a := c79
    generalize hp : 107 + i = p at hap
    obtain ⟨u0, u1, u2, u3, u4, u5, cp⟩ := hap
    have hx2 : Ex [79, p] h0 h0 := Ex.rf
    refine Cn.go (ls := [.ref 64, .int (nI i)]) (by decide +kernel) rfl (Nat.le_of_ble_eq_true rfl) ?_
    refine r_iload_n (pc2 := 1) 1 dX9_image_0 rfl rfl rfl ?_
    refine r_callS1 (pc2 := 4) (As := [.int (nI i)]) (st := []) kX9_394 dX9_image_1 rfl rfl (Nat.le_of_ble_eq_true rfl) (by omega) (c_isImage.mono fun r h2 q => ⟨q.1.trans (by rw [if_pos hx]), q.2⟩) rfl (fun h2 hq1 => ?_)
    subst hq1
    refine r_if_ne (tgt := 10) (pc2 := 7) dX9_image_4 (by decide) rfl (fun b4 => ?_) (fun b4 => ?_)
    · skip
      refine r_aload_n (pc2 := 11) 0 dX9_image_10 rfl rfl rfl rfl ?_
      refine r_getf (pc2 := 14) (v := .ref 79) fX9_39 dX9_image_11 c64 (by decide) rfl rfl ?_
      refine r_iload_n (pc2 := 15) 1 dX9_image_14 rfl rfl rfl ?_
      refine r_aload_n (pc2 := 16) 0 dX9_image_15 rfl rfl rfl rfl ?_
      refine r_getf (pc2 := 19) (v := .ref s) fX9_21 dX9_image_16 c64 (by decide) rfl rfl ?_
      refine r_aastX (pc2 := 20) dX9_image_19 c79 rfl (fun _ => rfl) (by decide) (nI_vp (j := i) rfl (by omega) (by decide)).1 (nI_clamp (by omega)) cs hs64 rfl (fun h z19 o19 c79 => ?_)
      have c64 := (o19 64 (by decide)).trans c64
      have cs := (o19 s (by have := hZ s zs; omega)).trans cs
      have c76 := (o19 76 (by decide)).trans c76
      have c80 := (o19 80 (by decide)).trans c80
      have cp := (o19 p (by omega)).trans cp
      have hx2 := hx2.step (a := 79) (by simp) z19 o19
      refine r_aload_n (pc2 := 21) 0 dX9_image_20 rfl rfl rfl rfl ?_
      refine r_getf (pc2 := 24) (v := .ref 80) fX9_43 dX9_image_21 c64 (by decide) rfl rfl ?_
      refine r_iload_n (pc2 := 25) 1 dX9_image_24 rfl rfl rfl ?_
      refine r_aald (pc2 := 26) dX9_image_25 c80 (by decide) (by decide) (nI_vp (j := i) rfl (by omega) (by decide)).1 (by rw [nI_clamp (by omega), hg i h2i, hp]) (by omega) rfl ?_
      refine r_aload_n (pc2 := 27) 0 dX9_image_26 rfl rfl rfl rfl ?_
      refine r_getf (pc2 := 30) (v := .ref 76) fX9_28 dX9_image_27 c64 (by decide) rfl rfl ?_
      refine r_callV0 (pc2 := 33) (As := [.ref 76]) (st := []) kX9_81 rfl rfl dX9_image_30 cp (by omega) rfl rfl (Nat.le_of_ble_eq_true rfl) (by omega) (c_becomeK ⟨_, _, _, _, _, _, cp⟩ c76 (by omega) (by decide) (by omega)) rfl (fun h hq30 => ?_)
      obtain ⟨hxb, cp⟩ := hq30
      have c64 := hxb.get (by simp; omega) c64
      have c76 := hxb.get (by simp; omega) c76
      have c79 := hxb.get (by simp; omega) c79
      have c80 := hxb.get (by simp; omega) c80
      have hx2 := hx2.trans hxb (by simp)
      refine r_iconst (pc2 := 34) (v := 0) dX9_image_33 (by decide) rfl ?_
      exact r_iret rfl dX9_image_34 ⟨by unfold imgF; rw [if_pos hx], hx2.mono (by simp; omega), ((hN.frame hA.nd (fun q hq => hx2.2 q (by simp; omega))).ext hA.nd (fun k hk => imgA_lo hk)), by subst hreg; exact hMI.put (f := f) h2i (hD.of hx2 (by simp; omega)) hA hst (by rw [hp]; exact hx2) hZ c79a c79 (by rw [hp]; exact cp)⟩
    · exact absurd b4 (by decide)
  · skip
    refine Cn.go (ls := [.ref 64, .int x]) (by decide +kernel) rfl (Nat.le_of_ble_eq_true rfl) ?_
    refine r_iload_n (pc2 := 1) 1 dX9_image_0 rfl rfl rfl ?_
    refine r_callS1 (pc2 := 4) (As := [.int x]) (st := []) kX9_394 dX9_image_1 rfl rfl (Nat.le_of_ble_eq_true rfl) (by omega) (c_isImage.mono fun r h2 q => ⟨q.1.trans (by rw [if_neg hx]), q.2⟩) rfl (fun h2 hq1 => ?_)
    subst hq1
    refine r_if_ne (tgt := 10) (pc2 := 7) dX9_image_4 (by decide) rfl (fun b4 => ?_) (fun b4 => ?_)
    · exact absurd b4 (by decide)
    · skip
      refine r_bipush (pc2 := 9) (v := -2) dX9_image_7 (by decide) rfl ?_
      exact r_iret rfl dX9_image_9 ⟨by unfold imgF; rw [if_neg hx], Ex.rf, by unfold imgA; rw [if_neg hx]; exact hN, by unfold imgA imgH; rw [if_neg hx, if_neg hx]; exact hMI⟩
set_option maxRecDepth 20000 in
set_option maxHeartbeats 1000000 in
theorem cl_restore {E : EnvT} {d : Nat} {h0 : Hp} {ns s w1 w2 : Nat} {wk dt : Value} {Z : Nat → Prop} {reg : Nat → FR} {sg kd : Nat} {a b : FR} {hi : Nat → Int32} {x : Int32} (hN : NW h0 s ns w1 w2 wk dt a) (hD : DV Z h0 reg ns s sg kd b) (hA : AIN a) (hst : Stat a b) (hMI : MI Z h0 reg ns hi a) (hd : 1 ≤ d) : Cn E mX9_restore d [.ref 64, .int x] h0 (fun r h2 => r = some (.int (rstF hi x)) ∧ Ex [64, 76] h0 h2 ∧ ∃ s2 sg2, NW h2 s2 ns w1 w2 wk dt (rstA a hi x) ∧ DV Z h2 reg ns s2 sg2 kd (reg sg2) ∧ Stat (rstA a hi x) (reg sg2) ∧ AIN (rstA a hi x)) := by
  obtain ⟨c64, c76, h77, hM⟩ := id hN
  obtain ⟨hL, hS, hZ, hb, hreg, hsg, hns, hn, zs⟩ := id hD
  have hs64 := (hZ.zl s zs).1
  obtain ⟨lo, so, sa, nl, sl, _, cs, _⟩ := id hS
  obtain ⟨f, c79, ⟨g, c80, hg⟩, hI⟩ := id hMI
  by_cases hx : inR 0 1 x
  · obtain ⟨i, _, h1i, rfl⟩ := inR_of (by decide) (by decide) hx
    have h2i : i < 2 := by omega
    by_cases hz : hi i = 0
    · have hc : ¬ rstC hi (nI i) := fun q => absurd hz (by have := q.2; rw [nI_clamp (by omega)] at this; exact this)
      refine Cn.go (ls := [.ref 64, .int (nI i)]) (by decide +kernel) rfl (Nat.le_of_ble_eq_true rfl) ?_
      refine r_iload_n (pc2 := 1) 1 dX9_restore_0 rfl rfl rfl ?_
      refine r_callS1 (pc2 := 4) (As := [.int (nI i)]) (st := []) kX9_394 dX9_restore_1 rfl rfl (Nat.le_of_ble_eq_true rfl) (by omega) (c_isImage.mono fun r h2 q => ⟨q.1.trans (by rw [if_pos hx]), q.2⟩) rfl (fun h2 hq1 => ?_)
      subst hq1
      refine r_if_ne (tgt := 10) (pc2 := 7) dX9_restore_4 (by decide) rfl (fun b4 => ?_) (fun b4 => ?_)
      · skip
        refine r_aload_n (pc2 := 11) 0 dX9_restore_10 rfl rfl rfl rfl ?_
        refine r_getf (pc2 := 14) (v := .ref 79) fX9_39 dX9_restore_11 c64 (by decide) rfl rfl ?_
        refine r_iload_n (pc2 := 15) 1 dX9_restore_14 rfl rfl rfl ?_
        refine r_aaldN (pc2 := 16) dX9_restore_15 c79 (by decide) (by decide) (nI_vp (j := i) rfl (by omega) (by decide)).1 (by rw [nI_clamp (by omega)]; exact (hI i h2i).2.1 hz) rfl ?_
        refine r_ifnonnullN (pc2 := 19) dX9_restore_16 rfl ?_
        refine r_bipush (pc2 := 21) (v := -5) dX9_restore_19 (by decide) rfl ?_
        exact r_iret rfl dX9_restore_21 ⟨by unfold rstF; rw [if_pos hx, nI_clamp (by omega), if_pos hz], Ex.rf, s, sg, by unfold rstA; rw [if_neg hc]; subst hreg; exact ⟨hN, hD, hst, hA⟩⟩
      · exact absurd b4 (by decide)
    · have hc : rstC hi (nI i) := ⟨hx, by rw [nI_clamp (by omega)]; exact hz⟩
      obtain ⟨si, sgi, y1, y2, y3, y4, y5, y6, cp⟩ := (hI i h2i).2.2 hz
      have zsi : Z si := by obtain ⟨_, _, _, _, _, ⟨z, _⟩, _⟩ := id y2; exact z
      have hsi := (hZ.zl si zsi).1
      have hDi : DV Z h0 reg ns si sgi kd (reg sgi) := ⟨hL, y2, hZ, y4, rfl, y3, hns, hn, zsi⟩
      generalize hp : 107 + i = p at cp
      have hx2 : Ex [64, 76] h0 h0 := Ex.rf
      refine Cn.go (ls := [.ref 64, .int (nI i)]) (by decide +kernel) rfl (Nat.le_of_ble_eq_true rfl) ?_
      refine r_iload_n (pc2 := 1) 1 dX9_restore_0 rfl rfl rfl ?_
      refine r_callS1 (pc2 := 4) (As := [.int (nI i)]) (st := []) kX9_394 dX9_restore_1 rfl rfl (Nat.le_of_ble_eq_true rfl) (by omega) (c_isImage.mono fun r h2 q => ⟨q.1.trans (by rw [if_pos hx]), q.2⟩) rfl (fun h2 hq1 => ?_)
      subst hq1
      refine r_if_ne (tgt := 10) (pc2 := 7) dX9_restore_4 (by decide) rfl (fun b4 => ?_) (fun b4 => ?_)
      · skip
        refine r_aload_n (pc2 := 11) 0 dX9_restore_10 rfl rfl rfl rfl ?_
        refine r_getf (pc2 := 14) (v := .ref 79) fX9_39 dX9_restore_11 c64 (by decide) rfl rfl ?_
        refine r_iload_n (pc2 := 15) 1 dX9_restore_14 rfl rfl rfl ?_
        refine r_aald (pc2 := 16) dX9_restore_15 c79 (by decide) (by decide) (nI_vp (j := i) rfl (by omega) (by decide)).1 (by rw [nI_clamp (by omega)]; exact y1) hsi rfl ?_
        refine r_ifnonnull (tgt := 22) dX9_restore_16 hsi (by decide) ?_
        refine r_aload_n (pc2 := 23) 0 dX9_restore_22 rfl rfl rfl rfl ?_
        refine r_aload_n (pc2 := 24) 0 dX9_restore_23 rfl rfl rfl rfl ?_
        refine r_getf (pc2 := 27) (v := .ref 79) fX9_39 dX9_restore_24 c64 (by decide) rfl rfl ?_
        refine r_iload_n (pc2 := 28) 1 dX9_restore_27 rfl rfl rfl ?_
        refine r_aald (pc2 := 29) dX9_restore_28 c79 (by decide) (by decide) (nI_vp (j := i) rfl (by omega) (by decide)).1 (by rw [nI_clamp (by omega)]; exact y1) hsi rfl ?_
        refine r_putfX (pc2 := 32) [.ref 65, .int (nI ns), .ref si, .ref 76, .ref 77, .ref 78, .int (nI (a 45)), .ref 79, .ref 80, .ref 81, .ref 82, .ref 90, .ref 94, .ref w1, .ref w2, wk, dt] fX9_21 dX9_restore_29 c64 (by decide) (Nat.le_of_ble_eq_true rfl) (okO hsi) rfl rfl (fun h z29 o29 c64 => ?_)
        have c76 := (o29 76 (by decide)).trans c76
        have c79 := (o29 79 (by decide)).trans c79
        have c80 := (o29 80 (by decide)).trans c80
        have cp := (o29 p (by omega)).trans cp
        have hx2 := hx2.step (a := 64) (by simp) z29 o29
        refine r_aload_n (pc2 := 33) 0 dX9_restore_32 rfl rfl rfl rfl ?_
        refine r_getf (pc2 := 36) (v := .ref 76) fX9_28 dX9_restore_33 c64 (by decide) rfl rfl ?_
        refine r_aload_n (pc2 := 37) 0 dX9_restore_36 rfl rfl rfl rfl ?_
        refine r_getf (pc2 := 40) (v := .ref 80) fX9_43 dX9_restore_37 c64 (by decide) rfl rfl ?_
        refine r_iload_n (pc2 := 41) 1 dX9_restore_40 rfl rfl rfl ?_
        refine r_aald (pc2 := 42) dX9_restore_41 c80 (by decide) (by decide) (nI_vp (j := i) rfl (by omega) (by decide)).1 (by rw [nI_clamp (by omega), hg i h2i, hp]) (by omega) rfl ?_
        refine r_callV0 (pc2 := 45) (As := [.ref p]) (st := []) kX9_81 rfl rfl dX9_restore_42 c76 (by decide) rfl rfl (Nat.le_of_ble_eq_true rfl) (by omega) (c_becomeK (aSt.of c76) cp (by decide) (by omega) (by omega)) rfl (fun h hq42 => ?_)
        obtain ⟨hxb, c76⟩ := hq42
        have c64 := hxb.get (by simp) c64
        have c79 := hxb.get (by simp) c79
        have c80 := hxb.get (by simp) c80
        have hx2 := hx2.trans hxb (by simp)
        have hxb9 := c76
        refine r_aload_n (pc2 := 46) 0 dX9_restore_45 rfl rfl rfl rfl ?_
        refine r_iconst (pc2 := 47) (v := 0) dX9_restore_46 (by decide) rfl ?_
        refine r_putfX (pc2 := 50) [.ref 65, .int (nI ns), .ref si, .ref 76, .ref 77, .ref 78, .int 0, .ref 79, .ref 80, .ref 81, .ref 82, .ref 90, .ref 94, .ref w1, .ref w2, wk, dt] fX9_102 dX9_restore_47 c64 (by decide) (Nat.le_of_ble_eq_true rfl) rfl rfl rfl (fun h z47 o47 c64 => ?_)
        have c79 := (o47 79 (by decide)).trans c79
        have c80 := (o47 80 (by decide)).trans c80
        have hx2 := hx2.step (a := 64) (by simp) z47 o47
        refine r_iconst (pc2 := 51) (v := 0) dX9_restore_50 (by decide) rfl ?_
        exact r_iret rfl dX9_restore_51 ⟨by unfold rstF; rw [if_pos hx, nI_clamp (by omega), if_neg hz], hx2, si, sgi, by unfold rstA; rw [if_pos hc, nI_clamp (by omega)]; exact ⟨⟨by rw [rstN_45]; exact c64, by rw [o47 76 (by decide), hxb9, sdL_congr (k := keepV (rstN a i)) (k2 := keepV (img a i)) (fun j hj => rstN_k (k := 22 + j) (by omega) (by omega))], h77.ex (hx2.2 77 (by simp)), (hM.frame hA.nd (fun q hq => hx2.2 q (by simp; omega))).none rstN_45⟩, ⟨hDi.of hx2 (by simp), rstN_ain y4.1 y5 y6⟩⟩⟩
      · exact absurd b4 (by decide)
  · have hc : ¬ rstC hi x := fun q => hx q.1
    refine Cn.go (ls := [.ref 64, .int x]) (by decide +kernel) rfl (Nat.le_of_ble_eq_true rfl) ?_
    refine r_iload_n (pc2 := 1) 1 dX9_restore_0 rfl rfl rfl ?_
    refine r_callS1 (pc2 := 4) (As := [.int x]) (st := []) kX9_394 dX9_restore_1 rfl rfl (Nat.le_of_ble_eq_true rfl) (by omega) (c_isImage.mono fun r h2 q => ⟨q.1.trans (by rw [if_neg hx]), q.2⟩) rfl (fun h2 hq1 => ?_)
    subst hq1
    refine r_if_ne (tgt := 10) (pc2 := 7) dX9_restore_4 (by decide) rfl (fun b4 => ?_) (fun b4 => ?_)
    · exact absurd b4 (by decide)
    · skip
      refine r_bipush (pc2 := 9) (v := -2) dX9_restore_7 (by decide) rfl ?_
      exact r_iret rfl dX9_restore_9 ⟨by unfold rstF; rw [if_neg hx], Ex.rf, s, sg, by unfold rstA; rw [if_neg hc]; subst hreg; exact ⟨hN, hD, hst, hA⟩⟩
