/-! the class: trays -/
abbrev TR : List Nat := [109, 110, 111, 112, 113, 114, 115, 116]
def TrO (h : Hp) (t : Nat) (s m : Int32) (nu : Nat → Int64) : Prop := ∃ (ms so si : Int32) (vv : Nat → Int64), h.1 (109 + 2 * t) = some (.inr (7, [.int ms, .int so, .int si, .ref (110 + 2 * t)])) ∧ h.1 (110 + 2 * t) = some (aL 40 vv) ∧ (s = -1 → ms = 1) ∧ (s ≠ -1 → ms = 0 ∧ so = s ∧ si = m ∧ ∀ j, j < m.toNatClampNeg → vv j = nu j)
def MT (h : Hp) (rs rm : Nat → Int32) (nu : Nat → Int64) : Prop := (∃ f, h.1 81 = some (aR 6 4 f) ∧ ∀ t, t < 4 → f t = some (109 + 2 * t)) ∧ ∀ t, t < 4 → TrO h t (rs t) (rm t) (fun j => nu (40 * t + j))
theorem TrO.mono {h h2 : Hp} {t : Nat} {s m : Int32} {nu nu2 : Nat → Int64} (x : TrO h t s m nu) (e1 : h2.1 (109 + 2 * t) = h.1 (109 + 2 * t)) (e2 : h2.1 (110 + 2 * t) = h.1 (110 + 2 * t)) (e : s ≠ -1 → ∀ j, j < m.toNatClampNeg → nu2 j = nu j) : TrO h2 t s m nu2 := by
  obtain ⟨ms, so, si, vv, c1, c2, q1, q2⟩ := x
  exact ⟨ms, so, si, vv, e1.trans c1, e2.trans c2, q1, fun z => ⟨(q2 z).1, (q2 z).2.1, (q2 z).2.2.1, fun j hj => ((q2 z).2.2.2 j hj).trans (e z j hj).symm⟩⟩
theorem MT.frame {h h2 : Hp} {rs rm : Nat → Int32} {nu : Nat → Int64} (x : MT h rs rm nu) (e : ∀ q, q = 81 ∨ (109 ≤ q ∧ q ≤ 116) → h2.1 q = h.1 q) : MT h2 rs rm nu := by
  obtain ⟨⟨f, c, r⟩, o⟩ := x
  exact ⟨⟨f, (e 81 (by omega)).trans c, r⟩, fun t ht => (o t ht).mono (e _ (by omega)) (e _ (by omega)) (fun _ _ _ => rfl)⟩
theorem MT.set {h h2 : Hp} {t : Nat} {rs rm rs2 rm2 : Nat → Int32} {nu nu2 : Nat → Int64} (x : MT h rs rm nu) (ht : t < 4) (hT : TOK rs rm) (e : Ex [109 + 2 * t, 110 + 2 * t] h h2) (n : TrO h2 t (rs2 t) (rm2 t) (fun j => nu2 (40 * t + j))) (o : ∀ u, u < 4 → u ≠ t → rs2 u = rs u ∧ rm2 u = rm u ∧ ∀ j, j < 40 → nu2 (40 * u + j) = nu (40 * u + j)) : MT h2 rs2 rm2 nu2 := by
  obtain ⟨⟨f, c, r⟩, w⟩ := x
  refine ⟨⟨f, (e.2 81 (by simp; omega)).trans c, r⟩, fun u hu => ?_⟩
  by_cases q : u = t
  · subst q; exact n
  · obtain ⟨o1, o2, o3⟩ := o u hu q
    rw [o1, o2]
    exact (w u hu).mono (e.2 _ (by simp; omega)) (e.2 _ (by simp; omega)) (fun _ j hj => o3 j (by have := (hT u hu).2; unfold rowN at this; omega))
theorem tr_sub {t : Nat} (ht : t < 4) : ∀ q ∈ [109 + 2 * t, 110 + 2 * t], q ∈ TR := by
  intro q h
  simp at h ⊢
  omega
theorem lt4 {x : Int32} (h : x < 4) : x ≤ nI 3 := by
  have h1 : x.toInt < 4 := by simpa using Int32.lt_iff_toInt_lt.mp h
  exact Int32.le_iff_toInt_le.mpr (by show x.toInt ≤ 3; omega)
theorem lt4_of {x : Int32} (h : x ≤ nI 3) : x < 4 := by
  have h1 : x.toInt ≤ 3 := Int32.le_iff_toInt_le.mp h
  exact Int32.lt_iff_toInt_lt.mpr (by show x.toInt < 4; omega)
set_option maxRecDepth 20000 in
set_option maxHeartbeats 1000000 in
theorem c_isTray {E : EnvT} {d : Nat} {h0 : Hp} {x : Int32} : Cn E mX9_isTray d [.int x] h0 (fun r h2 => r = some (.int (if inR 0 3 x then (1 : Int32) else 0)) ∧ h2 = h0) := by
  by_cases hx0 : inR 0 3 x
  · skip
    refine Cn.go (ls := [.int x]) (by decide +kernel) rfl (Nat.le_of_ble_eq_true rfl) ?_
    refine r_iload_n (pc2 := 1) 0 dX9_isTray_0 rfl rfl rfl ?_
    refine r_if_lt (tgt := 13) (pc2 := 4) dX9_isTray_1 (by decide) rfl (fun b1 => ?_) (fun b1 => ?_)
    · exact absurd b1 (Int32.not_lt.mpr ((inR_iff (l := 0) (h := 3) (by decide) (by decide) x).mp hx0).1)
    · skip
      refine r_iload_n (pc2 := 5) 0 dX9_isTray_4 rfl rfl rfl ?_
      refine r_iconst (pc2 := 6) (v := 4) dX9_isTray_5 (by decide) rfl ?_
      refine r_icmp_ge (tgt := 13) (pc2 := 9) dX9_isTray_6 (by decide) rfl (fun b6 => ?_) (fun b6 => ?_)
      · exact absurd (lt4_of ((inR_iff (l := 0) (h := 3) (by decide) (by decide) x).mp hx0).2) (Int32.not_lt.mpr b6)
      · skip
        refine r_iconst (pc2 := 10) (v := 1) dX9_isTray_9 (by decide) rfl ?_
        refine r_goto (pc2 := 14) dX9_isTray_10 (by decide) ?_
        exact r_zret (ty := .boolean) rfl (by decide) dX9_isTray_14 ⟨by rw [if_pos hx0], rfl⟩
  · skip
    refine Cn.go (ls := [.int x]) (by decide +kernel) rfl (Nat.le_of_ble_eq_true rfl) ?_
    refine r_iload_n (pc2 := 1) 0 dX9_isTray_0 rfl rfl rfl ?_
    refine r_if_lt (tgt := 13) (pc2 := 4) dX9_isTray_1 (by decide) rfl (fun b1 => ?_) (fun b1 => ?_)
    · skip
      refine r_iconst (pc2 := 14) (v := 0) dX9_isTray_13 (by decide) rfl ?_
      exact r_zret (ty := .boolean) rfl (by decide) dX9_isTray_14 ⟨by rw [if_neg hx0], rfl⟩
    · skip
      refine r_iload_n (pc2 := 5) 0 dX9_isTray_4 rfl rfl rfl ?_
      refine r_iconst (pc2 := 6) (v := 4) dX9_isTray_5 (by decide) rfl ?_
      refine r_icmp_ge (tgt := 13) (pc2 := 9) dX9_isTray_6 (by decide) rfl (fun b6 => ?_) (fun b6 => ?_)
      · skip
        refine r_iconst (pc2 := 14) (v := 0) dX9_isTray_13 (by decide) rfl ?_
        exact r_zret (ty := .boolean) rfl (by decide) dX9_isTray_14 ⟨by rw [if_neg hx0], rfl⟩
      · exact absurd ((inR_iff (l := 0) (h := 3) (by decide) (by decide) x).mpr ⟨Int32.not_lt.mp b1, lt4 (Int32.not_le.mp b6)⟩) hx0
set_option maxRecDepth 20000 in
set_option maxHeartbeats 1000000 in
theorem c_fillL {E : EnvT} {d : Nat} {h0 : Hp} {a n : Nat} {f : Nat → Int64} {z : Int64} (ca : h0.1 a = some (aL n f)) (ha : 64 ≤ a) (hn : n < 2 ^ 31) : Cn E mJ7_fill_d0a16 d [.ref a, .long z] h0 (fun r h2 => r = none ∧ Ex [a] h0 h2 ∧ ∃ g, h2.1 a = some (aL n g) ∧ ∀ j, j < n → g j = z) := by
  have loop : ∀ (m k : Nat) (h : Hp) (g : Nat → Int64), k + m = n → Ex [a] h0 h → h.1 a = some (aL n g) → (∀ j, j < k → g j = z) → Fr E mJ7_fill_d0a16 d 6 [.ref a, .long z, .float 0, .int (nI k), .int (nI n)] [] h (fun r h2 => r = none ∧ Ex [a] h0 h2 ∧ ∃ g, h2.1 a = some (aL n g) ∧ ∀ j, j < n → g j = z) := by
    intro m
    induction m with
    | zero =>
      intro k h g hk hx ca hg
      obtain rfl : k = n := by omega
      refine r_iload_n (pc2 := 7) 3 dJ7_fill_d0a16_6 rfl rfl rfl ?_
      refine r_iload (pc2 := 9) 4 dJ7_fill_d0a16_7 rfl rfl ?_
      refine r_icmp_ge (tgt := 22) (pc2 := 12) dJ7_fill_d0a16_9 (by decide) rfl (fun b9 => ?_) (fun b9 => ?_)
      · skip
        exact r_vret rfl dJ7_fill_d0a16_22 ⟨rfl, hx, g, ca, hg⟩
      · exact absurd (nI_le (Nat.le_refl _) (by omega)) b9
    | succ m ih =>
      intro k h g hk hx ca hg
      have hlt : k < n := by omega
      refine r_iload_n (pc2 := 7) 3 dJ7_fill_d0a16_6 rfl rfl rfl ?_
      refine r_iload (pc2 := 9) 4 dJ7_fill_d0a16_7 rfl rfl ?_
      refine r_icmp_ge (tgt := 22) (pc2 := 12) dJ7_fill_d0a16_9 (by decide) rfl (fun b9 => ?_) (fun b9 => ?_)
      · exact absurd b9 (nI_ge hlt (by omega))
      · skip
        refine r_aload_n (pc2 := 13) 0 dJ7_fill_d0a16_12 rfl rfl rfl rfl ?_
        refine r_iload_n (pc2 := 14) 3 dJ7_fill_d0a16_13 rfl rfl rfl ?_
        refine r_lload_n (pc2 := 15) 1 dJ7_fill_d0a16_14 rfl rfl rfl ?_
        refine r_lastN (pc2 := 16) k dJ7_fill_d0a16_15 ca ha rfl hlt (by omega) rfl (fun h z15 o15 ca => ?_)
        have hx := hx.step (a := a) (by simp) z15 o15
        obtain ⟨x16, e16⟩ : ∃ z : Int32, z = (nI k) + (1) := ⟨_, rfl⟩
        refine r_iinc (pc2 := 19) (ls2 := [.ref a, .long z, .float 0, .int x16, .int (nI n)]) (v := x16) 3 dJ7_fill_d0a16_16 rfl (by rw [e16]; rfl) rfl rfl rfl ?_
        refine r_goto (pc2 := 6) dJ7_fill_d0a16_19 (by decide) ?_
        rw [e16, nI_1]
        exact ih (k + 1) h _ (by omega) hx ca (fun j hj => by show (if j = k then z else g j) = z; split; rfl; exact hg j (by omega))
  refine Cn.go (ls := [.ref a, .long z, .float 0, .float 0, .float 0]) (by decide +kernel) rfl (Nat.le_of_ble_eq_true rfl) ?_
  refine r_iconst (pc2 := 1) (v := 0) dJ7_fill_d0a16_0 (by decide) rfl ?_
  refine r_cast (nI 0) (rfl) ?_
  refine r_istore_n (pc2 := 2) (ls2 := [.ref a, .long z, .float 0, .int (nI 0), .float 0]) 3 dJ7_fill_d0a16_1 rfl (by decide) rfl rfl rfl ?_
  refine r_aload_n (pc2 := 3) 0 dJ7_fill_d0a16_2 rfl rfl rfl rfl ?_
  refine r_alen (pc2 := 4) dJ7_fill_d0a16_3 ca ha (by decide) rfl ?_
  refine r_istore (pc2 := 6) (ls2 := [.ref a, .long z, .float 0, .int (nI 0), .int (nI n)]) 4 dJ7_fill_d0a16_4 (by decide) rfl rfl rfl ?_
  exact loop n 0 h0 f (by omega) Ex.rf ca (fun j hj => absurd hj (by omega))
set_option maxRecDepth 20000 in
set_option maxHeartbeats 1000000 in
theorem c_fillI {E : EnvT} {d : Nat} {h0 : Hp} {a n : Nat} {f : Nat → Int32} {z : Int32} (ca : h0.1 a = some (aI n f)) (ha : 64 ≤ a) (hn : n < 2 ^ 31) : Cn E mJ7_fill_53178 d [.ref a, .int z] h0 (fun r h2 => r = none ∧ Ex [a] h0 h2 ∧ ∃ g, h2.1 a = some (aI n g) ∧ ∀ j, j < n → g j = z) := by
  have loop : ∀ (m k : Nat) (h : Hp) (g : Nat → Int32), k + m = n → Ex [a] h0 h → h.1 a = some (aI n g) → (∀ j, j < k → g j = z) → Fr E mJ7_fill_53178 d 5 [.ref a, .int z, .int (nI k), .int (nI n)] [] h (fun r h2 => r = none ∧ Ex [a] h0 h2 ∧ ∃ g, h2.1 a = some (aI n g) ∧ ∀ j, j < n → g j = z) := by
    intro m
    induction m with
    | zero =>
      intro k h g hk hx ca hg
      obtain rfl : k = n := by omega
      refine r_iload_n (pc2 := 6) 2 dJ7_fill_53178_5 rfl rfl rfl ?_
      refine r_iload_n (pc2 := 7) 3 dJ7_fill_53178_6 rfl rfl rfl ?_
      refine r_icmp_ge (tgt := 20) (pc2 := 10) dJ7_fill_53178_7 (by decide) rfl (fun b7 => ?_) (fun b7 => ?_)
      · skip
        exact r_vret rfl dJ7_fill_53178_20 ⟨rfl, hx, g, ca, hg⟩
      · exact absurd (nI_le (Nat.le_refl _) (by omega)) b7
    | succ m ih =>
      intro k h g hk hx ca hg
      have hlt : k < n := by omega
      refine r_iload_n (pc2 := 6) 2 dJ7_fill_53178_5 rfl rfl rfl ?_
      refine r_iload_n (pc2 := 7) 3 dJ7_fill_53178_6 rfl rfl rfl ?_
      refine r_icmp_ge (tgt := 20) (pc2 := 10) dJ7_fill_53178_7 (by decide) rfl (fun b7 => ?_) (fun b7 => ?_)
      · exact absurd b7 (nI_ge hlt (by omega))
      · skip
        refine r_aload_n (pc2 := 11) 0 dJ7_fill_53178_10 rfl rfl rfl rfl ?_
        refine r_iload_n (pc2 := 12) 2 dJ7_fill_53178_11 rfl rfl rfl ?_
        refine r_iload_n (pc2 := 13) 1 dJ7_fill_53178_12 rfl rfl rfl ?_
        refine r_iastN (pc2 := 14) k dJ7_fill_53178_13 ca ha rfl hlt (by omega) rfl (fun h z13 o13 ca => ?_)
        have hx := hx.step (a := a) (by simp) z13 o13
        obtain ⟨x14, e14⟩ : ∃ z : Int32, z = (nI k) + (1) := ⟨_, rfl⟩
        refine r_iinc (pc2 := 17) (ls2 := [.ref a, .int z, .int x14, .int (nI n)]) (v := x14) 2 dJ7_fill_53178_14 rfl (by rw [e14]; rfl) rfl rfl rfl ?_
        refine r_goto (pc2 := 5) dJ7_fill_53178_17 (by decide) ?_
        rw [e14, nI_1]
        exact ih (k + 1) h _ (by omega) hx ca (fun j hj => by show (if j = k then z else g j) = z; split; rfl; exact hg j (by omega))
  refine Cn.go (ls := [.ref a, .int z, .float 0, .float 0]) (by decide +kernel) rfl (Nat.le_of_ble_eq_true rfl) ?_
  refine r_iconst (pc2 := 1) (v := 0) dJ7_fill_53178_0 (by decide) rfl ?_
  refine r_cast (nI 0) (rfl) ?_
  refine r_istore_n (pc2 := 2) (ls2 := [.ref a, .int z, .int (nI 0), .float 0]) 2 dJ7_fill_53178_1 rfl (by decide) rfl rfl rfl ?_
  refine r_aload_n (pc2 := 3) 0 dJ7_fill_53178_2 rfl rfl rfl rfl ?_
  refine r_alen (pc2 := 4) dJ7_fill_53178_3 ca ha (by decide) rfl ?_
  refine r_istore_n (pc2 := 5) (ls2 := [.ref a, .int z, .int (nI 0), .int (nI n)]) 3 dJ7_fill_53178_4 rfl (by decide) rfl rfl rfl ?_
  exact loop n 0 h0 f (by omega) Ex.rf ca (fun j hj => absurd hj (by omega))
set_option maxRecDepth 20000 in
set_option maxHeartbeats 1000000 in
theorem c_tget {E : EnvT} {d : Nat} {h0 : Hp} {p q n i : Nat} {ms so : Int32} {vv : Nat → Int64} (ct : h0.1 p = some (.inr (7, [.int ms, .int so, .int (nI n), .ref q]))) (cv : h0.1 q = some (aL 40 vv)) (hp : 64 ≤ p) (hq : 64 ≤ q) (hin : i < n) (hn : n ≤ 40) : Cn E mX7_get d [.ref p, .int (nI i)] h0 (fun r h2 => r = some (.long (vv i)) ∧ h2 = h0) := by
  refine Cn.go (ls := [.ref p, .int (nI i)]) (by decide +kernel) rfl (Nat.le_of_ble_eq_true rfl) ?_
  refine r_iload_n (pc2 := 1) 1 dX7_get_0 rfl rfl rfl ?_
  refine r_if_lt (tgt := 27) (pc2 := 4) dX7_get_1 (by decide) rfl (fun b1 => ?_) (fun b1 => ?_)
  · exact absurd b1 (nI_pos (by omega))
  · skip
    refine r_iload_n (pc2 := 5) 1 dX7_get_4 rfl rfl rfl ?_
    refine r_aload_n (pc2 := 6) 0 dX7_get_5 rfl rfl rfl rfl ?_
    refine r_getf (pc2 := 9) (v := .int (nI n)) fX7_23 dX7_get_6 ct hp rfl rfl ?_
    refine r_icmp_ge (tgt := 27) (pc2 := 12) dX7_get_9 (by decide) rfl (fun b9 => ?_) (fun b9 => ?_)
    · exact absurd b9 (nI_ge hin (by omega))
    · skip
      refine r_iload_n (pc2 := 13) 1 dX7_get_12 rfl rfl rfl ?_
      refine r_bipush (pc2 := 15) (v := 40) dX7_get_13 (by decide) rfl ?_
      refine r_icmp_ge (tgt := 27) (pc2 := 18) dX7_get_15 (by decide) rfl (fun b15 => ?_) (fun b15 => ?_)
      · exact absurd b15 (nI_ge (b := 40) (by omega) (by decide))
      · skip
        refine r_aload_n (pc2 := 19) 0 dX7_get_18 rfl rfl rfl rfl ?_
        refine r_getf (pc2 := 22) (v := .ref q) fX7_15 dX7_get_19 ct hp rfl rfl ?_
        refine r_iload_n (pc2 := 23) 1 dX7_get_22 rfl rfl rfl ?_
        refine r_laldN (pc2 := 24) i dX7_get_23 cv hq rfl (by omega) (by decide) rfl ?_
        refine r_goto (pc2 := 28) dX7_get_24 (by decide) ?_
        exact r_lret rfl dX7_get_28 ⟨rfl, rfl⟩
set_option maxRecDepth 20000 in
set_option maxHeartbeats 1000000 in
theorem c_tcut {E : EnvT} {d : Nat} {h0 : Hp} {p : Nat} {so : Int32} {z : Int64} {u0 u1 u2 : Value} (ct : h0.1 p = some (.inr (7, [u0, .int so, u1, u2]))) (hp : 64 ≤ p) : Cn E mX7_cut d [.ref p, .long z] h0 (fun r h2 => r = some (.long (cutN z so)) ∧ h2 = h0) := by
  by_cases x0 : so = 0
  · subst x0
    refine Cn.go (ls := [.ref p, .long z, .float 0]) (by decide +kernel) rfl (Nat.le_of_ble_eq_true rfl) ?_
    refine r_aload_n (pc2 := 1) 0 dX7_cut_0 rfl rfl rfl rfl ?_
    refine r_getf (pc2 := 4) (v := .int 0) fX7_19 dX7_cut_1 ct hp rfl rfl ?_
    refine r_tsw (pc2 := 0) (tgt := 32) (off := 28) dX7_cut_4 (by decide) (by decide) (by decide) (by decide) ?_
    refine r_lload_n (pc2 := 33) 1 dX7_cut_32 rfl rfl rfl ?_
    refine r_l2i (pc2 := 34) dX7_cut_33 rfl ?_
    refine r_i2b (pc2 := 35) dX7_cut_34 rfl ?_
    refine r_i2l (pc2 := 36) dX7_cut_35 rfl ?_
    exact r_lret rfl dX7_cut_36 ⟨rfl, rfl⟩
  · skip
    by_cases x1 : so = 1
    · subst x1
      refine Cn.go (ls := [.ref p, .long z, .float 0]) (by decide +kernel) rfl (Nat.le_of_ble_eq_true rfl) ?_
      refine r_aload_n (pc2 := 1) 0 dX7_cut_0 rfl rfl rfl rfl ?_
      refine r_getf (pc2 := 4) (v := .int 1) fX7_19 dX7_cut_1 ct hp rfl rfl ?_
      refine r_tsw (pc2 := 0) (tgt := 37) (off := 33) dX7_cut_4 (by decide) (by decide) (by decide) (by decide) ?_
      refine r_lload_n (pc2 := 38) 1 dX7_cut_37 rfl rfl rfl ?_
      refine r_l2i (pc2 := 39) dX7_cut_38 rfl ?_
      refine r_i2s (pc2 := 40) dX7_cut_39 rfl ?_
      refine r_i2l (pc2 := 41) dX7_cut_40 rfl ?_
      exact r_lret rfl dX7_cut_41 ⟨rfl, rfl⟩
    · skip
      by_cases x2 : so = 2
      · subst x2
        refine Cn.go (ls := [.ref p, .long z, .float 0]) (by decide +kernel) rfl (Nat.le_of_ble_eq_true rfl) ?_
        refine r_aload_n (pc2 := 1) 0 dX7_cut_0 rfl rfl rfl rfl ?_
        refine r_getf (pc2 := 4) (v := .int 2) fX7_19 dX7_cut_1 ct hp rfl rfl ?_
        refine r_tsw (pc2 := 0) (tgt := 42) (off := 38) dX7_cut_4 (by decide) (by decide) (by decide) (by decide) ?_
        refine r_lload_n (pc2 := 43) 1 dX7_cut_42 rfl rfl rfl ?_
        refine r_l2i (pc2 := 44) dX7_cut_43 rfl ?_
        refine r_i2l (pc2 := 45) dX7_cut_44 rfl ?_
        exact r_lret rfl dX7_cut_45 ⟨rfl, rfl⟩
      · skip
        have xout := out_of 2 (by decide) (fun k hk => (match k, hk with | 0, _ => x0 | 1, _ => x1 | 2, _ => x2 : ¬ so = nI k))
        refine Cn.go (ls := [.ref p, .long z, .float 0]) (by decide +kernel) rfl (Nat.le_of_ble_eq_true rfl) ?_
        refine r_aload_n (pc2 := 1) 0 dX7_cut_0 rfl rfl rfl rfl ?_
        refine r_getf (pc2 := 4) (v := .int so) fX7_19 dX7_cut_1 ct hp rfl rfl ?_
        refine r_tswD (pc2 := 0) (tgt := 46) dX7_cut_4 xout (by decide) ?_
        refine r_lload_n (pc2 := 47) 1 dX7_cut_46 rfl rfl rfl ?_
        exact r_lret rfl dX7_cut_47 ⟨by unfold cutN; rw [if_neg x0, if_neg x1, if_neg x2], rfl⟩
set_option maxRecDepth 20000 in
set_option maxHeartbeats 1000000 in
theorem c_tput {E : EnvT} {d : Nat} {h0 : Hp} {p q n i : Nat} {ms so : Int32} {vv : Nat → Int64} {z : Int64} (ct : h0.1 p = some (.inr (7, [.int ms, .int so, .int (nI n), .ref q]))) (cv : h0.1 q = some (aL 40 vv)) (hp : 64 ≤ p) (hq : 64 ≤ q) (hpq : p ≠ q) (hin : i < n) (hn : n ≤ 40) (hd : 1 ≤ d) : Cn E mX7_put d [.ref p, .int (nI i), .long z] h0 (fun r h2 => r = none ∧ Ex [q] h0 h2 ∧ h2.1 q = some (aL 40 (vp_updL vv i (cutN z so)))) := by
  have hx : Ex [q] h0 h0 := Ex.rf
  refine Cn.go (ls := [.ref p, .int (nI i), .long z, .float 0]) (by decide +kernel) rfl (Nat.le_of_ble_eq_true rfl) ?_
  refine r_iload_n (pc2 := 1) 1 dX7_put_0 rfl rfl rfl ?_
  refine r_if_lt (tgt := 29) (pc2 := 4) dX7_put_1 (by decide) rfl (fun b1 => ?_) (fun b1 => ?_)
  · exact absurd b1 (nI_pos (by omega))
  · skip
    refine r_iload_n (pc2 := 5) 1 dX7_put_4 rfl rfl rfl ?_
    refine r_aload_n (pc2 := 6) 0 dX7_put_5 rfl rfl rfl rfl ?_
    refine r_getf (pc2 := 9) (v := .int (nI n)) fX7_23 dX7_put_6 ct hp rfl rfl ?_
    refine r_icmp_ge (tgt := 29) (pc2 := 12) dX7_put_9 (by decide) rfl (fun b9 => ?_) (fun b9 => ?_)
    · exact absurd b9 (nI_ge hin (by omega))
    · skip
      refine r_iload_n (pc2 := 13) 1 dX7_put_12 rfl rfl rfl ?_
      refine r_bipush (pc2 := 15) (v := 40) dX7_put_13 (by decide) rfl ?_
      refine r_icmp_ge (tgt := 29) (pc2 := 18) dX7_put_15 (by decide) rfl (fun b15 => ?_) (fun b15 => ?_)
      · exact absurd b15 (nI_ge (b := 40) (by omega) (by decide))
      · skip
        refine r_aload_n (pc2 := 19) 0 dX7_put_18 rfl rfl rfl rfl ?_
        refine r_getf (pc2 := 22) (v := .ref q) fX7_15 dX7_put_19 ct hp rfl rfl ?_
        refine r_iload_n (pc2 := 23) 1 dX7_put_22 rfl rfl rfl ?_
        refine r_aload_n (pc2 := 24) 0 dX7_put_23 rfl rfl rfl rfl ?_
        refine r_lload_n (pc2 := 25) 2 dX7_put_24 rfl rfl rfl ?_
        refine r_callV1 (pc2 := 28) (As := [.long z]) (st := [.int (nI i), .ref q]) kX7_32 rfl rfl dX7_put_25 ct hp rfl rfl (Nat.le_of_ble_eq_true rfl) (by omega) (c_tcut ct hp) rfl (fun h2 hq25 => ?_)
        subst hq25
        refine r_topl (fun y28 ey28 => ?_)
        refine r_lastN (pc2 := 29) i dX7_put_28 cv hq rfl (by omega) (by decide) rfl (fun h z28 o28 cv => ?_)
        have ct := (o28 p (by omega)).trans ct
        have hx := hx.step (a := q) (by simp) z28 o28
        exact r_vret rfl dX7_put_29 ⟨rfl, hx, by rw [← ey28]; exact cv⟩
set_option maxRecDepth 20000 in
set_option maxHeartbeats 1000000 in
theorem c_tlay {E : EnvT} {d : Nat} {h0 : Hp} {p q : Nat} {y z : Int32} {vv : Nat → Int64} {u0 u1 u2 : Value} (ct : h0.1 p = some (.inr (7, [u0, u1, u2, .ref q]))) (cv : h0.1 q = some (aL 40 vv)) (hp : 64 ≤ p) (hq : 64 ≤ q) (hpq : p ≠ q) (hd : 1 ≤ d) : Cn E mX7_lay d [.ref p, .int y, .int z] h0 (fun r h2 => r = none ∧ Ex [p, q] h0 h2 ∧ h2.1 p = some (.inr (7, [.int 0, .int y, .int z, .ref q])) ∧ ∃ g, h2.1 q = some (aL 40 g) ∧ ∀ j, j < 40 → g j = 0) := by
  have hx : Ex [p, q] h0 h0 := Ex.rf
  refine Cn.go (ls := [.ref p, .int y, .int z]) (by decide +kernel) rfl (Nat.le_of_ble_eq_true rfl) ?_
  refine r_aload_n (pc2 := 1) 0 dX7_lay_0 rfl rfl rfl rfl ?_
  refine r_iconst (pc2 := 2) (v := 0) dX7_lay_1 (by decide) rfl ?_
  refine r_putfX (pc2 := 5) [.int 0, u1, u2, .ref q] fX7_9 dX7_lay_2 ct hp (Nat.le_of_ble_eq_true rfl) rfl rfl rfl (fun h z2 o2 ct => ?_)
  have cv := (o2 q (by omega)).trans cv
  have hx := hx.step (a := p) (by simp) z2 o2
  refine r_aload_n (pc2 := 6) 0 dX7_lay_5 rfl rfl rfl rfl ?_
  refine r_iload_n (pc2 := 7) 1 dX7_lay_6 rfl rfl rfl ?_
  refine r_putfX (pc2 := 10) [.int 0, .int y, u2, .ref q] fX7_19 dX7_lay_7 ct hp (Nat.le_of_ble_eq_true rfl) rfl rfl rfl (fun h z7 o7 ct => ?_)
  have cv := (o7 q (by omega)).trans cv
  have hx := hx.step (a := p) (by simp) z7 o7
  refine r_aload_n (pc2 := 11) 0 dX7_lay_10 rfl rfl rfl rfl ?_
  refine r_iload_n (pc2 := 12) 2 dX7_lay_11 rfl rfl rfl ?_
  refine r_putfX (pc2 := 15) [.int 0, .int y, .int z, .ref q] fX7_23 dX7_lay_12 ct hp (Nat.le_of_ble_eq_true rfl) rfl rfl rfl (fun h z12 o12 ct => ?_)
  have cv := (o12 q (by omega)).trans cv
  have hx := hx.step (a := p) (by simp) z12 o12
  refine r_aload_n (pc2 := 16) 0 dX7_lay_15 rfl rfl rfl rfl ?_
  refine r_getf (pc2 := 19) (v := .ref q) fX7_15 dX7_lay_16 ct hp rfl rfl ?_
  refine r_lconst (pc2 := 20) (v := 0) dX7_lay_19 (by decide) rfl ?_
  refine r_callS0 (pc2 := 23) (As := [.ref q, .long 0]) (st := []) kX7_26 dX7_lay_20 rfl rfl (Nat.le_of_ble_eq_true rfl) (by omega) (c_fillL cv hq (by decide)) rfl (fun h hq20 => ?_)
  obtain ⟨hxf, g, cv, hg⟩ := hq20
  have ct := hxf.get (by simp; omega) ct
  have hx := hx.trans hxf (by simp)
  exact r_vret rfl dX7_lay_23 ⟨rfl, hx, ct, g, cv, hg⟩
