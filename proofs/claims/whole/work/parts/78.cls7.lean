/-! the class: deeds -/
def coL (s ns un w1 w2 : Nat) (wk dt : Value) : List Value := [.ref 65, .int (nI ns), .ref s, .ref 76, .ref 77, .ref 78, .int (nI un), .ref 79, .ref 80, .ref 81, .ref 82, .ref 90, .ref 94, .ref w1, .ref w2, wk, dt]
/-- cells that stay as they are: within the heap, none of those that are written -/
def ZP (Z : Nat → Prop) (h : Hp) (kd : Nat) : Prop := ∀ q, Z q → ((68 ≤ q ∧ q ≤ 75) ∨ (83 ≤ q ∧ q ≤ 86) ∨ 139 ≤ q) ∧ q ≠ kd ∧ q < h.2.1
theorem ZP.zl {Z : Nat → Prop} {h : Hp} {kd : Nat} (x : ZP Z h kd) : ZL Z kd := fun q z => by
  have := x q z
  exact ⟨by omega, by omega, by omega, by omega, by omega, this.2.1⟩
theorem ZP.kq {Z : Nat → Prop} {h h2 : Hp} {kd kd2 : Nat} (x : ZP Z h kd) (k : KQ h h2 kd kd2) : ZP Z h2 kd2 := fun q z => by
  have := x q z
  rcases k with ⟨k1, k2⟩ | ⟨k1, k2, k3, k4⟩
  · refine ⟨this.1, by rw [k1]; exact this.2.1, by rw [k2]; exact this.2.2⟩
  · refine ⟨this.1, by omega, by omega⟩
theorem StO.gx {Z : Nat → Prop} {h h2 : Hp} {s sg kd : Nat} {b : FR} {S : List Nat} (o : StO Z h s sg b) (hz : ZP Z h kd) (x : Gx S h h2) (hS : ∀ a ∈ S, (76 ≤ a ∧ a ≤ 82) ∨ (87 ≤ a ∧ a ≤ 116) ∨ a = kd ∨ a < 68) : StO Z h2 s sg b := o.mono (fun q z => x.2 q (hz q z).2.2 (fun m => by
  have h1 := hS q m
  have h2 := hz q z
  omega))
theorem Gx.kd {S : List Nat} {h h1 h2 : Hp} {kd2 : Nat} (x : Gx S h h1) (y : Ex [87, 88, 89, kd2] h1 h2) (hk : kd2 ∈ S ∨ h.2.1 ≤ kd2) (h87 : 87 ∈ S) (h88 : 88 ∈ S) (h89 : 89 ∈ S) : Gx S h h2 := ⟨by rw [y.1]; exact x.1, fun q a b => by
  refine (y.2 q (fun m => ?_)).trans (x.2 q a b)
  simp at m
  rcases m with m | m | m | m
  · exact b (m ▸ h87)
  · exact b (m ▸ h88)
  · exact b (m ▸ h89)
  · rcases hk with hk | hk
    · exact b (m ▸ hk)
    · omega⟩
def DV (Z : Nat → Prop) (h : Hp) (reg : Nat → FR) (ns s sg kd : Nat) (b : FR) : Prop := LWA h reg ns kd ∧ StO Z h s sg b ∧ ZP Z h kd ∧ LK b ∧ b = reg sg ∧ sg ≤ ns ∧ ns ≤ 900 ∧ 139 ≤ h.2.1 ∧ Z s
abbrev DS (p kd : Nat) : List Nat := [82, 87, 88, 89, p, kd]
def DP (reg : Nat → FR) (ns p : Nat) (h h2 : Hp) (kd kd2 : Nat) (a2 : FR) : Prop := KQ h h2 kd kd2 ∧ LWA h2 reg ns kd2 ∧ Gx (DS p kd) h h2 ∧ h2.1 p = some (.inr (5, sdL (keepV a2)))
theorem DV.next {Z : Nat → Prop} {h h2 : Hp} {reg : Nat → FR} {ns s sg kd kd2 p : Nat} {b : FR} (x : DV Z h reg ns s sg kd b) (hp : p = 76 ∨ p = 77) (k : KQ h h2 kd kd2) (l : LWA h2 reg ns kd2) (g : Gx (DS p kd) h h2) : DV Z h2 reg ns s sg kd2 b := by
  obtain ⟨x1, x2, x3, x4, x5, x6, x7, x8, x9⟩ := x
  refine ⟨l, x2.gx x3 g (fun a m => ?_), x3.kq k, x4, x5, x6, x7, Nat.le_trans x8 g.1, x9⟩
  simp at m
  omega
theorem KQ.rf {h : Hp} {kd : Nat} : KQ h h kd kd := Or.inl ⟨rfl, rfl⟩
theorem KQ.trans {h h1 h2 : Hp} {kd kd1 kd2 : Nat} (x : KQ h h1 kd kd1) (y : KQ h1 h2 kd1 kd2) (h0 : 139 ≤ h.2.1) : KQ h h2 kd kd2 := by
  rcases x with ⟨x1, x2⟩ | ⟨x1, x2, x3, x4⟩ <;> rcases y with ⟨y1, y2⟩ | ⟨y1, y2, y3, y4⟩
  · exact Or.inl ⟨y1.trans x1, y2.trans x2⟩
  · rw [x2] at y2 y3 y4
    exact Or.inr ⟨by omega, y2, y3, y4⟩
  · exact Or.inr ⟨x1, by omega, by rw [y2]; exact x3, by rw [y2]; exact x4⟩
  · omega
theorem lt_le64 {G : Nat} (hG : G ≤ 4) (x : Int64) : x < lN (2 ^ G) ↔ x ≤ lN (2 ^ G - 1) := by
  have h1 : (lN (2 ^ G)).toInt = ((2 ^ G : Nat) : Int) := pk_lT (Nat.lt_of_le_of_lt (Nat.pow_le_pow_right (by decide) hG) (by decide))
  have h2 : (lN (2 ^ G - 1)).toInt = ((2 ^ G - 1 : Nat) : Int) := pk_lT (Nat.lt_of_le_of_lt (Nat.le_trans (Nat.sub_le _ _) (Nat.pow_le_pow_right (by decide) hG)) (by decide))
  have h3 : 0 < 2 ^ G := Nat.two_pow_pos G
  rw [Int64.lt_iff_toInt_lt, Int64.le_iff_toInt_le, h1, h2]
  omega
theorem inP_iff {n : Nat} (hn : n ≤ 8) (x : Int32) : inP n x ↔ 0 ≤ x ∧ x < nI n := by
  have h1 : (nI n).toInt = (n : Int) := nI_toInt (by omega)
  have h2 : (nI n - 1).toInt = (n : Int) - 1 := by
    have := pk_sub_toInt (a := n) (b := 1) (by omega) (by omega)
    exact this
  unfold inP
  rw [show (0 : Int64) = (0 : Int32).toInt64 by decide, i2l_le, i2l_le]
  constructor
  · rintro ⟨z1, z2⟩
    exact ⟨z1, Int32.lt_iff_toInt_lt.mpr (by have := Int32.le_iff_toInt_le.mp z2; rw [h2] at this; rw [h1]; omega)⟩
  · rintro ⟨z1, z2⟩
    exact ⟨z1, Int32.le_iff_toInt_le.mpr (by have := Int32.lt_iff_toInt_lt.mp z2; rw [h1] at this; rw [h2]; omega)⟩
set_option maxRecDepth 20000 in
set_option maxHeartbeats 1000000 in
theorem c_isSetC {E : EnvT} {d : Nat} {h0 : Hp} {ns s un w1 w2 : Nat} {wk dt : Value} {sg lo so sa : Nat} {nl sl : Value} {b : FR} {x : Int64} (c64 : h0.1 64 = some (.inr (9, coL s ns un w1 w2 wk dt))) (cs : h0.1 s = some (.inr (6, stL sg b lo so sa nl sl))) (hs64 : 64 ≤ s) (hG : b 3 ≤ 4) : Cn E mX9_isSet d [.ref 64, .long x] h0 (fun r h2 => r = some (.int (if vS (b 3) x then (1 : Int32) else 0)) ∧ h2 = h0) := by
  refine Cn.go (ls := [.ref 64, .long x, .float 0]) (by decide +kernel) rfl (Nat.le_of_ble_eq_true rfl) ?_
  refine r_lload_n (pc2 := 1) 1 dX9_isSet_0 rfl rfl rfl ?_
  refine r_lconst (pc2 := 2) (v := 0) dX9_isSet_1 (by decide) rfl ?_
  refine r_lcmp (pc2 := 3) dX9_isSet_2 rfl ?_
  refine r_if_lt (tgt := 24) (pc2 := 6) dX9_isSet_3 (by decide) rfl (fun b3 => ?_) (fun b3 => ?_)
  · skip
    refine r_iconst (pc2 := 25) (v := 0) dX9_isSet_24 (by decide) rfl ?_
    exact r_zret (ty := .boolean) rfl (by decide) dX9_isSet_25 ⟨by rw [if_neg (fun z => by first | exact absurd ((lgc_ge _ _).mpr z.1) (fun y => absurd b3 (Int32.not_lt.mpr y)) | exact absurd ((lgc_lt _ _).mpr ((lt_le64 hG x).mpr z.2)) (Int32.not_lt.mpr b17))], rfl⟩
  · skip
    refine r_lload_n (pc2 := 7) 1 dX9_isSet_6 rfl rfl rfl ?_
    refine r_lconst (pc2 := 8) (v := 1) dX9_isSet_7 (by decide) rfl ?_
    refine r_aload_n (pc2 := 9) 0 dX9_isSet_8 rfl rfl rfl rfl ?_
    refine r_getf (pc2 := 12) (v := .ref s) fX9_21 dX9_isSet_9 c64 (by decide) rfl rfl ?_
    refine r_getf (pc2 := 15) (v := .int (nI (b 3))) fX9_111 dX9_isSet_12 cs hs64 rfl rfl ?_
    refine r_lshl (pc2 := 16) dX9_isSet_15 rfl ?_
    refine r_castl (lN (2 ^ b 3)) (shl64 (b 3) (by omega)) ?_
    refine r_lcmp (pc2 := 17) dX9_isSet_16 rfl ?_
    refine r_if_ge (tgt := 24) (pc2 := 20) dX9_isSet_17 (by decide) rfl (fun b17 => ?_) (fun b17 => ?_)
    · skip
      refine r_iconst (pc2 := 25) (v := 0) dX9_isSet_24 (by decide) rfl ?_
      exact r_zret (ty := .boolean) rfl (by decide) dX9_isSet_25 ⟨by rw [if_neg (fun z => by first | exact absurd ((lgc_ge _ _).mpr z.1) (fun y => absurd b3 (Int32.not_lt.mpr y)) | exact absurd ((lgc_lt _ _).mpr ((lt_le64 hG x).mpr z.2)) (Int32.not_lt.mpr b17))], rfl⟩
    · skip
      refine r_iconst (pc2 := 21) (v := 1) dX9_isSet_20 (by decide) rfl ?_
      refine r_goto (pc2 := 25) dX9_isSet_21 (by decide) ?_
      exact r_zret (ty := .boolean) rfl (by decide) dX9_isSet_25 ⟨by rw [if_pos ⟨(lgc_ge _ _).mp (Int32.not_lt.mp b3), (lt_le64 hG x).mp (by have z := Int32.not_le.mp b17; exact (lgc_lt _ _).mp z)⟩], rfl⟩
set_option maxRecDepth 20000 in
set_option maxHeartbeats 1000000 in
theorem c_isPersonC {E : EnvT} {d : Nat} {h0 : Hp} {ns s un w1 w2 : Nat} {wk dt : Value} {sg lo so sa : Nat} {nl sl : Value} {b : FR} {x : Int32} (c64 : h0.1 64 = some (.inr (9, coL s ns un w1 w2 wk dt))) (cs : h0.1 s = some (.inr (6, stL sg b lo so sa nl sl))) (hs64 : 64 ≤ s) (hP : b 4 ≤ 8) : Cn E mX9_isPerson d [.ref 64, .int x] h0 (fun r h2 => r = some (.int (if inP (b 4) x then (1 : Int32) else 0)) ∧ h2 = h0) := by
  refine Cn.go (ls := [.ref 64, .int x]) (by decide +kernel) rfl (Nat.le_of_ble_eq_true rfl) ?_
  refine r_iload_n (pc2 := 1) 1 dX9_isPerson_0 rfl rfl rfl ?_
  refine r_if_lt (tgt := 19) (pc2 := 4) dX9_isPerson_1 (by decide) rfl (fun b1 => ?_) (fun b1 => ?_)
  · skip
    refine r_iconst (pc2 := 20) (v := 0) dX9_isPerson_19 (by decide) rfl ?_
    exact r_zret (ty := .boolean) rfl (by decide) dX9_isPerson_20 ⟨by rw [if_neg (fun z => by have y := (inP_iff hP x).mp z; first | exact absurd b1 (Int32.not_lt.mpr y.1) | exact absurd y.2 (Int32.not_lt.mpr b12))], rfl⟩
  · skip
    refine r_iload_n (pc2 := 5) 1 dX9_isPerson_4 rfl rfl rfl ?_
    refine r_aload_n (pc2 := 6) 0 dX9_isPerson_5 rfl rfl rfl rfl ?_
    refine r_getf (pc2 := 9) (v := .ref s) fX9_21 dX9_isPerson_6 c64 (by decide) rfl rfl ?_
    refine r_getf (pc2 := 12) (v := .int (nI (b 4))) fX9_177 dX9_isPerson_9 cs hs64 rfl rfl ?_
    refine r_icmp_ge (tgt := 19) (pc2 := 15) dX9_isPerson_12 (by decide) rfl (fun b12 => ?_) (fun b12 => ?_)
    · skip
      refine r_iconst (pc2 := 20) (v := 0) dX9_isPerson_19 (by decide) rfl ?_
      exact r_zret (ty := .boolean) rfl (by decide) dX9_isPerson_20 ⟨by rw [if_neg (fun z => by have y := (inP_iff hP x).mp z; first | exact absurd b1 (Int32.not_lt.mpr y.1) | exact absurd y.2 (Int32.not_lt.mpr b12))], rfl⟩
    · skip
      refine r_iconst (pc2 := 16) (v := 1) dX9_isPerson_15 (by decide) rfl ?_
      refine r_goto (pc2 := 20) dX9_isPerson_16 (by decide) ?_
      exact r_zret (ty := .boolean) rfl (by decide) dX9_isPerson_20 ⟨by rw [if_pos ((inP_iff hP x).mpr ⟨Int32.not_lt.mp b1, Int32.not_le.mp b12⟩)], rfl⟩
set_option maxRecDepth 20000 in
set_option maxHeartbeats 1000000 in
theorem c_refusal {E : EnvT} {d : Nat} {h0 : Hp} {ns s un w1 w2 : Nat} {wk dt : Value} {sg lo so sa : Nat} {nl sl : Value} {b : FR} {a : FR} {p : Nat} {x : Int32} (c64 : h0.1 64 = some (.inr (9, coL s ns un w1 w2 wk dt))) (cs : h0.1 s = some (.inr (6, stL sg b lo so sa nl sl))) (hs64 : 64 ≤ s) (cp : h0.1 p = some (.inr (5, sdL (keepV a)))) (hp : p = 76 ∨ p = 77) (hb : LK b) (hA : AIN a) (hst : Stat a b) (hd : 1 ≤ d) : Cn E mX9_refusal d [.ref 64, .ref p, .int x] h0 (fun r h2 => r = some (.int (nI (whyF a x.toInt64))) ∧ h2 = h0) := by
  have st1 : a 1 = b 1 := hst 1 (by omega)
  have st3 : a 3 = b 3 := hst 3 (by omega)
  by_cases hv : vS (b 3) x.toInt64
  · obtain ⟨sn, hsn, hs16, rfl⟩ := vS_i hb.1.2.2.1 hv
    have hwf : whyF a (nI sn).toInt64 = why2 a (packS a) sn := by rw [nI_l (by omega)]; exact whyF_of hA (by rw [st3]; exact hsn)
    have hpl := pastN_lt (a 1) (packS a) (a 3)
    have hz : nI (sn &&& pastN (a 1) (packS a) (a 3)) = 0 → pastN (a 1) (packS a) (a 3) &&& sn = 0 := fun z => by
      have := (nI_eq (b := 0) (Nat.lt_of_le_of_lt Nat.and_le_left (by omega)) (by decide)).mp z
      rw [Nat.and_comm]; exact this
    refine Cn.go (ls := [.ref 64, .ref p, .int (nI sn)]) (by decide +kernel) rfl (Nat.le_of_ble_eq_true rfl) ?_
    refine r_aload_n (pc2 := 1) 0 dX9_refusal_0 rfl rfl rfl rfl ?_
    refine r_iload_n (pc2 := 2) 2 dX9_refusal_1 rfl rfl rfl ?_
    refine r_i2l (pc2 := 3) dX9_refusal_2 rfl ?_
    refine r_callV1 (pc2 := 6) (As := [.long (Int32.toInt64 (nI sn))]) (st := []) kX9_144 rfl rfl dX9_refusal_3 c64 (by decide) rfl rfl (Nat.le_of_ble_eq_true rfl) (by omega) ((c_isSetC c64 cs hs64 hb.1.2.2.1).mono fun r h2 q => ⟨q.1.trans (by rw [if_pos hv]), q.2⟩) rfl (fun h2 hq3 => ?_)
    subst hq3
    refine r_if_ne (tgt := 11) (pc2 := 9) dX9_refusal_6 (by decide) rfl (fun b6 => ?_) (fun b6 => ?_)
    · skip
      refine r_iload_n (pc2 := 12) 2 dX9_refusal_11 rfl rfl rfl ?_
      refine r_aload_n (pc2 := 13) 0 dX9_refusal_12 rfl rfl rfl rfl ?_
      refine r_getf (pc2 := 16) (v := .ref s) fX9_21 dX9_refusal_13 c64 (by decide) rfl rfl ?_
      refine r_aload_n (pc2 := 17) 1 dX9_refusal_16 rfl rfl rfl rfl ?_
      refine r_getf (pc2 := 20) (v := .int (nI (tow (keepV a)))) fX9_114 dX9_refusal_17 cp (by omega) rfl rfl ?_
      refine r_cast (nI (tws (packS a))) (by rw [tow_tws hA]) ?_
      refine r_callV1 (pc2 := 23) (As := [.int (nI (tws (packS a)))]) (st := [.int (nI sn)]) kX9_156 rfl rfl dX9_refusal_20 cs hs64 rfl rfl (Nat.le_of_ble_eq_true rfl) (by omega) ((c_pastAt (s := packS a) cs hs64 hb.1.1.2 hb.1.2.2.1 (fun g hg => by rw [← st1]; exact dig_le hA g hg)).mono fun r h2 q => ⟨q.1.trans (by rw [← st1, ← st3]), q.2⟩) rfl (fun h2 hq20 => ?_)
      subst hq20
      refine r_iand (pc2 := 24) dX9_refusal_23 rfl ?_
      refine r_cast (nI (sn &&& pastN (a 1) (packS a) (a 3))) (nI_and _ _) ?_
      refine r_if_eq (tgt := 29) (pc2 := 27) dX9_refusal_24 (by decide) rfl (fun b24 => ?_) (fun b24 => ?_)
      · skip
        refine r_aload_n (pc2 := 30) 1 dX9_refusal_29 rfl rfl rfl rfl ?_
        refine r_getf (pc2 := 33) (v := .int (nI (a 26))) fX9_137 dX9_refusal_30 cp (by omega) rfl rfl ?_
        refine r_if_ne (tgt := 40) (pc2 := 36) dX9_refusal_33 (by decide) rfl (fun b33 => ?_) (fun b33 => ?_)
        · skip
          refine r_iconst (pc2 := 41) (v := 0) dX9_refusal_40 (by decide) rfl ?_
          exact r_iret rfl dX9_refusal_41 ⟨by rw [show whyF a (nI sn).toInt64 = 0 by rw [hwf]; unfold why2; rw [if_neg (fun z => z (hz b24)), if_neg (by rw [hA.pdep]; exact fun z => b33 (by rw [z]; rfl))]]; rfl, rfl⟩
        · skip
          refine r_iconst (pc2 := 37) (v := 3) dX9_refusal_36 (by decide) rfl ?_
          refine r_goto (pc2 := 41) dX9_refusal_37 (by decide) ?_
          exact r_iret rfl dX9_refusal_41 ⟨by rw [show whyF a (nI sn).toInt64 = 3 by rw [hwf]; unfold why2; rw [if_neg (fun z => z (hz b24)), if_pos (by rw [hA.pdep]; exact (nI_eq (b := 0) (by have := hA.dp; omega) (by decide)).mp b33)]]; rfl, rfl⟩
      · skip
        refine r_iconst (pc2 := 28) (v := 2) dX9_refusal_27 (by decide) rfl ?_
        exact r_iret rfl dX9_refusal_28 ⟨by rw [show whyF a (nI sn).toInt64 = 2 by rw [hwf]; unfold why2; rw [if_pos (fun z => b24 (by rw [Nat.and_comm, z]; rfl))]]; rfl, rfl⟩
    · exact absurd b6 (by decide)
  · skip
    refine Cn.go (ls := [.ref 64, .ref p, .int x]) (by decide +kernel) rfl (Nat.le_of_ble_eq_true rfl) ?_
    refine r_aload_n (pc2 := 1) 0 dX9_refusal_0 rfl rfl rfl rfl ?_
    refine r_iload_n (pc2 := 2) 2 dX9_refusal_1 rfl rfl rfl ?_
    refine r_i2l (pc2 := 3) dX9_refusal_2 rfl ?_
    refine r_callV1 (pc2 := 6) (As := [.long (Int32.toInt64 x)]) (st := []) kX9_144 rfl rfl dX9_refusal_3 c64 (by decide) rfl rfl (Nat.le_of_ble_eq_true rfl) (by omega) ((c_isSetC c64 cs hs64 hb.1.2.2.1).mono fun r h2 q => ⟨q.1.trans (by rw [if_neg hv]), q.2⟩) rfl (fun h2 hq3 => ?_)
    subst hq3
    refine r_if_ne (tgt := 11) (pc2 := 9) dX9_refusal_6 (by decide) rfl (fun b6 => ?_) (fun b6 => ?_)
    · exact absurd b6 (by decide)
    · skip
      refine r_iconst (pc2 := 10) (v := 1) dX9_refusal_9 (by decide) rfl ?_
      exact r_iret rfl dX9_refusal_10 ⟨by unfold whyF; rw [if_neg (by rw [st3]; exact hv)]; rfl, rfl⟩
theorem whyF_lt (a : FR) (x : Int64) : whyF a x < 4 := by
  unfold whyF
  split
  · exact why2_lt _ _ _
  · decide
theorem KQ.same {h h1 h2 : Hp} {kd kd2 : Nat} (k : KQ h h1 kd kd2) (e : h2.2 = h1.2) : KQ h h2 kd kd2 := by
  rcases k with ⟨k1, k2⟩ | ⟨k1, k2, k3, k4⟩
  · exact Or.inl ⟨k1, e.trans k2⟩
  · exact Or.inr ⟨k1, k2, by rw [e]; exact k3, by rw [e]; exact k4⟩
theorem LWA.put {h h2 : Hp} {reg : Nat → FR} {ns kd p : Nat} (l : LWA h reg ns kd) (hp : p = 76 ∨ p = 77) (o : ∀ b, b ≠ p → h2.1 b = h.1 b) : LWA h2 reg ns kd := by
  obtain ⟨⟨V0, V1, V2, c1⟩, ⟨kn, c2, q2⟩, ⟨w, c3⟩, ⟨f, c4⟩, c5⟩ := l
  exact ⟨⟨V0, V1, V2, (o 82 (by omega)).trans c1⟩, ⟨kn, (o 87 (by omega)).trans c2, q2⟩, ⟨w, (o 88 (by omega)).trans c3⟩, ⟨f, (o 89 (by omega)).trans c4⟩, fun z => ⟨(c5 z).1, by obtain ⟨g, q, r⟩ := (c5 z).2; exact ⟨g, (o kd (by have := (c5 z).1; omega)).trans q, r⟩⟩⟩
set_option maxRecDepth 20000 in
set_option maxHeartbeats 1000000 in
theorem c_stepHour {E : EnvT} {d : Nat} {h0 : Hp} {ns s un w1 w2 : Nat} {wk dt : Value} {Z : Nat → Prop} {reg : Nat → FR} {sg kd p : Nat} {a b : FR} {x : Int32} (c64 : h0.1 64 = some (.inr (9, coL s ns un w1 w2 wk dt))) (cp : h0.1 p = some (.inr (5, sdL (keepV a)))) (hp : p = 76 ∨ p = 77) (hD : DV Z h0 reg ns s sg kd b) (hA : AIN a) (hst : Stat a b) (hd : 4 ≤ d) : Cn E mX9_stepHour d [.ref 64, .ref p, .int x] h0 (fun r h2 => r = some (.int (nI (whyF a (x).toInt64))) ∧ ∃ kd2, DP reg ns p h0 h2 kd kd2 (if whyF a (x).toInt64 = 0 then goesN a (x).toNatClampNeg else a)) := by
  obtain ⟨hL, hS, hZ, hb, hreg, hsg, hns, hn, zs⟩ := hD
  have hs64 := (hZ.zl s zs).1
  obtain ⟨lo, so, sa, nl, sl, _, cs, _⟩ := id hS
  have st1 : a 1 = b 1 := hst 1 (by omega)
  have st3 : a 3 = b 3 := hst 3 (by omega)
  by_cases hw : whyF a x.toInt64 = 0
  · have hv : vS (b 3) x.toInt64 := by
      rw [← st3]
      unfold whyF at hw
      split at hw
      · assumption
      · omega
    obtain ⟨sn, hsn, hs16, rfl⟩ := vS_i hb.1.2.2.1 hv
    have hw0 : nI (whyF a (nI sn).toInt64) = nI 0 := by rw [hw]
    have hok : stepOk a sn := by
      have e : whyF a (nI sn).toInt64 = why2 a (packS a) sn := by rw [nI_l (by omega)]; exact whyF_of hA (by rw [st3]; exact hsn)
      rw [e] at hw
      exact (why2_0 hA hw).1
    have hg : Gx (DS p kd) h0 h0 := Gx.rf
    obtain ⟨⟨V0, V1, V2, c82⟩, _⟩ := id hL
    refine Cn.go (ls := [.ref 64, .ref p, .int (nI sn), .float 0]) (by decide +kernel) rfl (Nat.le_of_ble_eq_true rfl) ?_
    refine r_aload_n (pc2 := 1) 0 dX9_stepHour_0 rfl rfl rfl rfl ?_
    refine r_aload_n (pc2 := 2) 1 dX9_stepHour_1 rfl rfl rfl rfl ?_
    refine r_iload_n (pc2 := 3) 2 dX9_stepHour_2 rfl rfl rfl ?_
    refine r_callV1 (pc2 := 6) (As := [.ref p, .int (nI sn)]) (st := []) kX9_148 rfl rfl dX9_stepHour_3 c64 (by decide) rfl rfl (Nat.le_of_ble_eq_true rfl) (by omega) ((c_refusal c64 cs hs64 cp hp hb hA hst (by omega)).mono fun r h2 q => ⟨q.1.trans (by rw [hw0]), q.2⟩) rfl (fun h2 hq3 => ?_)
    subst hq3
    refine r_istore_n (pc2 := 7) (ls2 := [.ref 64, .ref p, .int (nI sn), .int 0]) 3 dX9_stepHour_6 rfl (by decide) rfl rfl rfl ?_
    refine r_iload_n (pc2 := 8) 3 dX9_stepHour_7 rfl rfl rfl ?_
    refine r_if_ne (tgt := 70) (pc2 := 11) dX9_stepHour_8 (by decide) rfl (fun b8 => ?_) (fun b8 => ?_)
    · exact absurd b8 (by decide)
    · skip
      refine r_aload_n (pc2 := 12) 0 dX9_stepHour_11 rfl rfl rfl rfl ?_
      refine r_getf (pc2 := 15) (v := .ref 82) fX9_55 dX9_stepHour_12 c64 (by decide) rfl rfl ?_
      refine r_aload_n (pc2 := 16) 0 dX9_stepHour_15 rfl rfl rfl rfl ?_
      refine r_getf (pc2 := 19) (v := .ref s) fX9_21 dX9_stepHour_16 c64 (by decide) rfl rfl ?_
      refine r_aload_n (pc2 := 20) 1 dX9_stepHour_19 rfl rfl rfl rfl ?_
      refine r_getf (pc2 := 23) (v := .int (nI (a 27))) fX9_127 dX9_stepHour_20 cp (by omega) rfl rfl ?_
      refine r_callV0 (pc2 := 26) (As := [.ref s, .int (nI (a 27))]) (st := []) kX9_130 rfl rfl dX9_stepHour_23 c82 (by decide) rfl rfl (Nat.le_of_ble_eq_true rfl) (by omega) (c_take (dr := a 27) hL hS hZ.zl hb hns (hZ s zs).2.2 hn) rfl (fun h hq23 => ?_)
      obtain ⟨kd2, hKQ, hk2, hL, hg1⟩ := hq23
      have c64 := hg1.get (by decide) (by omega) c64
      have cp := hg1.get (by simp; omega) (by omega) cp
      have hS := hS.gx hZ hg1 (fun a m => by simp at m; omega)
      have hZ2 := hZ.kq hKQ
      have hg := hg.trans hg1 (by simp)
      obtain ⟨lo, so, sa, nl, sl, _, cs, _⟩ := id hS
      have hn2 : 139 ≤ h.2.1 := Nat.le_trans hn hg.1
      have hcell := hKQ
      obtain ⟨c82, _⟩ := id hL
      refine r_aload_n (pc2 := 27) 1 dX9_stepHour_26 rfl rfl rfl rfl ?_
      refine r_aload_n (pc2 := 28) 0 dX9_stepHour_27 rfl rfl rfl rfl ?_
      refine r_getf (pc2 := 31) (v := .ref 82) fX9_55 dX9_stepHour_28 c64 (by decide) rfl rfl ?_
      refine r_aload_n (pc2 := 32) 1 dX9_stepHour_31 rfl rfl rfl rfl ?_
      refine r_getf (pc2 := 35) (v := .int (nI (tow (keepV a)))) fX9_114 dX9_stepHour_32 cp (by omega) rfl rfl ?_
      refine r_cast (nI (tws (packS a))) (by rw [tow_tws hA]) ?_
      refine r_aload_n (pc2 := 36) 1 dX9_stepHour_35 rfl rfl rfl rfl ?_
      refine r_getf (pc2 := 39) (v := .int (nI (a 26))) fX9_137 dX9_stepHour_36 cp (by omega) rfl rfl ?_
      refine r_iload_n (pc2 := 40) 2 dX9_stepHour_39 rfl rfl rfl ?_
      refine r_iconst (pc2 := 41) (v := 0) dX9_stepHour_40 (by decide) rfl ?_
      refine r_callV1 (pc2 := 44) (As := [.int (nI (tws (packS a))), .int (nI (a 26)), .int (nI sn), .int 0]) (st := [.ref p]) kX9_152 rfl rfl dX9_stepHour_41 c82 (by decide) rfl rfl (Nat.le_of_ble_eq_true rfl) (by omega) (c_depthAfter (s := packS a) (sn := sn) (o := 0) (dp := a 26) hL hS hZ2.zl hb hreg hsg hns hA.dr hk2 (fun g hg => by rw [← st1]; exact dig_le hA g hg) hA.dp hA.pdep hs16 (fun g hg q => by rw [← st1]; exact hok.dig hA g (by rw [st3]; exact hg) q) (by omega) (by omega)) rfl (fun h hq41 => ?_)
      obtain ⟨hxd, hL⟩ := hq41
      have c64 := hxd.get (by simp; omega) c64
      have cp := hxd.get (by simp; omega) cp
      have hg := hg.kd hxd (by rcases hKQ with z | z; exact Or.inl (by rw [z.1]; simp); exact Or.inr (by omega)) (by simp) (by simp) (by simp)
      have hn2 : 139 ≤ h.2.1 := Nat.le_trans hn hg.1
      refine r_putfX (pc2 := 47) [.int (nI (tow (keepV a))), .int (nI (dpN b (a 26) (hNz b (packS a) sn 0 (a 27) (b 3)) (hCs (packS a) sn (b 3)) sn (a 27))), .long (bL (keepV a) 7), .long (bL (keepV a) 15), .int (nI (a 27)), .int (nI (a 28))] fX9_137 dX9_stepHour_44 cp (by omega) (Nat.le_of_ble_eq_true rfl) rfl rfl rfl (fun h z44 o44 cp => ?_)
      have c64 := (o44 64 (by omega)).trans c64
      have hg := hg.step (a := p) (by simp) o44 z44
      refine r_aload_n (pc2 := 48) 1 dX9_stepHour_47 rfl rfl rfl rfl ?_
      refine r_dup (pc2 := 49) dX9_stepHour_48 rfl rfl ?_
      refine r_getf (pc2 := 52) (v := .int (nI (tow (keepV a)))) fX9_114 dX9_stepHour_49 cp (by omega) rfl rfl ?_
      refine r_iload_n (pc2 := 53) 2 dX9_stepHour_52 rfl rfl rfl ?_
      refine r_callS1 (pc2 := 56) (As := [.int (nI sn)]) (st := [.int (nI (tow (keepV a))), .ref p]) kX9_160 dX9_stepHour_53 rfl rfl (Nat.le_of_ble_eq_true rfl) (by omega) (c_shiftOf hs16) rfl (fun h2 hq53 => ?_)
      subst hq53
      refine r_iadd (pc2 := 57) dX9_stepHour_56 rfl ?_
      refine r_cast (nI (tow (keepV a) + shK sn 4)) (nI_add _ _) ?_
      refine r_putfX (pc2 := 60) [.int (nI (tow (keepV a) + shK sn 4)), .int (nI (dpN b (a 26) (hNz b (packS a) sn 0 (a 27) (b 3)) (hCs (packS a) sn (b 3)) sn (a 27))), .long (bL (keepV a) 7), .long (bL (keepV a) 15), .int (nI (a 27)), .int (nI (a 28))] fX9_114 dX9_stepHour_57 cp (by omega) (Nat.le_of_ble_eq_true rfl) rfl rfl rfl (fun h z57 o57 cp => ?_)
      have c64 := (o57 64 (by omega)).trans c64
      have hg := hg.step (a := p) (by simp) o57 z57
      refine r_aload_n (pc2 := 61) 1 dX9_stepHour_60 rfl rfl rfl rfl ?_
      refine r_dup (pc2 := 62) dX9_stepHour_61 rfl rfl ?_
      refine r_getf (pc2 := 65) (v := .int (nI (a 28))) fX9_163 dX9_stepHour_62 cp (by omega) rfl rfl ?_
      refine r_iconst (pc2 := 66) (v := 1) dX9_stepHour_65 (by decide) rfl ?_
      refine r_iadd (pc2 := 67) dX9_stepHour_66 rfl ?_
      refine r_cast (nI (a 28 + 1)) (nI_1 _) ?_
      refine r_putfX (pc2 := 70) [.int (nI (tow (keepV a) + shK sn 4)), .int (nI (dpN b (a 26) (hNz b (packS a) sn 0 (a 27) (b 3)) (hCs (packS a) sn (b 3)) sn (a 27))), .long (bL (keepV a) 7), .long (bL (keepV a) 15), .int (nI (a 27)), .int (nI (a 28 + 1))] fX9_163 dX9_stepHour_67 cp (by omega) (Nat.le_of_ble_eq_true rfl) rfl rfl rfl (fun h z67 o67 cp => ?_)
      have c64 := (o67 64 (by omega)).trans c64
      have hg := hg.step (a := p) (by simp) o67 z67
      refine r_iload_n (pc2 := 71) 3 dX9_stepHour_70 rfl rfl rfl ?_
      exact r_iret rfl dX9_stepHour_71 ⟨by rw [hw]; rfl, kd2, (((hKQ.same hxd.1).same z44).same z57).same z67, ((hL.any.put hp o44).put hp o57).put hp o67, hg, by rw [if_pos hw, nI_clamp (by omega), goes_sd hA hok (by rw [st3]; exact hsn), goesN_26, hourN_stat hst hb.1, hourN_dep hb.1.2.2.1 (fun g hg q => by have := hok.dig hA g (by rw [st3]; exact hg) q; have := hA.C; omega), hA.pdep]; exact cp⟩
  · skip
    refine Cn.go (ls := [.ref 64, .ref p, .int x, .float 0]) (by decide +kernel) rfl (Nat.le_of_ble_eq_true rfl) ?_
    refine r_aload_n (pc2 := 1) 0 dX9_stepHour_0 rfl rfl rfl rfl ?_
    refine r_aload_n (pc2 := 2) 1 dX9_stepHour_1 rfl rfl rfl rfl ?_
    refine r_iload_n (pc2 := 3) 2 dX9_stepHour_2 rfl rfl rfl ?_
    refine r_callV1 (pc2 := 6) (As := [.ref p, .int x]) (st := []) kX9_148 rfl rfl dX9_stepHour_3 c64 (by decide) rfl rfl (Nat.le_of_ble_eq_true rfl) (by omega) (c_refusal c64 cs hs64 cp hp hb hA hst (by omega)) rfl (fun h2 hq3 => ?_)
    subst hq3
    refine r_istore_n (pc2 := 7) (ls2 := [.ref 64, .ref p, .int x, .int (nI (whyF a x.toInt64))]) 3 dX9_stepHour_6 rfl (by decide) rfl rfl rfl ?_
    refine r_iload_n (pc2 := 8) 3 dX9_stepHour_7 rfl rfl rfl ?_
    refine r_if_ne (tgt := 70) (pc2 := 11) dX9_stepHour_8 (by decide) rfl (fun b8 => ?_) (fun b8 => ?_)
    · skip
      refine r_iload_n (pc2 := 71) 3 dX9_stepHour_70 rfl rfl rfl ?_
      exact r_iret rfl dX9_stepHour_71 ⟨rfl, kd, KQ.rf, hL, Gx.rf, by rw [if_neg hw]; exact cp⟩
    · exact absurd ((nI_eq (b := 0) (by have := whyF_lt a x.toInt64; omega) (by decide)).mp b8) hw
