/-! calls of the reference -/
theorem lN_clamp {n : Nat} (h : n < 2 ^ 63) : (lN n).toNatClampNeg = n := by
  have := pk_lT h
  show (lN n).toInt.toNat = n
  rw [this]
  exact Int.toNat_natCast n
theorem pastN_bit (C st : Nat) : ∀ k g, g < k → (pastN C st k).testBit g = decide (st / 8 ^ g % 8 = C) := by
  intro k
  induction k with
  | zero => intro g hg; omega
  | succ k ih =>
    intro g hg
    rw [← pastN_or C st k _ rfl, Nat.testBit_or]
    rcases Nat.lt_or_ge g k with q | q
    · rw [ih g q]
      have : (if st / 8 ^ k % 8 = C then 2 ^ k else 0).testBit g = false := by
        split
        · rw [Nat.testBit_two_pow]; simp; omega
        · exact Nat.zero_testBit g
      rw [this, Bool.or_false]
    · obtain rfl : g = k := by omega
      rw [Nat.testBit_lt_two_pow (pastN_lt C st g), Bool.false_or]
      by_cases z : st / 8 ^ g % 8 = C
      · rw [if_pos z, Nat.testBit_two_pow_self]; simp [z]
      · rw [if_neg z, Nat.zero_testBit]; simp [z]
def whyF (a : Nat → Nat) (x : Int64) : Nat := if vS (a 3) x then why2 a (packS a) x.toNatClampNeg else 1
theorem why2_0 {a : Nat → Nat} {sn : Nat} (hA : AIN a) (h : why2 a (packS a) sn = 0) : stepOk a sn ∧ a 26 ≠ 0 := by
  unfold why2 at h
  by_cases h1 : pastN (a 1) (packS a) (a 3) &&& sn ≠ 0
  · rw [if_pos h1] at h; omega
  · rw [if_neg h1] at h
    by_cases h2 : packS a / 4096 = 0
    · rw [if_pos h2] at h; omega
    · rw [hA.pdep] at h2
      refine ⟨fun g hg q => ?_, h2⟩
      have hG := hA.G
      have h1 : pastN (a 1) (packS a) (a 3) &&& sn = 0 := by simpa using h1
      have e : (pastN (a 1) (packS a) (a 3) &&& sn).testBit g = false := by rw [h1]; exact Nat.zero_testBit g
      rw [Nat.testBit_and, q, Bool.and_true, pastN_bit _ _ _ g hg, hA.pdig g (by omega)] at e
      have := hA.cl g (by omega)
      simp at e
      omega
theorem whyF_of {a : Nat → Nat} {sn : Nat} (hA : AIN a) (hn : sn < 2 ^ (a 3)) : whyF a (lN sn) = why2 a (packS a) sn := by
  have hb : 2 ^ (a 3) ≤ 16 := Nat.pow_le_pow_right (n := 2) (by decide) hA.G
  unfold whyF
  rw [if_pos (vS_lN hA.G hn), lN_clamp (by omega)]
theorem why2_lt (a : Nat → Nat) (st sn : Nat) : why2 a st sn < 4 := by
  unfold why2
  split
  · decide
  · split <;> decide
theorem nIL {n : Nat} (h : n < 16) : (nI n).toInt64 = lN n := nI_l (by omega)
def byF (a : Nat → Nat) (x : Int32) : Int32 := if whyF a x.toInt64 = 1 then -3 else if whyF a x.toInt64 ≠ 0 then -5 else nI (hourN a (packS a) x.toNatClampNeg 0 (a 27) / 4096)
theorem keepV_ok {a : Nat → Nat} (hA : AIN a) : SOK a (keepV a) := hA.2.1
theorem nI_1v {n : Nat} (h : nI n = 1) (hn : n < 2 ^ 31 := by first | omega | (exact Nat.lt_of_lt_of_le (why2_lt _ _ _) (by decide))) : n = 1 := by
  have h : nI n = nI 1 := h
  rw [nI_eq hn (by decide)] at h
  exact h
set_option maxRecDepth 20000 in
set_option maxHeartbeats 1000000 in
theorem ref_by {E : EnvT} {d : Nat} {h0 : Hp} {v : Nat → Int32} {a : Nat → Nat} {hi : Nat → Int32} {tp : Nat → Nat} {rs rm : Nat → Int32} {nu : Nat → Int64} {x : Int32} (hR : RS h0 v a hi tp rs rm nu) (hA : AIN a) (hd : 5 ≤ d) : Cn E mX10_by d [.ref 117, .int x] h0 (RP (.int (byF a x)) h0 v a hi tp rs rm nu) := by
  obtain ⟨k117, k118, k119, k120, ⟨f121, k121⟩, ⟨f122, k122⟩, ⟨f123, k123⟩, ⟨f124, k124⟩, ⟨f125, k125⟩, ⟨f126, k126⟩, ⟨f127, k127⟩, ⟨f128, k128⟩, ⟨f129, k129⟩, ⟨f130, k130⟩, ⟨f131, k131⟩, ⟨f132, k132⟩, ⟨f133, k133⟩, ⟨f134, k134⟩, ⟨f135, k135⟩, k136, k137, k138⟩ := hR
  have c117 := k117
  have c118 := k118
  have c122 := k122
  have c123 := k123
  have hx : Ex [117, 118, 122, 123] h0 h0 := Ex.rf
  by_cases hv : vS (a 3) x.toInt64
  · obtain ⟨sn, hn, h16, rfl⟩ := vS_i hA.G hv
    refine Cn.go (ls := [.ref 117, .int (nI sn), .float 0]) (by decide +kernel) rfl (Nat.le_of_ble_eq_true rfl) ?_
    refine r_aload_n (pc2 := 1) 0 dX10_by_0 rfl rfl rfl rfl ?_
    refine r_iconst (pc2 := 2) (v := 0) dX10_by_1 (by decide) rfl ?_
    refine r_putfX (pc2 := 5) (moL (upd v 0 0)) fX10_1 dX10_by_2 c117 (by decide) (Nat.le_of_ble_eq_true rfl) rfl rfl rfl (fun h z2 o2 c117 => ?_)
    have c118 := (o2 118 (by decide)).trans c118
    have c122 := (o2 122 (by decide)).trans c122
    have c123 := (o2 123 (by decide)).trans c123
    have hx := hx.step (a := 117) (by decide) z2 o2
    refine r_aload_n (pc2 := 6) 0 dX10_by_5 rfl rfl rfl rfl ?_
    refine r_aload_n (pc2 := 7) 0 dX10_by_6 rfl rfl rfl rfl ?_
    refine r_callV1 (pc2 := 10) (As := []) (st := [.ref 117]) kX10_266 rfl rfl dX10_by_7 c117 (by decide) rfl rfl (Nat.le_of_ble_eq_true rfl) (by omega) (c_standNow c117 c118 hA.G hA.c7 hA.dp) rfl (fun h2 hq7 => ?_)
    subst hq7
    refine r_iload_n (pc2 := 11) 1 dX10_by_10 rfl rfl rfl ?_
    refine r_i2l (pc2 := 12) dX10_by_11 rfl ?_
    refine r_castl (lN sn) (nIL h16) ?_
    refine r_callV1 (pc2 := 15) (As := [.int (nI (packS a)), .long (lN sn)]) (st := []) kX10_269 rfl rfl dX10_by_12 c117 (by decide) rfl rfl (Nat.le_of_ble_eq_true rfl) (by omega) (c_whyBy (st := (packS a)) (sn := sn) c117 c118 hA (by have := hA.plt; omega) hn (by omega)) rfl (fun h2 hq12 => ?_)
    subst hq12
    refine r_istore_n (pc2 := 16) (ls2 := [.ref 117, .int (nI sn), .int (nI (why2 a (packS a) sn))]) 2 dX10_by_15 rfl (by decide) rfl rfl rfl ?_
    refine r_iload_n (pc2 := 17) 2 dX10_by_16 rfl rfl rfl ?_
    refine r_iconst (pc2 := 18) (v := 1) dX10_by_17 (by decide) rfl ?_
    refine r_icmp_ne (tgt := 26) (pc2 := 21) dX10_by_18 (by decide) rfl (fun b18 => ?_) (fun b18 => ?_)
    · skip
      refine r_iload_n (pc2 := 27) 2 dX10_by_26 rfl rfl rfl ?_
      refine r_if_eq (tgt := 35) (pc2 := 30) dX10_by_27 (by decide) rfl (fun b27 => ?_) (fun b27 => ?_)
      · skip
        have hw0 : why2 a (packS a) sn = 0 := nI_z0 (by have := why2_lt a (packS a) sn; omega) b27
        have hst := (why2_0 hA hw0).1.dig hA
        refine r_aload_n (pc2 := 36) 0 dX10_by_35 rfl rfl rfl rfl ?_
        refine r_aload_n (pc2 := 37) 0 dX10_by_36 rfl rfl rfl rfl ?_
        refine r_callV1 (pc2 := 40) (As := []) (st := [.ref 117]) kX10_266 rfl rfl dX10_by_37 c117 (by decide) rfl rfl (Nat.le_of_ble_eq_true rfl) (by omega) (c_standNow c117 c118 hA.G hA.c7 hA.dp) rfl (fun h2 hq37 => ?_)
        subst hq37
        refine r_iload_n (pc2 := 41) 1 dX10_by_40 rfl rfl rfl ?_
        refine r_iconst (pc2 := 42) (v := 0) dX10_by_41 (by decide) rfl ?_
        refine r_aload_n (pc2 := 43) 0 dX10_by_42 rfl rfl rfl rfl ?_
        refine r_getf (pc2 := 46) (v := .ref 118) fX10_13 dX10_by_43 c117 (by decide) rfl rfl ?_
        refine r_bipush (pc2 := 48) (v := 27) dX10_by_46 (by decide) rfl ?_
        refine r_ialdA (pc2 := 49) 27 dX10_by_48 c118 (by decide) rfl (by decide) (by decide) rfl ?_
        refine r_callV1 (pc2 := 52) (As := [.int (nI (packS a)), .int (nI sn), .int 0, .int (nI (a 27))]) (st := []) kX10_273 rfl rfl dX10_by_49 c117 (by decide) rfl rfl (Nat.le_of_ble_eq_true rfl) (by omega) (c_hourTo (st := (packS a)) (sn := sn) (b := 0) (dr := (a 27)) c117 c118 c122 c123 (by have := hA.plt; omega) (by omega) (by rw [hA.pdep]; exact hA.dp) (by decide) hst hA.G hA.C hA.h2 hA.lo hA.w0 hA.w1 (by omega)) rfl (fun h hq49 => ?_)
        obtain ⟨hx2, ⟨f2, c122⟩, ⟨w2, c123⟩⟩ := hq49
        have c117 := hx2.get (by decide) c117
        have c118 := hx2.get (by decide) c118
        have hx := hx.trans hx2 (by decide)
        refine r_callS1 (pc2 := 55) (As := [.int (nI (hourN a (packS a) sn 0 (a 27)))]) (st := []) kX10_231 dX10_by_52 rfl rfl (Nat.le_of_ble_eq_true rfl) (by omega) (c_depthIn (nI (hourN a (packS a) sn 0 (a 27)))) rfl (fun h2 hq52 => ?_)
        subst hq52
        refine r_cast (nI (hourN a (packS a) sn 0 (a 27) / 4096)) (depthN (Nat.lt_of_lt_of_le (hourN_lt hA.G hA.C (by rw [hA.pdep]; exact hA.dp) hst) (by decide))) ?_
        exact r_iret rfl dX10_by_55 ⟨by rw [byF, nIL h16, whyF_of hA hn, if_neg (by omega), if_neg (by omega), nI_clamp (by omega)], (upd v 0 0), ⟨rfl, rfl, rfl⟩, ⟨c117, c118, hx.get (by decide) k119, hx.get (by decide) k120, ⟨_, hx.get (by decide) k121⟩, ⟨_, c122⟩, ⟨_, c123⟩, ⟨_, hx.get (by decide) k124⟩, ⟨_, hx.get (by decide) k125⟩, ⟨_, hx.get (by decide) k126⟩, ⟨_, hx.get (by decide) k127⟩, ⟨_, hx.get (by decide) k128⟩, ⟨_, hx.get (by decide) k129⟩, ⟨_, hx.get (by decide) k130⟩, ⟨_, hx.get (by decide) k131⟩, ⟨_, hx.get (by decide) k132⟩, ⟨_, hx.get (by decide) k133⟩, ⟨_, hx.get (by decide) k134⟩, ⟨_, hx.get (by decide) k135⟩, hx.get (by decide) k136, hx.get (by decide) k137, hx.get (by decide) k138⟩, hx.mono (by decide)⟩
      · skip
        refine r_bipush (pc2 := 32) (v := -5) dX10_by_30 (by decide) rfl ?_
        refine r_goto (pc2 := 55) dX10_by_32 (by decide) ?_
        exact r_iret rfl dX10_by_55 ⟨by rw [byF, nIL h16, whyF_of hA hn, if_neg (fun q => b18 (by rw [q]; rfl)), if_pos (fun q => b27 (by rw [q]; rfl))], (upd v 0 0), ⟨rfl, rfl, rfl⟩, ⟨c117, c118, hx.get (by decide) k119, hx.get (by decide) k120, ⟨_, hx.get (by decide) k121⟩, ⟨_, c122⟩, ⟨_, c123⟩, ⟨_, hx.get (by decide) k124⟩, ⟨_, hx.get (by decide) k125⟩, ⟨_, hx.get (by decide) k126⟩, ⟨_, hx.get (by decide) k127⟩, ⟨_, hx.get (by decide) k128⟩, ⟨_, hx.get (by decide) k129⟩, ⟨_, hx.get (by decide) k130⟩, ⟨_, hx.get (by decide) k131⟩, ⟨_, hx.get (by decide) k132⟩, ⟨_, hx.get (by decide) k133⟩, ⟨_, hx.get (by decide) k134⟩, ⟨_, hx.get (by decide) k135⟩, hx.get (by decide) k136, hx.get (by decide) k137, hx.get (by decide) k138⟩, hx.mono (by decide)⟩
    · skip
      refine r_bipush (pc2 := 23) (v := -3) dX10_by_21 (by decide) rfl ?_
      refine r_goto (pc2 := 55) dX10_by_23 (by decide) ?_
      exact r_iret rfl dX10_by_55 ⟨by rw [byF, nIL h16, whyF_of hA hn, if_pos (nI_1v b18)], (upd v 0 0), ⟨rfl, rfl, rfl⟩, ⟨c117, c118, hx.get (by decide) k119, hx.get (by decide) k120, ⟨_, hx.get (by decide) k121⟩, ⟨_, c122⟩, ⟨_, c123⟩, ⟨_, hx.get (by decide) k124⟩, ⟨_, hx.get (by decide) k125⟩, ⟨_, hx.get (by decide) k126⟩, ⟨_, hx.get (by decide) k127⟩, ⟨_, hx.get (by decide) k128⟩, ⟨_, hx.get (by decide) k129⟩, ⟨_, hx.get (by decide) k130⟩, ⟨_, hx.get (by decide) k131⟩, ⟨_, hx.get (by decide) k132⟩, ⟨_, hx.get (by decide) k133⟩, ⟨_, hx.get (by decide) k134⟩, ⟨_, hx.get (by decide) k135⟩, hx.get (by decide) k136, hx.get (by decide) k137, hx.get (by decide) k138⟩, hx.mono (by decide)⟩
  · skip
    refine Cn.go (ls := [.ref 117, .int x, .float 0]) (by decide +kernel) rfl (Nat.le_of_ble_eq_true rfl) ?_
    refine r_aload_n (pc2 := 1) 0 dX10_by_0 rfl rfl rfl rfl ?_
    refine r_iconst (pc2 := 2) (v := 0) dX10_by_1 (by decide) rfl ?_
    refine r_putfX (pc2 := 5) (moL (upd v 0 0)) fX10_1 dX10_by_2 c117 (by decide) (Nat.le_of_ble_eq_true rfl) rfl rfl rfl (fun h z2 o2 c117 => ?_)
    have c118 := (o2 118 (by decide)).trans c118
    have c122 := (o2 122 (by decide)).trans c122
    have c123 := (o2 123 (by decide)).trans c123
    have hx := hx.step (a := 117) (by decide) z2 o2
    refine r_aload_n (pc2 := 6) 0 dX10_by_5 rfl rfl rfl rfl ?_
    refine r_aload_n (pc2 := 7) 0 dX10_by_6 rfl rfl rfl rfl ?_
    refine r_callV1 (pc2 := 10) (As := []) (st := [.ref 117]) kX10_266 rfl rfl dX10_by_7 c117 (by decide) rfl rfl (Nat.le_of_ble_eq_true rfl) (by omega) (c_standNow c117 c118 hA.G hA.c7 hA.dp) rfl (fun h2 hq7 => ?_)
    subst hq7
    refine r_iload_n (pc2 := 11) 1 dX10_by_10 rfl rfl rfl ?_
    refine r_i2l (pc2 := 12) dX10_by_11 rfl ?_
    refine r_callV1 (pc2 := 15) (As := [.int (nI (packS a)), .long (Int32.toInt64 x)]) (st := []) kX10_269 rfl rfl dX10_by_12 c117 (by decide) rfl rfl (Nat.le_of_ble_eq_true rfl) (by omega) (c_whyBy1 (x := (Int32.toInt64 x)) c117 c118 hA hv (by omega)) rfl (fun h2 hq12 => ?_)
    subst hq12
    refine r_istore_n (pc2 := 16) (ls2 := [.ref 117, .int x, .int 1]) 2 dX10_by_15 rfl (by decide) rfl rfl rfl ?_
    refine r_iload_n (pc2 := 17) 2 dX10_by_16 rfl rfl rfl ?_
    refine r_iconst (pc2 := 18) (v := 1) dX10_by_17 (by decide) rfl ?_
    refine r_icmp_ne (tgt := 26) (pc2 := 21) dX10_by_18 (by decide) rfl (fun b18 => ?_) (fun b18 => ?_)
    · exact absurd b18 (by decide)
    · skip
      refine r_bipush (pc2 := 23) (v := -3) dX10_by_21 (by decide) rfl ?_
      refine r_goto (pc2 := 55) dX10_by_23 (by decide) ?_
      exact r_iret rfl dX10_by_55 ⟨by rw [byF, whyF, if_neg hv]; rfl, (upd v 0 0), ⟨rfl, rfl, rfl⟩, ⟨c117, c118, hx.get (by decide) k119, hx.get (by decide) k120, ⟨_, hx.get (by decide) k121⟩, ⟨_, c122⟩, ⟨_, c123⟩, ⟨_, hx.get (by decide) k124⟩, ⟨_, hx.get (by decide) k125⟩, ⟨_, hx.get (by decide) k126⟩, ⟨_, hx.get (by decide) k127⟩, ⟨_, hx.get (by decide) k128⟩, ⟨_, hx.get (by decide) k129⟩, ⟨_, hx.get (by decide) k130⟩, ⟨_, hx.get (by decide) k131⟩, ⟨_, hx.get (by decide) k132⟩, ⟨_, hx.get (by decide) k133⟩, ⟨_, hx.get (by decide) k134⟩, ⟨_, hx.get (by decide) k135⟩, hx.get (by decide) k136, hx.get (by decide) k137, hx.get (by decide) k138⟩, hx.mono (by decide)⟩
abbrev inR (l h : Nat) (x : Int32) : Prop := lN l ≤ x.toInt64 ∧ x.toInt64 ≤ lN h
theorem inR_of {l h : Nat} {x : Int32} (hh : h < 2 ^ 31) (hl : l ≤ h) (q : inR l h x) : ∃ k, l ≤ k ∧ k ≤ h ∧ x = nI k := by
  have h0 : ¬ x < 0 := by
    intro z
    have z2 : x.toInt64 < (0 : Int32).toInt64 := (i2l_lt x 0).mpr z
    have : lN l < lN 0 := Int64.lt_of_le_of_lt q.1 z2
    rw [pk_lLT (by omega) (by decide)] at this
    omega
  obtain ⟨k, hk, rfl⟩ := nI_of h0
  have q : lN l ≤ (nI k).toInt64 ∧ (nI k).toInt64 ≤ lN h := q
  rw [nI_l hk] at q
  exact ⟨k, (pk_lLE (by omega) (by omega)).mp q.1, (pk_lLE (by omega) (by omega)).mp q.2, rfl⟩
theorem inR_nI {l h k : Nat} (hh : h < 2 ^ 31) (h1 : l ≤ k) (h2 : k ≤ h) : inR l h (nI k) := by
  show lN l ≤ (nI k).toInt64 ∧ (nI k).toInt64 ≤ lN h
  rw [nI_l (by omega)]
  exact ⟨(pk_lLE (by omega) (by omega)).mpr h1, (pk_lLE (by omega) (by omega)).mpr h2⟩
def hourF (a : Nat → Nat) (x : Int32) : Int32 := if whyF a x.toInt64 = 0 then nI (goesN a x.toNatClampNeg 26) else -10 - nI (whyF a x.toInt64)
def hourA (a : Nat → Nat) (x : Int32) : Nat → Nat := if whyF a x.toInt64 = 0 then notesN (goesN a x.toNatClampNeg) (keepV a) else a
def goesI (a : Nat → Nat) : Nat → (Nat → Nat)
  | 0 => a
  | k + 1 => if goesI a k 26 = 0 then goesI a k else goesN (goesI a k) 0
theorem goesI_stop {a : Nat → Nat} {k : Nat} (h : goesI a k 26 = 0) : ∀ m, goesI a (k + m) = goesI a k := by
  intro m
  induction m with
  | zero => rfl
  | succ m ih => rw [show k + (m + 1) = (k + m) + 1 by omega, goesI, ih, if_pos h]
theorem stepOk0 (a : Nat → Nat) : stepOk a 0 := fun g _ q => by rw [Nat.zero_testBit] at q; cases q
theorem AIN.goI {a : Nat → Nat} (hA : AIN a) : ∀ k, AIN (goesI a k) := by
  intro k
  induction k with
  | zero => exact hA
  | succ k ih =>
    rw [goesI]
    split
    · exact ih
    · exact ih.goes (stepOk0 _)
theorem goesI_13 {a : Nat → Nat} (hA : AIN a) : ∀ k, goesI a k 1 = a 1 ∧ goesI a k 3 = a 3 := by
  intro k
  induction k with
  | zero => exact ⟨rfl, rfl⟩
  | succ k ih =>
    rw [goesI]
    split
    · exact ih
    · have hG := (hA.goI k).G
      rw [goesN_out hG (by omega), goesN_out hG (by omega)]
      exact ih
def hoursF (a : Nat → Nat) (x : Int32) : Int32 := if inR 1 99 x then (if a 26 = 0 then -13 else nI (goesI a x.toNatClampNeg 26)) else -11
def hoursA (a : Nat → Nat) (x : Int32) : Nat → Nat := if inR 1 99 x ∧ a 26 ≠ 0 then notesN (goesI a x.toNatClampNeg) (keepV a) else a
def draughtF (a : Nat → Nat) (x : Int32) : Int32 := if inR 0 9 x then nI (a 27) else -11
def draughtA (a : Nat → Nat) (x : Int32) : Nat → Nat := if inR 0 9 x then notesN (va_up a 27 x.toNatClampNeg) (keepV a) else a
theorem keepV_hw {a : Nat → Nat} {f : Nat → Int32} : ∀ k, k < 23 → fillN f 0 23 (fun i => nI (a (22 + i))) k = nI (keepV a k) := fun k hk => by
  have := @fillN_in Int32 f 0 23 k (fun i => nI (a (22 + i))) hk
  rw [Nat.zero_add] at this
  exact this
set_option maxRecDepth 20000 in
set_option maxHeartbeats 1000000 in
theorem ref_hour {E : EnvT} {d : Nat} {h0 : Hp} {v : Nat → Int32} {a : Nat → Nat} {hi : Nat → Int32} {tp : Nat → Nat} {rs rm : Nat → Int32} {nu : Nat → Int64} {x : Int32} (hR : RS h0 v a hi tp rs rm nu) (hA : AIN a) (hd : 6 ≤ d) : Cn E mX10_hour d [.ref 117, .int x] h0 (RP (.int (hourF a x)) h0 v (hourA a x) hi tp rs rm nu) := by
  obtain ⟨k117, k118, k119, k120, ⟨f121, k121⟩, ⟨f122, k122⟩, ⟨f123, k123⟩, ⟨f124, k124⟩, ⟨f125, k125⟩, ⟨f126, k126⟩, ⟨f127, k127⟩, ⟨f128, k128⟩, ⟨f129, k129⟩, ⟨f130, k130⟩, ⟨f131, k131⟩, ⟨f132, k132⟩, ⟨f133, k133⟩, ⟨f134, k134⟩, ⟨f135, k135⟩, k136, k137, k138⟩ := hR
  have c117 := k117
  have c118 := k118
  have c122 := k122
  have c123 := k123
  have c124 := k124
  have hx : Ex [117, 118, 122, 123, 124] h0 h0 := Ex.rf
  by_cases hv : vS (a 3) x.toInt64
  · obtain ⟨sn, hn, h16, rfl⟩ := vS_i hA.G hv
    have eA : hourA a (nI sn) = if why2 a (packS a) sn = 0 then notesN (goesN a sn) (keepV a) else a := by rw [hourA, nIL h16, whyF_of hA hn, nI_clamp (by omega)]
    rw [eA]
    refine Cn.go (ls := [.ref 117, .int (nI sn), .float 0]) (by decide +kernel) rfl (Nat.le_of_ble_eq_true rfl) ?_
    refine r_aload_n (pc2 := 1) 0 dX10_hour_0 rfl rfl rfl rfl ?_
    refine r_iconst (pc2 := 2) (v := 0) dX10_hour_1 (by decide) rfl ?_
    refine r_putfX (pc2 := 5) (moL (upd v 0 0)) fX10_1 dX10_hour_2 c117 (by decide) (Nat.le_of_ble_eq_true rfl) rfl rfl rfl (fun h z2 o2 c117 => ?_)
    have c118 := (o2 118 (by decide)).trans c118
    have c122 := (o2 122 (by decide)).trans c122
    have c123 := (o2 123 (by decide)).trans c123
    have c124 := (o2 124 (by decide)).trans c124
    have hx := hx.step (a := 117) (by decide) z2 o2
    refine r_aload_n (pc2 := 6) 0 dX10_hour_5 rfl rfl rfl rfl ?_
    refine r_aload_n (pc2 := 7) 0 dX10_hour_6 rfl rfl rfl rfl ?_
    refine r_callV1 (pc2 := 10) (As := []) (st := [.ref 117]) kX10_266 rfl rfl dX10_hour_7 c117 (by decide) rfl rfl (Nat.le_of_ble_eq_true rfl) (by omega) (c_standNow c117 c118 hA.G hA.c7 hA.dp) rfl (fun h2 hq7 => ?_)
    subst hq7
    refine r_iload_n (pc2 := 11) 1 dX10_hour_10 rfl rfl rfl ?_
    refine r_i2l (pc2 := 12) dX10_hour_11 rfl ?_
    refine r_castl (lN sn) (nIL h16) ?_
    refine r_callV1 (pc2 := 15) (As := [.int (nI (packS a)), .long (lN sn)]) (st := []) kX10_269 rfl rfl dX10_hour_12 c117 (by decide) rfl rfl (Nat.le_of_ble_eq_true rfl) (by omega) (c_whyBy (st := (packS a)) (sn := sn) c117 c118 hA (by have := hA.plt; omega) hn (by omega)) rfl (fun h2 hq12 => ?_)
    subst hq12
    refine r_istore_n (pc2 := 16) (ls2 := [.ref 117, .int (nI sn), .int (nI (why2 a (packS a) sn))]) 2 dX10_hour_15 rfl (by decide) rfl rfl rfl ?_
    refine r_iload_n (pc2 := 17) 2 dX10_hour_16 rfl rfl rfl ?_
    refine r_if_eq (tgt := 25) (pc2 := 20) dX10_hour_17 (by decide) rfl (fun b17 => ?_) (fun b17 => ?_)
    · skip
      have hw0 : why2 a (packS a) sn = 0 := nI_z0 (by have := why2_lt a (packS a) sn; omega) b17
      have hok := (why2_0 hA hw0).1
      refine r_aload_n (pc2 := 26) 0 dX10_hour_25 rfl rfl rfl rfl ?_
      refine r_callV0 (pc2 := 29) (As := []) (st := []) kX10_279 rfl rfl dX10_hour_26 c117 (by decide) rfl rfl (Nat.le_of_ble_eq_true rfl) (by omega) (c_keeps c117 c118 c124) rfl (fun h hq26 => ?_)
      obtain ⟨hxk, c124⟩ := hq26
      have c117 := hxk.get (by decide) c117
      have c118 := hxk.get (by decide) c118
      have c122 := hxk.get (by decide) c122
      have c123 := hxk.get (by decide) c123
      have hx := hx.trans hxk (by decide)
      refine r_aload_n (pc2 := 30) 0 dX10_hour_29 rfl rfl rfl rfl ?_
      refine r_iload_n (pc2 := 31) 1 dX10_hour_30 rfl rfl rfl ?_
      refine r_callV0 (pc2 := 34) (As := [.int (nI sn)]) (st := []) kX10_282 rfl rfl dX10_hour_31 c117 (by decide) rfl rfl (Nat.le_of_ble_eq_true rfl) (by omega) (c_goesHour (sn := sn) c117 c118 c122 c123 hA (by omega) hok (by omega)) rfl (fun h hq31 => ?_)
      obtain ⟨hxg, c118, ⟨f2, c122⟩, ⟨w2, c123⟩⟩ := hq31
      have c117 := hxg.get (by decide) c117
      have c124 := hxg.get (by decide) c124
      have hx := hx.trans hxg (by decide)
      refine r_aload_n (pc2 := 35) 0 dX10_hour_34 rfl rfl rfl rfl ?_
      refine r_callV0 (pc2 := 38) (As := []) (st := []) kX10_285 rfl rfl dX10_hour_35 c117 (by decide) rfl rfl (Nat.le_of_ble_eq_true rfl) (by omega) (c_notes (w := keepV a) c117 c118 c124 keepV_hw ((hA.goes hok).nd)) rfl (fun h hq35 => ?_)
      obtain ⟨hxn, c118⟩ := hq35
      have c117 := hxn.get (by decide) c117
      have c122 := hxn.get (by decide) c122
      have c123 := hxn.get (by decide) c123
      have c124 := hxn.get (by decide) c124
      have hx := hx.trans hxn (by decide)
      refine r_aload_n (pc2 := 39) 0 dX10_hour_38 rfl rfl rfl rfl ?_
      refine r_getf (pc2 := 42) (v := .ref 118) fX10_13 dX10_hour_39 c117 (by decide) rfl rfl ?_
      refine r_bipush (pc2 := 44) (v := 26) dX10_hour_42 (by decide) rfl ?_
      refine r_ialdA (pc2 := 45) 26 dX10_hour_44 c118 (by decide) rfl (by decide) (by decide) rfl ?_
      refine r_cast (nI (goesN a sn 26)) (congrArg nI (notesN_out (by omega) (hA.goes hok).nd)) ?_
      rw [if_pos hw0]
      exact r_iret rfl dX10_hour_45 ⟨by rw [hourF, nIL h16, whyF_of hA hn, if_pos hw0, nI_clamp (by omega)], (upd v 0 0), ⟨rfl, rfl, rfl⟩, ⟨c117, c118, hx.get (by decide) k119, hx.get (by decide) k120, ⟨_, hx.get (by decide) k121⟩, ⟨_, c122⟩, ⟨_, c123⟩, ⟨_, c124⟩, ⟨_, hx.get (by decide) k125⟩, ⟨_, hx.get (by decide) k126⟩, ⟨_, hx.get (by decide) k127⟩, ⟨_, hx.get (by decide) k128⟩, ⟨_, hx.get (by decide) k129⟩, ⟨_, hx.get (by decide) k130⟩, ⟨_, hx.get (by decide) k131⟩, ⟨_, hx.get (by decide) k132⟩, ⟨_, hx.get (by decide) k133⟩, ⟨_, hx.get (by decide) k134⟩, ⟨_, hx.get (by decide) k135⟩, hx.get (by decide) k136, hx.get (by decide) k137, hx.get (by decide) k138⟩, hx.mono (by decide)⟩
    · skip
      refine r_bipush (pc2 := 22) (v := -10) dX10_hour_20 (by decide) rfl ?_
      refine r_iload_n (pc2 := 23) 2 dX10_hour_22 rfl rfl rfl ?_
      refine r_isub (pc2 := 24) dX10_hour_23 rfl ?_
      rw [if_neg (fun q => b17 (by rw [q]; rfl))]
      exact r_iret rfl dX10_hour_24 ⟨by rw [hourF, nIL h16, whyF_of hA hn, if_neg (fun q => b17 (by rw [q]; rfl))], (upd v 0 0), ⟨rfl, rfl, rfl⟩, ⟨c117, c118, hx.get (by decide) k119, hx.get (by decide) k120, ⟨_, hx.get (by decide) k121⟩, ⟨_, c122⟩, ⟨_, c123⟩, ⟨_, c124⟩, ⟨_, hx.get (by decide) k125⟩, ⟨_, hx.get (by decide) k126⟩, ⟨_, hx.get (by decide) k127⟩, ⟨_, hx.get (by decide) k128⟩, ⟨_, hx.get (by decide) k129⟩, ⟨_, hx.get (by decide) k130⟩, ⟨_, hx.get (by decide) k131⟩, ⟨_, hx.get (by decide) k132⟩, ⟨_, hx.get (by decide) k133⟩, ⟨_, hx.get (by decide) k134⟩, ⟨_, hx.get (by decide) k135⟩, hx.get (by decide) k136, hx.get (by decide) k137, hx.get (by decide) k138⟩, hx.mono (by decide)⟩
  · have eA : hourA a x = a := by rw [hourA, whyF, if_neg hv, if_neg (by decide)]
    rw [eA]
    refine Cn.go (ls := [.ref 117, .int x, .float 0]) (by decide +kernel) rfl (Nat.le_of_ble_eq_true rfl) ?_
    refine r_aload_n (pc2 := 1) 0 dX10_hour_0 rfl rfl rfl rfl ?_
    refine r_iconst (pc2 := 2) (v := 0) dX10_hour_1 (by decide) rfl ?_
    refine r_putfX (pc2 := 5) (moL (upd v 0 0)) fX10_1 dX10_hour_2 c117 (by decide) (Nat.le_of_ble_eq_true rfl) rfl rfl rfl (fun h z2 o2 c117 => ?_)
    have c118 := (o2 118 (by decide)).trans c118
    have c122 := (o2 122 (by decide)).trans c122
    have c123 := (o2 123 (by decide)).trans c123
    have c124 := (o2 124 (by decide)).trans c124
    have hx := hx.step (a := 117) (by decide) z2 o2
    refine r_aload_n (pc2 := 6) 0 dX10_hour_5 rfl rfl rfl rfl ?_
    refine r_aload_n (pc2 := 7) 0 dX10_hour_6 rfl rfl rfl rfl ?_
    refine r_callV1 (pc2 := 10) (As := []) (st := [.ref 117]) kX10_266 rfl rfl dX10_hour_7 c117 (by decide) rfl rfl (Nat.le_of_ble_eq_true rfl) (by omega) (c_standNow c117 c118 hA.G hA.c7 hA.dp) rfl (fun h2 hq7 => ?_)
    subst hq7
    refine r_iload_n (pc2 := 11) 1 dX10_hour_10 rfl rfl rfl ?_
    refine r_i2l (pc2 := 12) dX10_hour_11 rfl ?_
    refine r_callV1 (pc2 := 15) (As := [.int (nI (packS a)), .long (Int32.toInt64 x)]) (st := []) kX10_269 rfl rfl dX10_hour_12 c117 (by decide) rfl rfl (Nat.le_of_ble_eq_true rfl) (by omega) (c_whyBy1 (x := (Int32.toInt64 x)) c117 c118 hA hv (by omega)) rfl (fun h2 hq12 => ?_)
    subst hq12
    refine r_istore_n (pc2 := 16) (ls2 := [.ref 117, .int x, .int 1]) 2 dX10_hour_15 rfl (by decide) rfl rfl rfl ?_
    refine r_iload_n (pc2 := 17) 2 dX10_hour_16 rfl rfl rfl ?_
    refine r_if_eq (tgt := 25) (pc2 := 20) dX10_hour_17 (by decide) rfl (fun b17 => ?_) (fun b17 => ?_)
    · exact absurd b17 (by decide)
    · skip
      refine r_bipush (pc2 := 22) (v := -10) dX10_hour_20 (by decide) rfl ?_
      refine r_iload_n (pc2 := 23) 2 dX10_hour_22 rfl rfl rfl ?_
      refine r_isub (pc2 := 24) dX10_hour_23 rfl ?_
      exact r_iret rfl dX10_hour_24 ⟨by rw [hourF, whyF, if_neg hv, if_neg (by decide)]; rfl, (upd v 0 0), ⟨rfl, rfl, rfl⟩, ⟨c117, c118, hx.get (by decide) k119, hx.get (by decide) k120, ⟨_, hx.get (by decide) k121⟩, ⟨_, c122⟩, ⟨_, c123⟩, ⟨_, c124⟩, ⟨_, hx.get (by decide) k125⟩, ⟨_, hx.get (by decide) k126⟩, ⟨_, hx.get (by decide) k127⟩, ⟨_, hx.get (by decide) k128⟩, ⟨_, hx.get (by decide) k129⟩, ⟨_, hx.get (by decide) k130⟩, ⟨_, hx.get (by decide) k131⟩, ⟨_, hx.get (by decide) k132⟩, ⟨_, hx.get (by decide) k133⟩, ⟨_, hx.get (by decide) k134⟩, ⟨_, hx.get (by decide) k135⟩, hx.get (by decide) k136, hx.get (by decide) k137, hx.get (by decide) k138⟩, hx.mono (by decide)⟩
