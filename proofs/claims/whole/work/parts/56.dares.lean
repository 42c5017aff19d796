/-! daring, dares -/
def ndF (a : Nat → Nat) (x : Int32) : Int32 := if vS (a 3) x.toInt64 then (if a 26 = 0 then -5 else 0) else -3
theorem ndF_0 {a : Nat → Nat} {x : Int32} (hG : a 3 ≤ 4) (h : ndF a x = 0) : ∃ n, n < 2 ^ (a 3) ∧ n < 16 ∧ x = nI n ∧ a 26 ≠ 0 := by
  unfold ndF at h
  split at h
  · rename_i hv
    split at h
    · exact absurd h (by decide)
    · rename_i h26
      obtain ⟨n, h1, h2, h3⟩ := vS_i hG hv
      exact ⟨n, h1, h2, h3, h26⟩
  · exact absurd h (by decide)
def dFnd (o : Nat) (F : Nat → Int32) (x : Int32) : Nat → Nat → Int32
  | 0, _ => -1
  | m + 1, g => if o.testBit g = true ∧ F g = x then nI g else dFnd o F x m (g + 1)
def daringF (a : Nat → Nat) (x : Int32) : Int32 := if ndF a x = 0 then dV a (packS a) x.toNatClampNeg else ndF a x
def daresF (a : Nat → Nat) (x : Int32) : Int32 := if ndF a x = 0 then dFnd (dOp a (packS a) x.toNatClampNeg) (fun g => dBy (dV a) a (packS a) (2 ^ g) x.toNatClampNeg) (dV a (packS a) x.toNatClampNeg) (a 3) 0 else ndF a x
theorem DI0 (a : Nat → Nat) (st : Nat) (dd : Nat → Int32) : DI a st (fillN dd 0 81920 (fun _ => 0)) := fun s f hs _ hf => by
  have h4 := hs.1
  have := @fillN_in Int32 dd 0 81920 (2 * s + (1 - f)) (fun _ => 0) (by omega)
  rw [Nat.zero_add] at this
  exact Or.inl this
set_option maxRecDepth 20000 in
set_option maxHeartbeats 1000000 in
theorem c_noDaring {E : EnvT} {d : Nat} {h0 : Hp} {v : Nat → Int32} {a : Nat → Nat} {x : Int32} (c117 : h0.1 117 = some (mO v)) (c118 : h0.1 118 = some (aI 3531 (nA a))) (hA : AIN a) (hd : 2 ≤ d) : Cn E mX10_noDaring d [.ref 117, .int x] h0 (fun r h2 => r = some (.int (ndF a x)) ∧ h2 = h0) := by
  have hdp := hA.dp
  by_cases hv : vS (a 3) x.toInt64
  · by_cases h26 : a 26 = 0
    · skip
      refine Cn.go (ls := [.ref 117, .int x]) (by decide +kernel) rfl (Nat.le_of_ble_eq_true rfl) ?_
      refine r_aload_n (pc2 := 1) 0 dX10_noDaring_0 rfl rfl rfl rfl ?_
      refine r_iload_n (pc2 := 2) 1 dX10_noDaring_1 rfl rfl rfl ?_
      refine r_i2l (pc2 := 3) dX10_noDaring_2 rfl ?_
      refine r_callV1 (pc2 := 6) (As := [.long (Int32.toInt64 x)]) (st := []) kX10_259 rfl rfl dX10_noDaring_3 c117 (by decide) rfl rfl (Nat.le_of_ble_eq_true rfl) (by omega) (c_isSet c117 c118 hA.G (by omega)) rfl (fun h2 hq3 => ?_)
      subst hq3
      refine r_if_ne (tgt := 14) (pc2 := 9) dX10_noDaring_6 (by decide) rfl (fun b6 => ?_) (fun b6 => ?_)
      · skip
        refine r_aload_n (pc2 := 15) 0 dX10_noDaring_14 rfl rfl rfl rfl ?_
        refine r_getf (pc2 := 18) (v := .ref 118) fX10_13 dX10_noDaring_15 c117 (by decide) rfl rfl ?_
        refine r_bipush (pc2 := 20) (v := 26) dX10_noDaring_18 (by decide) rfl ?_
        refine r_ialdA (pc2 := 21) 26 dX10_noDaring_20 c118 (by decide) rfl (by decide) (by decide) rfl ?_
        refine r_if_ne (tgt := 29) (pc2 := 24) dX10_noDaring_21 (by decide) rfl (fun b21 => ?_) (fun b21 => ?_)
        · exact absurd (by rw [h26]; rfl) b21
        · skip
          refine r_bipush (pc2 := 26) (v := -5) dX10_noDaring_24 (by decide) rfl ?_
          refine r_goto (pc2 := 30) dX10_noDaring_26 (by decide) ?_
          exact r_iret rfl dX10_noDaring_30 ⟨by rw [ndF, if_pos hv, if_pos h26], rfl⟩
      · exact absurd b6 (if1 hv)
    · skip
      refine Cn.go (ls := [.ref 117, .int x]) (by decide +kernel) rfl (Nat.le_of_ble_eq_true rfl) ?_
      refine r_aload_n (pc2 := 1) 0 dX10_noDaring_0 rfl rfl rfl rfl ?_
      refine r_iload_n (pc2 := 2) 1 dX10_noDaring_1 rfl rfl rfl ?_
      refine r_i2l (pc2 := 3) dX10_noDaring_2 rfl ?_
      refine r_callV1 (pc2 := 6) (As := [.long (Int32.toInt64 x)]) (st := []) kX10_259 rfl rfl dX10_noDaring_3 c117 (by decide) rfl rfl (Nat.le_of_ble_eq_true rfl) (by omega) (c_isSet c117 c118 hA.G (by omega)) rfl (fun h2 hq3 => ?_)
      subst hq3
      refine r_if_ne (tgt := 14) (pc2 := 9) dX10_noDaring_6 (by decide) rfl (fun b6 => ?_) (fun b6 => ?_)
      · skip
        refine r_aload_n (pc2 := 15) 0 dX10_noDaring_14 rfl rfl rfl rfl ?_
        refine r_getf (pc2 := 18) (v := .ref 118) fX10_13 dX10_noDaring_15 c117 (by decide) rfl rfl ?_
        refine r_bipush (pc2 := 20) (v := 26) dX10_noDaring_18 (by decide) rfl ?_
        refine r_ialdA (pc2 := 21) 26 dX10_noDaring_20 c118 (by decide) rfl (by decide) (by decide) rfl ?_
        refine r_if_ne (tgt := 29) (pc2 := 24) dX10_noDaring_21 (by decide) rfl (fun b21 => ?_) (fun b21 => ?_)
        · skip
          refine r_iconst (pc2 := 30) (v := 0) dX10_noDaring_29 (by decide) rfl ?_
          exact r_iret rfl dX10_noDaring_30 ⟨by rw [ndF, if_pos hv, if_neg h26], rfl⟩
        · exact absurd (nI_z0 (by omega) b21) h26
      · exact absurd b6 (if1 hv)
  · skip
    refine Cn.go (ls := [.ref 117, .int x]) (by decide +kernel) rfl (Nat.le_of_ble_eq_true rfl) ?_
    refine r_aload_n (pc2 := 1) 0 dX10_noDaring_0 rfl rfl rfl rfl ?_
    refine r_iload_n (pc2 := 2) 1 dX10_noDaring_1 rfl rfl rfl ?_
    refine r_i2l (pc2 := 3) dX10_noDaring_2 rfl ?_
    refine r_callV1 (pc2 := 6) (As := [.long (Int32.toInt64 x)]) (st := []) kX10_259 rfl rfl dX10_noDaring_3 c117 (by decide) rfl rfl (Nat.le_of_ble_eq_true rfl) (by omega) (c_isSet c117 c118 hA.G (by omega)) rfl (fun h2 hq3 => ?_)
    subst hq3
    refine r_if_ne (tgt := 14) (pc2 := 9) dX10_noDaring_6 (by decide) rfl (fun b6 => ?_) (fun b6 => ?_)
    · exact absurd (if0 hv) b6
    · skip
      refine r_bipush (pc2 := 11) (v := -3) dX10_noDaring_9 (by decide) rfl ?_
      refine r_goto (pc2 := 30) dX10_noDaring_11 (by decide) ?_
      exact r_iret rfl dX10_noDaring_30 ⟨by rw [ndF, if_neg hv], rfl⟩
set_option maxRecDepth 20000 in
set_option maxHeartbeats 1000000 in
theorem c_beginsDaring {E : EnvT} {d : Nat} {h0 : Hp} {v dd : Nat → Int32} (c117 : h0.1 117 = some (mO v)) (c135 : h0.1 135 = some (aB 81920 dd)) : Cn E mX10_beginsDaring d [.ref 117] h0 (fun r h2 => r = none ∧ Ex [135] h0 h2 ∧ h2.1 135 = some (aB 81920 (fillN dd 0 81920 (fun _ => 0)))) := by
  have hx : Ex [135] h0 h0 := Ex.rf
  have loop : ∀ (m k : Nat) (h1 : Hp), k + m = 81920 → Ex [135] h0 h1 → h1.1 117 = some (mO v) → h1.1 135 = some (aB 81920 (fillN dd 0 k (fun _ => 0))) → Fr E mX10_beginsDaring d 2 [.ref 117, .int (nI k)] [] h1 (fun r h2 => r = none ∧ Ex [135] h0 h2 ∧ h2.1 135 = some (aB 81920 (fillN dd 0 81920 (fun _ => 0)))) := by
    intro m
    induction m with
    | zero =>
      intro k h hk hx c117 c135
      obtain rfl : k = 81920 := by omega
      refine r_iload_n (pc2 := 3) 1 dX10_beginsDaring_2 rfl rfl rfl ?_
      refine r_ldc (pc2 := 5) (v := 81920) qX10_72 dX10_beginsDaring_3 rfl ?_
      refine r_icmp_ge (tgt := 21) (pc2 := 8) dX10_beginsDaring_5 (by decide) rfl (fun b5 => ?_) (fun b5 => ?_)
      · skip
        exact r_vret rfl dX10_beginsDaring_21 ⟨rfl, hx, c135⟩
      · exact absurd (nI_le (a := 81920) (b := 81920) (Nat.le_refl _) (by decide)) b5
    | succ m ih =>
      intro k h hk hx c117 c135
      have hlt : k < 81920 := by omega
      refine r_iload_n (pc2 := 3) 1 dX10_beginsDaring_2 rfl rfl rfl ?_
      refine r_ldc (pc2 := 5) (v := 81920) qX10_72 dX10_beginsDaring_3 rfl ?_
      refine r_icmp_ge (tgt := 21) (pc2 := 8) dX10_beginsDaring_5 (by decide) rfl (fun b5 => ?_) (fun b5 => ?_)
      · exact absurd b5 (nI_ge (b := 81920) hlt (by decide))
      · skip
        refine r_aload_n (pc2 := 9) 0 dX10_beginsDaring_8 rfl rfl rfl rfl ?_
        refine r_getf (pc2 := 12) (v := .ref 135) fX10_73 dX10_beginsDaring_9 c117 (by decide) rfl rfl ?_
        refine r_iload_n (pc2 := 13) 1 dX10_beginsDaring_12 rfl rfl rfl ?_
        refine r_iconst (pc2 := 14) (v := 0) dX10_beginsDaring_13 (by decide) rfl ?_
        refine r_bastN (pc2 := 15) k dX10_beginsDaring_14 c135 (by decide) rfl (by omega) (by decide) rfl (fun h z14 o14 c135 => ?_)
        have c117 := (o14 117 (by decide)).trans c117
        have hx := hx.step (a := 135) (by decide) z14 o14
        obtain ⟨x15, e15⟩ : ∃ z : Int32, z = (nI k) + (1) := ⟨_, rfl⟩
        refine r_iinc (pc2 := 18) (ls2 := [.ref 117, .int x15]) (v := x15) 1 dX10_beginsDaring_15 rfl (by rw [e15]; rfl) rfl rfl rfl ?_
        refine r_goto (pc2 := 2) dX10_beginsDaring_18 (by decide) ?_
        rw [e15, nI_1]
        have c135 : h.1 135 = some (aB 81920 (fillN dd 0 (k + 1) (fun _ => 0))) := c135.trans (by rw [← fillN_s0]; rfl)
        exact ih (k + 1) h (by omega) hx c117 c135
  refine Cn.go (ls := [.ref 117, .float 0]) (by decide +kernel) rfl (Nat.le_of_ble_eq_true rfl) ?_
  refine r_iconst (pc2 := 1) (v := 0) dX10_beginsDaring_0 (by decide) rfl ?_
  refine r_istore_n (pc2 := 2) (ls2 := [.ref 117, .int 0]) 1 dX10_beginsDaring_1 rfl (by decide) rfl rfl rfl ?_
  rw [← fillN_0 dd 0 (fun _ => 0)] at c135
  exact loop 81920 0 _ (by omega) hx c117 c135
theorem c_daresFrom1 {E : EnvT} {d : Nat} {h0 : Hp} {v dd f2 w2 : Nat → Int32} {a : Nat → Nat} {n s : Nat} (c117 : h0.1 117 = some (mO v)) (c118 : h0.1 118 = some (aI 3531 (nA a))) (c122 : h0.1 122 = some (aI 900 f2)) (c123 : h0.1 123 = some (aI 9 w2)) (c135 : h0.1 135 = some (aB 81920 dd)) (hA : AIN a) (hn : n < 2 ^ (a 3)) (hs : SG a s) (hz : s / 4096 ≠ 0) (hDI : DI a n dd) (hd : 108 ≤ d) : Cn E mX10_daresFrom d [.ref 117, .int (nI s), .int (nI n), .int 1] h0 (QDa a n h0 (dV a s n)) := by
  have e := c_daresFrom (E := E) (v := v) hA hn 50 s 1 d dd f2 w2 h0 hs hz (by omega) (Nat.lt_succ_of_le (dmu_le hA.C)) (by omega) hDI c117 c118 c122 c123 c135
  rw [show sd a n 1 = n from if_pos rfl] at e
  exact e
theorem c_daresBy1 {E : EnvT} {d : Nat} {h0 : Hp} {v dd f2 w2 : Nat → Int32} {a : Nat → Nat} {n s c : Nat} (c117 : h0.1 117 = some (mO v)) (c118 : h0.1 118 = some (aI 3531 (nA a))) (c122 : h0.1 122 = some (aI 900 f2)) (c123 : h0.1 123 = some (aI 9 w2)) (c135 : h0.1 135 = some (aB 81920 dd)) (hA : AIN a) (hn : n < 2 ^ (a 3)) (hs : SG a s) (ho : okS a s c) (hDI : DI a n dd) (hd : 109 ≤ d) : Cn E mX10_daresBy d [.ref 117, .int (nI s), .int (nI c), .int (nI n), .int 1] h0 (QDa a n h0 (dBy (dV a) a s c n)) := by
  have e := c_daresBy (E := E) (v := v) hA hn (c_daresFrom hA hn 50) s 1 c d dd f2 w2 h0 hs (by omega) ho (fun _ => Nat.lt_succ_of_le (dmu_le hA.C)) (by omega) hDI c117 c118 c122 c123 c135
  rw [show sd a n 1 = n from if_pos rfl] at e
  exact e
set_option maxRecDepth 20000 in
set_option maxHeartbeats 1000000 in
theorem ref_daring {E : EnvT} {d : Nat} {h0 : Hp} {v : Nat → Int32} {a : Nat → Nat} {hi : Nat → Int32} {tp : Nat → Nat} {rs rm : Nat → Int32} {nu : Nat → Int64} {x : Int32} (hR : RS h0 v a hi tp rs rm nu) (hA : AIN a) (hd : 110 ≤ d) : Cn E mX10_daring d [.ref 117, .int x] h0 (RP (.int (daringF a x)) h0 v a hi tp rs rm nu) := by
  obtain ⟨k117, k118, k119, k120, ⟨f121, k121⟩, ⟨f122, k122⟩, ⟨f123, k123⟩, ⟨f124, k124⟩, ⟨f125, k125⟩, ⟨f126, k126⟩, ⟨f127, k127⟩, ⟨f128, k128⟩, ⟨f129, k129⟩, ⟨f130, k130⟩, ⟨f131, k131⟩, ⟨f132, k132⟩, ⟨f133, k133⟩, ⟨f134, k134⟩, ⟨f135, k135⟩, k136, k137, k138⟩ := hR
  have c117 := k117
  have c118 := k118
  have c122 := k122
  have c123 := k123
  have c135 := k135
  have hx : Ex [117, 118, 122, 123, 135] h0 h0 := Ex.rf
  have hp16 := pw16 hA.G
  have hG := hA.G
  by_cases h0n : ndF a x = 0
  · obtain ⟨n, hn, hn16, rfl, h26⟩ := ndF_0 hA.G h0n
    have hz : packS a / 4096 ≠ 0 := by rw [hA.pdep]; exact h26
    have hs4 := hA.plt
    refine Cn.go (ls := [.ref 117, .int (nI n), .float 0]) (by decide +kernel) rfl (Nat.le_of_ble_eq_true rfl) ?_
    refine r_aload_n (pc2 := 1) 0 dX10_daring_0 rfl rfl rfl rfl ?_
    refine r_iconst (pc2 := 2) (v := 0) dX10_daring_1 (by decide) rfl ?_
    refine r_putfX (pc2 := 5) (moL (upd v 0 0)) fX10_1 dX10_daring_2 c117 (by decide) (Nat.le_of_ble_eq_true rfl) rfl rfl rfl (fun h z2 o2 c117 => ?_)
    have c118 := (o2 118 (by decide)).trans c118
    have c122 := (o2 122 (by decide)).trans c122
    have c123 := (o2 123 (by decide)).trans c123
    have c135 := (o2 135 (by decide)).trans c135
    have hx := hx.step (a := 117) (by decide) z2 o2
    refine r_aload_n (pc2 := 6) 0 dX10_daring_5 rfl rfl rfl rfl ?_
    refine r_iload_n (pc2 := 7) 1 dX10_daring_6 rfl rfl rfl ?_
    refine r_callV1 (pc2 := 10) (As := [.int (nI n)]) (st := []) kX10_425 rfl rfl dX10_daring_7 c117 (by decide) rfl rfl (Nat.le_of_ble_eq_true rfl) (by omega) (c_noDaring c117 c118 hA (by omega)) rfl (fun h2 hq7 => ?_)
    subst hq7
    refine r_topi (fun x10 e10 => ?_)
    refine r_istore_n (pc2 := 11) (ls2 := [.ref 117, .int (nI n), .int x10]) 2 dX10_daring_10 rfl (by decide) rfl rfl rfl ?_
    refine r_iload_n (pc2 := 12) 2 dX10_daring_11 rfl rfl rfl ?_
    refine r_if_eq (tgt := 17) (pc2 := 15) dX10_daring_12 (by decide) rfl (fun b12 => ?_) (fun b12 => ?_)
    · skip
      refine r_aload_n (pc2 := 18) 0 dX10_daring_17 rfl rfl rfl rfl ?_
      refine r_callV0 (pc2 := 21) (As := []) (st := []) kX10_428 rfl rfl dX10_daring_18 c117 (by decide) rfl rfl (Nat.le_of_ble_eq_true rfl) (by omega) (c_beginsDaring c117 c135) rfl (fun h hq18 => ?_)
      obtain ⟨hxb, c135⟩ := hq18
      have c117 := hxb.get (by decide) c117
      have c118 := hxb.get (by decide) c118
      have c122 := hxb.get (by decide) c122
      have c123 := hxb.get (by decide) c123
      have hx := hx.trans hxb (by decide)
      have hDI := DI0 a n f135
      refine r_aload_n (pc2 := 22) 0 dX10_daring_21 rfl rfl rfl rfl ?_
      refine r_aload_n (pc2 := 23) 0 dX10_daring_22 rfl rfl rfl rfl ?_
      refine r_callV1 (pc2 := 26) (As := []) (st := [.ref 117]) kX10_266 rfl rfl dX10_daring_23 c117 (by decide) rfl rfl (Nat.le_of_ble_eq_true rfl) (by omega) (c_standNow c117 c118 hA.G hA.c7 hA.dp) rfl (fun h2 hq23 => ?_)
      subst hq23
      refine r_iload_n (pc2 := 27) 1 dX10_daring_26 rfl rfl rfl ?_
      refine r_iconst (pc2 := 28) (v := 1) dX10_daring_27 (by decide) rfl ?_
      refine r_callV1 (pc2 := 31) (As := [.int (nI (packS a)), .int (nI n), .int 1]) (st := []) kX10_421 rfl rfl dX10_daring_28 c117 (by decide) rfl rfl (Nat.le_of_ble_eq_true rfl) (by omega) (c_daresFrom1 c117 c118 c122 c123 c135 hA hn (SG.now hA) hz hDI (by omega)) rfl (fun h hq28 => ?_)
      obtain ⟨hx3, ⟨f2c, c122⟩, ⟨w2c, c123⟩, ⟨ddb, c135, hDI⟩⟩ := hq28
      have c117 := hx3.get (by decide) c117
      have c118 := hx3.get (by decide) c118
      have hx := hx.trans hx3 (by decide)
      exact r_iret rfl dX10_daring_31 ⟨by rw [daringF, if_pos h0n, nI_clamp (by omega)], (upd v 0 0), ⟨rfl, rfl, rfl⟩, ⟨c117, c118, hx.get (by decide) k119, hx.get (by decide) k120, ⟨_, hx.get (by decide) k121⟩, ⟨_, c122⟩, ⟨_, c123⟩, ⟨_, hx.get (by decide) k124⟩, ⟨_, hx.get (by decide) k125⟩, ⟨_, hx.get (by decide) k126⟩, ⟨_, hx.get (by decide) k127⟩, ⟨_, hx.get (by decide) k128⟩, ⟨_, hx.get (by decide) k129⟩, ⟨_, hx.get (by decide) k130⟩, ⟨_, hx.get (by decide) k131⟩, ⟨_, hx.get (by decide) k132⟩, ⟨_, hx.get (by decide) k133⟩, ⟨_, hx.get (by decide) k134⟩, ⟨_, c135⟩, hx.get (by decide) k136, hx.get (by decide) k137, hx.get (by decide) k138⟩, hx.mono (by decide)⟩
    · exact absurd (e10.trans h0n) b12
  · skip
    refine Cn.go (ls := [.ref 117, .int x, .float 0]) (by decide +kernel) rfl (Nat.le_of_ble_eq_true rfl) ?_
    refine r_aload_n (pc2 := 1) 0 dX10_daring_0 rfl rfl rfl rfl ?_
    refine r_iconst (pc2 := 2) (v := 0) dX10_daring_1 (by decide) rfl ?_
    refine r_putfX (pc2 := 5) (moL (upd v 0 0)) fX10_1 dX10_daring_2 c117 (by decide) (Nat.le_of_ble_eq_true rfl) rfl rfl rfl (fun h z2 o2 c117 => ?_)
    have c118 := (o2 118 (by decide)).trans c118
    have c122 := (o2 122 (by decide)).trans c122
    have c123 := (o2 123 (by decide)).trans c123
    have c135 := (o2 135 (by decide)).trans c135
    have hx := hx.step (a := 117) (by decide) z2 o2
    refine r_aload_n (pc2 := 6) 0 dX10_daring_5 rfl rfl rfl rfl ?_
    refine r_iload_n (pc2 := 7) 1 dX10_daring_6 rfl rfl rfl ?_
    refine r_callV1 (pc2 := 10) (As := [.int x]) (st := []) kX10_425 rfl rfl dX10_daring_7 c117 (by decide) rfl rfl (Nat.le_of_ble_eq_true rfl) (by omega) (c_noDaring c117 c118 hA (by omega)) rfl (fun h2 hq7 => ?_)
    subst hq7
    refine r_topi (fun x10 e10 => ?_)
    refine r_istore_n (pc2 := 11) (ls2 := [.ref 117, .int x, .int x10]) 2 dX10_daring_10 rfl (by decide) rfl rfl rfl ?_
    refine r_iload_n (pc2 := 12) 2 dX10_daring_11 rfl rfl rfl ?_
    refine r_if_eq (tgt := 17) (pc2 := 15) dX10_daring_12 (by decide) rfl (fun b12 => ?_) (fun b12 => ?_)
    · exact absurd (e10.symm.trans b12) h0n
    · skip
      refine r_iload_n (pc2 := 16) 2 dX10_daring_15 rfl rfl rfl ?_
      exact r_iret rfl dX10_daring_16 ⟨by rw [daringF, if_neg h0n, e10], (upd v 0 0), ⟨rfl, rfl, rfl⟩, ⟨c117, c118, hx.get (by decide) k119, hx.get (by decide) k120, ⟨_, hx.get (by decide) k121⟩, ⟨_, c122⟩, ⟨_, c123⟩, ⟨_, hx.get (by decide) k124⟩, ⟨_, hx.get (by decide) k125⟩, ⟨_, hx.get (by decide) k126⟩, ⟨_, hx.get (by decide) k127⟩, ⟨_, hx.get (by decide) k128⟩, ⟨_, hx.get (by decide) k129⟩, ⟨_, hx.get (by decide) k130⟩, ⟨_, hx.get (by decide) k131⟩, ⟨_, hx.get (by decide) k132⟩, ⟨_, hx.get (by decide) k133⟩, ⟨_, hx.get (by decide) k134⟩, ⟨_, c135⟩, hx.get (by decide) k136, hx.get (by decide) k137, hx.get (by decide) k138⟩, hx.mono (by decide)⟩
set_option maxRecDepth 20000 in
set_option maxHeartbeats 1000000 in
theorem ref_dares {E : EnvT} {d : Nat} {h0 : Hp} {v : Nat → Int32} {a : Nat → Nat} {hi : Nat → Int32} {tp : Nat → Nat} {rs rm : Nat → Int32} {nu : Nat → Int64} {x : Int32} (hR : RS h0 v a hi tp rs rm nu) (hA : AIN a) (hd : 112 ≤ d) : Cn E mX10_dares d [.ref 117, .int x] h0 (RP (.int (daresF a x)) h0 v a hi tp rs rm nu) := by
  obtain ⟨k117, k118, k119, k120, ⟨f121, k121⟩, ⟨f122, k122⟩, ⟨f123, k123⟩, ⟨f124, k124⟩, ⟨f125, k125⟩, ⟨f126, k126⟩, ⟨f127, k127⟩, ⟨f128, k128⟩, ⟨f129, k129⟩, ⟨f130, k130⟩, ⟨f131, k131⟩, ⟨f132, k132⟩, ⟨f133, k133⟩, ⟨f134, k134⟩, ⟨f135, k135⟩, k136, k137, k138⟩ := hR
  have c117 := k117
  have c118 := k118
  have c122 := k122
  have c123 := k123
  have c135 := k135
  have hx : Ex [117, 118, 122, 123, 135] h0 h0 := Ex.rf
  have hp16 := pw16 hA.G
  have hG := hA.G
  by_cases h0n : ndF a x = 0
  · obtain ⟨n, hn, hn16, rfl, h26⟩ := ndF_0 hA.G h0n
    have hz : packS a / 4096 ≠ 0 := by rw [hA.pdep]; exact h26
    have hs4 := hA.plt
    have hpl := pastN_16 (a 1) (packS a) hA.G
    have hop : (dOp a (packS a) n) < 1024 := Nat.lt_trans (dOp_lt hn16) (by decide)
    have loop : ∀ (m2 g : Nat) (u2 : Value) (dd f2 w2 : Nat → Int32) (h1 : Hp), g + m2 = a 3 → Ex [117, 118, 122, 123, 135] h0 h1 → DI a n dd → h1.1 117 = some (mO (upd v 0 0)) → h1.1 118 = some (aI 3531 (nA a)) → h1.1 122 = some (aI 900 f2) → h1.1 123 = some (aI 9 w2) → h1.1 135 = some (aB 81920 dd) → Fr E mX10_dares d 35 [.ref 117, .int (nI n), u2, .int (dV a (packS a) n), .int (nI g)] [] h1 (RP (.int (dFnd (dOp a (packS a) n) (fun g => dBy (dV a) a (packS a) (2 ^ g) n) (dV a (packS a) n) m2 g)) h0 v a hi tp rs rm nu) := by
      intro m2
      induction m2 with
      | zero =>
        intro g u2 dd f2 w2 h hg hx hDI c117 c118 c122 c123 c135
        obtain rfl : g = a 3 := by omega
        refine r_iload (pc2 := 37) 4 dX10_dares_35 rfl rfl ?_
        refine r_aload_n (pc2 := 38) 0 dX10_dares_37 rfl rfl rfl rfl ?_
        refine r_getf (pc2 := 41) (v := .ref 118) fX10_13 dX10_dares_38 c117 (by decide) rfl rfl ?_
        refine r_iconst (pc2 := 42) (v := 3) dX10_dares_41 (by decide) rfl ?_
        refine r_ialdA (pc2 := 43) 3 dX10_dares_42 c118 (by decide) rfl (by decide) (by decide) rfl ?_
        refine r_icmp_ge (tgt := 94) (pc2 := 46) dX10_dares_43 (by decide) rfl (fun b43 => ?_) (fun b43 => ?_)
        · skip
          refine r_iconst (pc2 := 95) (v := -1) dX10_dares_94 (by decide) rfl ?_
          exact r_iret rfl dX10_dares_95 ⟨rfl, (upd v 0 0), ⟨rfl, rfl, rfl⟩, ⟨c117, c118, hx.get (by decide) k119, hx.get (by decide) k120, ⟨_, hx.get (by decide) k121⟩, ⟨_, c122⟩, ⟨_, c123⟩, ⟨_, hx.get (by decide) k124⟩, ⟨_, hx.get (by decide) k125⟩, ⟨_, hx.get (by decide) k126⟩, ⟨_, hx.get (by decide) k127⟩, ⟨_, hx.get (by decide) k128⟩, ⟨_, hx.get (by decide) k129⟩, ⟨_, hx.get (by decide) k130⟩, ⟨_, hx.get (by decide) k131⟩, ⟨_, hx.get (by decide) k132⟩, ⟨_, hx.get (by decide) k133⟩, ⟨_, hx.get (by decide) k134⟩, ⟨_, c135⟩, hx.get (by decide) k136, hx.get (by decide) k137, hx.get (by decide) k138⟩, hx.mono (by decide)⟩
        · exact absurd (nI_le (Nat.le_refl _) (by omega)) b43
      | succ m2 ih =>
        intro g u2 dd f2 w2 h hg hx hDI c117 c118 c122 c123 c135
        have hlt : g < a 3 := by omega
        by_cases hb : (dOp a (packS a) n).testBit g = true
        · have hok := okS_g hA.G hn16 hlt hb hz
          by_cases he : (dBy (dV a) a (packS a) (2 ^ g) n) = (dV a (packS a) n)
          · have hnx : dFnd (dOp a (packS a) n) (fun g => dBy (dV a) a (packS a) (2 ^ g) n) (dV a (packS a) n) (m2 + 1) g = nI g := by rw [dFnd, if_pos ⟨hb, he⟩]
            refine r_iload (pc2 := 37) 4 dX10_dares_35 rfl rfl ?_
            refine r_aload_n (pc2 := 38) 0 dX10_dares_37 rfl rfl rfl rfl ?_
            refine r_getf (pc2 := 41) (v := .ref 118) fX10_13 dX10_dares_38 c117 (by decide) rfl rfl ?_
            refine r_iconst (pc2 := 42) (v := 3) dX10_dares_41 (by decide) rfl ?_
            refine r_ialdA (pc2 := 43) 3 dX10_dares_42 c118 (by decide) rfl (by decide) (by decide) rfl ?_
            refine r_icmp_ge (tgt := 94) (pc2 := 46) dX10_dares_43 (by decide) rfl (fun b43 => ?_) (fun b43 => ?_)
            · exact absurd b43 (nI_ge hlt (by omega))
            · skip
              refine r_iload_n (pc2 := 47) 1 dX10_dares_46 rfl rfl rfl ?_
              refine r_aload_n (pc2 := 48) 0 dX10_dares_47 rfl rfl rfl rfl ?_
              refine r_aload_n (pc2 := 49) 0 dX10_dares_48 rfl rfl rfl rfl ?_
              refine r_callV1 (pc2 := 52) (As := []) (st := [.ref 117, .int (nI n)]) kX10_266 rfl rfl dX10_dares_49 c117 (by decide) rfl rfl (Nat.le_of_ble_eq_true rfl) (by omega) (c_standNow c117 c118 hA.G hA.c7 hA.dp) rfl (fun h2 hq49 => ?_)
              subst hq49
              refine r_callV1 (pc2 := 55) (As := [.int (nI (packS a))]) (st := [.int (nI n)]) kX10_256 rfl rfl dX10_dares_52 c117 (by decide) rfl rfl (Nat.le_of_ble_eq_true rfl) (by omega) (c_pastIn (st := packS a) c117 c118 hA.G hA.C (by omega) (by omega)) rfl (fun h2 hq52 => ?_)
              subst hq52
              refine r_iconst (pc2 := 56) (v := -1) dX10_dares_55 (by decide) rfl ?_
              refine r_ixor (pc2 := 57) dX10_dares_56 rfl ?_
              refine r_iand (pc2 := 58) dX10_dares_57 rfl ?_
              refine r_cast (nI (dOp a (packS a) n)) (dif_nI _ (by omega) _ (by omega)) ?_
              refine r_i2l (pc2 := 59) dX10_dares_58 rfl ?_
              refine r_iload (pc2 := 61) 4 dX10_dares_59 rfl rfl ?_
              refine r_callS1 (pc2 := 64) (As := [.long (Int32.toInt64 (nI (dOp a (packS a) n))), .int (nI g)]) (st := []) kX10_245 dX10_dares_61 rfl rfl (Nat.le_of_ble_eq_true rfl) (by omega) (c_isIn (Int32.toInt64 (nI (dOp a (packS a) n))) (nI g)) rfl (fun h2 hq61 => ?_)
              subst hq61
              refine r_if_eq (tgt := 88) (pc2 := 67) dX10_dares_64 (by decide) rfl (fun b64 => ?_) (fun b64 => ?_)
              · exact absurd b64 (if1 ((isInB _ hop g (by omega)).mpr hb))
              · skip
                refine r_aload_n (pc2 := 68) 0 dX10_dares_67 rfl rfl rfl rfl ?_
                refine r_aload_n (pc2 := 69) 0 dX10_dares_68 rfl rfl rfl rfl ?_
                refine r_callV1 (pc2 := 72) (As := []) (st := [.ref 117]) kX10_266 rfl rfl dX10_dares_69 c117 (by decide) rfl rfl (Nat.le_of_ble_eq_true rfl) (by omega) (c_standNow c117 c118 hA.G hA.c7 hA.dp) rfl (fun h2 hq69 => ?_)
                subst hq69
                refine r_iconst (pc2 := 73) (v := 1) dX10_dares_72 (by decide) rfl ?_
                refine r_iload (pc2 := 75) 4 dX10_dares_73 rfl rfl ?_
                refine r_ishl (pc2 := 76) dX10_dares_75 rfl ?_
                refine r_cast (nI (2 ^ g)) (shl1 _ (by omega)) ?_
                refine r_iload_n (pc2 := 77) 1 dX10_dares_76 rfl rfl rfl ?_
                refine r_iconst (pc2 := 78) (v := 1) dX10_dares_77 (by decide) rfl ?_
                refine r_callV1 (pc2 := 81) (As := [.int (nI (packS a)), .int (nI (2 ^ g)), .int (nI n), .int 1]) (st := []) kX10_417 rfl rfl dX10_dares_78 c117 (by decide) rfl rfl (Nat.le_of_ble_eq_true rfl) (by omega) (c_daresBy1 (c := 2 ^ g) c117 c118 c122 c123 c135 hA hn (SG.now hA) hok hDI (by omega)) rfl (fun h hq78 => ?_)
                obtain ⟨hx3, ⟨f2c, c122⟩, ⟨w2c, c123⟩, ⟨ddb, c135, hDI⟩⟩ := hq78
                have c117 := hx3.get (by decide) c117
                have c118 := hx3.get (by decide) c118
                have hx := hx.trans hx3 (by decide)
                refine r_iload_n (pc2 := 82) 3 dX10_dares_81 rfl rfl rfl ?_
                refine r_icmp_ne (tgt := 88) (pc2 := 85) dX10_dares_82 (by decide) rfl (fun b82 => ?_) (fun b82 => ?_)
                · exact absurd he b82
                · skip
                  refine r_iload (pc2 := 87) 4 dX10_dares_85 rfl rfl ?_
                  exact r_iret rfl dX10_dares_87 ⟨by rw [hnx], (upd v 0 0), ⟨rfl, rfl, rfl⟩, ⟨c117, c118, hx.get (by decide) k119, hx.get (by decide) k120, ⟨_, hx.get (by decide) k121⟩, ⟨_, c122⟩, ⟨_, c123⟩, ⟨_, hx.get (by decide) k124⟩, ⟨_, hx.get (by decide) k125⟩, ⟨_, hx.get (by decide) k126⟩, ⟨_, hx.get (by decide) k127⟩, ⟨_, hx.get (by decide) k128⟩, ⟨_, hx.get (by decide) k129⟩, ⟨_, hx.get (by decide) k130⟩, ⟨_, hx.get (by decide) k131⟩, ⟨_, hx.get (by decide) k132⟩, ⟨_, hx.get (by decide) k133⟩, ⟨_, hx.get (by decide) k134⟩, ⟨_, c135⟩, hx.get (by decide) k136, hx.get (by decide) k137, hx.get (by decide) k138⟩, hx.mono (by decide)⟩
          · have hnx : dFnd (dOp a (packS a) n) (fun g => dBy (dV a) a (packS a) (2 ^ g) n) (dV a (packS a) n) (m2 + 1) g = dFnd (dOp a (packS a) n) (fun g => dBy (dV a) a (packS a) (2 ^ g) n) (dV a (packS a) n) m2 (g + 1) := by rw [dFnd, if_neg (fun z => he z.2)]
            refine r_iload (pc2 := 37) 4 dX10_dares_35 rfl rfl ?_
            refine r_aload_n (pc2 := 38) 0 dX10_dares_37 rfl rfl rfl rfl ?_
            refine r_getf (pc2 := 41) (v := .ref 118) fX10_13 dX10_dares_38 c117 (by decide) rfl rfl ?_
            refine r_iconst (pc2 := 42) (v := 3) dX10_dares_41 (by decide) rfl ?_
            refine r_ialdA (pc2 := 43) 3 dX10_dares_42 c118 (by decide) rfl (by decide) (by decide) rfl ?_
            refine r_icmp_ge (tgt := 94) (pc2 := 46) dX10_dares_43 (by decide) rfl (fun b43 => ?_) (fun b43 => ?_)
            · exact absurd b43 (nI_ge hlt (by omega))
            · skip
              refine r_iload_n (pc2 := 47) 1 dX10_dares_46 rfl rfl rfl ?_
              refine r_aload_n (pc2 := 48) 0 dX10_dares_47 rfl rfl rfl rfl ?_
              refine r_aload_n (pc2 := 49) 0 dX10_dares_48 rfl rfl rfl rfl ?_
              refine r_callV1 (pc2 := 52) (As := []) (st := [.ref 117, .int (nI n)]) kX10_266 rfl rfl dX10_dares_49 c117 (by decide) rfl rfl (Nat.le_of_ble_eq_true rfl) (by omega) (c_standNow c117 c118 hA.G hA.c7 hA.dp) rfl (fun h2 hq49 => ?_)
              subst hq49
              refine r_callV1 (pc2 := 55) (As := [.int (nI (packS a))]) (st := [.int (nI n)]) kX10_256 rfl rfl dX10_dares_52 c117 (by decide) rfl rfl (Nat.le_of_ble_eq_true rfl) (by omega) (c_pastIn (st := packS a) c117 c118 hA.G hA.C (by omega) (by omega)) rfl (fun h2 hq52 => ?_)
              subst hq52
              refine r_iconst (pc2 := 56) (v := -1) dX10_dares_55 (by decide) rfl ?_
              refine r_ixor (pc2 := 57) dX10_dares_56 rfl ?_
              refine r_iand (pc2 := 58) dX10_dares_57 rfl ?_
              refine r_cast (nI (dOp a (packS a) n)) (dif_nI _ (by omega) _ (by omega)) ?_
              refine r_i2l (pc2 := 59) dX10_dares_58 rfl ?_
              refine r_iload (pc2 := 61) 4 dX10_dares_59 rfl rfl ?_
              refine r_callS1 (pc2 := 64) (As := [.long (Int32.toInt64 (nI (dOp a (packS a) n))), .int (nI g)]) (st := []) kX10_245 dX10_dares_61 rfl rfl (Nat.le_of_ble_eq_true rfl) (by omega) (c_isIn (Int32.toInt64 (nI (dOp a (packS a) n))) (nI g)) rfl (fun h2 hq61 => ?_)
              subst hq61
              refine r_if_eq (tgt := 88) (pc2 := 67) dX10_dares_64 (by decide) rfl (fun b64 => ?_) (fun b64 => ?_)
              · exact absurd b64 (if1 ((isInB _ hop g (by omega)).mpr hb))
              · skip
                refine r_aload_n (pc2 := 68) 0 dX10_dares_67 rfl rfl rfl rfl ?_
                refine r_aload_n (pc2 := 69) 0 dX10_dares_68 rfl rfl rfl rfl ?_
                refine r_callV1 (pc2 := 72) (As := []) (st := [.ref 117]) kX10_266 rfl rfl dX10_dares_69 c117 (by decide) rfl rfl (Nat.le_of_ble_eq_true rfl) (by omega) (c_standNow c117 c118 hA.G hA.c7 hA.dp) rfl (fun h2 hq69 => ?_)
                subst hq69
                refine r_iconst (pc2 := 73) (v := 1) dX10_dares_72 (by decide) rfl ?_
                refine r_iload (pc2 := 75) 4 dX10_dares_73 rfl rfl ?_
                refine r_ishl (pc2 := 76) dX10_dares_75 rfl ?_
                refine r_cast (nI (2 ^ g)) (shl1 _ (by omega)) ?_
                refine r_iload_n (pc2 := 77) 1 dX10_dares_76 rfl rfl rfl ?_
                refine r_iconst (pc2 := 78) (v := 1) dX10_dares_77 (by decide) rfl ?_
                refine r_callV1 (pc2 := 81) (As := [.int (nI (packS a)), .int (nI (2 ^ g)), .int (nI n), .int 1]) (st := []) kX10_417 rfl rfl dX10_dares_78 c117 (by decide) rfl rfl (Nat.le_of_ble_eq_true rfl) (by omega) (c_daresBy1 (c := 2 ^ g) c117 c118 c122 c123 c135 hA hn (SG.now hA) hok hDI (by omega)) rfl (fun h hq78 => ?_)
                obtain ⟨hx3, ⟨f2c, c122⟩, ⟨w2c, c123⟩, ⟨ddb, c135, hDI⟩⟩ := hq78
                have c117 := hx3.get (by decide) c117
                have c118 := hx3.get (by decide) c118
                have hx := hx.trans hx3 (by decide)
                refine r_iload_n (pc2 := 82) 3 dX10_dares_81 rfl rfl rfl ?_
                refine r_icmp_ne (tgt := 88) (pc2 := 85) dX10_dares_82 (by decide) rfl (fun b82 => ?_) (fun b82 => ?_)
                · skip
                  obtain ⟨x88, e88⟩ : ∃ z : Int32, z = (nI g) + (1) := ⟨_, rfl⟩
                  refine r_iinc (pc2 := 91) (ls2 := [.ref 117, .int (nI n), u2, .int (dV a (packS a) n), .int x88]) (v := x88) 4 dX10_dares_88 rfl (by rw [e88]; rfl) rfl rfl rfl ?_
                  refine r_goto (pc2 := 35) dX10_dares_91 (by decide) ?_
                  rw [e88, nI_1]
                  rw [hnx]
                  exact ih (g + 1) u2 _ _ _ _ (by omega) hx hDI c117 c118 c122 c123 c135
                · exact absurd b82 he
        · have hnx : dFnd (dOp a (packS a) n) (fun g => dBy (dV a) a (packS a) (2 ^ g) n) (dV a (packS a) n) (m2 + 1) g = dFnd (dOp a (packS a) n) (fun g => dBy (dV a) a (packS a) (2 ^ g) n) (dV a (packS a) n) m2 (g + 1) := by rw [dFnd, if_neg (fun z => hb z.1)]
          refine r_iload (pc2 := 37) 4 dX10_dares_35 rfl rfl ?_
          refine r_aload_n (pc2 := 38) 0 dX10_dares_37 rfl rfl rfl rfl ?_
          refine r_getf (pc2 := 41) (v := .ref 118) fX10_13 dX10_dares_38 c117 (by decide) rfl rfl ?_
          refine r_iconst (pc2 := 42) (v := 3) dX10_dares_41 (by decide) rfl ?_
          refine r_ialdA (pc2 := 43) 3 dX10_dares_42 c118 (by decide) rfl (by decide) (by decide) rfl ?_
          refine r_icmp_ge (tgt := 94) (pc2 := 46) dX10_dares_43 (by decide) rfl (fun b43 => ?_) (fun b43 => ?_)
          · exact absurd b43 (nI_ge hlt (by omega))
          · skip
            refine r_iload_n (pc2 := 47) 1 dX10_dares_46 rfl rfl rfl ?_
            refine r_aload_n (pc2 := 48) 0 dX10_dares_47 rfl rfl rfl rfl ?_
            refine r_aload_n (pc2 := 49) 0 dX10_dares_48 rfl rfl rfl rfl ?_
            refine r_callV1 (pc2 := 52) (As := []) (st := [.ref 117, .int (nI n)]) kX10_266 rfl rfl dX10_dares_49 c117 (by decide) rfl rfl (Nat.le_of_ble_eq_true rfl) (by omega) (c_standNow c117 c118 hA.G hA.c7 hA.dp) rfl (fun h2 hq49 => ?_)
            subst hq49
            refine r_callV1 (pc2 := 55) (As := [.int (nI (packS a))]) (st := [.int (nI n)]) kX10_256 rfl rfl dX10_dares_52 c117 (by decide) rfl rfl (Nat.le_of_ble_eq_true rfl) (by omega) (c_pastIn (st := packS a) c117 c118 hA.G hA.C (by omega) (by omega)) rfl (fun h2 hq52 => ?_)
            subst hq52
            refine r_iconst (pc2 := 56) (v := -1) dX10_dares_55 (by decide) rfl ?_
            refine r_ixor (pc2 := 57) dX10_dares_56 rfl ?_
            refine r_iand (pc2 := 58) dX10_dares_57 rfl ?_
            refine r_cast (nI (dOp a (packS a) n)) (dif_nI _ (by omega) _ (by omega)) ?_
            refine r_i2l (pc2 := 59) dX10_dares_58 rfl ?_
            refine r_iload (pc2 := 61) 4 dX10_dares_59 rfl rfl ?_
            refine r_callS1 (pc2 := 64) (As := [.long (Int32.toInt64 (nI (dOp a (packS a) n))), .int (nI g)]) (st := []) kX10_245 dX10_dares_61 rfl rfl (Nat.le_of_ble_eq_true rfl) (by omega) (c_isIn (Int32.toInt64 (nI (dOp a (packS a) n))) (nI g)) rfl (fun h2 hq61 => ?_)
            subst hq61
            refine r_if_eq (tgt := 88) (pc2 := 67) dX10_dares_64 (by decide) rfl (fun b64 => ?_) (fun b64 => ?_)
            · skip
              obtain ⟨x88, e88⟩ : ∃ z : Int32, z = (nI g) + (1) := ⟨_, rfl⟩
              refine r_iinc (pc2 := 91) (ls2 := [.ref 117, .int (nI n), u2, .int (dV a (packS a) n), .int x88]) (v := x88) 4 dX10_dares_88 rfl (by rw [e88]; rfl) rfl rfl rfl ?_
              refine r_goto (pc2 := 35) dX10_dares_91 (by decide) ?_
              rw [e88, nI_1]
              rw [hnx]
              exact ih (g + 1) u2 _ _ _ _ (by omega) hx hDI c117 c118 c122 c123 c135
            · exact absurd (if_neg (fun z => hb ((isInB _ hop g (by omega)).mp z))) b64
    refine Cn.go (ls := [.ref 117, .int (nI n), .float 0, .float 0, .float 0]) (by decide +kernel) rfl (Nat.le_of_ble_eq_true rfl) ?_
    refine r_aload_n (pc2 := 1) 0 dX10_dares_0 rfl rfl rfl rfl ?_
    refine r_iconst (pc2 := 2) (v := 0) dX10_dares_1 (by decide) rfl ?_
    refine r_putfX (pc2 := 5) (moL (upd v 0 0)) fX10_1 dX10_dares_2 c117 (by decide) (Nat.le_of_ble_eq_true rfl) rfl rfl rfl (fun h z2 o2 c117 => ?_)
    have c118 := (o2 118 (by decide)).trans c118
    have c122 := (o2 122 (by decide)).trans c122
    have c123 := (o2 123 (by decide)).trans c123
    have c135 := (o2 135 (by decide)).trans c135
    have hx := hx.step (a := 117) (by decide) z2 o2
    refine r_aload_n (pc2 := 6) 0 dX10_dares_5 rfl rfl rfl rfl ?_
    refine r_iload_n (pc2 := 7) 1 dX10_dares_6 rfl rfl rfl ?_
    refine r_callV1 (pc2 := 10) (As := [.int (nI n)]) (st := []) kX10_425 rfl rfl dX10_dares_7 c117 (by decide) rfl rfl (Nat.le_of_ble_eq_true rfl) (by omega) (c_noDaring c117 c118 hA (by omega)) rfl (fun h2 hq7 => ?_)
    subst hq7
    refine r_topi (fun x10 e10 => ?_)
    refine r_istore_n (pc2 := 11) (ls2 := [.ref 117, .int (nI n), .int x10, .float 0, .float 0]) 2 dX10_dares_10 rfl (by decide) rfl rfl rfl ?_
    refine r_iload_n (pc2 := 12) 2 dX10_dares_11 rfl rfl rfl ?_
    refine r_if_eq (tgt := 17) (pc2 := 15) dX10_dares_12 (by decide) rfl (fun b12 => ?_) (fun b12 => ?_)
    · skip
      refine r_aload_n (pc2 := 18) 0 dX10_dares_17 rfl rfl rfl rfl ?_
      refine r_callV0 (pc2 := 21) (As := []) (st := []) kX10_428 rfl rfl dX10_dares_18 c117 (by decide) rfl rfl (Nat.le_of_ble_eq_true rfl) (by omega) (c_beginsDaring c117 c135) rfl (fun h hq18 => ?_)
      obtain ⟨hxb, c135⟩ := hq18
      have c117 := hxb.get (by decide) c117
      have c118 := hxb.get (by decide) c118
      have c122 := hxb.get (by decide) c122
      have c123 := hxb.get (by decide) c123
      have hx := hx.trans hxb (by decide)
      have hDI := DI0 a n f135
      refine r_aload_n (pc2 := 22) 0 dX10_dares_21 rfl rfl rfl rfl ?_
      refine r_aload_n (pc2 := 23) 0 dX10_dares_22 rfl rfl rfl rfl ?_
      refine r_callV1 (pc2 := 26) (As := []) (st := [.ref 117]) kX10_266 rfl rfl dX10_dares_23 c117 (by decide) rfl rfl (Nat.le_of_ble_eq_true rfl) (by omega) (c_standNow c117 c118 hA.G hA.c7 hA.dp) rfl (fun h2 hq23 => ?_)
      subst hq23
      refine r_iload_n (pc2 := 27) 1 dX10_dares_26 rfl rfl rfl ?_
      refine r_iconst (pc2 := 28) (v := 1) dX10_dares_27 (by decide) rfl ?_
      refine r_callV1 (pc2 := 31) (As := [.int (nI (packS a)), .int (nI n), .int 1]) (st := []) kX10_421 rfl rfl dX10_dares_28 c117 (by decide) rfl rfl (Nat.le_of_ble_eq_true rfl) (by omega) (c_daresFrom1 c117 c118 c122 c123 c135 hA hn (SG.now hA) hz hDI (by omega)) rfl (fun h hq28 => ?_)
      obtain ⟨hx3, ⟨f2c, c122⟩, ⟨w2c, c123⟩, ⟨ddb, c135, hDI⟩⟩ := hq28
      have c117 := hx3.get (by decide) c117
      have c118 := hx3.get (by decide) c118
      have hx := hx.trans hx3 (by decide)
      refine r_topi (fun x31 e31 => ?_)
      refine r_istore_n (pc2 := 32) (ls2 := [.ref 117, .int (nI n), .int x10, .int x31, .float 0]) 3 dX10_dares_31 rfl (by decide) rfl rfl rfl ?_
      refine r_iconst (pc2 := 33) (v := 0) dX10_dares_32 (by decide) rfl ?_
      refine r_istore (pc2 := 35) (ls2 := [.ref 117, .int (nI n), .int x10, .int x31, .int 0]) 4 dX10_dares_33 (by decide) rfl rfl rfl ?_
      rw [e31]
      have e9 := loop (a 3) 0 (.int x10) _ _ _ _ (by omega) hx hDI c117 c118 c122 c123 c135
      rw [daresF, if_pos h0n, nI_clamp (by omega)]
      exact e9
    · exact absurd (e10.trans h0n) b12
  · skip
    refine Cn.go (ls := [.ref 117, .int x, .float 0, .float 0, .float 0]) (by decide +kernel) rfl (Nat.le_of_ble_eq_true rfl) ?_
    refine r_aload_n (pc2 := 1) 0 dX10_dares_0 rfl rfl rfl rfl ?_
    refine r_iconst (pc2 := 2) (v := 0) dX10_dares_1 (by decide) rfl ?_
    refine r_putfX (pc2 := 5) (moL (upd v 0 0)) fX10_1 dX10_dares_2 c117 (by decide) (Nat.le_of_ble_eq_true rfl) rfl rfl rfl (fun h z2 o2 c117 => ?_)
    have c118 := (o2 118 (by decide)).trans c118
    have c122 := (o2 122 (by decide)).trans c122
    have c123 := (o2 123 (by decide)).trans c123
    have c135 := (o2 135 (by decide)).trans c135
    have hx := hx.step (a := 117) (by decide) z2 o2
    refine r_aload_n (pc2 := 6) 0 dX10_dares_5 rfl rfl rfl rfl ?_
    refine r_iload_n (pc2 := 7) 1 dX10_dares_6 rfl rfl rfl ?_
    refine r_callV1 (pc2 := 10) (As := [.int x]) (st := []) kX10_425 rfl rfl dX10_dares_7 c117 (by decide) rfl rfl (Nat.le_of_ble_eq_true rfl) (by omega) (c_noDaring c117 c118 hA (by omega)) rfl (fun h2 hq7 => ?_)
    subst hq7
    refine r_topi (fun x10 e10 => ?_)
    refine r_istore_n (pc2 := 11) (ls2 := [.ref 117, .int x, .int x10, .float 0, .float 0]) 2 dX10_dares_10 rfl (by decide) rfl rfl rfl ?_
    refine r_iload_n (pc2 := 12) 2 dX10_dares_11 rfl rfl rfl ?_
    refine r_if_eq (tgt := 17) (pc2 := 15) dX10_dares_12 (by decide) rfl (fun b12 => ?_) (fun b12 => ?_)
    · exact absurd (e10.symm.trans b12) h0n
    · skip
      refine r_iload_n (pc2 := 16) 2 dX10_dares_15 rfl rfl rfl ?_
      exact r_iret rfl dX10_dares_16 ⟨by rw [daresF, if_neg h0n, e10], (upd v 0 0), ⟨rfl, rfl, rfl⟩, ⟨c117, c118, hx.get (by decide) k119, hx.get (by decide) k120, ⟨_, hx.get (by decide) k121⟩, ⟨_, c122⟩, ⟨_, c123⟩, ⟨_, hx.get (by decide) k124⟩, ⟨_, hx.get (by decide) k125⟩, ⟨_, hx.get (by decide) k126⟩, ⟨_, hx.get (by decide) k127⟩, ⟨_, hx.get (by decide) k128⟩, ⟨_, hx.get (by decide) k129⟩, ⟨_, hx.get (by decide) k130⟩, ⟨_, hx.get (by decide) k131⟩, ⟨_, hx.get (by decide) k132⟩, ⟨_, hx.get (by decide) k133⟩, ⟨_, hx.get (by decide) k134⟩, ⟨_, c135⟩, hx.get (by decide) k136, hx.get (by decide) k137, hx.get (by decide) k138⟩, hx.mono (by decide)⟩
