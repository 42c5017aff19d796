/-! atOnce -/
def aoB (mo : Option Nat) (k : Nat) : Bool := match mo with
  | none => true
  | some b => decide (popN b < popN k)
def ao (a : Nat → Nat) : Nat → Option Nat
  | 0 => none
  | k + 1 => if (okS a (packS a) k ∧ nxS a (packS a) k / 4096 ≠ 0) ∧ aoB (ao a k) k = true then some k else ao a k
def aoF (a : Nat → Nat) : Int32 := if a 26 = 0 then -5 else optI (ao a (2 ^ (a 3)))
theorem ao_lt {a : Nat → Nat} : ∀ {k b : Nat}, ao a k = some b → b < k
  | 0, b, h => by cases h
  | k + 1, b, h => by
    unfold ao at h
    split at h
    · cases h; exact Nat.lt_succ_self _
    · exact Nat.lt_succ_of_lt (ao_lt h)
theorem popN_le (z : Nat) : popN z ≤ 4 := by unfold popN; split <;> split <;> split <;> split <;> omega
set_option maxRecDepth 20000 in
set_option maxHeartbeats 1000000 in
theorem ref_atOnce {E : EnvT} {d : Nat} {h0 : Hp} {v : Nat → Int32} {a : Nat → Nat} {hi : Nat → Int32} {tp : Nat → Nat} {rs rm : Nat → Int32} {nu : Nat → Int64} (hR : RS h0 v a hi tp rs rm nu) (hA : AIN a) (hd : 5 ≤ d) : Cn E mX10_atOnce d [.ref 117] h0 (RP (.int (aoF a)) h0 v a hi tp rs rm nu) := by
  obtain ⟨k117, k118, k119, k120, ⟨f121, k121⟩, ⟨f122, k122⟩, ⟨f123, k123⟩, ⟨f124, k124⟩, ⟨f125, k125⟩, ⟨f126, k126⟩, ⟨f127, k127⟩, ⟨f128, k128⟩, ⟨f129, k129⟩, ⟨f130, k130⟩, ⟨f131, k131⟩, ⟨f132, k132⟩, ⟨f133, k133⟩, ⟨f134, k134⟩, ⟨f135, k135⟩, k136, k137, k138⟩ := hR
  have c117 := k117
  have c118 := k118
  have c122 := k122
  have c123 := k123
  have hx : Ex [117, 118, 122, 123] h0 h0 := Ex.rf
  have hp4 : 2 ^ (a 3) ≤ 2 ^ 4 := Nat.pow_le_pow_right (by decide) hA.G
  have hG := hA.G
  have hdp := hA.dp
  have hsg := SG.now hA
  have hs4 := hsg.1
  by_cases h26 : a 26 = 0
  · skip
    refine Cn.go (ls := [.ref 117, .float 0, .float 0]) (by decide +kernel) rfl (Nat.le_of_ble_eq_true rfl) ?_
    refine r_aload_n (pc2 := 1) 0 dX10_atOnce_0 rfl rfl rfl rfl ?_
    refine r_iconst (pc2 := 2) (v := 0) dX10_atOnce_1 (by decide) rfl ?_
    refine r_putfX (pc2 := 5) (moL (upd v 0 0)) fX10_1 dX10_atOnce_2 c117 (by decide) (Nat.le_of_ble_eq_true rfl) rfl rfl rfl (fun h z2 o2 c117 => ?_)
    have c118 := (o2 118 (by decide)).trans c118
    have c122 := (o2 122 (by decide)).trans c122
    have c123 := (o2 123 (by decide)).trans c123
    have hx := hx.step (a := 117) (by decide) z2 o2
    refine r_aload_n (pc2 := 6) 0 dX10_atOnce_5 rfl rfl rfl rfl ?_
    refine r_getf (pc2 := 9) (v := .ref 118) fX10_13 dX10_atOnce_6 c117 (by decide) rfl rfl ?_
    refine r_bipush (pc2 := 11) (v := 26) dX10_atOnce_9 (by decide) rfl ?_
    refine r_ialdA (pc2 := 12) 26 dX10_atOnce_11 c118 (by decide) rfl (by decide) (by decide) rfl ?_
    refine r_if_ne (tgt := 18) (pc2 := 15) dX10_atOnce_12 (by decide) rfl (fun b12 => ?_) (fun b12 => ?_)
    · exact absurd (by rw [h26]; rfl) b12
    · skip
      refine r_bipush (pc2 := 17) (v := -5) dX10_atOnce_15 (by decide) rfl ?_
      exact r_iret rfl dX10_atOnce_17 ⟨by rw [aoF, if_pos h26], (upd v 0 0), ⟨rfl, rfl, rfl⟩, ⟨c117, c118, hx.get (by decide) k119, hx.get (by decide) k120, ⟨_, hx.get (by decide) k121⟩, ⟨_, c122⟩, ⟨_, c123⟩, ⟨_, hx.get (by decide) k124⟩, ⟨_, hx.get (by decide) k125⟩, ⟨_, hx.get (by decide) k126⟩, ⟨_, hx.get (by decide) k127⟩, ⟨_, hx.get (by decide) k128⟩, ⟨_, hx.get (by decide) k129⟩, ⟨_, hx.get (by decide) k130⟩, ⟨_, hx.get (by decide) k131⟩, ⟨_, hx.get (by decide) k132⟩, ⟨_, hx.get (by decide) k133⟩, ⟨_, hx.get (by decide) k134⟩, ⟨_, hx.get (by decide) k135⟩, hx.get (by decide) k136, hx.get (by decide) k137, hx.get (by decide) k138⟩, hx.mono (by decide)⟩
  · skip
    have loop : ∀ (m k : Nat) (f2 w2 : Nat → Int32) (h1 : Hp), k + m = 2 ^ (a 3) → Ex [117, 118, 122, 123] h0 h1 → h1.1 117 = some (mO (upd v 0 0)) → h1.1 118 = some (aI 3531 (nA a)) → h1.1 122 = some (aI 900 f2) → h1.1 123 = some (aI 9 w2) → Fr E mX10_atOnce d 22 [.ref 117, .int (optI (ao a k)), .int (nI k)] [] h1 (RP (.int (aoF a)) h0 v a hi tp rs rm nu) := by
      intro m
      induction m with
      | zero =>
        intro k f2 w2 h hk hx c117 c118 c122 c123
        obtain rfl : k = 2 ^ (a 3) := by omega
        refine r_iload_n (pc2 := 23) 2 dX10_atOnce_22 rfl rfl rfl ?_
        refine r_iconst (pc2 := 24) (v := 1) dX10_atOnce_23 (by decide) rfl ?_
        refine r_aload_n (pc2 := 25) 0 dX10_atOnce_24 rfl rfl rfl rfl ?_
        refine r_getf (pc2 := 28) (v := .ref 118) fX10_13 dX10_atOnce_25 c117 (by decide) rfl rfl ?_
        refine r_iconst (pc2 := 29) (v := 3) dX10_atOnce_28 (by decide) rfl ?_
        refine r_ialdA (pc2 := 30) 3 dX10_atOnce_29 c118 (by decide) rfl (by decide) (by decide) rfl ?_
        refine r_ishl (pc2 := 31) dX10_atOnce_30 rfl ?_
        refine r_cast (nI (2 ^ (a 3))) (shl1 _ (by omega)) ?_
        refine r_icmp_ge (tgt := 97) (pc2 := 34) dX10_atOnce_31 (by decide) rfl (fun b31 => ?_) (fun b31 => ?_)
        · skip
          refine r_iload_n (pc2 := 98) 1 dX10_atOnce_97 rfl rfl rfl ?_
          exact r_iret rfl dX10_atOnce_98 ⟨by rw [aoF, if_neg h26], (upd v 0 0), ⟨rfl, rfl, rfl⟩, ⟨c117, c118, hx.get (by decide) k119, hx.get (by decide) k120, ⟨_, hx.get (by decide) k121⟩, ⟨_, c122⟩, ⟨_, c123⟩, ⟨_, hx.get (by decide) k124⟩, ⟨_, hx.get (by decide) k125⟩, ⟨_, hx.get (by decide) k126⟩, ⟨_, hx.get (by decide) k127⟩, ⟨_, hx.get (by decide) k128⟩, ⟨_, hx.get (by decide) k129⟩, ⟨_, hx.get (by decide) k130⟩, ⟨_, hx.get (by decide) k131⟩, ⟨_, hx.get (by decide) k132⟩, ⟨_, hx.get (by decide) k133⟩, ⟨_, hx.get (by decide) k134⟩, ⟨_, hx.get (by decide) k135⟩, hx.get (by decide) k136, hx.get (by decide) k137, hx.get (by decide) k138⟩, hx.mono (by decide)⟩
        · exact absurd (nI_le (Nat.le_refl _) (by omega)) b31
      | succ m ih =>
        intro k f2 w2 h hk hx c117 c118 c122 c123
        have hlt : k < 2 ^ (a 3) := by omega
        have hk16 : k < 16 := by omega
        have hpk := popN_le k
        by_cases ho : okS a (packS a) k
        · have hdg := okS_dig hsg hA.G ho
          have hns := (hsg.next hA.G hA.C ho).1
          by_cases hz : nxS a (packS a) k / 4096 = 0
          · have hsame : ao a (k + 1) = ao a k := by rw [ao, if_neg (fun z => z.1.2 hz)]
            refine r_iload_n (pc2 := 23) 2 dX10_atOnce_22 rfl rfl rfl ?_
            refine r_iconst (pc2 := 24) (v := 1) dX10_atOnce_23 (by decide) rfl ?_
            refine r_aload_n (pc2 := 25) 0 dX10_atOnce_24 rfl rfl rfl rfl ?_
            refine r_getf (pc2 := 28) (v := .ref 118) fX10_13 dX10_atOnce_25 c117 (by decide) rfl rfl ?_
            refine r_iconst (pc2 := 29) (v := 3) dX10_atOnce_28 (by decide) rfl ?_
            refine r_ialdA (pc2 := 30) 3 dX10_atOnce_29 c118 (by decide) rfl (by decide) (by decide) rfl ?_
            refine r_ishl (pc2 := 31) dX10_atOnce_30 rfl ?_
            refine r_cast (nI (2 ^ (a 3))) (shl1 _ (by omega)) ?_
            refine r_icmp_ge (tgt := 97) (pc2 := 34) dX10_atOnce_31 (by decide) rfl (fun b31 => ?_) (fun b31 => ?_)
            · exact absurd b31 (nI_ge hlt (by omega))
            · skip
              refine r_aload_n (pc2 := 35) 0 dX10_atOnce_34 rfl rfl rfl rfl ?_
              refine r_aload_n (pc2 := 36) 0 dX10_atOnce_35 rfl rfl rfl rfl ?_
              refine r_callV1 (pc2 := 39) (As := []) (st := [.ref 117]) kX10_266 rfl rfl dX10_atOnce_36 c117 (by decide) rfl rfl (Nat.le_of_ble_eq_true rfl) (by omega) (c_standNow c117 c118 hA.G hA.c7 hA.dp) rfl (fun h2 hq36 => ?_)
              subst hq36
              refine r_iload_n (pc2 := 40) 2 dX10_atOnce_39 rfl rfl rfl ?_
              refine r_i2l (pc2 := 41) dX10_atOnce_40 rfl ?_
              refine r_castl (lN k) (nI_l (by omega)) ?_
              refine r_callV1 (pc2 := 44) (As := [.int (nI (packS a)), .long (lN k)]) (st := []) kX10_269 rfl rfl dX10_atOnce_41 c117 (by decide) rfl rfl (Nat.le_of_ble_eq_true rfl) (by omega) (c_whyBy (st := packS a) (sn := k) c117 c118 hA (by omega) hlt (by omega)) rfl (fun h2 hq41 => ?_)
              subst hq41
              refine r_if_ne (tgt := 91) (pc2 := 47) dX10_atOnce_44 (by decide) rfl (fun b44 => ?_) (fun b44 => ?_)
              · exact absurd (by rw [ho.2]; rfl) b44
              · skip
                refine r_aload_n (pc2 := 48) 0 dX10_atOnce_47 rfl rfl rfl rfl ?_
                refine r_aload_n (pc2 := 49) 0 dX10_atOnce_48 rfl rfl rfl rfl ?_
                refine r_callV1 (pc2 := 52) (As := []) (st := [.ref 117]) kX10_266 rfl rfl dX10_atOnce_49 c117 (by decide) rfl rfl (Nat.le_of_ble_eq_true rfl) (by omega) (c_standNow c117 c118 hA.G hA.c7 hA.dp) rfl (fun h2 hq49 => ?_)
                subst hq49
                refine r_iload_n (pc2 := 53) 2 dX10_atOnce_52 rfl rfl rfl ?_
                refine r_iconst (pc2 := 54) (v := 0) dX10_atOnce_53 (by decide) rfl ?_
                refine r_aload_n (pc2 := 55) 0 dX10_atOnce_54 rfl rfl rfl rfl ?_
                refine r_getf (pc2 := 58) (v := .ref 118) fX10_13 dX10_atOnce_55 c117 (by decide) rfl rfl ?_
                refine r_bipush (pc2 := 60) (v := 27) dX10_atOnce_58 (by decide) rfl ?_
                refine r_ialdA (pc2 := 61) 27 dX10_atOnce_60 c118 (by decide) rfl (by decide) (by decide) rfl ?_
                refine r_callV1 (pc2 := 64) (As := [.int (nI (packS a)), .int (nI k), .int 0, .int (nI (a 27))]) (st := []) kX10_273 rfl rfl dX10_atOnce_61 c117 (by decide) rfl rfl (Nat.le_of_ble_eq_true rfl) (by omega) (c_hourTo (st := packS a) (sn := k) (b := 0) (dr := a 27) c117 c118 c122 c123 (by omega) (by omega) (by omega) (by omega) hdg.1 hA.G hA.C hA.h2 hA.lo hA.w0 hA.w1 (by omega)) rfl (fun h hq61 => ?_)
                obtain ⟨hx2, ⟨f2b, c122⟩, ⟨w2b, c123⟩⟩ := hq61
                have c117 := hx2.get (by decide) c117
                have c118 := hx2.get (by decide) c118
                have hx := hx.trans hx2 (by decide)
                refine r_callS1 (pc2 := 67) (As := [.int (nI (nxS a (packS a) k))]) (st := []) kX10_231 dX10_atOnce_64 rfl rfl (Nat.le_of_ble_eq_true rfl) (by omega) (c_depthIn (nI (nxS a (packS a) k))) rfl (fun h2 hq64 => ?_)
                subst hq64
                refine r_cast (nI (nxS a (packS a) k / 4096)) (depthN (by omega)) ?_
                refine r_if_ne (tgt := 73) (pc2 := 70) dX10_atOnce_67 (by decide) rfl (fun b67 => ?_) (fun b67 => ?_)
                · exact absurd (by rw [hz]; rfl) b67
                · skip
                  refine r_goto (pc2 := 91) dX10_atOnce_70 (by decide) ?_
                  obtain ⟨x91, e91⟩ : ∃ z : Int32, z = (nI k) + (1) := ⟨_, rfl⟩
                  refine r_iinc (pc2 := 94) (ls2 := [.ref 117, .int (optI (ao a k)), .int x91]) (v := x91) 2 dX10_atOnce_91 rfl (by rw [e91]; rfl) rfl rfl rfl ?_
                  refine r_goto (pc2 := 22) dX10_atOnce_94 (by decide) ?_
                  rw [e91, nI_1]
                  rw [← hsame]
                  exact ih (k + 1) _ _ _ (by omega) hx c117 c118 c122 c123
          · rcases hao : ao a k with _ | b
            · have hnew : ao a (k + 1) = some k := by rw [ao, hao, if_pos ⟨⟨ho, hz⟩, rfl⟩]
              show Fr E mX10_atOnce d 22 [.ref 117, .int (-1), .int (nI k)] [] h _
              refine r_iload_n (pc2 := 23) 2 dX10_atOnce_22 rfl rfl rfl ?_
              refine r_iconst (pc2 := 24) (v := 1) dX10_atOnce_23 (by decide) rfl ?_
              refine r_aload_n (pc2 := 25) 0 dX10_atOnce_24 rfl rfl rfl rfl ?_
              refine r_getf (pc2 := 28) (v := .ref 118) fX10_13 dX10_atOnce_25 c117 (by decide) rfl rfl ?_
              refine r_iconst (pc2 := 29) (v := 3) dX10_atOnce_28 (by decide) rfl ?_
              refine r_ialdA (pc2 := 30) 3 dX10_atOnce_29 c118 (by decide) rfl (by decide) (by decide) rfl ?_
              refine r_ishl (pc2 := 31) dX10_atOnce_30 rfl ?_
              refine r_cast (nI (2 ^ (a 3))) (shl1 _ (by omega)) ?_
              refine r_icmp_ge (tgt := 97) (pc2 := 34) dX10_atOnce_31 (by decide) rfl (fun b31 => ?_) (fun b31 => ?_)
              · exact absurd b31 (nI_ge hlt (by omega))
              · skip
                refine r_aload_n (pc2 := 35) 0 dX10_atOnce_34 rfl rfl rfl rfl ?_
                refine r_aload_n (pc2 := 36) 0 dX10_atOnce_35 rfl rfl rfl rfl ?_
                refine r_callV1 (pc2 := 39) (As := []) (st := [.ref 117]) kX10_266 rfl rfl dX10_atOnce_36 c117 (by decide) rfl rfl (Nat.le_of_ble_eq_true rfl) (by omega) (c_standNow c117 c118 hA.G hA.c7 hA.dp) rfl (fun h2 hq36 => ?_)
                subst hq36
                refine r_iload_n (pc2 := 40) 2 dX10_atOnce_39 rfl rfl rfl ?_
                refine r_i2l (pc2 := 41) dX10_atOnce_40 rfl ?_
                refine r_castl (lN k) (nI_l (by omega)) ?_
                refine r_callV1 (pc2 := 44) (As := [.int (nI (packS a)), .long (lN k)]) (st := []) kX10_269 rfl rfl dX10_atOnce_41 c117 (by decide) rfl rfl (Nat.le_of_ble_eq_true rfl) (by omega) (c_whyBy (st := packS a) (sn := k) c117 c118 hA (by omega) hlt (by omega)) rfl (fun h2 hq41 => ?_)
                subst hq41
                refine r_if_ne (tgt := 91) (pc2 := 47) dX10_atOnce_44 (by decide) rfl (fun b44 => ?_) (fun b44 => ?_)
                · exact absurd (by rw [ho.2]; rfl) b44
                · skip
                  refine r_aload_n (pc2 := 48) 0 dX10_atOnce_47 rfl rfl rfl rfl ?_
                  refine r_aload_n (pc2 := 49) 0 dX10_atOnce_48 rfl rfl rfl rfl ?_
                  refine r_callV1 (pc2 := 52) (As := []) (st := [.ref 117]) kX10_266 rfl rfl dX10_atOnce_49 c117 (by decide) rfl rfl (Nat.le_of_ble_eq_true rfl) (by omega) (c_standNow c117 c118 hA.G hA.c7 hA.dp) rfl (fun h2 hq49 => ?_)
                  subst hq49
                  refine r_iload_n (pc2 := 53) 2 dX10_atOnce_52 rfl rfl rfl ?_
                  refine r_iconst (pc2 := 54) (v := 0) dX10_atOnce_53 (by decide) rfl ?_
                  refine r_aload_n (pc2 := 55) 0 dX10_atOnce_54 rfl rfl rfl rfl ?_
                  refine r_getf (pc2 := 58) (v := .ref 118) fX10_13 dX10_atOnce_55 c117 (by decide) rfl rfl ?_
                  refine r_bipush (pc2 := 60) (v := 27) dX10_atOnce_58 (by decide) rfl ?_
                  refine r_ialdA (pc2 := 61) 27 dX10_atOnce_60 c118 (by decide) rfl (by decide) (by decide) rfl ?_
                  refine r_callV1 (pc2 := 64) (As := [.int (nI (packS a)), .int (nI k), .int 0, .int (nI (a 27))]) (st := []) kX10_273 rfl rfl dX10_atOnce_61 c117 (by decide) rfl rfl (Nat.le_of_ble_eq_true rfl) (by omega) (c_hourTo (st := packS a) (sn := k) (b := 0) (dr := a 27) c117 c118 c122 c123 (by omega) (by omega) (by omega) (by omega) hdg.1 hA.G hA.C hA.h2 hA.lo hA.w0 hA.w1 (by omega)) rfl (fun h hq61 => ?_)
                  obtain ⟨hx2, ⟨f2b, c122⟩, ⟨w2b, c123⟩⟩ := hq61
                  have c117 := hx2.get (by decide) c117
                  have c118 := hx2.get (by decide) c118
                  have hx := hx.trans hx2 (by decide)
                  refine r_callS1 (pc2 := 67) (As := [.int (nI (nxS a (packS a) k))]) (st := []) kX10_231 dX10_atOnce_64 rfl rfl (Nat.le_of_ble_eq_true rfl) (by omega) (c_depthIn (nI (nxS a (packS a) k))) rfl (fun h2 hq64 => ?_)
                  subst hq64
                  refine r_cast (nI (nxS a (packS a) k / 4096)) (depthN (by omega)) ?_
                  refine r_if_ne (tgt := 73) (pc2 := 70) dX10_atOnce_67 (by decide) rfl (fun b67 => ?_) (fun b67 => ?_)
                  · skip
                    refine r_iload_n (pc2 := 74) 1 dX10_atOnce_73 rfl rfl rfl ?_
                    refine r_iconst (pc2 := 75) (v := -1) dX10_atOnce_74 (by decide) rfl ?_
                    refine r_icmp_eq (tgt := 89) (pc2 := 78) dX10_atOnce_75 (by decide) rfl (fun b75 => ?_) (fun b75 => ?_)
                    · skip
                      refine r_iload_n (pc2 := 90) 2 dX10_atOnce_89 rfl rfl rfl ?_
                      refine r_istore_n (pc2 := 91) (ls2 := [.ref 117, .int (nI k), .int (nI k)]) 1 dX10_atOnce_90 rfl (by decide) rfl rfl rfl ?_
                      obtain ⟨x91, e91⟩ : ∃ z : Int32, z = (nI k) + (1) := ⟨_, rfl⟩
                      refine r_iinc (pc2 := 94) (ls2 := [.ref 117, .int (nI k), .int x91]) (v := x91) 2 dX10_atOnce_91 rfl (by rw [e91]; rfl) rfl rfl rfl ?_
                      refine r_goto (pc2 := 22) dX10_atOnce_94 (by decide) ?_
                      rw [e91, nI_1]
                      have e9 := ih (k + 1) _ _ _ (by omega) hx c117 c118 c122 c123
                      rw [hnew] at e9
                      exact e9
                    · exact absurd rfl b75
                  · exact absurd (nI_z0 (by omega) b67) hz
            · have hb16 : b < 16 := Nat.lt_trans (ao_lt hao) hk16
              have hpb := popN_le b
              show Fr E mX10_atOnce d 22 [.ref 117, .int (nI b), .int (nI k)] [] h _
              by_cases hgt : popN b < popN k
              · have hnew : ao a (k + 1) = some k := by rw [ao, hao, if_pos ⟨⟨ho, hz⟩, decide_eq_true hgt⟩]
                refine r_iload_n (pc2 := 23) 2 dX10_atOnce_22 rfl rfl rfl ?_
                refine r_iconst (pc2 := 24) (v := 1) dX10_atOnce_23 (by decide) rfl ?_
                refine r_aload_n (pc2 := 25) 0 dX10_atOnce_24 rfl rfl rfl rfl ?_
                refine r_getf (pc2 := 28) (v := .ref 118) fX10_13 dX10_atOnce_25 c117 (by decide) rfl rfl ?_
                refine r_iconst (pc2 := 29) (v := 3) dX10_atOnce_28 (by decide) rfl ?_
                refine r_ialdA (pc2 := 30) 3 dX10_atOnce_29 c118 (by decide) rfl (by decide) (by decide) rfl ?_
                refine r_ishl (pc2 := 31) dX10_atOnce_30 rfl ?_
                refine r_cast (nI (2 ^ (a 3))) (shl1 _ (by omega)) ?_
                refine r_icmp_ge (tgt := 97) (pc2 := 34) dX10_atOnce_31 (by decide) rfl (fun b31 => ?_) (fun b31 => ?_)
                · exact absurd b31 (nI_ge hlt (by omega))
                · skip
                  refine r_aload_n (pc2 := 35) 0 dX10_atOnce_34 rfl rfl rfl rfl ?_
                  refine r_aload_n (pc2 := 36) 0 dX10_atOnce_35 rfl rfl rfl rfl ?_
                  refine r_callV1 (pc2 := 39) (As := []) (st := [.ref 117]) kX10_266 rfl rfl dX10_atOnce_36 c117 (by decide) rfl rfl (Nat.le_of_ble_eq_true rfl) (by omega) (c_standNow c117 c118 hA.G hA.c7 hA.dp) rfl (fun h2 hq36 => ?_)
                  subst hq36
                  refine r_iload_n (pc2 := 40) 2 dX10_atOnce_39 rfl rfl rfl ?_
                  refine r_i2l (pc2 := 41) dX10_atOnce_40 rfl ?_
                  refine r_castl (lN k) (nI_l (by omega)) ?_
                  refine r_callV1 (pc2 := 44) (As := [.int (nI (packS a)), .long (lN k)]) (st := []) kX10_269 rfl rfl dX10_atOnce_41 c117 (by decide) rfl rfl (Nat.le_of_ble_eq_true rfl) (by omega) (c_whyBy (st := packS a) (sn := k) c117 c118 hA (by omega) hlt (by omega)) rfl (fun h2 hq41 => ?_)
                  subst hq41
                  refine r_if_ne (tgt := 91) (pc2 := 47) dX10_atOnce_44 (by decide) rfl (fun b44 => ?_) (fun b44 => ?_)
                  · exact absurd (by rw [ho.2]; rfl) b44
                  · skip
                    refine r_aload_n (pc2 := 48) 0 dX10_atOnce_47 rfl rfl rfl rfl ?_
                    refine r_aload_n (pc2 := 49) 0 dX10_atOnce_48 rfl rfl rfl rfl ?_
                    refine r_callV1 (pc2 := 52) (As := []) (st := [.ref 117]) kX10_266 rfl rfl dX10_atOnce_49 c117 (by decide) rfl rfl (Nat.le_of_ble_eq_true rfl) (by omega) (c_standNow c117 c118 hA.G hA.c7 hA.dp) rfl (fun h2 hq49 => ?_)
                    subst hq49
                    refine r_iload_n (pc2 := 53) 2 dX10_atOnce_52 rfl rfl rfl ?_
                    refine r_iconst (pc2 := 54) (v := 0) dX10_atOnce_53 (by decide) rfl ?_
                    refine r_aload_n (pc2 := 55) 0 dX10_atOnce_54 rfl rfl rfl rfl ?_
                    refine r_getf (pc2 := 58) (v := .ref 118) fX10_13 dX10_atOnce_55 c117 (by decide) rfl rfl ?_
                    refine r_bipush (pc2 := 60) (v := 27) dX10_atOnce_58 (by decide) rfl ?_
                    refine r_ialdA (pc2 := 61) 27 dX10_atOnce_60 c118 (by decide) rfl (by decide) (by decide) rfl ?_
                    refine r_callV1 (pc2 := 64) (As := [.int (nI (packS a)), .int (nI k), .int 0, .int (nI (a 27))]) (st := []) kX10_273 rfl rfl dX10_atOnce_61 c117 (by decide) rfl rfl (Nat.le_of_ble_eq_true rfl) (by omega) (c_hourTo (st := packS a) (sn := k) (b := 0) (dr := a 27) c117 c118 c122 c123 (by omega) (by omega) (by omega) (by omega) hdg.1 hA.G hA.C hA.h2 hA.lo hA.w0 hA.w1 (by omega)) rfl (fun h hq61 => ?_)
                    obtain ⟨hx2, ⟨f2b, c122⟩, ⟨w2b, c123⟩⟩ := hq61
                    have c117 := hx2.get (by decide) c117
                    have c118 := hx2.get (by decide) c118
                    have hx := hx.trans hx2 (by decide)
                    refine r_callS1 (pc2 := 67) (As := [.int (nI (nxS a (packS a) k))]) (st := []) kX10_231 dX10_atOnce_64 rfl rfl (Nat.le_of_ble_eq_true rfl) (by omega) (c_depthIn (nI (nxS a (packS a) k))) rfl (fun h2 hq64 => ?_)
                    subst hq64
                    refine r_cast (nI (nxS a (packS a) k / 4096)) (depthN (by omega)) ?_
                    refine r_if_ne (tgt := 73) (pc2 := 70) dX10_atOnce_67 (by decide) rfl (fun b67 => ?_) (fun b67 => ?_)
                    · skip
                      refine r_iload_n (pc2 := 74) 1 dX10_atOnce_73 rfl rfl rfl ?_
                      refine r_iconst (pc2 := 75) (v := -1) dX10_atOnce_74 (by decide) rfl ?_
                      refine r_icmp_eq (tgt := 89) (pc2 := 78) dX10_atOnce_75 (by decide) rfl (fun b75 => ?_) (fun b75 => ?_)
                      · exact absurd b75 (nI_nm1 (by omega))
                      · skip
                        refine r_iload_n (pc2 := 79) 2 dX10_atOnce_78 rfl rfl rfl ?_
                        refine r_callS1 (pc2 := 82) (As := [.int (nI k)]) (st := []) kX10_253 dX10_atOnce_79 rfl rfl (Nat.le_of_ble_eq_true rfl) (by omega) (c_bitsOf (nI k)) rfl (fun h2 hq79 => ?_)
                        subst hq79
                        refine r_cast (nI (popN k)) (bitsF_pop _ hk16) ?_
                        refine r_iload_n (pc2 := 83) 1 dX10_atOnce_82 rfl rfl rfl ?_
                        refine r_callS1 (pc2 := 86) (As := [.int (nI b)]) (st := [.int (nI (popN k))]) kX10_253 dX10_atOnce_83 rfl rfl (Nat.le_of_ble_eq_true rfl) (by omega) (c_bitsOf (nI b)) rfl (fun h2 hq83 => ?_)
                        subst hq83
                        refine r_cast (nI (popN b)) (bitsF_pop _ hb16) ?_
                        refine r_icmp_le (tgt := 91) (pc2 := 89) dX10_atOnce_86 (by decide) rfl (fun b86 => ?_) (fun b86 => ?_)
                        · exact absurd b86 (nI_ge hgt (by omega))
                        · skip
                          refine r_iload_n (pc2 := 90) 2 dX10_atOnce_89 rfl rfl rfl ?_
                          refine r_istore_n (pc2 := 91) (ls2 := [.ref 117, .int (nI k), .int (nI k)]) 1 dX10_atOnce_90 rfl (by decide) rfl rfl rfl ?_
                          obtain ⟨x91, e91⟩ : ∃ z : Int32, z = (nI k) + (1) := ⟨_, rfl⟩
                          refine r_iinc (pc2 := 94) (ls2 := [.ref 117, .int (nI k), .int x91]) (v := x91) 2 dX10_atOnce_91 rfl (by rw [e91]; rfl) rfl rfl rfl ?_
                          refine r_goto (pc2 := 22) dX10_atOnce_94 (by decide) ?_
                          rw [e91, nI_1]
                          have e9 := ih (k + 1) _ _ _ (by omega) hx c117 c118 c122 c123
                          rw [hnew] at e9
                          exact e9
                    · exact absurd (nI_z0 (by omega) b67) hz
              · have hsame : ao a (k + 1) = ao a k := by rw [ao, hao, if_neg (fun z => hgt (of_decide_eq_true z.2))]
                refine r_iload_n (pc2 := 23) 2 dX10_atOnce_22 rfl rfl rfl ?_
                refine r_iconst (pc2 := 24) (v := 1) dX10_atOnce_23 (by decide) rfl ?_
                refine r_aload_n (pc2 := 25) 0 dX10_atOnce_24 rfl rfl rfl rfl ?_
                refine r_getf (pc2 := 28) (v := .ref 118) fX10_13 dX10_atOnce_25 c117 (by decide) rfl rfl ?_
                refine r_iconst (pc2 := 29) (v := 3) dX10_atOnce_28 (by decide) rfl ?_
                refine r_ialdA (pc2 := 30) 3 dX10_atOnce_29 c118 (by decide) rfl (by decide) (by decide) rfl ?_
                refine r_ishl (pc2 := 31) dX10_atOnce_30 rfl ?_
                refine r_cast (nI (2 ^ (a 3))) (shl1 _ (by omega)) ?_
                refine r_icmp_ge (tgt := 97) (pc2 := 34) dX10_atOnce_31 (by decide) rfl (fun b31 => ?_) (fun b31 => ?_)
                · exact absurd b31 (nI_ge hlt (by omega))
                · skip
                  refine r_aload_n (pc2 := 35) 0 dX10_atOnce_34 rfl rfl rfl rfl ?_
                  refine r_aload_n (pc2 := 36) 0 dX10_atOnce_35 rfl rfl rfl rfl ?_
                  refine r_callV1 (pc2 := 39) (As := []) (st := [.ref 117]) kX10_266 rfl rfl dX10_atOnce_36 c117 (by decide) rfl rfl (Nat.le_of_ble_eq_true rfl) (by omega) (c_standNow c117 c118 hA.G hA.c7 hA.dp) rfl (fun h2 hq36 => ?_)
                  subst hq36
                  refine r_iload_n (pc2 := 40) 2 dX10_atOnce_39 rfl rfl rfl ?_
                  refine r_i2l (pc2 := 41) dX10_atOnce_40 rfl ?_
                  refine r_castl (lN k) (nI_l (by omega)) ?_
                  refine r_callV1 (pc2 := 44) (As := [.int (nI (packS a)), .long (lN k)]) (st := []) kX10_269 rfl rfl dX10_atOnce_41 c117 (by decide) rfl rfl (Nat.le_of_ble_eq_true rfl) (by omega) (c_whyBy (st := packS a) (sn := k) c117 c118 hA (by omega) hlt (by omega)) rfl (fun h2 hq41 => ?_)
                  subst hq41
                  refine r_if_ne (tgt := 91) (pc2 := 47) dX10_atOnce_44 (by decide) rfl (fun b44 => ?_) (fun b44 => ?_)
                  · exact absurd (by rw [ho.2]; rfl) b44
                  · skip
                    refine r_aload_n (pc2 := 48) 0 dX10_atOnce_47 rfl rfl rfl rfl ?_
                    refine r_aload_n (pc2 := 49) 0 dX10_atOnce_48 rfl rfl rfl rfl ?_
                    refine r_callV1 (pc2 := 52) (As := []) (st := [.ref 117]) kX10_266 rfl rfl dX10_atOnce_49 c117 (by decide) rfl rfl (Nat.le_of_ble_eq_true rfl) (by omega) (c_standNow c117 c118 hA.G hA.c7 hA.dp) rfl (fun h2 hq49 => ?_)
                    subst hq49
                    refine r_iload_n (pc2 := 53) 2 dX10_atOnce_52 rfl rfl rfl ?_
                    refine r_iconst (pc2 := 54) (v := 0) dX10_atOnce_53 (by decide) rfl ?_
                    refine r_aload_n (pc2 := 55) 0 dX10_atOnce_54 rfl rfl rfl rfl ?_
                    refine r_getf (pc2 := 58) (v := .ref 118) fX10_13 dX10_atOnce_55 c117 (by decide) rfl rfl ?_
                    refine r_bipush (pc2 := 60) (v := 27) dX10_atOnce_58 (by decide) rfl ?_
                    refine r_ialdA (pc2 := 61) 27 dX10_atOnce_60 c118 (by decide) rfl (by decide) (by decide) rfl ?_
                    refine r_callV1 (pc2 := 64) (As := [.int (nI (packS a)), .int (nI k), .int 0, .int (nI (a 27))]) (st := []) kX10_273 rfl rfl dX10_atOnce_61 c117 (by decide) rfl rfl (Nat.le_of_ble_eq_true rfl) (by omega) (c_hourTo (st := packS a) (sn := k) (b := 0) (dr := a 27) c117 c118 c122 c123 (by omega) (by omega) (by omega) (by omega) hdg.1 hA.G hA.C hA.h2 hA.lo hA.w0 hA.w1 (by omega)) rfl (fun h hq61 => ?_)
                    obtain ⟨hx2, ⟨f2b, c122⟩, ⟨w2b, c123⟩⟩ := hq61
                    have c117 := hx2.get (by decide) c117
                    have c118 := hx2.get (by decide) c118
                    have hx := hx.trans hx2 (by decide)
                    refine r_callS1 (pc2 := 67) (As := [.int (nI (nxS a (packS a) k))]) (st := []) kX10_231 dX10_atOnce_64 rfl rfl (Nat.le_of_ble_eq_true rfl) (by omega) (c_depthIn (nI (nxS a (packS a) k))) rfl (fun h2 hq64 => ?_)
                    subst hq64
                    refine r_cast (nI (nxS a (packS a) k / 4096)) (depthN (by omega)) ?_
                    refine r_if_ne (tgt := 73) (pc2 := 70) dX10_atOnce_67 (by decide) rfl (fun b67 => ?_) (fun b67 => ?_)
                    · skip
                      refine r_iload_n (pc2 := 74) 1 dX10_atOnce_73 rfl rfl rfl ?_
                      refine r_iconst (pc2 := 75) (v := -1) dX10_atOnce_74 (by decide) rfl ?_
                      refine r_icmp_eq (tgt := 89) (pc2 := 78) dX10_atOnce_75 (by decide) rfl (fun b75 => ?_) (fun b75 => ?_)
                      · exact absurd b75 (nI_nm1 (by omega))
                      · skip
                        refine r_iload_n (pc2 := 79) 2 dX10_atOnce_78 rfl rfl rfl ?_
                        refine r_callS1 (pc2 := 82) (As := [.int (nI k)]) (st := []) kX10_253 dX10_atOnce_79 rfl rfl (Nat.le_of_ble_eq_true rfl) (by omega) (c_bitsOf (nI k)) rfl (fun h2 hq79 => ?_)
                        subst hq79
                        refine r_cast (nI (popN k)) (bitsF_pop _ hk16) ?_
                        refine r_iload_n (pc2 := 83) 1 dX10_atOnce_82 rfl rfl rfl ?_
                        refine r_callS1 (pc2 := 86) (As := [.int (nI b)]) (st := [.int (nI (popN k))]) kX10_253 dX10_atOnce_83 rfl rfl (Nat.le_of_ble_eq_true rfl) (by omega) (c_bitsOf (nI b)) rfl (fun h2 hq83 => ?_)
                        subst hq83
                        refine r_cast (nI (popN b)) (bitsF_pop _ hb16) ?_
                        refine r_icmp_le (tgt := 91) (pc2 := 89) dX10_atOnce_86 (by decide) rfl (fun b86 => ?_) (fun b86 => ?_)
                        · skip
                          obtain ⟨x91, e91⟩ : ∃ z : Int32, z = (nI k) + (1) := ⟨_, rfl⟩
                          refine r_iinc (pc2 := 94) (ls2 := [.ref 117, .int (nI b), .int x91]) (v := x91) 2 dX10_atOnce_91 rfl (by rw [e91]; rfl) rfl rfl rfl ?_
                          refine r_goto (pc2 := 22) dX10_atOnce_94 (by decide) ?_
                          rw [e91, nI_1]
                          have e9 := ih (k + 1) _ _ _ (by omega) hx c117 c118 c122 c123
                          rw [hsame, hao] at e9
                          exact e9
                        · exact absurd (nI_le (by omega) (by omega)) b86
                    · exact absurd (nI_z0 (by omega) b67) hz
        · have hsame : ao a (k + 1) = ao a k := by rw [ao, if_neg (fun z => ho z.1.1)]
          refine r_iload_n (pc2 := 23) 2 dX10_atOnce_22 rfl rfl rfl ?_
          refine r_iconst (pc2 := 24) (v := 1) dX10_atOnce_23 (by decide) rfl ?_
          refine r_aload_n (pc2 := 25) 0 dX10_atOnce_24 rfl rfl rfl rfl ?_
          refine r_getf (pc2 := 28) (v := .ref 118) fX10_13 dX10_atOnce_25 c117 (by decide) rfl rfl ?_
          refine r_iconst (pc2 := 29) (v := 3) dX10_atOnce_28 (by decide) rfl ?_
          refine r_ialdA (pc2 := 30) 3 dX10_atOnce_29 c118 (by decide) rfl (by decide) (by decide) rfl ?_
          refine r_ishl (pc2 := 31) dX10_atOnce_30 rfl ?_
          refine r_cast (nI (2 ^ (a 3))) (shl1 _ (by omega)) ?_
          refine r_icmp_ge (tgt := 97) (pc2 := 34) dX10_atOnce_31 (by decide) rfl (fun b31 => ?_) (fun b31 => ?_)
          · exact absurd b31 (nI_ge hlt (by omega))
          · skip
            refine r_aload_n (pc2 := 35) 0 dX10_atOnce_34 rfl rfl rfl rfl ?_
            refine r_aload_n (pc2 := 36) 0 dX10_atOnce_35 rfl rfl rfl rfl ?_
            refine r_callV1 (pc2 := 39) (As := []) (st := [.ref 117]) kX10_266 rfl rfl dX10_atOnce_36 c117 (by decide) rfl rfl (Nat.le_of_ble_eq_true rfl) (by omega) (c_standNow c117 c118 hA.G hA.c7 hA.dp) rfl (fun h2 hq36 => ?_)
            subst hq36
            refine r_iload_n (pc2 := 40) 2 dX10_atOnce_39 rfl rfl rfl ?_
            refine r_i2l (pc2 := 41) dX10_atOnce_40 rfl ?_
            refine r_castl (lN k) (nI_l (by omega)) ?_
            refine r_callV1 (pc2 := 44) (As := [.int (nI (packS a)), .long (lN k)]) (st := []) kX10_269 rfl rfl dX10_atOnce_41 c117 (by decide) rfl rfl (Nat.le_of_ble_eq_true rfl) (by omega) (c_whyBy (st := packS a) (sn := k) c117 c118 hA (by omega) hlt (by omega)) rfl (fun h2 hq41 => ?_)
            subst hq41
            refine r_if_ne (tgt := 91) (pc2 := 47) dX10_atOnce_44 (by decide) rfl (fun b44 => ?_) (fun b44 => ?_)
            · skip
              obtain ⟨x91, e91⟩ : ∃ z : Int32, z = (nI k) + (1) := ⟨_, rfl⟩
              refine r_iinc (pc2 := 94) (ls2 := [.ref 117, .int (optI (ao a k)), .int x91]) (v := x91) 2 dX10_atOnce_91 rfl (by rw [e91]; rfl) rfl rfl rfl ?_
              refine r_goto (pc2 := 22) dX10_atOnce_94 (by decide) ?_
              rw [e91, nI_1]
              rw [← hsame]
              exact ih (k + 1) _ _ _ (by omega) hx c117 c118 c122 c123
            · exact absurd (nI_z0 (Nat.lt_trans (why2_lt _ _ _) (by decide)) b44) (fun z => ho ⟨hlt, z⟩)
    refine Cn.go (ls := [.ref 117, .float 0, .float 0]) (by decide +kernel) rfl (Nat.le_of_ble_eq_true rfl) ?_
    refine r_aload_n (pc2 := 1) 0 dX10_atOnce_0 rfl rfl rfl rfl ?_
    refine r_iconst (pc2 := 2) (v := 0) dX10_atOnce_1 (by decide) rfl ?_
    refine r_putfX (pc2 := 5) (moL (upd v 0 0)) fX10_1 dX10_atOnce_2 c117 (by decide) (Nat.le_of_ble_eq_true rfl) rfl rfl rfl (fun h z2 o2 c117 => ?_)
    have c118 := (o2 118 (by decide)).trans c118
    have c122 := (o2 122 (by decide)).trans c122
    have c123 := (o2 123 (by decide)).trans c123
    have hx := hx.step (a := 117) (by decide) z2 o2
    refine r_aload_n (pc2 := 6) 0 dX10_atOnce_5 rfl rfl rfl rfl ?_
    refine r_getf (pc2 := 9) (v := .ref 118) fX10_13 dX10_atOnce_6 c117 (by decide) rfl rfl ?_
    refine r_bipush (pc2 := 11) (v := 26) dX10_atOnce_9 (by decide) rfl ?_
    refine r_ialdA (pc2 := 12) 26 dX10_atOnce_11 c118 (by decide) rfl (by decide) (by decide) rfl ?_
    refine r_if_ne (tgt := 18) (pc2 := 15) dX10_atOnce_12 (by decide) rfl (fun b12 => ?_) (fun b12 => ?_)
    · skip
      refine r_iconst (pc2 := 19) (v := -1) dX10_atOnce_18 (by decide) rfl ?_
      refine r_istore_n (pc2 := 20) (ls2 := [.ref 117, .int (-1), .float 0]) 1 dX10_atOnce_19 rfl (by decide) rfl rfl rfl ?_
      refine r_iconst (pc2 := 21) (v := 0) dX10_atOnce_20 (by decide) rfl ?_
      refine r_istore_n (pc2 := 22) (ls2 := [.ref 117, .int (-1), .int 0]) 2 dX10_atOnce_21 rfl (by decide) rfl rfl rfl ?_
      exact loop (2 ^ (a 3)) 0 _ _ _ (by omega) hx c117 c118 c122 c123
    · exact absurd (nI_z0 (by omega) b12) h26
