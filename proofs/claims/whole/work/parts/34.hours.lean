set_option maxRecDepth 20000 in
set_option maxHeartbeats 1000000 in
theorem ref_hours {E : EnvT} {d : Nat} {h0 : Hp} {v : Nat → Int32} {a : Nat → Nat} {hi : Nat → Int32} {tp : Nat → Nat} {rs rm : Nat → Int32} {nu : Nat → Int64} {x : Int32} (hR : RS h0 v a hi tp rs rm nu) (hA : AIN a) (hd : 6 ≤ d) : Cn E mX10_hours d [.ref 117, .int x] h0 (RP (.int (hoursF a x)) h0 v (hoursA a x) hi tp rs rm nu) := by
  obtain ⟨k117, k118, k119, k120, ⟨f121, k121⟩, ⟨f122, k122⟩, ⟨f123, k123⟩, ⟨f124, k124⟩, ⟨f125, k125⟩, ⟨f126, k126⟩, ⟨f127, k127⟩, ⟨f128, k128⟩, ⟨f129, k129⟩, ⟨f130, k130⟩, ⟨f131, k131⟩, ⟨f132, k132⟩, ⟨f133, k133⟩, ⟨f134, k134⟩, ⟨f135, k135⟩, k136, k137, k138⟩ := hR
  have c117 := k117
  have c118 := k118
  have c122 := k122
  have c123 := k123
  have c124 := k124
  have hx : Ex [117, 118, 122, 123, 124] h0 h0 := Ex.rf
  have hdp := hA.dp
  by_cases hv : inR 1 99 x
  · by_cases hz : a 26 = 0
    · have eA : hoursA a x = a := by rw [hoursA, if_neg (fun q => q.2 hz)]
      rw [eA]
      refine Cn.go (ls := [.ref 117, .int x, .float 0]) (by decide +kernel) rfl (Nat.le_of_ble_eq_true rfl) ?_
      refine r_aload_n (pc2 := 1) 0 dX10_hours_0 rfl rfl rfl rfl ?_
      refine r_iconst (pc2 := 2) (v := 0) dX10_hours_1 (by decide) rfl ?_
      refine r_putfX (pc2 := 5) (moL (upd v 0 0)) fX10_1 dX10_hours_2 c117 (by decide) (Nat.le_of_ble_eq_true rfl) rfl rfl rfl (fun h z2 o2 c117 => ?_)
      have c118 := (o2 118 (by decide)).trans c118
      have c122 := (o2 122 (by decide)).trans c122
      have c123 := (o2 123 (by decide)).trans c123
      have c124 := (o2 124 (by decide)).trans c124
      have hx := hx.step (a := 117) (by decide) z2 o2
      refine r_iload_n (pc2 := 6) 1 dX10_hours_5 rfl rfl rfl ?_
      refine r_i2l (pc2 := 7) dX10_hours_6 rfl ?_
      refine r_lconst (pc2 := 8) (v := 1) dX10_hours_7 (by decide) rfl ?_
      refine r_ldc2 (pc2 := 11) (v := 99) qX10_288 dX10_hours_8 rfl ?_
      refine r_callS1 (pc2 := 14) (As := [.long (Int32.toInt64 x), .long 1, .long 99]) (st := []) kX10_152 dX10_hours_11 rfl rfl (Nat.le_of_ble_eq_true rfl) (by omega) (c_within (Int32.toInt64 x) 1 99) rfl (fun h2 hq11 => ?_)
      subst hq11
      refine r_if_ne (tgt := 20) (pc2 := 17) dX10_hours_14 (by decide) rfl (fun b14 => ?_) (fun b14 => ?_)
      · skip
        refine r_aload_n (pc2 := 21) 0 dX10_hours_20 rfl rfl rfl rfl ?_
        refine r_getf (pc2 := 24) (v := .ref 118) fX10_13 dX10_hours_21 c117 (by decide) rfl rfl ?_
        refine r_bipush (pc2 := 26) (v := 26) dX10_hours_24 (by decide) rfl ?_
        refine r_ialdA (pc2 := 27) 26 dX10_hours_26 c118 (by decide) rfl (by decide) (by decide) rfl ?_
        refine r_if_ne (tgt := 33) (pc2 := 30) dX10_hours_27 (by decide) rfl (fun b27 => ?_) (fun b27 => ?_)
        · exact absurd (by rw [hz]; rfl) b27
        · skip
          refine r_bipush (pc2 := 32) (v := -13) dX10_hours_30 (by decide) rfl ?_
          exact r_iret rfl dX10_hours_32 ⟨by rw [hoursF, if_pos hv, if_pos hz], (upd v 0 0), ⟨rfl, rfl, rfl⟩, ⟨c117, c118, hx.get (by decide) k119, hx.get (by decide) k120, ⟨_, hx.get (by decide) k121⟩, ⟨_, c122⟩, ⟨_, c123⟩, ⟨_, c124⟩, ⟨_, hx.get (by decide) k125⟩, ⟨_, hx.get (by decide) k126⟩, ⟨_, hx.get (by decide) k127⟩, ⟨_, hx.get (by decide) k128⟩, ⟨_, hx.get (by decide) k129⟩, ⟨_, hx.get (by decide) k130⟩, ⟨_, hx.get (by decide) k131⟩, ⟨_, hx.get (by decide) k132⟩, ⟨_, hx.get (by decide) k133⟩, ⟨_, hx.get (by decide) k134⟩, ⟨_, hx.get (by decide) k135⟩, hx.get (by decide) k136, hx.get (by decide) k137, hx.get (by decide) k138⟩, hx.mono (by decide)⟩
      · exact absurd b14 (if1 hv)
    · obtain ⟨n, n0, n1, rfl⟩ := inR_of (by decide) (by decide) hv
      have hF : hoursF a (nI n) = nI (goesI a n 26) := by rw [hoursF, if_pos hv, if_neg hz, nI_clamp (by omega)]
      have hA2 : hoursA a (nI n) = notesN (goesI a n) (keepV a) := by rw [hoursA, if_pos ⟨hv, hz⟩, nI_clamp (by omega)]
      have loop : ∀ (m k : Nat) (h1 : Hp) (f w : Nat → Int32), k + m = n → Ex [117, 118, 122, 123, 124] h0 h1 → h1.1 117 = some (mO (upd v 0 0)) → h1.1 118 = some (aI 3531 (nA (goesI a k))) → h1.1 122 = some (aI 900 f) → h1.1 123 = some (aI 9 w) → h1.1 124 = some (aI 23 ((fillN f124 0 23 (fun i => nI (a (22 + i)))))) → Fr E mX10_hours d 39 [.ref 117, .int (nI n), .int (nI k)] [] h1 (RP (.int (hoursF a (nI n))) h0 v (hoursA a (nI n)) hi tp rs rm nu) := by
        intro m
        induction m with
        | zero =>
          intro k h f w hk hx c117 c118 c122 c123 c124
          obtain rfl : n = k := by omega
          have hB := hA.goI n
          have heq : goesI a n = goesI a n := rfl
          refine r_iload_n (pc2 := 40) 2 dX10_hours_39 rfl rfl rfl ?_
          refine r_iload_n (pc2 := 41) 1 dX10_hours_40 rfl rfl rfl ?_
          refine r_icmp_ge (tgt := 65) (pc2 := 44) dX10_hours_41 (by decide) rfl (fun b41 => ?_) (fun b41 => ?_)
          · skip
            refine r_aload_n (pc2 := 66) 0 dX10_hours_65 rfl rfl rfl rfl ?_
            refine r_callV0 (pc2 := 69) (As := []) (st := []) kX10_285 rfl rfl dX10_hours_66 c117 (by decide) rfl rfl (Nat.le_of_ble_eq_true rfl) (by omega) (c_notes (w := keepV a) c117 c118 c124 keepV_hw hB.nd) rfl (fun h hq66 => ?_)
            obtain ⟨hxn, c118⟩ := hq66
            have c117 := hxn.get (by decide) c117
            have c122 := hxn.get (by decide) c122
            have c123 := hxn.get (by decide) c123
            have c124 := hxn.get (by decide) c124
            have hx := hx.trans hxn (by decide)
            refine r_aload_n (pc2 := 70) 0 dX10_hours_69 rfl rfl rfl rfl ?_
            refine r_getf (pc2 := 73) (v := .ref 118) fX10_13 dX10_hours_70 c117 (by decide) rfl rfl ?_
            refine r_bipush (pc2 := 75) (v := 26) dX10_hours_73 (by decide) rfl ?_
            refine r_ialdA (pc2 := 76) 26 dX10_hours_75 c118 (by decide) rfl (by decide) (by decide) rfl ?_
            refine r_cast (nI (goesI a n 26)) (congrArg nI (notesN_out (by omega) hB.nd)) ?_
            rw [hA2, heq]
            exact r_iret rfl dX10_hours_76 ⟨by rw [hF, heq], (upd v 0 0), ⟨rfl, rfl, rfl⟩, ⟨c117, c118, hx.get (by decide) k119, hx.get (by decide) k120, ⟨_, hx.get (by decide) k121⟩, ⟨_, c122⟩, ⟨_, c123⟩, ⟨_, c124⟩, ⟨_, hx.get (by decide) k125⟩, ⟨_, hx.get (by decide) k126⟩, ⟨_, hx.get (by decide) k127⟩, ⟨_, hx.get (by decide) k128⟩, ⟨_, hx.get (by decide) k129⟩, ⟨_, hx.get (by decide) k130⟩, ⟨_, hx.get (by decide) k131⟩, ⟨_, hx.get (by decide) k132⟩, ⟨_, hx.get (by decide) k133⟩, ⟨_, hx.get (by decide) k134⟩, ⟨_, hx.get (by decide) k135⟩, hx.get (by decide) k136, hx.get (by decide) k137, hx.get (by decide) k138⟩, hx.mono (by decide)⟩
          · exact absurd (nI_le (Nat.le_refl _) (by omega)) b41
        | succ m ih =>
          intro k h f w hk hx c117 c118 c122 c123 c124
          have hlt : k < n := by omega
          have hB := hA.goI k
          by_cases hs : goesI a k 26 = 0
          · have heq : goesI a n = goesI a k := by
              have := goesI_stop hs (m + 1)
              rw [← this]; congr 1; omega
            refine r_iload_n (pc2 := 40) 2 dX10_hours_39 rfl rfl rfl ?_
            refine r_iload_n (pc2 := 41) 1 dX10_hours_40 rfl rfl rfl ?_
            refine r_icmp_ge (tgt := 65) (pc2 := 44) dX10_hours_41 (by decide) rfl (fun b41 => ?_) (fun b41 => ?_)
            · exact absurd b41 (nI_ge hlt (by omega))
            · skip
              refine r_aload_n (pc2 := 45) 0 dX10_hours_44 rfl rfl rfl rfl ?_
              refine r_getf (pc2 := 48) (v := .ref 118) fX10_13 dX10_hours_45 c117 (by decide) rfl rfl ?_
              refine r_bipush (pc2 := 50) (v := 26) dX10_hours_48 (by decide) rfl ?_
              refine r_ialdA (pc2 := 51) 26 dX10_hours_50 c118 (by decide) rfl (by decide) (by decide) rfl ?_
              refine r_if_le (tgt := 65) (pc2 := 54) dX10_hours_51 (by decide) rfl (fun b51 => ?_) (fun b51 => ?_)
              · skip
                refine r_aload_n (pc2 := 66) 0 dX10_hours_65 rfl rfl rfl rfl ?_
                refine r_callV0 (pc2 := 69) (As := []) (st := []) kX10_285 rfl rfl dX10_hours_66 c117 (by decide) rfl rfl (Nat.le_of_ble_eq_true rfl) (by omega) (c_notes (w := keepV a) c117 c118 c124 keepV_hw hB.nd) rfl (fun h hq66 => ?_)
                obtain ⟨hxn, c118⟩ := hq66
                have c117 := hxn.get (by decide) c117
                have c122 := hxn.get (by decide) c122
                have c123 := hxn.get (by decide) c123
                have c124 := hxn.get (by decide) c124
                have hx := hx.trans hxn (by decide)
                refine r_aload_n (pc2 := 70) 0 dX10_hours_69 rfl rfl rfl rfl ?_
                refine r_getf (pc2 := 73) (v := .ref 118) fX10_13 dX10_hours_70 c117 (by decide) rfl rfl ?_
                refine r_bipush (pc2 := 75) (v := 26) dX10_hours_73 (by decide) rfl ?_
                refine r_ialdA (pc2 := 76) 26 dX10_hours_75 c118 (by decide) rfl (by decide) (by decide) rfl ?_
                refine r_cast (nI (goesI a k 26)) (congrArg nI (notesN_out (by omega) hB.nd)) ?_
                rw [hA2, heq]
                exact r_iret rfl dX10_hours_76 ⟨by rw [hF, heq], (upd v 0 0), ⟨rfl, rfl, rfl⟩, ⟨c117, c118, hx.get (by decide) k119, hx.get (by decide) k120, ⟨_, hx.get (by decide) k121⟩, ⟨_, c122⟩, ⟨_, c123⟩, ⟨_, c124⟩, ⟨_, hx.get (by decide) k125⟩, ⟨_, hx.get (by decide) k126⟩, ⟨_, hx.get (by decide) k127⟩, ⟨_, hx.get (by decide) k128⟩, ⟨_, hx.get (by decide) k129⟩, ⟨_, hx.get (by decide) k130⟩, ⟨_, hx.get (by decide) k131⟩, ⟨_, hx.get (by decide) k132⟩, ⟨_, hx.get (by decide) k133⟩, ⟨_, hx.get (by decide) k134⟩, ⟨_, hx.get (by decide) k135⟩, hx.get (by decide) k136, hx.get (by decide) k137, hx.get (by decide) k138⟩, hx.mono (by decide)⟩
              · rw [hs] at b51; exact absurd (show nI 0 ≤ 0 by decide) b51
          · have hnx : goesI a (k + 1) = goesN (goesI a k) 0 := by rw [goesI, if_neg hs]
            refine r_iload_n (pc2 := 40) 2 dX10_hours_39 rfl rfl rfl ?_
            refine r_iload_n (pc2 := 41) 1 dX10_hours_40 rfl rfl rfl ?_
            refine r_icmp_ge (tgt := 65) (pc2 := 44) dX10_hours_41 (by decide) rfl (fun b41 => ?_) (fun b41 => ?_)
            · exact absurd b41 (nI_ge hlt (by omega))
            · skip
              refine r_aload_n (pc2 := 45) 0 dX10_hours_44 rfl rfl rfl rfl ?_
              refine r_getf (pc2 := 48) (v := .ref 118) fX10_13 dX10_hours_45 c117 (by decide) rfl rfl ?_
              refine r_bipush (pc2 := 50) (v := 26) dX10_hours_48 (by decide) rfl ?_
              refine r_ialdA (pc2 := 51) 26 dX10_hours_50 c118 (by decide) rfl (by decide) (by decide) rfl ?_
              refine r_if_le (tgt := 65) (pc2 := 54) dX10_hours_51 (by decide) rfl (fun b51 => ?_) (fun b51 => ?_)
              · exact absurd b51 (nI_nle (by omega) (by have := hB.dp; omega))
              · skip
                refine r_aload_n (pc2 := 55) 0 dX10_hours_54 rfl rfl rfl rfl ?_
                refine r_iconst (pc2 := 56) (v := 0) dX10_hours_55 (by decide) rfl ?_
                refine r_callV0 (pc2 := 59) (As := [.int 0]) (st := []) kX10_282 rfl rfl dX10_hours_56 c117 (by decide) rfl rfl (Nat.le_of_ble_eq_true rfl) (by omega) (c_goesHour (sn := 0) c117 c118 c122 c123 hB (by decide) (stepOk0 _) (by omega)) rfl (fun h hq56 => ?_)
                obtain ⟨hxg, c118, ⟨f2, c122⟩, ⟨w2, c123⟩⟩ := hq56
                have c117 := hxg.get (by decide) c117
                have c124 := hxg.get (by decide) c124
                have hx := hx.trans hxg (by decide)
                obtain ⟨x59, e59⟩ : ∃ z : Int32, z = (nI k) + (1) := ⟨_, rfl⟩
                refine r_iinc (pc2 := 62) (ls2 := [.ref 117, .int (nI n), .int x59]) (v := x59) 2 dX10_hours_59 rfl (by rw [e59]; rfl) rfl rfl rfl ?_
                refine r_goto (pc2 := 39) dX10_hours_62 (by decide) ?_
                rw [e59, nI_1]
                rw [← hnx] at c118
                exact ih (k + 1) h _ _ (by omega) hx c117 c118 c122 c123 c124
      refine Cn.go (ls := [.ref 117, .int (nI n), .float 0]) (by decide +kernel) rfl (Nat.le_of_ble_eq_true rfl) ?_
      refine r_aload_n (pc2 := 1) 0 dX10_hours_0 rfl rfl rfl rfl ?_
      refine r_iconst (pc2 := 2) (v := 0) dX10_hours_1 (by decide) rfl ?_
      refine r_putfX (pc2 := 5) (moL (upd v 0 0)) fX10_1 dX10_hours_2 c117 (by decide) (Nat.le_of_ble_eq_true rfl) rfl rfl rfl (fun h z2 o2 c117 => ?_)
      have c118 := (o2 118 (by decide)).trans c118
      have c122 := (o2 122 (by decide)).trans c122
      have c123 := (o2 123 (by decide)).trans c123
      have c124 := (o2 124 (by decide)).trans c124
      have hx := hx.step (a := 117) (by decide) z2 o2
      refine r_iload_n (pc2 := 6) 1 dX10_hours_5 rfl rfl rfl ?_
      refine r_i2l (pc2 := 7) dX10_hours_6 rfl ?_
      refine r_lconst (pc2 := 8) (v := 1) dX10_hours_7 (by decide) rfl ?_
      refine r_ldc2 (pc2 := 11) (v := 99) qX10_288 dX10_hours_8 rfl ?_
      refine r_callS1 (pc2 := 14) (As := [.long (Int32.toInt64 (nI n)), .long 1, .long 99]) (st := []) kX10_152 dX10_hours_11 rfl rfl (Nat.le_of_ble_eq_true rfl) (by omega) (c_within (Int32.toInt64 (nI n)) 1 99) rfl (fun h2 hq11 => ?_)
      subst hq11
      refine r_if_ne (tgt := 20) (pc2 := 17) dX10_hours_14 (by decide) rfl (fun b14 => ?_) (fun b14 => ?_)
      · skip
        refine r_aload_n (pc2 := 21) 0 dX10_hours_20 rfl rfl rfl rfl ?_
        refine r_getf (pc2 := 24) (v := .ref 118) fX10_13 dX10_hours_21 c117 (by decide) rfl rfl ?_
        refine r_bipush (pc2 := 26) (v := 26) dX10_hours_24 (by decide) rfl ?_
        refine r_ialdA (pc2 := 27) 26 dX10_hours_26 c118 (by decide) rfl (by decide) (by decide) rfl ?_
        refine r_if_ne (tgt := 33) (pc2 := 30) dX10_hours_27 (by decide) rfl (fun b27 => ?_) (fun b27 => ?_)
        · skip
          refine r_aload_n (pc2 := 34) 0 dX10_hours_33 rfl rfl rfl rfl ?_
          refine r_callV0 (pc2 := 37) (As := []) (st := []) kX10_279 rfl rfl dX10_hours_34 c117 (by decide) rfl rfl (Nat.le_of_ble_eq_true rfl) (by omega) (c_keeps c117 c118 c124) rfl (fun h hq34 => ?_)
          obtain ⟨hxk, c124⟩ := hq34
          have c117 := hxk.get (by decide) c117
          have c118 := hxk.get (by decide) c118
          have c122 := hxk.get (by decide) c122
          have c123 := hxk.get (by decide) c123
          have hx := hx.trans hxk (by decide)
          refine r_iconst (pc2 := 38) (v := 0) dX10_hours_37 (by decide) rfl ?_
          refine r_istore_n (pc2 := 39) (ls2 := [.ref 117, .int (nI n), .int 0]) 2 dX10_hours_38 rfl (by decide) rfl rfl rfl ?_
          exact loop n 0 h _ _ (by omega) hx c117 c118 c122 c123 c124
        · exact absurd b27 (nI_ne0 (by omega) (by omega))
      · exact absurd b14 (if1 hv)
  · have eA : hoursA a x = a := by rw [hoursA, if_neg (fun q => hv q.1)]
    rw [eA]
    refine Cn.go (ls := [.ref 117, .int x, .float 0]) (by decide +kernel) rfl (Nat.le_of_ble_eq_true rfl) ?_
    refine r_aload_n (pc2 := 1) 0 dX10_hours_0 rfl rfl rfl rfl ?_
    refine r_iconst (pc2 := 2) (v := 0) dX10_hours_1 (by decide) rfl ?_
    refine r_putfX (pc2 := 5) (moL (upd v 0 0)) fX10_1 dX10_hours_2 c117 (by decide) (Nat.le_of_ble_eq_true rfl) rfl rfl rfl (fun h z2 o2 c117 => ?_)
    have c118 := (o2 118 (by decide)).trans c118
    have c122 := (o2 122 (by decide)).trans c122
    have c123 := (o2 123 (by decide)).trans c123
    have c124 := (o2 124 (by decide)).trans c124
    have hx := hx.step (a := 117) (by decide) z2 o2
    refine r_iload_n (pc2 := 6) 1 dX10_hours_5 rfl rfl rfl ?_
    refine r_i2l (pc2 := 7) dX10_hours_6 rfl ?_
    refine r_lconst (pc2 := 8) (v := 1) dX10_hours_7 (by decide) rfl ?_
    refine r_ldc2 (pc2 := 11) (v := 99) qX10_288 dX10_hours_8 rfl ?_
    refine r_callS1 (pc2 := 14) (As := [.long (Int32.toInt64 x), .long 1, .long 99]) (st := []) kX10_152 dX10_hours_11 rfl rfl (Nat.le_of_ble_eq_true rfl) (by omega) (c_within (Int32.toInt64 x) 1 99) rfl (fun h2 hq11 => ?_)
    subst hq11
    refine r_if_ne (tgt := 20) (pc2 := 17) dX10_hours_14 (by decide) rfl (fun b14 => ?_) (fun b14 => ?_)
    · exact absurd (if0 hv) b14
    · skip
      refine r_bipush (pc2 := 19) (v := -11) dX10_hours_17 (by decide) rfl ?_
      exact r_iret rfl dX10_hours_19 ⟨by rw [hoursF, if_neg hv], (upd v 0 0), ⟨rfl, rfl, rfl⟩, ⟨c117, c118, hx.get (by decide) k119, hx.get (by decide) k120, ⟨_, hx.get (by decide) k121⟩, ⟨_, c122⟩, ⟨_, c123⟩, ⟨_, c124⟩, ⟨_, hx.get (by decide) k125⟩, ⟨_, hx.get (by decide) k126⟩, ⟨_, hx.get (by decide) k127⟩, ⟨_, hx.get (by decide) k128⟩, ⟨_, hx.get (by decide) k129⟩, ⟨_, hx.get (by decide) k130⟩, ⟨_, hx.get (by decide) k131⟩, ⟨_, hx.get (by decide) k132⟩, ⟨_, hx.get (by decide) k133⟩, ⟨_, hx.get (by decide) k134⟩, ⟨_, hx.get (by decide) k135⟩, hx.get (by decide) k136, hx.get (by decide) k137, hx.get (by decide) k138⟩, hx.mono (by decide)⟩
/-! count -/
def countF (a : Nat → Nat) (v : Nat → Int32) (x : Int32) : Int32 := if x = 0 then nI (a 1) else if x = 1 then nI (a 3) else if x = 2 then nI (a 4) else if x = 3 then nI (a 26) else if x = 4 then nI (pastN (a 1) (packS a) (a 3)) else if x = 5 then nI (a 27) else if x = 6 then nI (a 28) else if x = 7 then nI (a 45) else if x = 8 then v 5 else if x = 9 then nI (a 0) else -1
theorem out_of {x : Int32} (n : Nat) (hn : n < 2 ^ 31) (h : ∀ k, k ≤ n → ¬ x = nI k) : x.toInt < 0 ∨ (n : Int) < x.toInt := by
  by_cases h0 : x < 0
  · exact Or.inl (by simpa using Int32.lt_iff_toInt_lt.mp h0)
  · obtain ⟨k, hk, rfl⟩ := nI_of h0
    rw [nI_toInt hk]
    rcases Nat.lt_or_ge n k with q | q
    · right; omega
    · exact absurd rfl (h k q)
set_option maxRecDepth 20000 in
set_option maxHeartbeats 1000000 in
theorem ref_count {E : EnvT} {d : Nat} {h0 : Hp} {v : Nat → Int32} {a : Nat → Nat} {hi : Nat → Int32} {tp : Nat → Nat} {rs rm : Nat → Int32} {nu : Nat → Int64} {x : Int32} (hR : RS h0 v a hi tp rs rm nu) (hA : AIN a) (hd : 2 ≤ d) : Cn E mX10_count d [.ref 117, .int x] h0 (RP (.int (countF a v x)) h0 v a hi tp rs rm nu) := by
  obtain ⟨k117, k118, k119, k120, ⟨f121, k121⟩, ⟨f122, k122⟩, ⟨f123, k123⟩, ⟨f124, k124⟩, ⟨f125, k125⟩, ⟨f126, k126⟩, ⟨f127, k127⟩, ⟨f128, k128⟩, ⟨f129, k129⟩, ⟨f130, k130⟩, ⟨f131, k131⟩, ⟨f132, k132⟩, ⟨f133, k133⟩, ⟨f134, k134⟩, ⟨f135, k135⟩, k136, k137, k138⟩ := hR
  have c117 := k117
  have c118 := k118
  have hx : Ex [117, 118] h0 h0 := Ex.rf
  by_cases q0 : x = 0
  · subst q0
    refine Cn.go (ls := [.ref 117, .int 0]) (by decide +kernel) rfl (Nat.le_of_ble_eq_true rfl) ?_
    refine r_aload_n (pc2 := 1) 0 dX10_count_0 rfl rfl rfl rfl ?_
    refine r_iconst (pc2 := 2) (v := 0) dX10_count_1 (by decide) rfl ?_
    refine r_putfX (pc2 := 5) (moL (upd v 0 0)) fX10_1 dX10_count_2 c117 (by decide) (Nat.le_of_ble_eq_true rfl) rfl rfl rfl (fun h z2 o2 c117 => ?_)
    have c118 := (o2 118 (by decide)).trans c118
    have hx := hx.step (a := 117) (by decide) z2 o2
    refine r_iload_n (pc2 := 6) 1 dX10_count_5 rfl rfl rfl ?_
    refine r_tsw (pc2 := 0) (tgt := 60) (off := 54) dX10_count_6 (by decide) (by decide) (by decide) (by decide) ?_
    refine r_aload_n (pc2 := 61) 0 dX10_count_60 rfl rfl rfl rfl ?_
    refine r_getf (pc2 := 64) (v := .ref 118) fX10_13 dX10_count_61 c117 (by decide) rfl rfl ?_
    refine r_iconst (pc2 := 65) (v := 1) dX10_count_64 (by decide) rfl ?_
    refine r_ialdA (pc2 := 66) 1 dX10_count_65 c118 (by decide) rfl (by decide) (by decide) rfl ?_
    exact r_iret rfl dX10_count_66 ⟨rfl, (upd v 0 0), ⟨rfl, rfl, rfl⟩, ⟨c117, c118, hx.get (by decide) k119, hx.get (by decide) k120, ⟨_, hx.get (by decide) k121⟩, ⟨_, hx.get (by decide) k122⟩, ⟨_, hx.get (by decide) k123⟩, ⟨_, hx.get (by decide) k124⟩, ⟨_, hx.get (by decide) k125⟩, ⟨_, hx.get (by decide) k126⟩, ⟨_, hx.get (by decide) k127⟩, ⟨_, hx.get (by decide) k128⟩, ⟨_, hx.get (by decide) k129⟩, ⟨_, hx.get (by decide) k130⟩, ⟨_, hx.get (by decide) k131⟩, ⟨_, hx.get (by decide) k132⟩, ⟨_, hx.get (by decide) k133⟩, ⟨_, hx.get (by decide) k134⟩, ⟨_, hx.get (by decide) k135⟩, hx.get (by decide) k136, hx.get (by decide) k137, hx.get (by decide) k138⟩, hx.mono (by decide)⟩
  by_cases q1 : x = 1
  · subst q1
    refine Cn.go (ls := [.ref 117, .int 1]) (by decide +kernel) rfl (Nat.le_of_ble_eq_true rfl) ?_
    refine r_aload_n (pc2 := 1) 0 dX10_count_0 rfl rfl rfl rfl ?_
    refine r_iconst (pc2 := 2) (v := 0) dX10_count_1 (by decide) rfl ?_
    refine r_putfX (pc2 := 5) (moL (upd v 0 0)) fX10_1 dX10_count_2 c117 (by decide) (Nat.le_of_ble_eq_true rfl) rfl rfl rfl (fun h z2 o2 c117 => ?_)
    have c118 := (o2 118 (by decide)).trans c118
    have hx := hx.step (a := 117) (by decide) z2 o2
    refine r_iload_n (pc2 := 6) 1 dX10_count_5 rfl rfl rfl ?_
    refine r_tsw (pc2 := 0) (tgt := 67) (off := 61) dX10_count_6 (by decide) (by decide) (by decide) (by decide) ?_
    refine r_aload_n (pc2 := 68) 0 dX10_count_67 rfl rfl rfl rfl ?_
    refine r_getf (pc2 := 71) (v := .ref 118) fX10_13 dX10_count_68 c117 (by decide) rfl rfl ?_
    refine r_iconst (pc2 := 72) (v := 3) dX10_count_71 (by decide) rfl ?_
    refine r_ialdA (pc2 := 73) 3 dX10_count_72 c118 (by decide) rfl (by decide) (by decide) rfl ?_
    exact r_iret rfl dX10_count_73 ⟨rfl, (upd v 0 0), ⟨rfl, rfl, rfl⟩, ⟨c117, c118, hx.get (by decide) k119, hx.get (by decide) k120, ⟨_, hx.get (by decide) k121⟩, ⟨_, hx.get (by decide) k122⟩, ⟨_, hx.get (by decide) k123⟩, ⟨_, hx.get (by decide) k124⟩, ⟨_, hx.get (by decide) k125⟩, ⟨_, hx.get (by decide) k126⟩, ⟨_, hx.get (by decide) k127⟩, ⟨_, hx.get (by decide) k128⟩, ⟨_, hx.get (by decide) k129⟩, ⟨_, hx.get (by decide) k130⟩, ⟨_, hx.get (by decide) k131⟩, ⟨_, hx.get (by decide) k132⟩, ⟨_, hx.get (by decide) k133⟩, ⟨_, hx.get (by decide) k134⟩, ⟨_, hx.get (by decide) k135⟩, hx.get (by decide) k136, hx.get (by decide) k137, hx.get (by decide) k138⟩, hx.mono (by decide)⟩
  by_cases q2 : x = 2
  · subst q2
    refine Cn.go (ls := [.ref 117, .int 2]) (by decide +kernel) rfl (Nat.le_of_ble_eq_true rfl) ?_
    refine r_aload_n (pc2 := 1) 0 dX10_count_0 rfl rfl rfl rfl ?_
    refine r_iconst (pc2 := 2) (v := 0) dX10_count_1 (by decide) rfl ?_
    refine r_putfX (pc2 := 5) (moL (upd v 0 0)) fX10_1 dX10_count_2 c117 (by decide) (Nat.le_of_ble_eq_true rfl) rfl rfl rfl (fun h z2 o2 c117 => ?_)
    have c118 := (o2 118 (by decide)).trans c118
    have hx := hx.step (a := 117) (by decide) z2 o2
    refine r_iload_n (pc2 := 6) 1 dX10_count_5 rfl rfl rfl ?_
    refine r_tsw (pc2 := 0) (tgt := 74) (off := 68) dX10_count_6 (by decide) (by decide) (by decide) (by decide) ?_
    refine r_aload_n (pc2 := 75) 0 dX10_count_74 rfl rfl rfl rfl ?_
    refine r_getf (pc2 := 78) (v := .ref 118) fX10_13 dX10_count_75 c117 (by decide) rfl rfl ?_
    refine r_iconst (pc2 := 79) (v := 4) dX10_count_78 (by decide) rfl ?_
    refine r_ialdA (pc2 := 80) 4 dX10_count_79 c118 (by decide) rfl (by decide) (by decide) rfl ?_
    exact r_iret rfl dX10_count_80 ⟨rfl, (upd v 0 0), ⟨rfl, rfl, rfl⟩, ⟨c117, c118, hx.get (by decide) k119, hx.get (by decide) k120, ⟨_, hx.get (by decide) k121⟩, ⟨_, hx.get (by decide) k122⟩, ⟨_, hx.get (by decide) k123⟩, ⟨_, hx.get (by decide) k124⟩, ⟨_, hx.get (by decide) k125⟩, ⟨_, hx.get (by decide) k126⟩, ⟨_, hx.get (by decide) k127⟩, ⟨_, hx.get (by decide) k128⟩, ⟨_, hx.get (by decide) k129⟩, ⟨_, hx.get (by decide) k130⟩, ⟨_, hx.get (by decide) k131⟩, ⟨_, hx.get (by decide) k132⟩, ⟨_, hx.get (by decide) k133⟩, ⟨_, hx.get (by decide) k134⟩, ⟨_, hx.get (by decide) k135⟩, hx.get (by decide) k136, hx.get (by decide) k137, hx.get (by decide) k138⟩, hx.mono (by decide)⟩
  by_cases q3 : x = 3
  · subst q3
    refine Cn.go (ls := [.ref 117, .int 3]) (by decide +kernel) rfl (Nat.le_of_ble_eq_true rfl) ?_
    refine r_aload_n (pc2 := 1) 0 dX10_count_0 rfl rfl rfl rfl ?_
    refine r_iconst (pc2 := 2) (v := 0) dX10_count_1 (by decide) rfl ?_
    refine r_putfX (pc2 := 5) (moL (upd v 0 0)) fX10_1 dX10_count_2 c117 (by decide) (Nat.le_of_ble_eq_true rfl) rfl rfl rfl (fun h z2 o2 c117 => ?_)
    have c118 := (o2 118 (by decide)).trans c118
    have hx := hx.step (a := 117) (by decide) z2 o2
    refine r_iload_n (pc2 := 6) 1 dX10_count_5 rfl rfl rfl ?_
    refine r_tsw (pc2 := 0) (tgt := 81) (off := 75) dX10_count_6 (by decide) (by decide) (by decide) (by decide) ?_
    refine r_aload_n (pc2 := 82) 0 dX10_count_81 rfl rfl rfl rfl ?_
    refine r_getf (pc2 := 85) (v := .ref 118) fX10_13 dX10_count_82 c117 (by decide) rfl rfl ?_
    refine r_bipush (pc2 := 87) (v := 26) dX10_count_85 (by decide) rfl ?_
    refine r_ialdA (pc2 := 88) 26 dX10_count_87 c118 (by decide) rfl (by decide) (by decide) rfl ?_
    exact r_iret rfl dX10_count_88 ⟨rfl, (upd v 0 0), ⟨rfl, rfl, rfl⟩, ⟨c117, c118, hx.get (by decide) k119, hx.get (by decide) k120, ⟨_, hx.get (by decide) k121⟩, ⟨_, hx.get (by decide) k122⟩, ⟨_, hx.get (by decide) k123⟩, ⟨_, hx.get (by decide) k124⟩, ⟨_, hx.get (by decide) k125⟩, ⟨_, hx.get (by decide) k126⟩, ⟨_, hx.get (by decide) k127⟩, ⟨_, hx.get (by decide) k128⟩, ⟨_, hx.get (by decide) k129⟩, ⟨_, hx.get (by decide) k130⟩, ⟨_, hx.get (by decide) k131⟩, ⟨_, hx.get (by decide) k132⟩, ⟨_, hx.get (by decide) k133⟩, ⟨_, hx.get (by decide) k134⟩, ⟨_, hx.get (by decide) k135⟩, hx.get (by decide) k136, hx.get (by decide) k137, hx.get (by decide) k138⟩, hx.mono (by decide)⟩
  by_cases q4 : x = 4
  · subst q4
    refine Cn.go (ls := [.ref 117, .int 4]) (by decide +kernel) rfl (Nat.le_of_ble_eq_true rfl) ?_
    refine r_aload_n (pc2 := 1) 0 dX10_count_0 rfl rfl rfl rfl ?_
    refine r_iconst (pc2 := 2) (v := 0) dX10_count_1 (by decide) rfl ?_
    refine r_putfX (pc2 := 5) (moL (upd v 0 0)) fX10_1 dX10_count_2 c117 (by decide) (Nat.le_of_ble_eq_true rfl) rfl rfl rfl (fun h z2 o2 c117 => ?_)
    have c118 := (o2 118 (by decide)).trans c118
    have hx := hx.step (a := 117) (by decide) z2 o2
    refine r_iload_n (pc2 := 6) 1 dX10_count_5 rfl rfl rfl ?_
    refine r_tsw (pc2 := 0) (tgt := 89) (off := 83) dX10_count_6 (by decide) (by decide) (by decide) (by decide) ?_
    refine r_aload_n (pc2 := 90) 0 dX10_count_89 rfl rfl rfl rfl ?_
    refine r_aload_n (pc2 := 91) 0 dX10_count_90 rfl rfl rfl rfl ?_
    refine r_callV1 (pc2 := 94) (As := []) (st := [.ref 117]) kX10_266 rfl rfl dX10_count_91 c117 (by decide) rfl rfl (Nat.le_of_ble_eq_true rfl) (by omega) (c_standNow c117 c118 hA.G hA.c7 hA.dp) rfl (fun h2 hq91 => ?_)
    subst hq91
    refine r_callV1 (pc2 := 97) (As := [.int (nI (packS a))]) (st := []) kX10_256 rfl rfl dX10_count_94 c117 (by decide) rfl rfl (Nat.le_of_ble_eq_true rfl) (by omega) (c_pastIn (st := (packS a)) c117 c118 hA.G hA.C (by have := hA.plt; omega) (by omega)) rfl (fun h2 hq94 => ?_)
    subst hq94
    exact r_iret rfl dX10_count_97 ⟨rfl, (upd v 0 0), ⟨rfl, rfl, rfl⟩, ⟨c117, c118, hx.get (by decide) k119, hx.get (by decide) k120, ⟨_, hx.get (by decide) k121⟩, ⟨_, hx.get (by decide) k122⟩, ⟨_, hx.get (by decide) k123⟩, ⟨_, hx.get (by decide) k124⟩, ⟨_, hx.get (by decide) k125⟩, ⟨_, hx.get (by decide) k126⟩, ⟨_, hx.get (by decide) k127⟩, ⟨_, hx.get (by decide) k128⟩, ⟨_, hx.get (by decide) k129⟩, ⟨_, hx.get (by decide) k130⟩, ⟨_, hx.get (by decide) k131⟩, ⟨_, hx.get (by decide) k132⟩, ⟨_, hx.get (by decide) k133⟩, ⟨_, hx.get (by decide) k134⟩, ⟨_, hx.get (by decide) k135⟩, hx.get (by decide) k136, hx.get (by decide) k137, hx.get (by decide) k138⟩, hx.mono (by decide)⟩
  by_cases q5 : x = 5
  · subst q5
    refine Cn.go (ls := [.ref 117, .int 5]) (by decide +kernel) rfl (Nat.le_of_ble_eq_true rfl) ?_
    refine r_aload_n (pc2 := 1) 0 dX10_count_0 rfl rfl rfl rfl ?_
    refine r_iconst (pc2 := 2) (v := 0) dX10_count_1 (by decide) rfl ?_
    refine r_putfX (pc2 := 5) (moL (upd v 0 0)) fX10_1 dX10_count_2 c117 (by decide) (Nat.le_of_ble_eq_true rfl) rfl rfl rfl (fun h z2 o2 c117 => ?_)
    have c118 := (o2 118 (by decide)).trans c118
    have hx := hx.step (a := 117) (by decide) z2 o2
    refine r_iload_n (pc2 := 6) 1 dX10_count_5 rfl rfl rfl ?_
    refine r_tsw (pc2 := 0) (tgt := 98) (off := 92) dX10_count_6 (by decide) (by decide) (by decide) (by decide) ?_
    refine r_aload_n (pc2 := 99) 0 dX10_count_98 rfl rfl rfl rfl ?_
    refine r_getf (pc2 := 102) (v := .ref 118) fX10_13 dX10_count_99 c117 (by decide) rfl rfl ?_
    refine r_bipush (pc2 := 104) (v := 27) dX10_count_102 (by decide) rfl ?_
    refine r_ialdA (pc2 := 105) 27 dX10_count_104 c118 (by decide) rfl (by decide) (by decide) rfl ?_
    exact r_iret rfl dX10_count_105 ⟨rfl, (upd v 0 0), ⟨rfl, rfl, rfl⟩, ⟨c117, c118, hx.get (by decide) k119, hx.get (by decide) k120, ⟨_, hx.get (by decide) k121⟩, ⟨_, hx.get (by decide) k122⟩, ⟨_, hx.get (by decide) k123⟩, ⟨_, hx.get (by decide) k124⟩, ⟨_, hx.get (by decide) k125⟩, ⟨_, hx.get (by decide) k126⟩, ⟨_, hx.get (by decide) k127⟩, ⟨_, hx.get (by decide) k128⟩, ⟨_, hx.get (by decide) k129⟩, ⟨_, hx.get (by decide) k130⟩, ⟨_, hx.get (by decide) k131⟩, ⟨_, hx.get (by decide) k132⟩, ⟨_, hx.get (by decide) k133⟩, ⟨_, hx.get (by decide) k134⟩, ⟨_, hx.get (by decide) k135⟩, hx.get (by decide) k136, hx.get (by decide) k137, hx.get (by decide) k138⟩, hx.mono (by decide)⟩
  by_cases q6 : x = 6
  · subst q6
    refine Cn.go (ls := [.ref 117, .int 6]) (by decide +kernel) rfl (Nat.le_of_ble_eq_true rfl) ?_
    refine r_aload_n (pc2 := 1) 0 dX10_count_0 rfl rfl rfl rfl ?_
    refine r_iconst (pc2 := 2) (v := 0) dX10_count_1 (by decide) rfl ?_
    refine r_putfX (pc2 := 5) (moL (upd v 0 0)) fX10_1 dX10_count_2 c117 (by decide) (Nat.le_of_ble_eq_true rfl) rfl rfl rfl (fun h z2 o2 c117 => ?_)
    have c118 := (o2 118 (by decide)).trans c118
    have hx := hx.step (a := 117) (by decide) z2 o2
    refine r_iload_n (pc2 := 6) 1 dX10_count_5 rfl rfl rfl ?_
    refine r_tsw (pc2 := 0) (tgt := 106) (off := 100) dX10_count_6 (by decide) (by decide) (by decide) (by decide) ?_
    refine r_aload_n (pc2 := 107) 0 dX10_count_106 rfl rfl rfl rfl ?_
    refine r_getf (pc2 := 110) (v := .ref 118) fX10_13 dX10_count_107 c117 (by decide) rfl rfl ?_
    refine r_bipush (pc2 := 112) (v := 28) dX10_count_110 (by decide) rfl ?_
    refine r_ialdA (pc2 := 113) 28 dX10_count_112 c118 (by decide) rfl (by decide) (by decide) rfl ?_
    exact r_iret rfl dX10_count_113 ⟨rfl, (upd v 0 0), ⟨rfl, rfl, rfl⟩, ⟨c117, c118, hx.get (by decide) k119, hx.get (by decide) k120, ⟨_, hx.get (by decide) k121⟩, ⟨_, hx.get (by decide) k122⟩, ⟨_, hx.get (by decide) k123⟩, ⟨_, hx.get (by decide) k124⟩, ⟨_, hx.get (by decide) k125⟩, ⟨_, hx.get (by decide) k126⟩, ⟨_, hx.get (by decide) k127⟩, ⟨_, hx.get (by decide) k128⟩, ⟨_, hx.get (by decide) k129⟩, ⟨_, hx.get (by decide) k130⟩, ⟨_, hx.get (by decide) k131⟩, ⟨_, hx.get (by decide) k132⟩, ⟨_, hx.get (by decide) k133⟩, ⟨_, hx.get (by decide) k134⟩, ⟨_, hx.get (by decide) k135⟩, hx.get (by decide) k136, hx.get (by decide) k137, hx.get (by decide) k138⟩, hx.mono (by decide)⟩
  by_cases q7 : x = 7
  · subst q7
    refine Cn.go (ls := [.ref 117, .int 7]) (by decide +kernel) rfl (Nat.le_of_ble_eq_true rfl) ?_
    refine r_aload_n (pc2 := 1) 0 dX10_count_0 rfl rfl rfl rfl ?_
    refine r_iconst (pc2 := 2) (v := 0) dX10_count_1 (by decide) rfl ?_
    refine r_putfX (pc2 := 5) (moL (upd v 0 0)) fX10_1 dX10_count_2 c117 (by decide) (Nat.le_of_ble_eq_true rfl) rfl rfl rfl (fun h z2 o2 c117 => ?_)
    have c118 := (o2 118 (by decide)).trans c118
    have hx := hx.step (a := 117) (by decide) z2 o2
    refine r_iload_n (pc2 := 6) 1 dX10_count_5 rfl rfl rfl ?_
    refine r_tsw (pc2 := 0) (tgt := 114) (off := 108) dX10_count_6 (by decide) (by decide) (by decide) (by decide) ?_
    refine r_aload_n (pc2 := 115) 0 dX10_count_114 rfl rfl rfl rfl ?_
    refine r_getf (pc2 := 118) (v := .ref 118) fX10_13 dX10_count_115 c117 (by decide) rfl rfl ?_
    refine r_bipush (pc2 := 120) (v := 45) dX10_count_118 (by decide) rfl ?_
    refine r_ialdA (pc2 := 121) 45 dX10_count_120 c118 (by decide) rfl (by decide) (by decide) rfl ?_
    exact r_iret rfl dX10_count_121 ⟨rfl, (upd v 0 0), ⟨rfl, rfl, rfl⟩, ⟨c117, c118, hx.get (by decide) k119, hx.get (by decide) k120, ⟨_, hx.get (by decide) k121⟩, ⟨_, hx.get (by decide) k122⟩, ⟨_, hx.get (by decide) k123⟩, ⟨_, hx.get (by decide) k124⟩, ⟨_, hx.get (by decide) k125⟩, ⟨_, hx.get (by decide) k126⟩, ⟨_, hx.get (by decide) k127⟩, ⟨_, hx.get (by decide) k128⟩, ⟨_, hx.get (by decide) k129⟩, ⟨_, hx.get (by decide) k130⟩, ⟨_, hx.get (by decide) k131⟩, ⟨_, hx.get (by decide) k132⟩, ⟨_, hx.get (by decide) k133⟩, ⟨_, hx.get (by decide) k134⟩, ⟨_, hx.get (by decide) k135⟩, hx.get (by decide) k136, hx.get (by decide) k137, hx.get (by decide) k138⟩, hx.mono (by decide)⟩
  by_cases q8 : x = 8
  · subst q8
    refine Cn.go (ls := [.ref 117, .int 8]) (by decide +kernel) rfl (Nat.le_of_ble_eq_true rfl) ?_
    refine r_aload_n (pc2 := 1) 0 dX10_count_0 rfl rfl rfl rfl ?_
    refine r_iconst (pc2 := 2) (v := 0) dX10_count_1 (by decide) rfl ?_
    refine r_putfX (pc2 := 5) (moL (upd v 0 0)) fX10_1 dX10_count_2 c117 (by decide) (Nat.le_of_ble_eq_true rfl) rfl rfl rfl (fun h z2 o2 c117 => ?_)
    have c118 := (o2 118 (by decide)).trans c118
    have hx := hx.step (a := 117) (by decide) z2 o2
    refine r_iload_n (pc2 := 6) 1 dX10_count_5 rfl rfl rfl ?_
    refine r_tsw (pc2 := 0) (tgt := 122) (off := 116) dX10_count_6 (by decide) (by decide) (by decide) (by decide) ?_
    refine r_aload_n (pc2 := 123) 0 dX10_count_122 rfl rfl rfl rfl ?_
    refine r_getf (pc2 := 126) (v := .int ((upd v 0 0) 5)) fX10_90 dX10_count_123 c117 (by decide) rfl rfl ?_
    exact r_iret rfl dX10_count_126 ⟨rfl, (upd v 0 0), ⟨rfl, rfl, rfl⟩, ⟨c117, c118, hx.get (by decide) k119, hx.get (by decide) k120, ⟨_, hx.get (by decide) k121⟩, ⟨_, hx.get (by decide) k122⟩, ⟨_, hx.get (by decide) k123⟩, ⟨_, hx.get (by decide) k124⟩, ⟨_, hx.get (by decide) k125⟩, ⟨_, hx.get (by decide) k126⟩, ⟨_, hx.get (by decide) k127⟩, ⟨_, hx.get (by decide) k128⟩, ⟨_, hx.get (by decide) k129⟩, ⟨_, hx.get (by decide) k130⟩, ⟨_, hx.get (by decide) k131⟩, ⟨_, hx.get (by decide) k132⟩, ⟨_, hx.get (by decide) k133⟩, ⟨_, hx.get (by decide) k134⟩, ⟨_, hx.get (by decide) k135⟩, hx.get (by decide) k136, hx.get (by decide) k137, hx.get (by decide) k138⟩, hx.mono (by decide)⟩
  by_cases q9 : x = 9
  · subst q9
    refine Cn.go (ls := [.ref 117, .int 9]) (by decide +kernel) rfl (Nat.le_of_ble_eq_true rfl) ?_
    refine r_aload_n (pc2 := 1) 0 dX10_count_0 rfl rfl rfl rfl ?_
    refine r_iconst (pc2 := 2) (v := 0) dX10_count_1 (by decide) rfl ?_
    refine r_putfX (pc2 := 5) (moL (upd v 0 0)) fX10_1 dX10_count_2 c117 (by decide) (Nat.le_of_ble_eq_true rfl) rfl rfl rfl (fun h z2 o2 c117 => ?_)
    have c118 := (o2 118 (by decide)).trans c118
    have hx := hx.step (a := 117) (by decide) z2 o2
    refine r_iload_n (pc2 := 6) 1 dX10_count_5 rfl rfl rfl ?_
    refine r_tsw (pc2 := 0) (tgt := 127) (off := 121) dX10_count_6 (by decide) (by decide) (by decide) (by decide) ?_
    refine r_aload_n (pc2 := 128) 0 dX10_count_127 rfl rfl rfl rfl ?_
    refine r_getf (pc2 := 131) (v := .ref 118) fX10_13 dX10_count_128 c117 (by decide) rfl rfl ?_
    refine r_iconst (pc2 := 132) (v := 0) dX10_count_131 (by decide) rfl ?_
    refine r_ialdA (pc2 := 133) 0 dX10_count_132 c118 (by decide) rfl (by decide) (by decide) rfl ?_
    exact r_iret rfl dX10_count_133 ⟨rfl, (upd v 0 0), ⟨rfl, rfl, rfl⟩, ⟨c117, c118, hx.get (by decide) k119, hx.get (by decide) k120, ⟨_, hx.get (by decide) k121⟩, ⟨_, hx.get (by decide) k122⟩, ⟨_, hx.get (by decide) k123⟩, ⟨_, hx.get (by decide) k124⟩, ⟨_, hx.get (by decide) k125⟩, ⟨_, hx.get (by decide) k126⟩, ⟨_, hx.get (by decide) k127⟩, ⟨_, hx.get (by decide) k128⟩, ⟨_, hx.get (by decide) k129⟩, ⟨_, hx.get (by decide) k130⟩, ⟨_, hx.get (by decide) k131⟩, ⟨_, hx.get (by decide) k132⟩, ⟨_, hx.get (by decide) k133⟩, ⟨_, hx.get (by decide) k134⟩, ⟨_, hx.get (by decide) k135⟩, hx.get (by decide) k136, hx.get (by decide) k137, hx.get (by decide) k138⟩, hx.mono (by decide)⟩
  have hout : ∀ k, k ≤ 9 → ¬ x = nI k := by
    intro k hk
    match k, hk with
    | 0, _ => exact q0
    | 1, _ => exact q1
    | 2, _ => exact q2
    | 3, _ => exact q3
    | 4, _ => exact q4
    | 5, _ => exact q5
    | 6, _ => exact q6
    | 7, _ => exact q7
    | 8, _ => exact q8
    | 9, _ => exact q9
  refine Cn.go (ls := [.ref 117, .int x]) (by decide +kernel) rfl (Nat.le_of_ble_eq_true rfl) ?_
  refine r_aload_n (pc2 := 1) 0 dX10_count_0 rfl rfl rfl rfl ?_
  refine r_iconst (pc2 := 2) (v := 0) dX10_count_1 (by decide) rfl ?_
  refine r_putfX (pc2 := 5) (moL (upd v 0 0)) fX10_1 dX10_count_2 c117 (by decide) (Nat.le_of_ble_eq_true rfl) rfl rfl rfl (fun h z2 o2 c117 => ?_)
  have c118 := (o2 118 (by decide)).trans c118
  have hx := hx.step (a := 117) (by decide) z2 o2
  refine r_iload_n (pc2 := 6) 1 dX10_count_5 rfl rfl rfl ?_
  refine r_tswD (pc2 := 0) (tgt := 134) dX10_count_6 (out_of 9 (by decide) hout) (by decide) ?_
  refine r_iconst (pc2 := 135) (v := -1) dX10_count_134 (by decide) rfl ?_
  exact r_iret rfl dX10_count_135 ⟨by rw [countF, if_neg q0, if_neg q1, if_neg q2, if_neg q3, if_neg q4, if_neg q5, if_neg q6, if_neg q7, if_neg q8, if_neg q9], (upd v 0 0), ⟨rfl, rfl, rfl⟩, ⟨c117, c118, hx.get (by decide) k119, hx.get (by decide) k120, ⟨_, hx.get (by decide) k121⟩, ⟨_, hx.get (by decide) k122⟩, ⟨_, hx.get (by decide) k123⟩, ⟨_, hx.get (by decide) k124⟩, ⟨_, hx.get (by decide) k125⟩, ⟨_, hx.get (by decide) k126⟩, ⟨_, hx.get (by decide) k127⟩, ⟨_, hx.get (by decide) k128⟩, ⟨_, hx.get (by decide) k129⟩, ⟨_, hx.get (by decide) k130⟩, ⟨_, hx.get (by decide) k131⟩, ⟨_, hx.get (by decide) k132⟩, ⟨_, hx.get (by decide) k133⟩, ⟨_, hx.get (by decide) k134⟩, ⟨_, hx.get (by decide) k135⟩, hx.get (by decide) k136, hx.get (by decide) k137, hx.get (by decide) k138⟩, hx.mono (by decide)⟩
