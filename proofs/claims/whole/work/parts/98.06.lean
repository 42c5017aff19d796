/-! the class: slept: draughts -/
theorem inR_of2 {h n : Nat} (h1 : ¬ nI n < 1) (h2 : nI n ≤ nI h) (hh : h < 2 ^ 31 := by decide) : inR 1 h (nI n) := (inR_iff (l := 1) (h := h) (by decide) hh (nI n)).mpr ⟨Int32.not_lt.mp h1, h2⟩
set_option maxRecDepth 20000 in
set_option maxHeartbeats 1000000 in
theorem c_refuseSlept {E : EnvT} {d : Nat} {h0 : Hp} {ns s un w1 w2 : Nat} {wk dt : Value} {rs rm : Nat → Int32} {nu : Nat → Int64} {x : Int32} (c64 : h0.1 64 = some (.inr (9, coL s ns un w1 w2 wk dt))) (hMT : MT h0 rs rm nu) (hT : TOK rs rm) (hd : 1 ≤ d) : Cn E mX9_refuseSlept d [.ref 64, .int x] h0 (fun r h2 => r = some (.int (nsF rs rm nu x)) ∧ h2 = h0) := by
  by_cases hx : inR 0 3 x
  · skip
    obtain ⟨t, _, ht3, rfl⟩ := inR_of (by decide) (by decide) hx
    have ht : t < 4 := by omega
    obtain ⟨⟨f, c81, hf⟩, _⟩ := id hMT
    obtain ⟨ms, so, si, vv, ct, cv, q1, q2⟩ := hMT.2 t ht
    generalize hp : 109 + 2 * t = p at ct
    generalize hq : 110 + 2 * t = q at ct cv
    have hn1 : rm t = nI (rowN rm t) := (hT t ht).1
    have hn40 : rowN rm t ≤ 40 := (hT t ht).2
    by_cases hs : rs t = -1
    · have hno : noTrayF rs (nI t) = -6 := by unfold noTrayF; rw [if_pos hx, nI_clamp (by omega), if_pos hs]
      obtain rfl := q1 hs
      refine Cn.go (ls := [.ref 64, .int (nI t), .float 0, .float 0]) (by decide +kernel) rfl (Nat.le_of_ble_eq_true rfl) ?_
      refine r_iload_n (pc2 := 1) 1 dX9_refuseSlept_0 rfl rfl rfl ?_
      refine r_callS1 (pc2 := 4) (As := [.int (nI t)]) (st := []) kX9_210 dX9_refuseSlept_1 rfl rfl (Nat.le_of_ble_eq_true rfl) (by omega) (c_isTray.mono fun r h2 q => ⟨q.1.trans (by rw [if_pos hx]), q.2⟩) rfl (fun h2 hq1 => ?_)
      obtain rfl := hq1.symm
      refine r_if_ne (tgt := 10) (pc2 := 7) dX9_refuseSlept_4 (by decide) rfl (fun b4 => ?_) (fun b4 => ?_)
      · skip
        refine r_aload_n (pc2 := 11) 0 dX9_refuseSlept_10 rfl rfl rfl rfl ?_
        refine r_getf (pc2 := 14) (v := .ref 81) fX9_48 dX9_refuseSlept_11 c64 (by decide) rfl rfl ?_
        refine r_iload_n (pc2 := 15) 1 dX9_refuseSlept_14 rfl rfl rfl ?_
        refine r_aald (pc2 := 16) dX9_refuseSlept_15 c81 (by decide) (by decide) (nI_vp (j := t) rfl (by omega) (by decide)).1 (by rw [nI_clamp (by omega), hf t ht, hp]) (by omega) rfl ?_
        refine r_astore_n (pc2 := 17) (ls2 := [.ref 64, .int (nI t), .ref p, .float 0]) 2 dX9_refuseSlept_16 rfl (by decide) rfl rfl rfl rfl ?_
        refine r_aload_n (pc2 := 18) 2 dX9_refuseSlept_17 rfl rfl rfl rfl ?_
        refine r_getf (pc2 := 21) (v := .int 1) fX9_213 dX9_refuseSlept_18 ct (by omega) rfl rfl ?_
        refine r_if_eq (tgt := 27) (pc2 := 24) dX9_refuseSlept_21 (by decide) rfl (fun b21 => ?_) (fun b21 => ?_)
        · exact absurd b21 (by decide)
        · skip
          refine r_bipush (pc2 := 26) (v := -6) dX9_refuseSlept_24 (by decide) rfl ?_
          exact r_iret rfl dX9_refuseSlept_26 ⟨by unfold nsF; rw [hno, if_pos (by decide)], rfl⟩
      · exact absurd b4 (by decide)
    · skip
      have hno : noTrayF rs (nI t) = 0 := by unfold noTrayF; rw [if_pos hx, nI_clamp (by omega), if_neg hs]
      obtain ⟨rfl, rfl, rfl, q3⟩ := q2 hs
      obtain ⟨n, hnn⟩ : ∃ n, n = rowN rm t := ⟨_, rfl⟩
      have q3 : ∀ j, j < n → vv j = nu (40 * t + j) := fun j hj => q3 j (by rw [hnn] at hj; exact hj)
      rw [← hnn] at hn1 hn40
      rw [hn1] at ct
      by_cases hin : inR 1 10 (nI n)
      · have hi2 := (inR_iff (l := 1) (h := 10) (by decide) (by decide) (nI n)).mp hin
        have hi3 := inR_toNat (l := 1) (h := 10) (k := n) (by decide) (by decide) (by omega) |>.mp hin
        have loop : ∀ m k, k + m = n → (∀ i, i < k → lR 0 9 (nu (40 * t + i))) → Fr E mX9_refuseSlept d 49 [.ref 64, .int (nI t), .ref p, .int (nI k)] [] h0 (fun r h2 => r = some (.int (nsF rs rm nu (nI t))) ∧ h2 = h0) := by
          intro m
          induction m with
          | zero =>
            intro k hk hok
            obtain rfl : k = n := by omega
            refine r_iload_n (pc2 := 50) 3 dX9_refuseSlept_49 rfl rfl rfl ?_
            refine r_aload_n (pc2 := 51) 2 dX9_refuseSlept_50 rfl rfl rfl rfl ?_
            refine r_getf (pc2 := 54) (v := .int (nI k)) fX9_217 dX9_refuseSlept_51 ct (by omega) rfl rfl ?_
            refine r_icmp_ge (tgt := 88) (pc2 := 57) dX9_refuseSlept_54 (by decide) rfl (fun b54 => ?_) (fun b54 => ?_)
            · skip
              refine r_iconst (pc2 := 89) (v := 0) dX9_refuseSlept_88 (by decide) rfl ?_
              exact r_iret rfl dX9_refuseSlept_89 ⟨by unfold nsF; rw [if_neg (fun z => z hno), nI_clamp (by omega), hn1, if_pos hin, if_pos (hnn ▸ hok)], rfl⟩
            · exact absurd (nI_le (Nat.le_refl _) (by omega)) b54
          | succ m ih =>
            intro k hk hok
            have hlt : k < n := by omega
            by_cases hw : lR 0 9 (nu (40 * t + k))
            · skip
              refine r_iload_n (pc2 := 50) 3 dX9_refuseSlept_49 rfl rfl rfl ?_
              refine r_aload_n (pc2 := 51) 2 dX9_refuseSlept_50 rfl rfl rfl rfl ?_
              refine r_getf (pc2 := 54) (v := .int (nI n)) fX9_217 dX9_refuseSlept_51 ct (by omega) rfl rfl ?_
              refine r_icmp_ge (tgt := 88) (pc2 := 57) dX9_refuseSlept_54 (by decide) rfl (fun b54 => ?_) (fun b54 => ?_)
              · exact absurd b54 (nI_ge hlt (by omega))
              · skip
                refine r_aload_n (pc2 := 58) 2 dX9_refuseSlept_57 rfl rfl rfl rfl ?_
                refine r_iload_n (pc2 := 59) 3 dX9_refuseSlept_58 rfl rfl rfl ?_
                refine r_callV1 (pc2 := 62) (As := [.int (nI k)]) (st := []) kX9_220 rfl rfl dX9_refuseSlept_59 ct (by omega) rfl rfl (Nat.le_of_ble_eq_true rfl) (by omega) ((c_tget ct cv (by omega) (by omega) hlt hn40).mono fun r h2 q => ⟨q.1.trans (by rw [q3 k hlt]), q.2⟩) rfl (fun h2 hq59 => ?_)
                obtain rfl := hq59.symm
                refine r_lconst (pc2 := 63) (v := 0) dX9_refuseSlept_62 (by decide) rfl ?_
                refine r_lcmp (pc2 := 64) dX9_refuseSlept_63 rfl ?_
                refine r_if_lt (tgt := 79) (pc2 := 67) dX9_refuseSlept_64 (by decide) rfl (fun b64 => ?_) (fun b64 => ?_)
                · exact absurd ((lgc_lt _ _).mp b64) (Int64.not_lt.mpr hw.1)
                · skip
                  refine r_aload_n (pc2 := 68) 2 dX9_refuseSlept_67 rfl rfl rfl rfl ?_
                  refine r_iload_n (pc2 := 69) 3 dX9_refuseSlept_68 rfl rfl rfl ?_
                  refine r_callV1 (pc2 := 72) (As := [.int (nI k)]) (st := []) kX9_220 rfl rfl dX9_refuseSlept_69 ct (by omega) rfl rfl (Nat.le_of_ble_eq_true rfl) (by omega) ((c_tget ct cv (by omega) (by omega) hlt hn40).mono fun r h2 q => ⟨q.1.trans (by rw [q3 k hlt]), q.2⟩) rfl (fun h2 hq69 => ?_)
                  obtain rfl := hq69.symm
                  refine r_ldc2 (pc2 := 75) (v := 9) qX9_322 dX9_refuseSlept_72 rfl ?_
                  refine r_lcmp (pc2 := 76) dX9_refuseSlept_75 rfl ?_
                  refine r_if_le (tgt := 82) (pc2 := 79) dX9_refuseSlept_76 (by decide) rfl (fun b76 => ?_) (fun b76 => ?_)
                  · skip
                    obtain ⟨x82, e82⟩ : ∃ z : Int32, z = (nI k) + (1) := ⟨_, rfl⟩
                    refine r_iinc (pc2 := 85) (ls2 := [.ref 64, .int (nI t), .ref p, .int x82]) (v := x82) 3 dX9_refuseSlept_82 rfl (by rw [e82]; rfl) rfl rfl rfl ?_
                    refine r_goto (pc2 := 49) dX9_refuseSlept_85 (by decide) ?_
                    rw [e82, nI_1]
                    exact ih (k + 1) (by omega) (fun i hi => by rcases Nat.lt_succ_iff_lt_or_eq.mp hi with z | z; exact hok i z; rw [z]; exact hw)
                  · exact absurd ((lgc_le _ _).mpr hw.2) b76
            · skip
              refine r_iload_n (pc2 := 50) 3 dX9_refuseSlept_49 rfl rfl rfl ?_
              refine r_aload_n (pc2 := 51) 2 dX9_refuseSlept_50 rfl rfl rfl rfl ?_
              refine r_getf (pc2 := 54) (v := .int (nI n)) fX9_217 dX9_refuseSlept_51 ct (by omega) rfl rfl ?_
              refine r_icmp_ge (tgt := 88) (pc2 := 57) dX9_refuseSlept_54 (by decide) rfl (fun b54 => ?_) (fun b54 => ?_)
              · exact absurd b54 (nI_ge hlt (by omega))
              · skip
                refine r_aload_n (pc2 := 58) 2 dX9_refuseSlept_57 rfl rfl rfl rfl ?_
                refine r_iload_n (pc2 := 59) 3 dX9_refuseSlept_58 rfl rfl rfl ?_
                refine r_callV1 (pc2 := 62) (As := [.int (nI k)]) (st := []) kX9_220 rfl rfl dX9_refuseSlept_59 ct (by omega) rfl rfl (Nat.le_of_ble_eq_true rfl) (by omega) ((c_tget ct cv (by omega) (by omega) hlt hn40).mono fun r h2 q => ⟨q.1.trans (by rw [q3 k hlt]), q.2⟩) rfl (fun h2 hq59 => ?_)
                obtain rfl := hq59.symm
                refine r_lconst (pc2 := 63) (v := 0) dX9_refuseSlept_62 (by decide) rfl ?_
                refine r_lcmp (pc2 := 64) dX9_refuseSlept_63 rfl ?_
                refine r_if_lt (tgt := 79) (pc2 := 67) dX9_refuseSlept_64 (by decide) rfl (fun b64 => ?_) (fun b64 => ?_)
                · skip
                  refine r_bipush (pc2 := 81) (v := -3) dX9_refuseSlept_79 (by decide) rfl ?_
                  exact r_iret rfl dX9_refuseSlept_81 ⟨by unfold nsF; rw [if_neg (fun z => z hno), nI_clamp (by omega), hn1, if_pos hin, if_neg (fun z => hw (z k (hnn ▸ hlt)))], rfl⟩
                · skip
                  refine r_aload_n (pc2 := 68) 2 dX9_refuseSlept_67 rfl rfl rfl rfl ?_
                  refine r_iload_n (pc2 := 69) 3 dX9_refuseSlept_68 rfl rfl rfl ?_
                  refine r_callV1 (pc2 := 72) (As := [.int (nI k)]) (st := []) kX9_220 rfl rfl dX9_refuseSlept_69 ct (by omega) rfl rfl (Nat.le_of_ble_eq_true rfl) (by omega) ((c_tget ct cv (by omega) (by omega) hlt hn40).mono fun r h2 q => ⟨q.1.trans (by rw [q3 k hlt]), q.2⟩) rfl (fun h2 hq69 => ?_)
                  obtain rfl := hq69.symm
                  refine r_ldc2 (pc2 := 75) (v := 9) qX9_322 dX9_refuseSlept_72 rfl ?_
                  refine r_lcmp (pc2 := 76) dX9_refuseSlept_75 rfl ?_
                  refine r_if_le (tgt := 82) (pc2 := 79) dX9_refuseSlept_76 (by decide) rfl (fun b76 => ?_) (fun b76 => ?_)
                  · exact absurd ⟨Int64.not_lt.mp (fun z => b64 ((lgc_lt _ _).mpr z)), (lgc_le _ _).mp b76⟩ hw
                  · skip
                    refine r_bipush (pc2 := 81) (v := -3) dX9_refuseSlept_79 (by decide) rfl ?_
                    exact r_iret rfl dX9_refuseSlept_81 ⟨by unfold nsF; rw [if_neg (fun z => z hno), nI_clamp (by omega), hn1, if_pos hin, if_neg (fun z => hw (z k (hnn ▸ hlt)))], rfl⟩
        refine Cn.go (ls := [.ref 64, .int (nI t), .float 0, .float 0]) (by decide +kernel) rfl (Nat.le_of_ble_eq_true rfl) ?_
        refine r_iload_n (pc2 := 1) 1 dX9_refuseSlept_0 rfl rfl rfl ?_
        refine r_callS1 (pc2 := 4) (As := [.int (nI t)]) (st := []) kX9_210 dX9_refuseSlept_1 rfl rfl (Nat.le_of_ble_eq_true rfl) (by omega) (c_isTray.mono fun r h2 q => ⟨q.1.trans (by rw [if_pos hx]), q.2⟩) rfl (fun h2 hq1 => ?_)
        obtain rfl := hq1.symm
        refine r_if_ne (tgt := 10) (pc2 := 7) dX9_refuseSlept_4 (by decide) rfl (fun b4 => ?_) (fun b4 => ?_)
        · skip
          refine r_aload_n (pc2 := 11) 0 dX9_refuseSlept_10 rfl rfl rfl rfl ?_
          refine r_getf (pc2 := 14) (v := .ref 81) fX9_48 dX9_refuseSlept_11 c64 (by decide) rfl rfl ?_
          refine r_iload_n (pc2 := 15) 1 dX9_refuseSlept_14 rfl rfl rfl ?_
          refine r_aald (pc2 := 16) dX9_refuseSlept_15 c81 (by decide) (by decide) (nI_vp (j := t) rfl (by omega) (by decide)).1 (by rw [nI_clamp (by omega), hf t ht, hp]) (by omega) rfl ?_
          refine r_astore_n (pc2 := 17) (ls2 := [.ref 64, .int (nI t), .ref p, .float 0]) 2 dX9_refuseSlept_16 rfl (by decide) rfl rfl rfl rfl ?_
          refine r_aload_n (pc2 := 18) 2 dX9_refuseSlept_17 rfl rfl rfl rfl ?_
          refine r_getf (pc2 := 21) (v := .int 0) fX9_213 dX9_refuseSlept_18 ct (by omega) rfl rfl ?_
          refine r_if_eq (tgt := 27) (pc2 := 24) dX9_refuseSlept_21 (by decide) rfl (fun b21 => ?_) (fun b21 => ?_)
          · skip
            refine r_aload_n (pc2 := 28) 2 dX9_refuseSlept_27 rfl rfl rfl rfl ?_
            refine r_getf (pc2 := 31) (v := .int (nI n)) fX9_217 dX9_refuseSlept_28 ct (by omega) rfl rfl ?_
            refine r_iconst (pc2 := 32) (v := 1) dX9_refuseSlept_31 (by decide) rfl ?_
            refine r_icmp_lt (tgt := 44) (pc2 := 35) dX9_refuseSlept_32 (by decide) rfl (fun b32 => ?_) (fun b32 => ?_)
            · exact absurd b32 (nI_nlt (b := 1) (by omega) (by omega))
            · skip
              refine r_aload_n (pc2 := 36) 2 dX9_refuseSlept_35 rfl rfl rfl rfl ?_
              refine r_getf (pc2 := 39) (v := .int (nI n)) fX9_217 dX9_refuseSlept_36 ct (by omega) rfl rfl ?_
              refine r_bipush (pc2 := 41) (v := 10) dX9_refuseSlept_39 (by decide) rfl ?_
              refine r_icmp_le (tgt := 47) (pc2 := 44) dX9_refuseSlept_41 (by decide) rfl (fun b41 => ?_) (fun b41 => ?_)
              · skip
                refine r_iconst (pc2 := 48) (v := 0) dX9_refuseSlept_47 (by decide) rfl ?_
                refine r_cast (nI 0) (rfl) ?_
                refine r_istore_n (pc2 := 49) (ls2 := [.ref 64, .int (nI t), .ref p, .int (nI 0)]) 3 dX9_refuseSlept_48 rfl (by decide) rfl rfl rfl ?_
                exact loop n 0 (by omega) (fun i hi => absurd hi (Nat.not_lt_zero _))
              · exact absurd (nI_le (b := 10) (by omega) (by decide)) b41
          · exact absurd b21 (by decide)
        · exact absurd b4 (by decide)
      · skip
        refine Cn.go (ls := [.ref 64, .int (nI t), .float 0, .float 0]) (by decide +kernel) rfl (Nat.le_of_ble_eq_true rfl) ?_
        refine r_iload_n (pc2 := 1) 1 dX9_refuseSlept_0 rfl rfl rfl ?_
        refine r_callS1 (pc2 := 4) (As := [.int (nI t)]) (st := []) kX9_210 dX9_refuseSlept_1 rfl rfl (Nat.le_of_ble_eq_true rfl) (by omega) (c_isTray.mono fun r h2 q => ⟨q.1.trans (by rw [if_pos hx]), q.2⟩) rfl (fun h2 hq1 => ?_)
        obtain rfl := hq1.symm
        refine r_if_ne (tgt := 10) (pc2 := 7) dX9_refuseSlept_4 (by decide) rfl (fun b4 => ?_) (fun b4 => ?_)
        · skip
          refine r_aload_n (pc2 := 11) 0 dX9_refuseSlept_10 rfl rfl rfl rfl ?_
          refine r_getf (pc2 := 14) (v := .ref 81) fX9_48 dX9_refuseSlept_11 c64 (by decide) rfl rfl ?_
          refine r_iload_n (pc2 := 15) 1 dX9_refuseSlept_14 rfl rfl rfl ?_
          refine r_aald (pc2 := 16) dX9_refuseSlept_15 c81 (by decide) (by decide) (nI_vp (j := t) rfl (by omega) (by decide)).1 (by rw [nI_clamp (by omega), hf t ht, hp]) (by omega) rfl ?_
          refine r_astore_n (pc2 := 17) (ls2 := [.ref 64, .int (nI t), .ref p, .float 0]) 2 dX9_refuseSlept_16 rfl (by decide) rfl rfl rfl rfl ?_
          refine r_aload_n (pc2 := 18) 2 dX9_refuseSlept_17 rfl rfl rfl rfl ?_
          refine r_getf (pc2 := 21) (v := .int 0) fX9_213 dX9_refuseSlept_18 ct (by omega) rfl rfl ?_
          refine r_if_eq (tgt := 27) (pc2 := 24) dX9_refuseSlept_21 (by decide) rfl (fun b21 => ?_) (fun b21 => ?_)
          · skip
            refine r_aload_n (pc2 := 28) 2 dX9_refuseSlept_27 rfl rfl rfl rfl ?_
            refine r_getf (pc2 := 31) (v := .int (nI n)) fX9_217 dX9_refuseSlept_28 ct (by omega) rfl rfl ?_
            refine r_iconst (pc2 := 32) (v := 1) dX9_refuseSlept_31 (by decide) rfl ?_
            refine r_icmp_lt (tgt := 44) (pc2 := 35) dX9_refuseSlept_32 (by decide) rfl (fun b32 => ?_) (fun b32 => ?_)
            · skip
              refine r_bipush (pc2 := 46) (v := -4) dX9_refuseSlept_44 (by decide) rfl ?_
              exact r_iret rfl dX9_refuseSlept_46 ⟨by unfold nsF; rw [if_neg (fun z => z hno), nI_clamp (by omega), hn1, if_neg hin], rfl⟩
            · skip
              refine r_aload_n (pc2 := 36) 2 dX9_refuseSlept_35 rfl rfl rfl rfl ?_
              refine r_getf (pc2 := 39) (v := .int (nI n)) fX9_217 dX9_refuseSlept_36 ct (by omega) rfl rfl ?_
              refine r_bipush (pc2 := 41) (v := 10) dX9_refuseSlept_39 (by decide) rfl ?_
              refine r_icmp_le (tgt := 47) (pc2 := 44) dX9_refuseSlept_41 (by decide) rfl (fun b41 => ?_) (fun b41 => ?_)
              · exact absurd (inR_of2 b32 b41) hin
              · skip
                refine r_bipush (pc2 := 46) (v := -4) dX9_refuseSlept_44 (by decide) rfl ?_
                exact r_iret rfl dX9_refuseSlept_46 ⟨by unfold nsF; rw [if_neg (fun z => z hno), nI_clamp (by omega), hn1, if_neg hin], rfl⟩
          · exact absurd b21 (by decide)
        · exact absurd b4 (by decide)
  · have hno : noTrayF rs x = -2 := by unfold noTrayF; rw [if_neg hx]
    refine Cn.go (ls := [.ref 64, .int x, .float 0, .float 0]) (by decide +kernel) rfl (Nat.le_of_ble_eq_true rfl) ?_
    refine r_iload_n (pc2 := 1) 1 dX9_refuseSlept_0 rfl rfl rfl ?_
    refine r_callS1 (pc2 := 4) (As := [.int x]) (st := []) kX9_210 dX9_refuseSlept_1 rfl rfl (Nat.le_of_ble_eq_true rfl) (by omega) (c_isTray.mono fun r h2 q => ⟨q.1.trans (by rw [if_neg hx]), q.2⟩) rfl (fun h2 hq1 => ?_)
    obtain rfl := hq1.symm
    refine r_if_ne (tgt := 10) (pc2 := 7) dX9_refuseSlept_4 (by decide) rfl (fun b4 => ?_) (fun b4 => ?_)
    · exact absurd b4 (by decide)
    · skip
      refine r_bipush (pc2 := 9) (v := -2) dX9_refuseSlept_7 (by decide) rfl ?_
      exact r_iret rfl dX9_refuseSlept_9 ⟨by unfold nsF; rw [hno, if_pos (by decide)], rfl⟩
set_option maxRecDepth 20000 in
set_option maxHeartbeats 1000000 in
theorem c_sleptBy {E : EnvT} {d : Nat} {h0 : Hp} {ns s w1 w2 : Nat} {wk dt : Value} {Z : Nat → Prop} {reg : Nat → FR} {sg kd : Nat} {a b : FR} {nu : Nat → Int64} {un dr t n p q : Nat} {so : Int32} {vv : Nat → Int64} (c64 : h0.1 64 = some (.inr (9, coL s ns un w1 w2 wk dt))) (c76 : h0.1 76 = some (.inr (5, sdL (keepV a)))) (ct : h0.1 p = some (.inr (7, [.int 0, .int so, .int (nI n), .ref q]))) (cv : h0.1 q = some (aL 40 vv)) (hp : 109 ≤ p ∧ p ≤ 116) (hq : 109 ≤ q ∧ q ≤ 116) (q3 : ∀ j, j < n → vv j = nu (40 * t + j)) (hn40 : n ≤ 40) (hD : DV Z h0 reg ns s sg kd b) (hA : AIN a) (hst : Stat a b) (hdr : dr ≤ 9) (hd : 4 ≤ d) : Cn E mX9_sleptBy d [.ref 64, .int (nI dr), .ref p] h0 (QS1 [] Z reg ns s sg b h0 kd (.int (if isD a nu t n dr then (1 : Int32) else 0))) := by
  have hn0 := hD.n
  have hk0 := hD.k0
  obtain ⟨⟨V0, V1, V2, c82⟩, _⟩ := id hD.1
  obtain ⟨lo, so9, sa, nl, sl, cs⟩ := hD.cs
  have loop : ∀ (m k : Nat) (h : Hp) (kd1 : Nat), k + m = n → (∀ i, i < k → lN (slS a dr (i + 1) / 4096) = nu (40 * t + i)) → GQ [] kd h0 h kd1 → LQ Z h reg ns s sg dr kd1 b → h.1 64 = some (.inr (9, coL s ns un w1 w2 wk dt)) → h.1 76 = some (.inr (5, sdL (keepV a))) → h.1 p = some (.inr (7, [.int 0, .int so, .int (nI n), .ref q])) → h.1 q = some (aL 40 vv) → Fr E mX9_sleptBy d 23 [.ref 64, .int (nI dr), .ref p, .int (nI (slS a dr k / 4096)), .int (nI k)] [] h (QS1 [] Z reg ns s sg b h0 kd (.int (if isD a nu t n dr then (1 : Int32) else 0))) := by
    intro m
    induction m with
    | zero =>
      intro k h kd1 hk hok hQ hL c64 c76 ct cv
      obtain rfl : k = n := by omega
      refine r_iload (pc2 := 25) 4 dX9_sleptBy_23 rfl rfl ?_
      refine r_aload_n (pc2 := 26) 2 dX9_sleptBy_25 rfl rfl rfl rfl ?_
      refine r_getf (pc2 := 29) (v := .int (nI k)) fX9_217 dX9_sleptBy_26 ct (by omega) rfl rfl ?_
      refine r_icmp_ge (tgt := 74) (pc2 := 32) dX9_sleptBy_29 (by decide) rfl (fun b29 => ?_) (fun b29 => ?_)
      · skip
        refine r_iconst (pc2 := 75) (v := 1) dX9_sleptBy_74 (by decide) rfl ?_
        exact r_zret (ty := .boolean) rfl (by decide) dX9_sleptBy_75 ⟨by rw [if_pos hok], kd1, hQ, hL.dv⟩
      · exact absurd (nI_le (Nat.le_refl _) (by omega)) b29
    | succ m ih =>
      intro k h kd1 hk hok hQ hL c64 c76 ct cv
      have hlt : k < n := by omega
      have hs9 : slS a dr k / 4096 ≤ 9 := by have := slS_lt hA dr k; omega
      have hs91 : slS a dr (k + 1) / 4096 ≤ 9 := by have := slS_lt hA dr (k + 1); omega
      have tail : ∀ (h : Hp), GQ [] kd h0 h kd1 → LQ Z h reg ns s sg dr kd1 b → h.1 64 = some (.inr (9, coL s ns un w1 w2 wk dt)) → h.1 76 = some (.inr (5, sdL (keepV a))) → h.1 p = some (.inr (7, [.int 0, .int so, .int (nI n), .ref q])) → h.1 q = some (aL 40 vv) → Fr E mX9_sleptBy d 54 [.ref 64, .int (nI dr), .ref p, .int (nI (slS a dr (k + 1) / 4096)), .int (nI k)] [] h (QS1 [] Z reg ns s sg b h0 kd (.int (if isD a nu t n dr then (1 : Int32) else 0))) := by
        intro h hQ hL c64 c76 ct cv
        by_cases he : lN (slS a dr (k + 1) / 4096) = nu (40 * t + k)
        · skip
          refine r_aload_n (pc2 := 55) 2 dX9_sleptBy_54 rfl rfl rfl rfl ?_
          refine r_iload (pc2 := 57) 4 dX9_sleptBy_55 rfl rfl ?_
          refine r_callV1 (pc2 := 60) (As := [.int (nI k)]) (st := []) kX9_220 rfl rfl dX9_sleptBy_57 ct (by omega) rfl rfl (Nat.le_of_ble_eq_true rfl) (by omega) ((c_tget ct cv (by omega) (by omega) hlt hn40).mono fun r h2 q => ⟨q.1.trans (by rw [q3 k hlt]), q.2⟩) rfl (fun h2 hq57 => ?_)
          obtain rfl := hq57.symm
          refine r_iload_n (pc2 := 61) 3 dX9_sleptBy_60 rfl rfl rfl ?_
          refine r_i2l (pc2 := 62) dX9_sleptBy_61 rfl ?_
          refine r_castl (lN (slS a dr (k + 1) / 4096)) (nI_l (by omega)) ?_
          refine r_lcmp (pc2 := 63) dX9_sleptBy_62 rfl ?_
          refine r_if_eq (tgt := 68) (pc2 := 66) dX9_sleptBy_63 (by decide) rfl (fun b63 => ?_) (fun b63 => ?_)
          · skip
            obtain ⟨x68, e68⟩ : ∃ z : Int32, z = (nI k) + (1) := ⟨_, rfl⟩
            refine r_iinc (pc2 := 71) (ls2 := [.ref 64, .int (nI dr), .ref p, .int (nI (slS a dr (k + 1) / 4096)), .int x68]) (v := x68) 4 dX9_sleptBy_68 rfl (by rw [e68]; rfl) rfl rfl rfl ?_
            refine r_goto (pc2 := 23) dX9_sleptBy_71 (by decide) ?_
            rw [e68, nI_1]
            exact ih (k + 1) h kd1 (by omega) (fun i hi => by rcases Nat.lt_succ_iff_lt_or_eq.mp hi with z | z; exact hok i z; rw [z]; exact he) hQ hL c64 c76 ct cv
          · exact absurd ((lgc_eq _ _).mpr he.symm) b63
        · skip
          refine r_aload_n (pc2 := 55) 2 dX9_sleptBy_54 rfl rfl rfl rfl ?_
          refine r_iload (pc2 := 57) 4 dX9_sleptBy_55 rfl rfl ?_
          refine r_callV1 (pc2 := 60) (As := [.int (nI k)]) (st := []) kX9_220 rfl rfl dX9_sleptBy_57 ct (by omega) rfl rfl (Nat.le_of_ble_eq_true rfl) (by omega) ((c_tget ct cv (by omega) (by omega) hlt hn40).mono fun r h2 q => ⟨q.1.trans (by rw [q3 k hlt]), q.2⟩) rfl (fun h2 hq57 => ?_)
          obtain rfl := hq57.symm
          refine r_iload_n (pc2 := 61) 3 dX9_sleptBy_60 rfl rfl rfl ?_
          refine r_i2l (pc2 := 62) dX9_sleptBy_61 rfl ?_
          refine r_castl (lN (slS a dr (k + 1) / 4096)) (nI_l (by omega)) ?_
          refine r_lcmp (pc2 := 63) dX9_sleptBy_62 rfl ?_
          refine r_if_eq (tgt := 68) (pc2 := 66) dX9_sleptBy_63 (by decide) rfl (fun b63 => ?_) (fun b63 => ?_)
          · exact absurd ((lgc_eq _ _).mp b63).symm he
          · skip
            refine r_iconst (pc2 := 67) (v := 0) dX9_sleptBy_66 (by decide) rfl ?_
            exact r_zret (ty := .boolean) rfl (by decide) dX9_sleptBy_67 ⟨by rw [if_neg (fun z => he (z k hlt))], kd1, hQ, hL.dv⟩
      have hk1 := hL.dv.k0
      have hn1 := hL.dv.n
      by_cases hz : slS a dr k / 4096 = 0
      · skip
        refine r_iload (pc2 := 25) 4 dX9_sleptBy_23 rfl rfl ?_
        refine r_aload_n (pc2 := 26) 2 dX9_sleptBy_25 rfl rfl rfl rfl ?_
        refine r_getf (pc2 := 29) (v := .int (nI n)) fX9_217 dX9_sleptBy_26 ct (by omega) rfl rfl ?_
        refine r_icmp_ge (tgt := 74) (pc2 := 32) dX9_sleptBy_29 (by decide) rfl (fun b29 => ?_) (fun b29 => ?_)
        · exact absurd b29 (nI_ge hlt (by omega))
        · skip
          refine r_iload_n (pc2 := 33) 3 dX9_sleptBy_32 rfl rfl rfl ?_
          refine r_if_le (tgt := 54) (pc2 := 36) dX9_sleptBy_33 (by decide) rfl (fun b33 => ?_) (fun b33 => ?_)
          · skip
            have t9 := tail h hQ hL c64 c76 ct cv
            rw [show slS a dr (k + 1) = slS a dr k by rw [slS, if_pos hz]] at t9
            exact t9
          · exact absurd (by rw [hz]; decide) b33
      · skip
        refine r_iload (pc2 := 25) 4 dX9_sleptBy_23 rfl rfl ?_
        refine r_aload_n (pc2 := 26) 2 dX9_sleptBy_25 rfl rfl rfl rfl ?_
        refine r_getf (pc2 := 29) (v := .int (nI n)) fX9_217 dX9_sleptBy_26 ct (by omega) rfl rfl ?_
        refine r_icmp_ge (tgt := 74) (pc2 := 32) dX9_sleptBy_29 (by decide) rfl (fun b29 => ?_) (fun b29 => ?_)
        · exact absurd b29 (nI_ge hlt (by omega))
        · skip
          refine r_iload_n (pc2 := 33) 3 dX9_sleptBy_32 rfl rfl rfl ?_
          refine r_if_le (tgt := 54) (pc2 := 36) dX9_sleptBy_33 (by decide) rfl (fun b33 => ?_) (fun b33 => ?_)
          · exact absurd b33 (nI_nle (by omega) (by omega))
          · skip
            refine r_aload_n (pc2 := 37) 0 dX9_sleptBy_36 rfl rfl rfl rfl ?_
            refine r_getf (pc2 := 40) (v := .ref 82) fX9_55 dX9_sleptBy_37 c64 (by decide) rfl rfl ?_
            refine r_aload_n (pc2 := 41) 0 dX9_sleptBy_40 rfl rfl rfl rfl ?_
            refine r_getf (pc2 := 44) (v := .ref 76) fX9_28 dX9_sleptBy_41 c64 (by decide) rfl rfl ?_
            refine r_getf (pc2 := 47) (v := .int (nI (tow (keepV a)))) fX9_114 dX9_sleptBy_44 c76 (by decide) rfl rfl ?_
            refine r_iload_n (pc2 := 48) 3 dX9_sleptBy_47 rfl rfl rfl ?_
            refine r_iconst (pc2 := 49) (v := 0) dX9_sleptBy_48 (by decide) rfl ?_
            refine r_iconst (pc2 := 50) (v := 0) dX9_sleptBy_49 (by decide) rfl ?_
            refine r_callV1 (pc2 := 53) (As := [.int (nI (tow (keepV a))), .int (nI (slS a dr k / 4096)), .int 0, .int 0]) (st := []) kX9_152 rfl rfl dX9_sleptBy_50 hL.1.1 (by decide) rfl rfl (Nat.le_of_ble_eq_true rfl) (by omega) ((c_depthQ (a := a) (s := (slS a dr k)) (sn := 0) (o := 0) hL hst (fun g hg => by rw [dig_mod (slS_mod a dr k) g hg]; exact dig_le hA g hg) (by omega) (by omega) (fun g _ z => no_bit0 g z) (by omega) (by rw [tow_tws hA, tws_mod (slS_mod a dr k)]) rfl rfl rfl (by omega)).mono fun r h2 z => ⟨z.1.trans (by rw [show hourN a (slS a dr k) 0 0 dr / 4096 = (slS a dr (k + 1) / 4096) from (by rw [slS, if_neg hz])]), z.2⟩) rfl (fun h hq50 => ?_)
            obtain ⟨hxd, hL⟩ := hq50
            have c64 := hxd.get (by simp <;> omega) c64
            have c76 := hxd.get (by simp <;> omega) c76
            have ct := hxd.get (by simp <;> omega) ct
            have cv := hxd.get (by simp <;> omega) cv
            have hQ := hQ.dp hxd
            refine r_istore_n (pc2 := 54) (ls2 := [.ref 64, .int (nI dr), .ref p, .int (nI (slS a dr (k + 1) / 4096)), .int (nI k)]) 3 dX9_sleptBy_53 rfl (by decide) rfl rfl rfl ?_
            exact tail h hQ hL c64 c76 ct cv
  refine Cn.go (ls := [.ref 64, .int (nI dr), .ref p, .float 0, .float 0]) (by decide +kernel) rfl (Nat.le_of_ble_eq_true rfl) ?_
  refine r_aload_n (pc2 := 1) 0 dX9_sleptBy_0 rfl rfl rfl rfl ?_
  refine r_getf (pc2 := 4) (v := .ref 82) fX9_55 dX9_sleptBy_1 c64 (by decide) rfl rfl ?_
  refine r_aload_n (pc2 := 5) 0 dX9_sleptBy_4 rfl rfl rfl rfl ?_
  refine r_getf (pc2 := 8) (v := .ref s) fX9_21 dX9_sleptBy_5 c64 (by decide) rfl rfl ?_
  refine r_iload_n (pc2 := 9) 1 dX9_sleptBy_8 rfl rfl rfl ?_
  refine r_callV0 (pc2 := 12) (As := [.ref s, .int (nI dr)]) (st := []) kX9_130 rfl rfl dX9_sleptBy_9 c82 (by decide) rfl rfl (Nat.le_of_ble_eq_true rfl) (by omega) (c_takeQ (dr := dr) hD hdr rfl) rfl (fun h hq9 => ?_)
  obtain ⟨kd2, hKQ, hL, hg1⟩ := hq9
  have c64 := hg1.get (by simp <;> omega) (by omega) c64
  have c76 := hg1.get (by simp <;> omega) (by omega) c76
  have ct := hg1.get (by simp <;> omega) (by omega) ct
  have cv := hg1.get (by simp <;> omega) (by omega) cv
  have hQ := (GQ.rf (S := []) (kd := kd) (h := h0)).tk hKQ hg1 hn0
  refine r_aload_n (pc2 := 13) 0 dX9_sleptBy_12 rfl rfl rfl rfl ?_
  refine r_getf (pc2 := 16) (v := .ref 76) fX9_28 dX9_sleptBy_13 c64 (by decide) rfl rfl ?_
  refine r_getf (pc2 := 19) (v := .int (nI ((keepV a) 4))) fX9_137 dX9_sleptBy_16 c76 (by decide) rfl rfl ?_
  refine r_istore_n (pc2 := 20) (ls2 := [.ref 64, .int (nI dr), .ref p, .int (nI ((keepV a) 4)), .float 0]) 3 dX9_sleptBy_19 rfl (by decide) rfl rfl rfl ?_
  skip
  refine r_iconst (pc2 := 21) (v := 0) dX9_sleptBy_20 (by decide) rfl ?_
  refine r_cast (nI 0) (rfl) ?_
  refine r_istore (pc2 := 23) (ls2 := [.ref 64, .int (nI dr), .ref p, .int (nI ((keepV a) 4)), .int (nI 0)]) 4 dX9_sleptBy_21 (by decide) rfl rfl rfl ?_
  have h9 := loop n 0 h kd2 (by omega) (fun i hi => absurd hi (Nat.not_lt_zero _)) hQ hL c64 c76 ct cv
  rw [show slS a dr 0 / 4096 = (keepV a) 4 from hA.pdep] at h9
  exact h9
theorem drO_s1 {a : FR} {nu : Nat → Int64} {t n k : Nat} (h : isD a nu t n k) : drO a nu t n k ||| 2 ^ k = drO a nu t n (k + 1) := by
  rw [drO, if_pos h]
theorem drO_s0 {a : FR} {nu : Nat → Int64} {t n k : Nat} (h : ¬ isD a nu t n k) : drO a nu t n (k + 1) = drO a nu t n k := by
  rw [drO, if_neg h, Nat.or_zero]
set_option maxRecDepth 20000 in
set_option maxHeartbeats 1000000 in
theorem c_draughtsOfC {E : EnvT} {d : Nat} {h0 : Hp} {ns s w1 w2 : Nat} {wk dt : Value} {Z : Nat → Prop} {reg : Nat → FR} {sg kd : Nat} {a b : FR} {nu : Nat → Int64} {un t n p q : Nat} {so : Int32} {vv : Nat → Int64} (c64 : h0.1 64 = some (.inr (9, coL s ns un w1 w2 wk dt))) (c76 : h0.1 76 = some (.inr (5, sdL (keepV a)))) (ct : h0.1 p = some (.inr (7, [.int 0, .int so, .int (nI n), .ref q]))) (cv : h0.1 q = some (aL 40 vv)) (hp : 109 ≤ p ∧ p ≤ 116) (hq : 109 ≤ q ∧ q ≤ 116) (q3 : ∀ j, j < n → vv j = nu (40 * t + j)) (hn40 : n ≤ 40) (hD : DV Z h0 reg ns s sg kd b) (hA : AIN a) (hst : Stat a b) (hd : 5 ≤ d) : Cn E mX9_draughtsOf d [.ref 64, .ref p] h0 (QS1 [] Z reg ns s sg b h0 kd (.int (nI (drO a nu t n 10)))) := by
  have hn0 := hD.n
  have loop : ∀ (m k : Nat) (h : Hp) (kd1 : Nat), k + m = 10 → GQ [] kd h0 h kd1 → DV Z h reg ns s sg kd1 b → h.1 64 = some (.inr (9, coL s ns un w1 w2 wk dt)) → h.1 76 = some (.inr (5, sdL (keepV a))) → h.1 p = some (.inr (7, [.int 0, .int so, .int (nI n), .ref q])) → h.1 q = some (aL 40 vv) → Fr E mX9_draughtsOf d 4 [.ref 64, .ref p, .int (nI (drO a nu t n k)), .int (nI k)] [] h (QS1 [] Z reg ns s sg b h0 kd (.int (nI (drO a nu t n 10)))) := by
    intro m
    induction m with
    | zero =>
      intro k h kd1 hk hQ hD c64 c76 ct cv
      obtain rfl : k = 10 := by omega
      refine r_iload_n (pc2 := 5) 3 dX9_draughtsOf_4 rfl rfl rfl ?_
      refine r_bipush (pc2 := 7) (v := 10) dX9_draughtsOf_5 (by decide) rfl ?_
      refine r_icmp_ge (tgt := 31) (pc2 := 10) dX9_draughtsOf_7 (by decide) rfl (fun b7 => ?_) (fun b7 => ?_)
      · skip
        refine r_iload_n (pc2 := 32) 2 dX9_draughtsOf_31 rfl rfl rfl ?_
        exact r_iret rfl dX9_draughtsOf_32 ⟨rfl, kd1, hQ, hD⟩
      · exact absurd (by decide) b7
    | succ m ih =>
      intro k h kd1 hk hQ hD c64 c76 ct cv
      have hlt : k < 10 := by omega
      have hk1 := hD.k0
      have hn1 := hD.n
      by_cases hi : isD a nu t n k
      · skip
        refine r_iload_n (pc2 := 5) 3 dX9_draughtsOf_4 rfl rfl rfl ?_
        refine r_bipush (pc2 := 7) (v := 10) dX9_draughtsOf_5 (by decide) rfl ?_
        refine r_icmp_ge (tgt := 31) (pc2 := 10) dX9_draughtsOf_7 (by decide) rfl (fun b7 => ?_) (fun b7 => ?_)
        · exact absurd b7 (nI_ge (b := 10) hlt (by decide))
        · skip
          refine r_aload_n (pc2 := 11) 0 dX9_draughtsOf_10 rfl rfl rfl rfl ?_
          refine r_iload_n (pc2 := 12) 3 dX9_draughtsOf_11 rfl rfl rfl ?_
          refine r_aload_n (pc2 := 13) 1 dX9_draughtsOf_12 rfl rfl rfl rfl ?_
          refine r_callV1 (pc2 := 16) (As := [.int (nI k), .ref p]) (st := []) kX9_324 rfl rfl dX9_draughtsOf_13 c64 (by decide) rfl rfl (Nat.le_of_ble_eq_true rfl) (by omega) ((c_sleptBy (dr := k) c64 c76 ct cv hp hq q3 hn40 hD hA hst (by omega) (by omega)).mono fun r h2 z => ⟨z.1.trans (by rw [if_pos hi]), z.2⟩) rfl (fun h hq13 => ?_)
          obtain ⟨kd2, hQ2, hD⟩ := hq13
          have c64 := hQ2.get (by omega) (by simp) (by omega) c64
          have c76 := hQ2.get (by omega) (by simp) (by omega) c76
          have ct := hQ2.get (by omega) (by simp) (by omega) ct
          have cv := hQ2.get (by omega) (by simp) (by omega) cv
          have hQ := hQ.trans hQ2 hn0
          refine r_if_eq (tgt := 25) (pc2 := 19) dX9_draughtsOf_16 (by decide) rfl (fun b16 => ?_) (fun b16 => ?_)
          · exact absurd b16 (by decide)
          · skip
            refine r_iload_n (pc2 := 20) 2 dX9_draughtsOf_19 rfl rfl rfl ?_
            refine r_iconst (pc2 := 21) (v := 1) dX9_draughtsOf_20 (by decide) rfl ?_
            refine r_iload_n (pc2 := 22) 3 dX9_draughtsOf_21 rfl rfl rfl ?_
            refine r_ishl (pc2 := 23) dX9_draughtsOf_22 rfl ?_
            refine r_cast (nI (2 ^ k)) (shl1 k (by omega)) ?_
            refine r_ior (pc2 := 24) dX9_draughtsOf_23 rfl ?_
            refine r_cast (nI (drO a nu t n (k + 1))) (by rw [nI_or]; exact congrArg nI (drO_s1 hi)) ?_
            refine r_istore_n (pc2 := 25) (ls2 := [.ref 64, .ref p, .int (nI (drO a nu t n (k + 1))), .int (nI k)]) 2 dX9_draughtsOf_24 rfl (by decide) rfl rfl rfl ?_
            obtain ⟨x25, e25⟩ : ∃ z : Int32, z = (nI k) + (1) := ⟨_, rfl⟩
            refine r_iinc (pc2 := 28) (ls2 := [.ref 64, .ref p, .int (nI (drO a nu t n (k + 1))), .int x25]) (v := x25) 3 dX9_draughtsOf_25 rfl (by rw [e25]; rfl) rfl rfl rfl ?_
            refine r_goto (pc2 := 4) dX9_draughtsOf_28 (by decide) ?_
            rw [e25, nI_1]
            exact ih (k + 1) h kd2 (by omega) hQ hD c64 c76 ct cv
      · skip
        refine r_iload_n (pc2 := 5) 3 dX9_draughtsOf_4 rfl rfl rfl ?_
        refine r_bipush (pc2 := 7) (v := 10) dX9_draughtsOf_5 (by decide) rfl ?_
        refine r_icmp_ge (tgt := 31) (pc2 := 10) dX9_draughtsOf_7 (by decide) rfl (fun b7 => ?_) (fun b7 => ?_)
        · exact absurd b7 (nI_ge (b := 10) hlt (by decide))
        · skip
          refine r_aload_n (pc2 := 11) 0 dX9_draughtsOf_10 rfl rfl rfl rfl ?_
          refine r_iload_n (pc2 := 12) 3 dX9_draughtsOf_11 rfl rfl rfl ?_
          refine r_aload_n (pc2 := 13) 1 dX9_draughtsOf_12 rfl rfl rfl rfl ?_
          refine r_callV1 (pc2 := 16) (As := [.int (nI k), .ref p]) (st := []) kX9_324 rfl rfl dX9_draughtsOf_13 c64 (by decide) rfl rfl (Nat.le_of_ble_eq_true rfl) (by omega) ((c_sleptBy (dr := k) c64 c76 ct cv hp hq q3 hn40 hD hA hst (by omega) (by omega)).mono fun r h2 z => ⟨z.1.trans (by rw [if_neg hi]), z.2⟩) rfl (fun h hq13 => ?_)
          obtain ⟨kd2, hQ2, hD⟩ := hq13
          have c64 := hQ2.get (by omega) (by simp) (by omega) c64
          have c76 := hQ2.get (by omega) (by simp) (by omega) c76
          have ct := hQ2.get (by omega) (by simp) (by omega) ct
          have cv := hQ2.get (by omega) (by simp) (by omega) cv
          have hQ := hQ.trans hQ2 hn0
          refine r_if_eq (tgt := 25) (pc2 := 19) dX9_draughtsOf_16 (by decide) rfl (fun b16 => ?_) (fun b16 => ?_)
          · skip
            obtain ⟨x25, e25⟩ : ∃ z : Int32, z = (nI k) + (1) := ⟨_, rfl⟩
            refine r_iinc (pc2 := 28) (ls2 := [.ref 64, .ref p, .int (nI (drO a nu t n k)), .int x25]) (v := x25) 3 dX9_draughtsOf_25 rfl (by rw [e25]; rfl) rfl rfl rfl ?_
            refine r_goto (pc2 := 4) dX9_draughtsOf_28 (by decide) ?_
            rw [e25, nI_1, ← drO_s0 hi]
            exact ih (k + 1) h kd2 (by omega) hQ hD c64 c76 ct cv
          · exact absurd b16 (by decide)
  refine Cn.go (ls := [.ref 64, .ref p, .float 0, .float 0]) (by decide +kernel) rfl (Nat.le_of_ble_eq_true rfl) ?_
  refine r_iconst (pc2 := 1) (v := 0) dX9_draughtsOf_0 (by decide) rfl ?_
  refine r_cast (nI 0) (rfl) ?_
  refine r_istore_n (pc2 := 2) (ls2 := [.ref 64, .ref p, .int (nI 0), .float 0]) 2 dX9_draughtsOf_1 rfl (by decide) rfl rfl rfl ?_
  refine r_iconst (pc2 := 3) (v := 0) dX9_draughtsOf_2 (by decide) rfl ?_
  refine r_cast (nI 0) (rfl) ?_
  refine r_istore_n (pc2 := 4) (ls2 := [.ref 64, .ref p, .int (nI 0), .int (nI 0)]) 3 dX9_draughtsOf_3 rfl (by decide) rfl rfl rfl ?_
  exact loop 10 0 h0 kd (by omega) GQ.rf hD c64 c76 ct cv
set_option maxRecDepth 20000 in
set_option maxHeartbeats 1000000 in
theorem cl_draughts {E : EnvT} {d : Nat} {h0 : Hp} {ns s w1 w2 : Nat} {wk dt : Value} {Z : Nat → Prop} {reg : Nat → FR} {sg kd : Nat} {a b : FR} {rs rm : Nat → Int32} {nu : Nat → Int64} {x : Int32} (hN : NW h0 s ns w1 w2 wk dt a) (hD : DV Z h0 reg ns s sg kd b) (hA : AIN a) (hst : Stat a b) (hMT : MT h0 rs rm nu) (hT : TOK rs rm) (hd : 7 ≤ d) : Cn E mX9_draughts d [.ref 64, .int x] h0 (QS1 [] Z reg ns s sg b h0 kd (.int (drF a rs rm nu x))) := by
  obtain ⟨c64, c76, _, _⟩ := id hN
  by_cases hns0 : nsF rs rm nu x ≠ 0
  · skip
    refine Cn.go (ls := [.ref 64, .int x, .float 0]) (by decide +kernel) rfl (Nat.le_of_ble_eq_true rfl) ?_
    refine r_aload_n (pc2 := 1) 0 dX9_draughts_0 rfl rfl rfl rfl ?_
    refine r_iload_n (pc2 := 2) 1 dX9_draughts_1 rfl rfl rfl ?_
    refine r_callV1 (pc2 := 5) (As := [.int x]) (st := []) kX9_315 rfl rfl dX9_draughts_2 c64 (by decide) rfl rfl (Nat.le_of_ble_eq_true rfl) (by omega) (c_refuseSlept (x := x) c64 hMT hT (by omega)) rfl (fun h2 hq2 => ?_)
    obtain rfl := hq2.symm
    refine r_topi (fun x5 e5 => ?_)
    refine r_istore_n (pc2 := 6) (ls2 := [.ref 64, .int x, .int x5]) 2 dX9_draughts_5 rfl (by decide) rfl rfl rfl ?_
    refine r_iload_n (pc2 := 7) 2 dX9_draughts_6 rfl rfl rfl ?_
    refine r_if_eq (tgt := 14) (pc2 := 10) dX9_draughts_7 (by decide) rfl (fun b7 => ?_) (fun b7 => ?_)
    · exact absurd (e5.symm.trans b7) hns0
    · skip
      refine r_iload_n (pc2 := 11) 2 dX9_draughts_10 rfl rfl rfl ?_
      refine r_goto (pc2 := 24) dX9_draughts_11 (by decide) ?_
      exact r_iret rfl dX9_draughts_24 ⟨by unfold drF; rw [if_pos hns0, e5], kd, GQ.rf, hD⟩
  · have hns : nsF rs rm nu x = 0 := Decidable.not_not.mp hns0
    obtain ⟨t, ht, rfl, hn1, hge, hle, hok9⟩ := nsF_0 hT hns
    obtain ⟨⟨f, c81, hf⟩, _⟩ := id hMT
    obtain ⟨ms, so, si, vv, ct, cv, q1, q2⟩ := hMT.2 t ht
    generalize hp : 109 + 2 * t = p at ct
    generalize hq : 110 + 2 * t = q at ct cv
    have hs : rs t ≠ -1 := fun z => by
      unfold nsF noTrayF at hns
      rw [if_pos (inR_nI (by decide) (Nat.zero_le _) (by omega)), nI_clamp (by omega), if_pos z, if_pos (by decide)] at hns
      exact absurd hns (by decide)
    obtain ⟨rfl, rfl, rfl, q3⟩ := q2 hs
    obtain ⟨n, hnn⟩ : ∃ n, n = rowN rm t := ⟨_, rfl⟩
    have q3 : ∀ j, j < n → vv j = nu (40 * t + j) := fun j hj => q3 j (by rw [hnn] at hj; exact hj)
    rw [← hnn] at hn1 hge hle hok9
    have hn40 : n ≤ 40 := by omega
    rw [hn1] at ct
    refine Cn.go (ls := [.ref 64, .int (nI t), .float 0]) (by decide +kernel) rfl (Nat.le_of_ble_eq_true rfl) ?_
    refine r_aload_n (pc2 := 1) 0 dX9_draughts_0 rfl rfl rfl rfl ?_
    refine r_iload_n (pc2 := 2) 1 dX9_draughts_1 rfl rfl rfl ?_
    refine r_callV1 (pc2 := 5) (As := [.int (nI t)]) (st := []) kX9_315 rfl rfl dX9_draughts_2 c64 (by decide) rfl rfl (Nat.le_of_ble_eq_true rfl) (by omega) ((c_refuseSlept (x := (nI t)) c64 hMT hT (by omega)).mono fun r h2 z => ⟨z.1.trans (by rw [hns]), z.2⟩) rfl (fun h2 hq2 => ?_)
    obtain rfl := hq2.symm
    refine r_istore_n (pc2 := 6) (ls2 := [.ref 64, .int (nI t), .int 0]) 2 dX9_draughts_5 rfl (by decide) rfl rfl rfl ?_
    refine r_iload_n (pc2 := 7) 2 dX9_draughts_6 rfl rfl rfl ?_
    refine r_if_eq (tgt := 14) (pc2 := 10) dX9_draughts_7 (by decide) rfl (fun b7 => ?_) (fun b7 => ?_)
    · skip
      refine r_aload_n (pc2 := 15) 0 dX9_draughts_14 rfl rfl rfl rfl ?_
      refine r_aload_n (pc2 := 16) 0 dX9_draughts_15 rfl rfl rfl rfl ?_
      refine r_getf (pc2 := 19) (v := .ref 81) fX9_48 dX9_draughts_16 c64 (by decide) rfl rfl ?_
      refine r_iload_n (pc2 := 20) 1 dX9_draughts_19 rfl rfl rfl ?_
      refine r_aald (pc2 := 21) dX9_draughts_20 c81 (by decide) (by decide) (nI_vp (j := t) rfl (by omega) (by decide)).1 (by rw [nI_clamp (by omega), hf t ht, hp]) (by omega) rfl ?_
      refine r_callV1 (pc2 := 24) (As := [.ref p]) (st := []) kX9_318 rfl rfl dX9_draughts_21 c64 (by decide) rfl rfl (Nat.le_of_ble_eq_true rfl) (by omega) (c_draughtsOfC c64 c76 ct cv (by omega) (by omega) q3 hn40 hD hA hst (by omega)) rfl (fun h hq21 => ?_)
      obtain ⟨kd2, hQ2, hD2⟩ := hq21
      exact r_iret rfl dX9_draughts_24 ⟨by unfold drF; rw [if_neg (fun z => z hns), nI_clamp (by omega), ← hnn], kd2, hQ2, hD2⟩
    · exact absurd b7 (by decide)
