/-! deeds of the reference -/
def clrB (x q : Nat) : Nat := x &&& (255 ^^^ 2 ^ q)
theorem clr_nI : ∀ x, x < 256 → ∀ q, q < 8 → nI x &&& (nI (2 ^ q) ^^^ (-1)) = nI (clrB x q) := by decide +kernel
theorem setB_lt : ∀ x, x < 256 → ∀ q, q < 8 → x ||| 2 ^ q < 256 := by decide +kernel
theorem clrB_lt (x q : Nat) (h : x < 256) : clrB x q < 256 := Nat.lt_of_le_of_lt Nat.and_le_left h
/-- a hint that two are bound (i = 1) or not (i = 0) -/
def hintN (a : Nat → Nat) (p q i : Nat) : Nat → Nat :=
  va_up (va_up (va_up (va_up a (29 + p) (if i = 1 then a (29 + p) ||| 2 ^ q else clrB (a (29 + p)) q)) (37 + p) (if i = 1 then clrB (a (37 + p)) q else a (37 + p) ||| 2 ^ q)) (29 + q) (if i = 1 then a (29 + q) ||| 2 ^ p else clrB (a (29 + q)) p)) (37 + q) (if i = 1 then clrB (a (37 + q)) p else a (37 + q) ||| 2 ^ p)
set_option maxRecDepth 20000 in
set_option maxHeartbeats 1000000 in
theorem c_hint118_0 {E : EnvT} {d : Nat} {h0 : Hp} {a : Nat → Nat} {p q : Nat} (c118 : h0.1 118 = some (aI 3531 (nA a))) (hp : p < 8) (hq : q < 8) (hpq : p ≠ q) (hb : ∀ p, p < 8 → a (29 + p) < 256) (hu : ∀ p, p < 8 → a (37 + p) < 256) : Cn E mX10_hinted d [.ref 118, .int (nI p), .int (nI q), .int 0] h0 (fun r h2 => r = none ∧ Ex [118] h0 h2 ∧ h2.1 118 = some (aI 3531 (nA (hintN a p q 0)))) := by
  refine Cn.go (ls := [.ref 118, .int (nI p), .int (nI q), .int 0, .float 0, .float 0, .float 0]) (by decide +kernel) rfl (Nat.le_of_ble_eq_true rfl) ?_
  have hx : Ex [118] h0 h0 := Ex.rf
  refine r_iconst (pc2 := 1) (v := 0) dX10_hinted_0 (by decide) rfl ?_
  refine r_istore (pc2 := 3) (ls2 := [.ref 118, .int (nI p), .int (nI q), .int 0, .int 0, .float 0, .float 0]) 4 dX10_hinted_1 (by decide) rfl rfl rfl ?_
  refine r_iload (pc2 := 5) 4 dX10_hinted_3 rfl rfl ?_
  refine r_iconst (pc2 := 6) (v := 2) dX10_hinted_5 (by decide) rfl ?_
  refine r_icmp_ge (tgt := 113) (pc2 := 9) dX10_hinted_6 (by decide) rfl (fun b6 => ?_) (fun b6 => ?_)
  · exact absurd b6 (by decide)
  · skip
    refine r_iload (pc2 := 11) 4 dX10_hinted_9 rfl rfl ?_
    refine r_if_ne (tgt := 18) (pc2 := 14) dX10_hinted_11 (by decide) rfl (fun b11 => ?_) (fun b11 => ?_)
    · exact absurd b11 (by decide)
    · skip
      refine r_iload_n (pc2 := 15) 1 dX10_hinted_14 rfl rfl rfl ?_
      refine r_goto (pc2 := 19) dX10_hinted_15 (by decide) ?_
      refine r_istore (pc2 := 21) (ls2 := [.ref 118, .int (nI p), .int (nI q), .int 0, .int 0, .int (nI p), .float 0]) 5 dX10_hinted_19 (by decide) rfl rfl rfl ?_
      refine r_iconst (pc2 := 22) (v := 1) dX10_hinted_21 (by decide) rfl ?_
      refine r_iload (pc2 := 24) 4 dX10_hinted_22 rfl rfl ?_
      refine r_if_ne (tgt := 31) (pc2 := 27) dX10_hinted_24 (by decide) rfl (fun b24 => ?_) (fun b24 => ?_)
      · exact absurd b24 (by decide)
      · skip
        refine r_iload_n (pc2 := 28) 2 dX10_hinted_27 rfl rfl rfl ?_
        refine r_goto (pc2 := 32) dX10_hinted_28 (by decide) ?_
        refine r_ishl (pc2 := 33) dX10_hinted_32 rfl ?_
        refine r_cast (nI (2 ^ q)) (shl1 q (by omega)) ?_
        refine r_istore (pc2 := 35) (ls2 := [.ref 118, .int (nI p), .int (nI q), .int 0, .int 0, .int (nI p), .int (nI (2 ^ q))]) 6 dX10_hinted_33 (by decide) rfl rfl rfl ?_
        refine r_aload_n (pc2 := 36) 0 dX10_hinted_35 rfl rfl rfl rfl ?_
        refine r_bipush (pc2 := 38) (v := 29) dX10_hinted_36 (by decide) rfl ?_
        refine r_iload (pc2 := 40) 5 dX10_hinted_38 rfl rfl ?_
        refine r_iadd (pc2 := 41) dX10_hinted_40 rfl ?_
        refine r_cast (nI (29 + p)) (nI_add 29 p) ?_
        refine r_iload_n (pc2 := 42) 3 dX10_hinted_41 rfl rfl rfl ?_
        refine r_if_eq (tgt := 58) (pc2 := 45) dX10_hinted_42 (by decide) rfl (fun b42 => ?_) (fun b42 => ?_)
        · skip
          refine r_aload_n (pc2 := 59) 0 dX10_hinted_58 rfl rfl rfl rfl ?_
          refine r_bipush (pc2 := 61) (v := 29) dX10_hinted_59 (by decide) rfl ?_
          refine r_iload (pc2 := 63) 5 dX10_hinted_61 rfl rfl ?_
          refine r_iadd (pc2 := 64) dX10_hinted_63 rfl ?_
          refine r_cast (nI (29 + p)) (nI_add 29 p) ?_
          refine r_ialdA (pc2 := 65) (29 + p) dX10_hinted_64 c118 (by decide) rfl (by omega) (by decide) rfl ?_
          refine r_cast (nI (a (29 + p))) (congrArg nI (by first | rfl | (simp only [va_up_ne _ _ (show 29 + p ≠ 29 + q by omega), va_up_ne _ _ (show 29 + p ≠ 29 + p by omega), va_up_ne _ _ (show 29 + p ≠ 37 + p by omega)]; done) | (rw [va_up_ne _ _ (by omega)]; done) | (rw [va_up_ne _ _ (by omega), va_up_ne _ _ (by omega)]; done) | (rw [va_up_ne _ _ (by omega), va_up_ne _ _ (by omega), va_up_ne _ _ (by omega)]; done))) ?_
          refine r_iload (pc2 := 67) 6 dX10_hinted_65 rfl rfl ?_
          refine r_iconst (pc2 := 68) (v := -1) dX10_hinted_67 (by decide) rfl ?_
          refine r_ixor (pc2 := 69) dX10_hinted_68 rfl ?_
          refine r_iand (pc2 := 70) dX10_hinted_69 rfl ?_
          refine r_cast (nI (clrB (a (29 + p)) q)) (clr_nI _ (hb p (by omega)) q (by omega)) ?_
          refine r_iastN (pc2 := 71) (29 + p) dX10_hinted_70 c118 (by decide) rfl (by omega) (by decide) rfl (fun h z70 o70 c118 => ?_)
          rw [upd_nA] at c118
          have hx := hx.step (a := 118) (by decide) z70 o70
          refine r_aload_n (pc2 := 72) 0 dX10_hinted_71 rfl rfl rfl rfl ?_
          refine r_bipush (pc2 := 74) (v := 37) dX10_hinted_72 (by decide) rfl ?_
          refine r_iload (pc2 := 76) 5 dX10_hinted_74 rfl rfl ?_
          refine r_iadd (pc2 := 77) dX10_hinted_76 rfl ?_
          refine r_cast (nI (37 + p)) (nI_add 37 p) ?_
          refine r_iload_n (pc2 := 78) 3 dX10_hinted_77 rfl rfl rfl ?_
          refine r_if_eq (tgt := 96) (pc2 := 81) dX10_hinted_78 (by decide) rfl (fun b78 => ?_) (fun b78 => ?_)
          · skip
            refine r_aload_n (pc2 := 97) 0 dX10_hinted_96 rfl rfl rfl rfl ?_
            refine r_bipush (pc2 := 99) (v := 37) dX10_hinted_97 (by decide) rfl ?_
            refine r_iload (pc2 := 101) 5 dX10_hinted_99 rfl rfl ?_
            refine r_iadd (pc2 := 102) dX10_hinted_101 rfl ?_
            refine r_cast (nI (37 + p)) (nI_add 37 p) ?_
            refine r_ialdA (pc2 := 103) (37 + p) dX10_hinted_102 c118 (by decide) rfl (by omega) (by decide) rfl ?_
            refine r_cast (nI (a (37 + p))) (congrArg nI (by first | rfl | (simp only [va_up_ne _ _ (show 37 + p ≠ 29 + q by omega), va_up_ne _ _ (show 37 + p ≠ 29 + p by omega), va_up_ne _ _ (show 37 + p ≠ 37 + p by omega)]; done) | (rw [va_up_ne _ _ (by omega)]; done) | (rw [va_up_ne _ _ (by omega), va_up_ne _ _ (by omega)]; done) | (rw [va_up_ne _ _ (by omega), va_up_ne _ _ (by omega), va_up_ne _ _ (by omega)]; done))) ?_
            refine r_iload (pc2 := 105) 6 dX10_hinted_103 rfl rfl ?_
            refine r_ior (pc2 := 106) dX10_hinted_105 rfl ?_
            refine r_cast (nI (a (37 + p) ||| 2 ^ q)) (nI_or _ _) ?_
            refine r_iastN (pc2 := 107) (37 + p) dX10_hinted_106 c118 (by decide) rfl (by omega) (by decide) rfl (fun h z106 o106 c118 => ?_)
            rw [upd_nA] at c118
            have hx := hx.step (a := 118) (by decide) z106 o106
            refine r_iinc (pc2 := 110) (ls2 := [.ref 118, .int (nI p), .int (nI q), .int 0, .int 1, .int (nI p), .int (nI (2 ^ q))]) (v := 1) 4 dX10_hinted_107 rfl (by decide) rfl rfl rfl ?_
            refine r_goto (pc2 := 3) dX10_hinted_110 (by decide) ?_
            refine r_iload (pc2 := 5) 4 dX10_hinted_3 rfl rfl ?_
            refine r_iconst (pc2 := 6) (v := 2) dX10_hinted_5 (by decide) rfl ?_
            refine r_icmp_ge (tgt := 113) (pc2 := 9) dX10_hinted_6 (by decide) rfl (fun b6 => ?_) (fun b6 => ?_)
            · exact absurd b6 (by decide)
            · skip
              refine r_iload (pc2 := 11) 4 dX10_hinted_9 rfl rfl ?_
              refine r_if_ne (tgt := 18) (pc2 := 14) dX10_hinted_11 (by decide) rfl (fun b11 => ?_) (fun b11 => ?_)
              · skip
                refine r_iload_n (pc2 := 19) 2 dX10_hinted_18 rfl rfl rfl ?_
                refine r_istore (pc2 := 21) (ls2 := [.ref 118, .int (nI p), .int (nI q), .int 0, .int 1, .int (nI q), .int (nI (2 ^ q))]) 5 dX10_hinted_19 (by decide) rfl rfl rfl ?_
                refine r_iconst (pc2 := 22) (v := 1) dX10_hinted_21 (by decide) rfl ?_
                refine r_iload (pc2 := 24) 4 dX10_hinted_22 rfl rfl ?_
                refine r_if_ne (tgt := 31) (pc2 := 27) dX10_hinted_24 (by decide) rfl (fun b24 => ?_) (fun b24 => ?_)
                · skip
                  refine r_iload_n (pc2 := 32) 1 dX10_hinted_31 rfl rfl rfl ?_
                  refine r_ishl (pc2 := 33) dX10_hinted_32 rfl ?_
                  refine r_cast (nI (2 ^ p)) (shl1 p (by omega)) ?_
                  refine r_istore (pc2 := 35) (ls2 := [.ref 118, .int (nI p), .int (nI q), .int 0, .int 1, .int (nI q), .int (nI (2 ^ p))]) 6 dX10_hinted_33 (by decide) rfl rfl rfl ?_
                  refine r_aload_n (pc2 := 36) 0 dX10_hinted_35 rfl rfl rfl rfl ?_
                  refine r_bipush (pc2 := 38) (v := 29) dX10_hinted_36 (by decide) rfl ?_
                  refine r_iload (pc2 := 40) 5 dX10_hinted_38 rfl rfl ?_
                  refine r_iadd (pc2 := 41) dX10_hinted_40 rfl ?_
                  refine r_cast (nI (29 + q)) (nI_add 29 q) ?_
                  refine r_iload_n (pc2 := 42) 3 dX10_hinted_41 rfl rfl rfl ?_
                  refine r_if_eq (tgt := 58) (pc2 := 45) dX10_hinted_42 (by decide) rfl (fun b42 => ?_) (fun b42 => ?_)
                  · skip
                    refine r_aload_n (pc2 := 59) 0 dX10_hinted_58 rfl rfl rfl rfl ?_
                    refine r_bipush (pc2 := 61) (v := 29) dX10_hinted_59 (by decide) rfl ?_
                    refine r_iload (pc2 := 63) 5 dX10_hinted_61 rfl rfl ?_
                    refine r_iadd (pc2 := 64) dX10_hinted_63 rfl ?_
                    refine r_cast (nI (29 + q)) (nI_add 29 q) ?_
                    refine r_ialdA (pc2 := 65) (29 + q) dX10_hinted_64 c118 (by decide) rfl (by omega) (by decide) rfl ?_
                    refine r_cast (nI (a (29 + q))) (congrArg nI (by first | rfl | (simp only [va_up_ne _ _ (show 29 + q ≠ 29 + q by omega), va_up_ne _ _ (show 29 + q ≠ 29 + p by omega), va_up_ne _ _ (show 29 + q ≠ 37 + p by omega)]; done) | (rw [va_up_ne _ _ (by omega)]; done) | (rw [va_up_ne _ _ (by omega), va_up_ne _ _ (by omega)]; done) | (rw [va_up_ne _ _ (by omega), va_up_ne _ _ (by omega), va_up_ne _ _ (by omega)]; done))) ?_
                    refine r_iload (pc2 := 67) 6 dX10_hinted_65 rfl rfl ?_
                    refine r_iconst (pc2 := 68) (v := -1) dX10_hinted_67 (by decide) rfl ?_
                    refine r_ixor (pc2 := 69) dX10_hinted_68 rfl ?_
                    refine r_iand (pc2 := 70) dX10_hinted_69 rfl ?_
                    refine r_cast (nI (clrB (a (29 + q)) p)) (clr_nI _ (hb q (by omega)) p (by omega)) ?_
                    refine r_iastN (pc2 := 71) (29 + q) dX10_hinted_70 c118 (by decide) rfl (by omega) (by decide) rfl (fun h z70 o70 c118 => ?_)
                    rw [upd_nA] at c118
                    have hx := hx.step (a := 118) (by decide) z70 o70
                    refine r_aload_n (pc2 := 72) 0 dX10_hinted_71 rfl rfl rfl rfl ?_
                    refine r_bipush (pc2 := 74) (v := 37) dX10_hinted_72 (by decide) rfl ?_
                    refine r_iload (pc2 := 76) 5 dX10_hinted_74 rfl rfl ?_
                    refine r_iadd (pc2 := 77) dX10_hinted_76 rfl ?_
                    refine r_cast (nI (37 + q)) (nI_add 37 q) ?_
                    refine r_iload_n (pc2 := 78) 3 dX10_hinted_77 rfl rfl rfl ?_
                    refine r_if_eq (tgt := 96) (pc2 := 81) dX10_hinted_78 (by decide) rfl (fun b78 => ?_) (fun b78 => ?_)
                    · skip
                      refine r_aload_n (pc2 := 97) 0 dX10_hinted_96 rfl rfl rfl rfl ?_
                      refine r_bipush (pc2 := 99) (v := 37) dX10_hinted_97 (by decide) rfl ?_
                      refine r_iload (pc2 := 101) 5 dX10_hinted_99 rfl rfl ?_
                      refine r_iadd (pc2 := 102) dX10_hinted_101 rfl ?_
                      refine r_cast (nI (37 + q)) (nI_add 37 q) ?_
                      refine r_ialdA (pc2 := 103) (37 + q) dX10_hinted_102 c118 (by decide) rfl (by omega) (by decide) rfl ?_
                      refine r_cast (nI (a (37 + q))) (congrArg nI (by first | rfl | (simp only [va_up_ne _ _ (show 37 + q ≠ 29 + q by omega), va_up_ne _ _ (show 37 + q ≠ 29 + p by omega), va_up_ne _ _ (show 37 + q ≠ 37 + p by omega)]; done) | (rw [va_up_ne _ _ (by omega)]; done) | (rw [va_up_ne _ _ (by omega), va_up_ne _ _ (by omega)]; done) | (rw [va_up_ne _ _ (by omega), va_up_ne _ _ (by omega), va_up_ne _ _ (by omega)]; done))) ?_
                      refine r_iload (pc2 := 105) 6 dX10_hinted_103 rfl rfl ?_
                      refine r_ior (pc2 := 106) dX10_hinted_105 rfl ?_
                      refine r_cast (nI (a (37 + q) ||| 2 ^ p)) (nI_or _ _) ?_
                      refine r_iastN (pc2 := 107) (37 + q) dX10_hinted_106 c118 (by decide) rfl (by omega) (by decide) rfl (fun h z106 o106 c118 => ?_)
                      rw [upd_nA] at c118
                      have hx := hx.step (a := 118) (by decide) z106 o106
                      refine r_iinc (pc2 := 110) (ls2 := [.ref 118, .int (nI p), .int (nI q), .int 0, .int 2, .int (nI q), .int (nI (2 ^ p))]) (v := 2) 4 dX10_hinted_107 rfl (by decide) rfl rfl rfl ?_
                      refine r_goto (pc2 := 3) dX10_hinted_110 (by decide) ?_
                      refine r_iload (pc2 := 5) 4 dX10_hinted_3 rfl rfl ?_
                      refine r_iconst (pc2 := 6) (v := 2) dX10_hinted_5 (by decide) rfl ?_
                      refine r_icmp_ge (tgt := 113) (pc2 := 9) dX10_hinted_6 (by decide) rfl (fun b6 => ?_) (fun b6 => ?_)
                      · skip
                        exact r_vret rfl dX10_hinted_113 ⟨rfl, hx, c118⟩
                      · exact absurd b6 (by decide)
                    · exact absurd b78 (by decide)
                  · exact absurd b42 (by decide)
                · exact absurd b24 (by decide)
              · exact absurd b11 (by decide)
          · exact absurd b78 (by decide)
        · exact absurd b42 (by decide)
set_option maxRecDepth 20000 in
set_option maxHeartbeats 1000000 in
theorem c_hint118_1 {E : EnvT} {d : Nat} {h0 : Hp} {a : Nat → Nat} {p q : Nat} (c118 : h0.1 118 = some (aI 3531 (nA a))) (hp : p < 8) (hq : q < 8) (hpq : p ≠ q) (hb : ∀ p, p < 8 → a (29 + p) < 256) (hu : ∀ p, p < 8 → a (37 + p) < 256) : Cn E mX10_hinted d [.ref 118, .int (nI p), .int (nI q), .int 1] h0 (fun r h2 => r = none ∧ Ex [118] h0 h2 ∧ h2.1 118 = some (aI 3531 (nA (hintN a p q 1)))) := by
  refine Cn.go (ls := [.ref 118, .int (nI p), .int (nI q), .int 1, .float 0, .float 0, .float 0]) (by decide +kernel) rfl (Nat.le_of_ble_eq_true rfl) ?_
  have hx : Ex [118] h0 h0 := Ex.rf
  refine r_iconst (pc2 := 1) (v := 0) dX10_hinted_0 (by decide) rfl ?_
  refine r_istore (pc2 := 3) (ls2 := [.ref 118, .int (nI p), .int (nI q), .int 1, .int 0, .float 0, .float 0]) 4 dX10_hinted_1 (by decide) rfl rfl rfl ?_
  refine r_iload (pc2 := 5) 4 dX10_hinted_3 rfl rfl ?_
  refine r_iconst (pc2 := 6) (v := 2) dX10_hinted_5 (by decide) rfl ?_
  refine r_icmp_ge (tgt := 113) (pc2 := 9) dX10_hinted_6 (by decide) rfl (fun b6 => ?_) (fun b6 => ?_)
  · exact absurd b6 (by decide)
  · skip
    refine r_iload (pc2 := 11) 4 dX10_hinted_9 rfl rfl ?_
    refine r_if_ne (tgt := 18) (pc2 := 14) dX10_hinted_11 (by decide) rfl (fun b11 => ?_) (fun b11 => ?_)
    · exact absurd b11 (by decide)
    · skip
      refine r_iload_n (pc2 := 15) 1 dX10_hinted_14 rfl rfl rfl ?_
      refine r_goto (pc2 := 19) dX10_hinted_15 (by decide) ?_
      refine r_istore (pc2 := 21) (ls2 := [.ref 118, .int (nI p), .int (nI q), .int 1, .int 0, .int (nI p), .float 0]) 5 dX10_hinted_19 (by decide) rfl rfl rfl ?_
      refine r_iconst (pc2 := 22) (v := 1) dX10_hinted_21 (by decide) rfl ?_
      refine r_iload (pc2 := 24) 4 dX10_hinted_22 rfl rfl ?_
      refine r_if_ne (tgt := 31) (pc2 := 27) dX10_hinted_24 (by decide) rfl (fun b24 => ?_) (fun b24 => ?_)
      · exact absurd b24 (by decide)
      · skip
        refine r_iload_n (pc2 := 28) 2 dX10_hinted_27 rfl rfl rfl ?_
        refine r_goto (pc2 := 32) dX10_hinted_28 (by decide) ?_
        refine r_ishl (pc2 := 33) dX10_hinted_32 rfl ?_
        refine r_cast (nI (2 ^ q)) (shl1 q (by omega)) ?_
        refine r_istore (pc2 := 35) (ls2 := [.ref 118, .int (nI p), .int (nI q), .int 1, .int 0, .int (nI p), .int (nI (2 ^ q))]) 6 dX10_hinted_33 (by decide) rfl rfl rfl ?_
        refine r_aload_n (pc2 := 36) 0 dX10_hinted_35 rfl rfl rfl rfl ?_
        refine r_bipush (pc2 := 38) (v := 29) dX10_hinted_36 (by decide) rfl ?_
        refine r_iload (pc2 := 40) 5 dX10_hinted_38 rfl rfl ?_
        refine r_iadd (pc2 := 41) dX10_hinted_40 rfl ?_
        refine r_cast (nI (29 + p)) (nI_add 29 p) ?_
        refine r_iload_n (pc2 := 42) 3 dX10_hinted_41 rfl rfl rfl ?_
        refine r_if_eq (tgt := 58) (pc2 := 45) dX10_hinted_42 (by decide) rfl (fun b42 => ?_) (fun b42 => ?_)
        · exact absurd b42 (by decide)
        · skip
          refine r_aload_n (pc2 := 46) 0 dX10_hinted_45 rfl rfl rfl rfl ?_
          refine r_bipush (pc2 := 48) (v := 29) dX10_hinted_46 (by decide) rfl ?_
          refine r_iload (pc2 := 50) 5 dX10_hinted_48 rfl rfl ?_
          refine r_iadd (pc2 := 51) dX10_hinted_50 rfl ?_
          refine r_cast (nI (29 + p)) (nI_add 29 p) ?_
          refine r_ialdA (pc2 := 52) (29 + p) dX10_hinted_51 c118 (by decide) rfl (by omega) (by decide) rfl ?_
          refine r_cast (nI (a (29 + p))) (congrArg nI (by first | rfl | (simp only [va_up_ne _ _ (show 29 + p ≠ 29 + q by omega), va_up_ne _ _ (show 29 + p ≠ 29 + p by omega), va_up_ne _ _ (show 29 + p ≠ 37 + p by omega)]; done) | (rw [va_up_ne _ _ (by omega)]; done) | (rw [va_up_ne _ _ (by omega), va_up_ne _ _ (by omega)]; done) | (rw [va_up_ne _ _ (by omega), va_up_ne _ _ (by omega), va_up_ne _ _ (by omega)]; done))) ?_
          refine r_iload (pc2 := 54) 6 dX10_hinted_52 rfl rfl ?_
          refine r_ior (pc2 := 55) dX10_hinted_54 rfl ?_
          refine r_goto (pc2 := 70) dX10_hinted_55 (by decide) ?_
          refine r_cast (nI (a (29 + p) ||| 2 ^ q)) (nI_or _ _) ?_
          refine r_iastN (pc2 := 71) (29 + p) dX10_hinted_70 c118 (by decide) rfl (by omega) (by decide) rfl (fun h z70 o70 c118 => ?_)
          rw [upd_nA] at c118
          have hx := hx.step (a := 118) (by decide) z70 o70
          refine r_aload_n (pc2 := 72) 0 dX10_hinted_71 rfl rfl rfl rfl ?_
          refine r_bipush (pc2 := 74) (v := 37) dX10_hinted_72 (by decide) rfl ?_
          refine r_iload (pc2 := 76) 5 dX10_hinted_74 rfl rfl ?_
          refine r_iadd (pc2 := 77) dX10_hinted_76 rfl ?_
          refine r_cast (nI (37 + p)) (nI_add 37 p) ?_
          refine r_iload_n (pc2 := 78) 3 dX10_hinted_77 rfl rfl rfl ?_
          refine r_if_eq (tgt := 96) (pc2 := 81) dX10_hinted_78 (by decide) rfl (fun b78 => ?_) (fun b78 => ?_)
          · exact absurd b78 (by decide)
          · skip
            refine r_aload_n (pc2 := 82) 0 dX10_hinted_81 rfl rfl rfl rfl ?_
            refine r_bipush (pc2 := 84) (v := 37) dX10_hinted_82 (by decide) rfl ?_
            refine r_iload (pc2 := 86) 5 dX10_hinted_84 rfl rfl ?_
            refine r_iadd (pc2 := 87) dX10_hinted_86 rfl ?_
            refine r_cast (nI (37 + p)) (nI_add 37 p) ?_
            refine r_ialdA (pc2 := 88) (37 + p) dX10_hinted_87 c118 (by decide) rfl (by omega) (by decide) rfl ?_
            refine r_cast (nI (a (37 + p))) (congrArg nI (by first | rfl | (simp only [va_up_ne _ _ (show 37 + p ≠ 29 + q by omega), va_up_ne _ _ (show 37 + p ≠ 29 + p by omega), va_up_ne _ _ (show 37 + p ≠ 37 + p by omega)]; done) | (rw [va_up_ne _ _ (by omega)]; done) | (rw [va_up_ne _ _ (by omega), va_up_ne _ _ (by omega)]; done) | (rw [va_up_ne _ _ (by omega), va_up_ne _ _ (by omega), va_up_ne _ _ (by omega)]; done))) ?_
            refine r_iload (pc2 := 90) 6 dX10_hinted_88 rfl rfl ?_
            refine r_iconst (pc2 := 91) (v := -1) dX10_hinted_90 (by decide) rfl ?_
            refine r_ixor (pc2 := 92) dX10_hinted_91 rfl ?_
            refine r_iand (pc2 := 93) dX10_hinted_92 rfl ?_
            refine r_goto (pc2 := 106) dX10_hinted_93 (by decide) ?_
            refine r_cast (nI (clrB (a (37 + p)) q)) (clr_nI _ (hu p (by omega)) q (by omega)) ?_
            refine r_iastN (pc2 := 107) (37 + p) dX10_hinted_106 c118 (by decide) rfl (by omega) (by decide) rfl (fun h z106 o106 c118 => ?_)
            rw [upd_nA] at c118
            have hx := hx.step (a := 118) (by decide) z106 o106
            refine r_iinc (pc2 := 110) (ls2 := [.ref 118, .int (nI p), .int (nI q), .int 1, .int 1, .int (nI p), .int (nI (2 ^ q))]) (v := 1) 4 dX10_hinted_107 rfl (by decide) rfl rfl rfl ?_
            refine r_goto (pc2 := 3) dX10_hinted_110 (by decide) ?_
            refine r_iload (pc2 := 5) 4 dX10_hinted_3 rfl rfl ?_
            refine r_iconst (pc2 := 6) (v := 2) dX10_hinted_5 (by decide) rfl ?_
            refine r_icmp_ge (tgt := 113) (pc2 := 9) dX10_hinted_6 (by decide) rfl (fun b6 => ?_) (fun b6 => ?_)
            · exact absurd b6 (by decide)
            · skip
              refine r_iload (pc2 := 11) 4 dX10_hinted_9 rfl rfl ?_
              refine r_if_ne (tgt := 18) (pc2 := 14) dX10_hinted_11 (by decide) rfl (fun b11 => ?_) (fun b11 => ?_)
              · skip
                refine r_iload_n (pc2 := 19) 2 dX10_hinted_18 rfl rfl rfl ?_
                refine r_istore (pc2 := 21) (ls2 := [.ref 118, .int (nI p), .int (nI q), .int 1, .int 1, .int (nI q), .int (nI (2 ^ q))]) 5 dX10_hinted_19 (by decide) rfl rfl rfl ?_
                refine r_iconst (pc2 := 22) (v := 1) dX10_hinted_21 (by decide) rfl ?_
                refine r_iload (pc2 := 24) 4 dX10_hinted_22 rfl rfl ?_
                refine r_if_ne (tgt := 31) (pc2 := 27) dX10_hinted_24 (by decide) rfl (fun b24 => ?_) (fun b24 => ?_)
                · skip
                  refine r_iload_n (pc2 := 32) 1 dX10_hinted_31 rfl rfl rfl ?_
                  refine r_ishl (pc2 := 33) dX10_hinted_32 rfl ?_
                  refine r_cast (nI (2 ^ p)) (shl1 p (by omega)) ?_
                  refine r_istore (pc2 := 35) (ls2 := [.ref 118, .int (nI p), .int (nI q), .int 1, .int 1, .int (nI q), .int (nI (2 ^ p))]) 6 dX10_hinted_33 (by decide) rfl rfl rfl ?_
                  refine r_aload_n (pc2 := 36) 0 dX10_hinted_35 rfl rfl rfl rfl ?_
                  refine r_bipush (pc2 := 38) (v := 29) dX10_hinted_36 (by decide) rfl ?_
                  refine r_iload (pc2 := 40) 5 dX10_hinted_38 rfl rfl ?_
                  refine r_iadd (pc2 := 41) dX10_hinted_40 rfl ?_
                  refine r_cast (nI (29 + q)) (nI_add 29 q) ?_
                  refine r_iload_n (pc2 := 42) 3 dX10_hinted_41 rfl rfl rfl ?_
                  refine r_if_eq (tgt := 58) (pc2 := 45) dX10_hinted_42 (by decide) rfl (fun b42 => ?_) (fun b42 => ?_)
                  · exact absurd b42 (by decide)
                  · skip
                    refine r_aload_n (pc2 := 46) 0 dX10_hinted_45 rfl rfl rfl rfl ?_
                    refine r_bipush (pc2 := 48) (v := 29) dX10_hinted_46 (by decide) rfl ?_
                    refine r_iload (pc2 := 50) 5 dX10_hinted_48 rfl rfl ?_
                    refine r_iadd (pc2 := 51) dX10_hinted_50 rfl ?_
                    refine r_cast (nI (29 + q)) (nI_add 29 q) ?_
                    refine r_ialdA (pc2 := 52) (29 + q) dX10_hinted_51 c118 (by decide) rfl (by omega) (by decide) rfl ?_
                    refine r_cast (nI (a (29 + q))) (congrArg nI (by first | rfl | (simp only [va_up_ne _ _ (show 29 + q ≠ 29 + q by omega), va_up_ne _ _ (show 29 + q ≠ 29 + p by omega), va_up_ne _ _ (show 29 + q ≠ 37 + p by omega)]; done) | (rw [va_up_ne _ _ (by omega)]; done) | (rw [va_up_ne _ _ (by omega), va_up_ne _ _ (by omega)]; done) | (rw [va_up_ne _ _ (by omega), va_up_ne _ _ (by omega), va_up_ne _ _ (by omega)]; done))) ?_
                    refine r_iload (pc2 := 54) 6 dX10_hinted_52 rfl rfl ?_
                    refine r_ior (pc2 := 55) dX10_hinted_54 rfl ?_
                    refine r_goto (pc2 := 70) dX10_hinted_55 (by decide) ?_
                    refine r_cast (nI (a (29 + q) ||| 2 ^ p)) (nI_or _ _) ?_
                    refine r_iastN (pc2 := 71) (29 + q) dX10_hinted_70 c118 (by decide) rfl (by omega) (by decide) rfl (fun h z70 o70 c118 => ?_)
                    rw [upd_nA] at c118
                    have hx := hx.step (a := 118) (by decide) z70 o70
                    refine r_aload_n (pc2 := 72) 0 dX10_hinted_71 rfl rfl rfl rfl ?_
                    refine r_bipush (pc2 := 74) (v := 37) dX10_hinted_72 (by decide) rfl ?_
                    refine r_iload (pc2 := 76) 5 dX10_hinted_74 rfl rfl ?_
                    refine r_iadd (pc2 := 77) dX10_hinted_76 rfl ?_
                    refine r_cast (nI (37 + q)) (nI_add 37 q) ?_
                    refine r_iload_n (pc2 := 78) 3 dX10_hinted_77 rfl rfl rfl ?_
                    refine r_if_eq (tgt := 96) (pc2 := 81) dX10_hinted_78 (by decide) rfl (fun b78 => ?_) (fun b78 => ?_)
                    · exact absurd b78 (by decide)
                    · skip
                      refine r_aload_n (pc2 := 82) 0 dX10_hinted_81 rfl rfl rfl rfl ?_
                      refine r_bipush (pc2 := 84) (v := 37) dX10_hinted_82 (by decide) rfl ?_
                      refine r_iload (pc2 := 86) 5 dX10_hinted_84 rfl rfl ?_
                      refine r_iadd (pc2 := 87) dX10_hinted_86 rfl ?_
                      refine r_cast (nI (37 + q)) (nI_add 37 q) ?_
                      refine r_ialdA (pc2 := 88) (37 + q) dX10_hinted_87 c118 (by decide) rfl (by omega) (by decide) rfl ?_
                      refine r_cast (nI (a (37 + q))) (congrArg nI (by first | rfl | (simp only [va_up_ne _ _ (show 37 + q ≠ 29 + q by omega), va_up_ne _ _ (show 37 + q ≠ 29 + p by omega), va_up_ne _ _ (show 37 + q ≠ 37 + p by omega)]; done) | (rw [va_up_ne _ _ (by omega)]; done) | (rw [va_up_ne _ _ (by omega), va_up_ne _ _ (by omega)]; done) | (rw [va_up_ne _ _ (by omega), va_up_ne _ _ (by omega), va_up_ne _ _ (by omega)]; done))) ?_
                      refine r_iload (pc2 := 90) 6 dX10_hinted_88 rfl rfl ?_
                      refine r_iconst (pc2 := 91) (v := -1) dX10_hinted_90 (by decide) rfl ?_
                      refine r_ixor (pc2 := 92) dX10_hinted_91 rfl ?_
                      refine r_iand (pc2 := 93) dX10_hinted_92 rfl ?_
                      refine r_goto (pc2 := 106) dX10_hinted_93 (by decide) ?_
                      refine r_cast (nI (clrB (a (37 + q)) p)) (clr_nI _ (hu q (by omega)) p (by omega)) ?_
                      refine r_iastN (pc2 := 107) (37 + q) dX10_hinted_106 c118 (by decide) rfl (by omega) (by decide) rfl (fun h z106 o106 c118 => ?_)
                      rw [upd_nA] at c118
                      have hx := hx.step (a := 118) (by decide) z106 o106
                      refine r_iinc (pc2 := 110) (ls2 := [.ref 118, .int (nI p), .int (nI q), .int 1, .int 2, .int (nI q), .int (nI (2 ^ p))]) (v := 2) 4 dX10_hinted_107 rfl (by decide) rfl rfl rfl ?_
                      refine r_goto (pc2 := 3) dX10_hinted_110 (by decide) ?_
                      refine r_iload (pc2 := 5) 4 dX10_hinted_3 rfl rfl ?_
                      refine r_iconst (pc2 := 6) (v := 2) dX10_hinted_5 (by decide) rfl ?_
                      refine r_icmp_ge (tgt := 113) (pc2 := 9) dX10_hinted_6 (by decide) rfl (fun b6 => ?_) (fun b6 => ?_)
                      · skip
                        exact r_vret rfl dX10_hinted_113 ⟨rfl, hx, c118⟩
                      · exact absurd b6 (by decide)
                · exact absurd b24 (by decide)
              · exact absurd b11 (by decide)
set_option maxRecDepth 20000 in
set_option maxHeartbeats 1000000 in
theorem c_hint121_0 {E : EnvT} {d : Nat} {h0 : Hp} {a : Nat → Nat} {p q : Nat} (c121 : h0.1 121 = some (aI 1177 (nA a))) (hp : p < 8) (hq : q < 8) (hpq : p ≠ q) (hb : ∀ p, p < 8 → a (29 + p) < 256) (hu : ∀ p, p < 8 → a (37 + p) < 256) : Cn E mX10_hinted d [.ref 121, .int (nI p), .int (nI q), .int 0] h0 (fun r h2 => r = none ∧ Ex [121] h0 h2 ∧ h2.1 121 = some (aI 1177 (nA (hintN a p q 0)))) := by
  refine Cn.go (ls := [.ref 121, .int (nI p), .int (nI q), .int 0, .float 0, .float 0, .float 0]) (by decide +kernel) rfl (Nat.le_of_ble_eq_true rfl) ?_
  have hx : Ex [121] h0 h0 := Ex.rf
  refine r_iconst (pc2 := 1) (v := 0) dX10_hinted_0 (by decide) rfl ?_
  refine r_istore (pc2 := 3) (ls2 := [.ref 121, .int (nI p), .int (nI q), .int 0, .int 0, .float 0, .float 0]) 4 dX10_hinted_1 (by decide) rfl rfl rfl ?_
  refine r_iload (pc2 := 5) 4 dX10_hinted_3 rfl rfl ?_
  refine r_iconst (pc2 := 6) (v := 2) dX10_hinted_5 (by decide) rfl ?_
  refine r_icmp_ge (tgt := 113) (pc2 := 9) dX10_hinted_6 (by decide) rfl (fun b6 => ?_) (fun b6 => ?_)
  · exact absurd b6 (by decide)
  · skip
    refine r_iload (pc2 := 11) 4 dX10_hinted_9 rfl rfl ?_
    refine r_if_ne (tgt := 18) (pc2 := 14) dX10_hinted_11 (by decide) rfl (fun b11 => ?_) (fun b11 => ?_)
    · exact absurd b11 (by decide)
    · skip
      refine r_iload_n (pc2 := 15) 1 dX10_hinted_14 rfl rfl rfl ?_
      refine r_goto (pc2 := 19) dX10_hinted_15 (by decide) ?_
      refine r_istore (pc2 := 21) (ls2 := [.ref 121, .int (nI p), .int (nI q), .int 0, .int 0, .int (nI p), .float 0]) 5 dX10_hinted_19 (by decide) rfl rfl rfl ?_
      refine r_iconst (pc2 := 22) (v := 1) dX10_hinted_21 (by decide) rfl ?_
      refine r_iload (pc2 := 24) 4 dX10_hinted_22 rfl rfl ?_
      refine r_if_ne (tgt := 31) (pc2 := 27) dX10_hinted_24 (by decide) rfl (fun b24 => ?_) (fun b24 => ?_)
      · exact absurd b24 (by decide)
      · skip
        refine r_iload_n (pc2 := 28) 2 dX10_hinted_27 rfl rfl rfl ?_
        refine r_goto (pc2 := 32) dX10_hinted_28 (by decide) ?_
        refine r_ishl (pc2 := 33) dX10_hinted_32 rfl ?_
        refine r_cast (nI (2 ^ q)) (shl1 q (by omega)) ?_
        refine r_istore (pc2 := 35) (ls2 := [.ref 121, .int (nI p), .int (nI q), .int 0, .int 0, .int (nI p), .int (nI (2 ^ q))]) 6 dX10_hinted_33 (by decide) rfl rfl rfl ?_
        refine r_aload_n (pc2 := 36) 0 dX10_hinted_35 rfl rfl rfl rfl ?_
        refine r_bipush (pc2 := 38) (v := 29) dX10_hinted_36 (by decide) rfl ?_
        refine r_iload (pc2 := 40) 5 dX10_hinted_38 rfl rfl ?_
        refine r_iadd (pc2 := 41) dX10_hinted_40 rfl ?_
        refine r_cast (nI (29 + p)) (nI_add 29 p) ?_
        refine r_iload_n (pc2 := 42) 3 dX10_hinted_41 rfl rfl rfl ?_
        refine r_if_eq (tgt := 58) (pc2 := 45) dX10_hinted_42 (by decide) rfl (fun b42 => ?_) (fun b42 => ?_)
        · skip
          refine r_aload_n (pc2 := 59) 0 dX10_hinted_58 rfl rfl rfl rfl ?_
          refine r_bipush (pc2 := 61) (v := 29) dX10_hinted_59 (by decide) rfl ?_
          refine r_iload (pc2 := 63) 5 dX10_hinted_61 rfl rfl ?_
          refine r_iadd (pc2 := 64) dX10_hinted_63 rfl ?_
          refine r_cast (nI (29 + p)) (nI_add 29 p) ?_
          refine r_ialdA (pc2 := 65) (29 + p) dX10_hinted_64 c121 (by decide) rfl (by omega) (by decide) rfl ?_
          refine r_cast (nI (a (29 + p))) (congrArg nI (by first | rfl | (simp only [va_up_ne _ _ (show 29 + p ≠ 29 + q by omega), va_up_ne _ _ (show 29 + p ≠ 29 + p by omega), va_up_ne _ _ (show 29 + p ≠ 37 + p by omega)]; done) | (rw [va_up_ne _ _ (by omega)]; done) | (rw [va_up_ne _ _ (by omega), va_up_ne _ _ (by omega)]; done) | (rw [va_up_ne _ _ (by omega), va_up_ne _ _ (by omega), va_up_ne _ _ (by omega)]; done))) ?_
          refine r_iload (pc2 := 67) 6 dX10_hinted_65 rfl rfl ?_
          refine r_iconst (pc2 := 68) (v := -1) dX10_hinted_67 (by decide) rfl ?_
          refine r_ixor (pc2 := 69) dX10_hinted_68 rfl ?_
          refine r_iand (pc2 := 70) dX10_hinted_69 rfl ?_
          refine r_cast (nI (clrB (a (29 + p)) q)) (clr_nI _ (hb p (by omega)) q (by omega)) ?_
          refine r_iastN (pc2 := 71) (29 + p) dX10_hinted_70 c121 (by decide) rfl (by omega) (by decide) rfl (fun h z70 o70 c121 => ?_)
          rw [upd_nA] at c121
          have hx := hx.step (a := 121) (by decide) z70 o70
          refine r_aload_n (pc2 := 72) 0 dX10_hinted_71 rfl rfl rfl rfl ?_
          refine r_bipush (pc2 := 74) (v := 37) dX10_hinted_72 (by decide) rfl ?_
          refine r_iload (pc2 := 76) 5 dX10_hinted_74 rfl rfl ?_
          refine r_iadd (pc2 := 77) dX10_hinted_76 rfl ?_
          refine r_cast (nI (37 + p)) (nI_add 37 p) ?_
          refine r_iload_n (pc2 := 78) 3 dX10_hinted_77 rfl rfl rfl ?_
          refine r_if_eq (tgt := 96) (pc2 := 81) dX10_hinted_78 (by decide) rfl (fun b78 => ?_) (fun b78 => ?_)
          · skip
            refine r_aload_n (pc2 := 97) 0 dX10_hinted_96 rfl rfl rfl rfl ?_
            refine r_bipush (pc2 := 99) (v := 37) dX10_hinted_97 (by decide) rfl ?_
            refine r_iload (pc2 := 101) 5 dX10_hinted_99 rfl rfl ?_
            refine r_iadd (pc2 := 102) dX10_hinted_101 rfl ?_
            refine r_cast (nI (37 + p)) (nI_add 37 p) ?_
            refine r_ialdA (pc2 := 103) (37 + p) dX10_hinted_102 c121 (by decide) rfl (by omega) (by decide) rfl ?_
            refine r_cast (nI (a (37 + p))) (congrArg nI (by first | rfl | (simp only [va_up_ne _ _ (show 37 + p ≠ 29 + q by omega), va_up_ne _ _ (show 37 + p ≠ 29 + p by omega), va_up_ne _ _ (show 37 + p ≠ 37 + p by omega)]; done) | (rw [va_up_ne _ _ (by omega)]; done) | (rw [va_up_ne _ _ (by omega), va_up_ne _ _ (by omega)]; done) | (rw [va_up_ne _ _ (by omega), va_up_ne _ _ (by omega), va_up_ne _ _ (by omega)]; done))) ?_
            refine r_iload (pc2 := 105) 6 dX10_hinted_103 rfl rfl ?_
            refine r_ior (pc2 := 106) dX10_hinted_105 rfl ?_
            refine r_cast (nI (a (37 + p) ||| 2 ^ q)) (nI_or _ _) ?_
            refine r_iastN (pc2 := 107) (37 + p) dX10_hinted_106 c121 (by decide) rfl (by omega) (by decide) rfl (fun h z106 o106 c121 => ?_)
            rw [upd_nA] at c121
            have hx := hx.step (a := 121) (by decide) z106 o106
            refine r_iinc (pc2 := 110) (ls2 := [.ref 121, .int (nI p), .int (nI q), .int 0, .int 1, .int (nI p), .int (nI (2 ^ q))]) (v := 1) 4 dX10_hinted_107 rfl (by decide) rfl rfl rfl ?_
            refine r_goto (pc2 := 3) dX10_hinted_110 (by decide) ?_
            refine r_iload (pc2 := 5) 4 dX10_hinted_3 rfl rfl ?_
            refine r_iconst (pc2 := 6) (v := 2) dX10_hinted_5 (by decide) rfl ?_
            refine r_icmp_ge (tgt := 113) (pc2 := 9) dX10_hinted_6 (by decide) rfl (fun b6 => ?_) (fun b6 => ?_)
            · exact absurd b6 (by decide)
            · skip
              refine r_iload (pc2 := 11) 4 dX10_hinted_9 rfl rfl ?_
              refine r_if_ne (tgt := 18) (pc2 := 14) dX10_hinted_11 (by decide) rfl (fun b11 => ?_) (fun b11 => ?_)
              · skip
                refine r_iload_n (pc2 := 19) 2 dX10_hinted_18 rfl rfl rfl ?_
                refine r_istore (pc2 := 21) (ls2 := [.ref 121, .int (nI p), .int (nI q), .int 0, .int 1, .int (nI q), .int (nI (2 ^ q))]) 5 dX10_hinted_19 (by decide) rfl rfl rfl ?_
                refine r_iconst (pc2 := 22) (v := 1) dX10_hinted_21 (by decide) rfl ?_
                refine r_iload (pc2 := 24) 4 dX10_hinted_22 rfl rfl ?_
                refine r_if_ne (tgt := 31) (pc2 := 27) dX10_hinted_24 (by decide) rfl (fun b24 => ?_) (fun b24 => ?_)
                · skip
                  refine r_iload_n (pc2 := 32) 1 dX10_hinted_31 rfl rfl rfl ?_
                  refine r_ishl (pc2 := 33) dX10_hinted_32 rfl ?_
                  refine r_cast (nI (2 ^ p)) (shl1 p (by omega)) ?_
                  refine r_istore (pc2 := 35) (ls2 := [.ref 121, .int (nI p), .int (nI q), .int 0, .int 1, .int (nI q), .int (nI (2 ^ p))]) 6 dX10_hinted_33 (by decide) rfl rfl rfl ?_
                  refine r_aload_n (pc2 := 36) 0 dX10_hinted_35 rfl rfl rfl rfl ?_
                  refine r_bipush (pc2 := 38) (v := 29) dX10_hinted_36 (by decide) rfl ?_
                  refine r_iload (pc2 := 40) 5 dX10_hinted_38 rfl rfl ?_
                  refine r_iadd (pc2 := 41) dX10_hinted_40 rfl ?_
                  refine r_cast (nI (29 + q)) (nI_add 29 q) ?_
                  refine r_iload_n (pc2 := 42) 3 dX10_hinted_41 rfl rfl rfl ?_
                  refine r_if_eq (tgt := 58) (pc2 := 45) dX10_hinted_42 (by decide) rfl (fun b42 => ?_) (fun b42 => ?_)
                  · skip
                    refine r_aload_n (pc2 := 59) 0 dX10_hinted_58 rfl rfl rfl rfl ?_
                    refine r_bipush (pc2 := 61) (v := 29) dX10_hinted_59 (by decide) rfl ?_
                    refine r_iload (pc2 := 63) 5 dX10_hinted_61 rfl rfl ?_
                    refine r_iadd (pc2 := 64) dX10_hinted_63 rfl ?_
                    refine r_cast (nI (29 + q)) (nI_add 29 q) ?_
                    refine r_ialdA (pc2 := 65) (29 + q) dX10_hinted_64 c121 (by decide) rfl (by omega) (by decide) rfl ?_
                    refine r_cast (nI (a (29 + q))) (congrArg nI (by first | rfl | (simp only [va_up_ne _ _ (show 29 + q ≠ 29 + q by omega), va_up_ne _ _ (show 29 + q ≠ 29 + p by omega), va_up_ne _ _ (show 29 + q ≠ 37 + p by omega)]; done) | (rw [va_up_ne _ _ (by omega)]; done) | (rw [va_up_ne _ _ (by omega), va_up_ne _ _ (by omega)]; done) | (rw [va_up_ne _ _ (by omega), va_up_ne _ _ (by omega), va_up_ne _ _ (by omega)]; done))) ?_
                    refine r_iload (pc2 := 67) 6 dX10_hinted_65 rfl rfl ?_
                    refine r_iconst (pc2 := 68) (v := -1) dX10_hinted_67 (by decide) rfl ?_
                    refine r_ixor (pc2 := 69) dX10_hinted_68 rfl ?_
                    refine r_iand (pc2 := 70) dX10_hinted_69 rfl ?_
                    refine r_cast (nI (clrB (a (29 + q)) p)) (clr_nI _ (hb q (by omega)) p (by omega)) ?_
                    refine r_iastN (pc2 := 71) (29 + q) dX10_hinted_70 c121 (by decide) rfl (by omega) (by decide) rfl (fun h z70 o70 c121 => ?_)
                    rw [upd_nA] at c121
                    have hx := hx.step (a := 121) (by decide) z70 o70
                    refine r_aload_n (pc2 := 72) 0 dX10_hinted_71 rfl rfl rfl rfl ?_
                    refine r_bipush (pc2 := 74) (v := 37) dX10_hinted_72 (by decide) rfl ?_
                    refine r_iload (pc2 := 76) 5 dX10_hinted_74 rfl rfl ?_
                    refine r_iadd (pc2 := 77) dX10_hinted_76 rfl ?_
                    refine r_cast (nI (37 + q)) (nI_add 37 q) ?_
                    refine r_iload_n (pc2 := 78) 3 dX10_hinted_77 rfl rfl rfl ?_
                    refine r_if_eq (tgt := 96) (pc2 := 81) dX10_hinted_78 (by decide) rfl (fun b78 => ?_) (fun b78 => ?_)
                    · skip
                      refine r_aload_n (pc2 := 97) 0 dX10_hinted_96 rfl rfl rfl rfl ?_
                      refine r_bipush (pc2 := 99) (v := 37) dX10_hinted_97 (by decide) rfl ?_
                      refine r_iload (pc2 := 101) 5 dX10_hinted_99 rfl rfl ?_
                      refine r_iadd (pc2 := 102) dX10_hinted_101 rfl ?_
                      refine r_cast (nI (37 + q)) (nI_add 37 q) ?_
                      refine r_ialdA (pc2 := 103) (37 + q) dX10_hinted_102 c121 (by decide) rfl (by omega) (by decide) rfl ?_
                      refine r_cast (nI (a (37 + q))) (congrArg nI (by first | rfl | (simp only [va_up_ne _ _ (show 37 + q ≠ 29 + q by omega), va_up_ne _ _ (show 37 + q ≠ 29 + p by omega), va_up_ne _ _ (show 37 + q ≠ 37 + p by omega)]; done) | (rw [va_up_ne _ _ (by omega)]; done) | (rw [va_up_ne _ _ (by omega), va_up_ne _ _ (by omega)]; done) | (rw [va_up_ne _ _ (by omega), va_up_ne _ _ (by omega), va_up_ne _ _ (by omega)]; done))) ?_
                      refine r_iload (pc2 := 105) 6 dX10_hinted_103 rfl rfl ?_
                      refine r_ior (pc2 := 106) dX10_hinted_105 rfl ?_
                      refine r_cast (nI (a (37 + q) ||| 2 ^ p)) (nI_or _ _) ?_
                      refine r_iastN (pc2 := 107) (37 + q) dX10_hinted_106 c121 (by decide) rfl (by omega) (by decide) rfl (fun h z106 o106 c121 => ?_)
                      rw [upd_nA] at c121
                      have hx := hx.step (a := 121) (by decide) z106 o106
                      refine r_iinc (pc2 := 110) (ls2 := [.ref 121, .int (nI p), .int (nI q), .int 0, .int 2, .int (nI q), .int (nI (2 ^ p))]) (v := 2) 4 dX10_hinted_107 rfl (by decide) rfl rfl rfl ?_
                      refine r_goto (pc2 := 3) dX10_hinted_110 (by decide) ?_
                      refine r_iload (pc2 := 5) 4 dX10_hinted_3 rfl rfl ?_
                      refine r_iconst (pc2 := 6) (v := 2) dX10_hinted_5 (by decide) rfl ?_
                      refine r_icmp_ge (tgt := 113) (pc2 := 9) dX10_hinted_6 (by decide) rfl (fun b6 => ?_) (fun b6 => ?_)
                      · skip
                        exact r_vret rfl dX10_hinted_113 ⟨rfl, hx, c121⟩
                      · exact absurd b6 (by decide)
                    · exact absurd b78 (by decide)
                  · exact absurd b42 (by decide)
                · exact absurd b24 (by decide)
              · exact absurd b11 (by decide)
          · exact absurd b78 (by decide)
        · exact absurd b42 (by decide)
set_option maxRecDepth 20000 in
set_option maxHeartbeats 1000000 in
theorem c_hint121_1 {E : EnvT} {d : Nat} {h0 : Hp} {a : Nat → Nat} {p q : Nat} (c121 : h0.1 121 = some (aI 1177 (nA a))) (hp : p < 8) (hq : q < 8) (hpq : p ≠ q) (hb : ∀ p, p < 8 → a (29 + p) < 256) (hu : ∀ p, p < 8 → a (37 + p) < 256) : Cn E mX10_hinted d [.ref 121, .int (nI p), .int (nI q), .int 1] h0 (fun r h2 => r = none ∧ Ex [121] h0 h2 ∧ h2.1 121 = some (aI 1177 (nA (hintN a p q 1)))) := by
  refine Cn.go (ls := [.ref 121, .int (nI p), .int (nI q), .int 1, .float 0, .float 0, .float 0]) (by decide +kernel) rfl (Nat.le_of_ble_eq_true rfl) ?_
  have hx : Ex [121] h0 h0 := Ex.rf
  refine r_iconst (pc2 := 1) (v := 0) dX10_hinted_0 (by decide) rfl ?_
  refine r_istore (pc2 := 3) (ls2 := [.ref 121, .int (nI p), .int (nI q), .int 1, .int 0, .float 0, .float 0]) 4 dX10_hinted_1 (by decide) rfl rfl rfl ?_
  refine r_iload (pc2 := 5) 4 dX10_hinted_3 rfl rfl ?_
  refine r_iconst (pc2 := 6) (v := 2) dX10_hinted_5 (by decide) rfl ?_
  refine r_icmp_ge (tgt := 113) (pc2 := 9) dX10_hinted_6 (by decide) rfl (fun b6 => ?_) (fun b6 => ?_)
  · exact absurd b6 (by decide)
  · skip
    refine r_iload (pc2 := 11) 4 dX10_hinted_9 rfl rfl ?_
    refine r_if_ne (tgt := 18) (pc2 := 14) dX10_hinted_11 (by decide) rfl (fun b11 => ?_) (fun b11 => ?_)
    · exact absurd b11 (by decide)
    · skip
      refine r_iload_n (pc2 := 15) 1 dX10_hinted_14 rfl rfl rfl ?_
      refine r_goto (pc2 := 19) dX10_hinted_15 (by decide) ?_
      refine r_istore (pc2 := 21) (ls2 := [.ref 121, .int (nI p), .int (nI q), .int 1, .int 0, .int (nI p), .float 0]) 5 dX10_hinted_19 (by decide) rfl rfl rfl ?_
      refine r_iconst (pc2 := 22) (v := 1) dX10_hinted_21 (by decide) rfl ?_
      refine r_iload (pc2 := 24) 4 dX10_hinted_22 rfl rfl ?_
      refine r_if_ne (tgt := 31) (pc2 := 27) dX10_hinted_24 (by decide) rfl (fun b24 => ?_) (fun b24 => ?_)
      · exact absurd b24 (by decide)
      · skip
        refine r_iload_n (pc2 := 28) 2 dX10_hinted_27 rfl rfl rfl ?_
        refine r_goto (pc2 := 32) dX10_hinted_28 (by decide) ?_
        refine r_ishl (pc2 := 33) dX10_hinted_32 rfl ?_
        refine r_cast (nI (2 ^ q)) (shl1 q (by omega)) ?_
        refine r_istore (pc2 := 35) (ls2 := [.ref 121, .int (nI p), .int (nI q), .int 1, .int 0, .int (nI p), .int (nI (2 ^ q))]) 6 dX10_hinted_33 (by decide) rfl rfl rfl ?_
        refine r_aload_n (pc2 := 36) 0 dX10_hinted_35 rfl rfl rfl rfl ?_
        refine r_bipush (pc2 := 38) (v := 29) dX10_hinted_36 (by decide) rfl ?_
        refine r_iload (pc2 := 40) 5 dX10_hinted_38 rfl rfl ?_
        refine r_iadd (pc2 := 41) dX10_hinted_40 rfl ?_
        refine r_cast (nI (29 + p)) (nI_add 29 p) ?_
        refine r_iload_n (pc2 := 42) 3 dX10_hinted_41 rfl rfl rfl ?_
        refine r_if_eq (tgt := 58) (pc2 := 45) dX10_hinted_42 (by decide) rfl (fun b42 => ?_) (fun b42 => ?_)
        · exact absurd b42 (by decide)
        · skip
          refine r_aload_n (pc2 := 46) 0 dX10_hinted_45 rfl rfl rfl rfl ?_
          refine r_bipush (pc2 := 48) (v := 29) dX10_hinted_46 (by decide) rfl ?_
          refine r_iload (pc2 := 50) 5 dX10_hinted_48 rfl rfl ?_
          refine r_iadd (pc2 := 51) dX10_hinted_50 rfl ?_
          refine r_cast (nI (29 + p)) (nI_add 29 p) ?_
          refine r_ialdA (pc2 := 52) (29 + p) dX10_hinted_51 c121 (by decide) rfl (by omega) (by decide) rfl ?_
          refine r_cast (nI (a (29 + p))) (congrArg nI (by first | rfl | (simp only [va_up_ne _ _ (show 29 + p ≠ 29 + q by omega), va_up_ne _ _ (show 29 + p ≠ 29 + p by omega), va_up_ne _ _ (show 29 + p ≠ 37 + p by omega)]; done) | (rw [va_up_ne _ _ (by omega)]; done) | (rw [va_up_ne _ _ (by omega), va_up_ne _ _ (by omega)]; done) | (rw [va_up_ne _ _ (by omega), va_up_ne _ _ (by omega), va_up_ne _ _ (by omega)]; done))) ?_
          refine r_iload (pc2 := 54) 6 dX10_hinted_52 rfl rfl ?_
          refine r_ior (pc2 := 55) dX10_hinted_54 rfl ?_
          refine r_goto (pc2 := 70) dX10_hinted_55 (by decide) ?_
          refine r_cast (nI (a (29 + p) ||| 2 ^ q)) (nI_or _ _) ?_
          refine r_iastN (pc2 := 71) (29 + p) dX10_hinted_70 c121 (by decide) rfl (by omega) (by decide) rfl (fun h z70 o70 c121 => ?_)
          rw [upd_nA] at c121
          have hx := hx.step (a := 121) (by decide) z70 o70
          refine r_aload_n (pc2 := 72) 0 dX10_hinted_71 rfl rfl rfl rfl ?_
          refine r_bipush (pc2 := 74) (v := 37) dX10_hinted_72 (by decide) rfl ?_
          refine r_iload (pc2 := 76) 5 dX10_hinted_74 rfl rfl ?_
          refine r_iadd (pc2 := 77) dX10_hinted_76 rfl ?_
          refine r_cast (nI (37 + p)) (nI_add 37 p) ?_
          refine r_iload_n (pc2 := 78) 3 dX10_hinted_77 rfl rfl rfl ?_
          refine r_if_eq (tgt := 96) (pc2 := 81) dX10_hinted_78 (by decide) rfl (fun b78 => ?_) (fun b78 => ?_)
          · exact absurd b78 (by decide)
          · skip
            refine r_aload_n (pc2 := 82) 0 dX10_hinted_81 rfl rfl rfl rfl ?_
            refine r_bipush (pc2 := 84) (v := 37) dX10_hinted_82 (by decide) rfl ?_
            refine r_iload (pc2 := 86) 5 dX10_hinted_84 rfl rfl ?_
            refine r_iadd (pc2 := 87) dX10_hinted_86 rfl ?_
            refine r_cast (nI (37 + p)) (nI_add 37 p) ?_
            refine r_ialdA (pc2 := 88) (37 + p) dX10_hinted_87 c121 (by decide) rfl (by omega) (by decide) rfl ?_
            refine r_cast (nI (a (37 + p))) (congrArg nI (by first | rfl | (simp only [va_up_ne _ _ (show 37 + p ≠ 29 + q by omega), va_up_ne _ _ (show 37 + p ≠ 29 + p by omega), va_up_ne _ _ (show 37 + p ≠ 37 + p by omega)]; done) | (rw [va_up_ne _ _ (by omega)]; done) | (rw [va_up_ne _ _ (by omega), va_up_ne _ _ (by omega)]; done) | (rw [va_up_ne _ _ (by omega), va_up_ne _ _ (by omega), va_up_ne _ _ (by omega)]; done))) ?_
            refine r_iload (pc2 := 90) 6 dX10_hinted_88 rfl rfl ?_
            refine r_iconst (pc2 := 91) (v := -1) dX10_hinted_90 (by decide) rfl ?_
            refine r_ixor (pc2 := 92) dX10_hinted_91 rfl ?_
            refine r_iand (pc2 := 93) dX10_hinted_92 rfl ?_
            refine r_goto (pc2 := 106) dX10_hinted_93 (by decide) ?_
            refine r_cast (nI (clrB (a (37 + p)) q)) (clr_nI _ (hu p (by omega)) q (by omega)) ?_
            refine r_iastN (pc2 := 107) (37 + p) dX10_hinted_106 c121 (by decide) rfl (by omega) (by decide) rfl (fun h z106 o106 c121 => ?_)
            rw [upd_nA] at c121
            have hx := hx.step (a := 121) (by decide) z106 o106
            refine r_iinc (pc2 := 110) (ls2 := [.ref 121, .int (nI p), .int (nI q), .int 1, .int 1, .int (nI p), .int (nI (2 ^ q))]) (v := 1) 4 dX10_hinted_107 rfl (by decide) rfl rfl rfl ?_
            refine r_goto (pc2 := 3) dX10_hinted_110 (by decide) ?_
            refine r_iload (pc2 := 5) 4 dX10_hinted_3 rfl rfl ?_
            refine r_iconst (pc2 := 6) (v := 2) dX10_hinted_5 (by decide) rfl ?_
            refine r_icmp_ge (tgt := 113) (pc2 := 9) dX10_hinted_6 (by decide) rfl (fun b6 => ?_) (fun b6 => ?_)
            · exact absurd b6 (by decide)
            · skip
              refine r_iload (pc2 := 11) 4 dX10_hinted_9 rfl rfl ?_
              refine r_if_ne (tgt := 18) (pc2 := 14) dX10_hinted_11 (by decide) rfl (fun b11 => ?_) (fun b11 => ?_)
              · skip
                refine r_iload_n (pc2 := 19) 2 dX10_hinted_18 rfl rfl rfl ?_
                refine r_istore (pc2 := 21) (ls2 := [.ref 121, .int (nI p), .int (nI q), .int 1, .int 1, .int (nI q), .int (nI (2 ^ q))]) 5 dX10_hinted_19 (by decide) rfl rfl rfl ?_
                refine r_iconst (pc2 := 22) (v := 1) dX10_hinted_21 (by decide) rfl ?_
                refine r_iload (pc2 := 24) 4 dX10_hinted_22 rfl rfl ?_
                refine r_if_ne (tgt := 31) (pc2 := 27) dX10_hinted_24 (by decide) rfl (fun b24 => ?_) (fun b24 => ?_)
                · skip
                  refine r_iload_n (pc2 := 32) 1 dX10_hinted_31 rfl rfl rfl ?_
                  refine r_ishl (pc2 := 33) dX10_hinted_32 rfl ?_
                  refine r_cast (nI (2 ^ p)) (shl1 p (by omega)) ?_
                  refine r_istore (pc2 := 35) (ls2 := [.ref 121, .int (nI p), .int (nI q), .int 1, .int 1, .int (nI q), .int (nI (2 ^ p))]) 6 dX10_hinted_33 (by decide) rfl rfl rfl ?_
                  refine r_aload_n (pc2 := 36) 0 dX10_hinted_35 rfl rfl rfl rfl ?_
                  refine r_bipush (pc2 := 38) (v := 29) dX10_hinted_36 (by decide) rfl ?_
                  refine r_iload (pc2 := 40) 5 dX10_hinted_38 rfl rfl ?_
                  refine r_iadd (pc2 := 41) dX10_hinted_40 rfl ?_
                  refine r_cast (nI (29 + q)) (nI_add 29 q) ?_
                  refine r_iload_n (pc2 := 42) 3 dX10_hinted_41 rfl rfl rfl ?_
                  refine r_if_eq (tgt := 58) (pc2 := 45) dX10_hinted_42 (by decide) rfl (fun b42 => ?_) (fun b42 => ?_)
                  · exact absurd b42 (by decide)
                  · skip
                    refine r_aload_n (pc2 := 46) 0 dX10_hinted_45 rfl rfl rfl rfl ?_
                    refine r_bipush (pc2 := 48) (v := 29) dX10_hinted_46 (by decide) rfl ?_
                    refine r_iload (pc2 := 50) 5 dX10_hinted_48 rfl rfl ?_
                    refine r_iadd (pc2 := 51) dX10_hinted_50 rfl ?_
                    refine r_cast (nI (29 + q)) (nI_add 29 q) ?_
                    refine r_ialdA (pc2 := 52) (29 + q) dX10_hinted_51 c121 (by decide) rfl (by omega) (by decide) rfl ?_
                    refine r_cast (nI (a (29 + q))) (congrArg nI (by first | rfl | (simp only [va_up_ne _ _ (show 29 + q ≠ 29 + q by omega), va_up_ne _ _ (show 29 + q ≠ 29 + p by omega), va_up_ne _ _ (show 29 + q ≠ 37 + p by omega)]; done) | (rw [va_up_ne _ _ (by omega)]; done) | (rw [va_up_ne _ _ (by omega), va_up_ne _ _ (by omega)]; done) | (rw [va_up_ne _ _ (by omega), va_up_ne _ _ (by omega), va_up_ne _ _ (by omega)]; done))) ?_
                    refine r_iload (pc2 := 54) 6 dX10_hinted_52 rfl rfl ?_
                    refine r_ior (pc2 := 55) dX10_hinted_54 rfl ?_
                    refine r_goto (pc2 := 70) dX10_hinted_55 (by decide) ?_
                    refine r_cast (nI (a (29 + q) ||| 2 ^ p)) (nI_or _ _) ?_
                    refine r_iastN (pc2 := 71) (29 + q) dX10_hinted_70 c121 (by decide) rfl (by omega) (by decide) rfl (fun h z70 o70 c121 => ?_)
                    rw [upd_nA] at c121
                    have hx := hx.step (a := 121) (by decide) z70 o70
                    refine r_aload_n (pc2 := 72) 0 dX10_hinted_71 rfl rfl rfl rfl ?_
                    refine r_bipush (pc2 := 74) (v := 37) dX10_hinted_72 (by decide) rfl ?_
                    refine r_iload (pc2 := 76) 5 dX10_hinted_74 rfl rfl ?_
                    refine r_iadd (pc2 := 77) dX10_hinted_76 rfl ?_
                    refine r_cast (nI (37 + q)) (nI_add 37 q) ?_
                    refine r_iload_n (pc2 := 78) 3 dX10_hinted_77 rfl rfl rfl ?_
                    refine r_if_eq (tgt := 96) (pc2 := 81) dX10_hinted_78 (by decide) rfl (fun b78 => ?_) (fun b78 => ?_)
                    · exact absurd b78 (by decide)
                    · skip
                      refine r_aload_n (pc2 := 82) 0 dX10_hinted_81 rfl rfl rfl rfl ?_
                      refine r_bipush (pc2 := 84) (v := 37) dX10_hinted_82 (by decide) rfl ?_
                      refine r_iload (pc2 := 86) 5 dX10_hinted_84 rfl rfl ?_
                      refine r_iadd (pc2 := 87) dX10_hinted_86 rfl ?_
                      refine r_cast (nI (37 + q)) (nI_add 37 q) ?_
                      refine r_ialdA (pc2 := 88) (37 + q) dX10_hinted_87 c121 (by decide) rfl (by omega) (by decide) rfl ?_
                      refine r_cast (nI (a (37 + q))) (congrArg nI (by first | rfl | (simp only [va_up_ne _ _ (show 37 + q ≠ 29 + q by omega), va_up_ne _ _ (show 37 + q ≠ 29 + p by omega), va_up_ne _ _ (show 37 + q ≠ 37 + p by omega)]; done) | (rw [va_up_ne _ _ (by omega)]; done) | (rw [va_up_ne _ _ (by omega), va_up_ne _ _ (by omega)]; done) | (rw [va_up_ne _ _ (by omega), va_up_ne _ _ (by omega), va_up_ne _ _ (by omega)]; done))) ?_
                      refine r_iload (pc2 := 90) 6 dX10_hinted_88 rfl rfl ?_
                      refine r_iconst (pc2 := 91) (v := -1) dX10_hinted_90 (by decide) rfl ?_
                      refine r_ixor (pc2 := 92) dX10_hinted_91 rfl ?_
                      refine r_iand (pc2 := 93) dX10_hinted_92 rfl ?_
                      refine r_goto (pc2 := 106) dX10_hinted_93 (by decide) ?_
                      refine r_cast (nI (clrB (a (37 + q)) p)) (clr_nI _ (hu q (by omega)) p (by omega)) ?_
                      refine r_iastN (pc2 := 107) (37 + q) dX10_hinted_106 c121 (by decide) rfl (by omega) (by decide) rfl (fun h z106 o106 c121 => ?_)
                      rw [upd_nA] at c121
                      have hx := hx.step (a := 121) (by decide) z106 o106
                      refine r_iinc (pc2 := 110) (ls2 := [.ref 121, .int (nI p), .int (nI q), .int 1, .int 2, .int (nI q), .int (nI (2 ^ p))]) (v := 2) 4 dX10_hinted_107 rfl (by decide) rfl rfl rfl ?_
                      refine r_goto (pc2 := 3) dX10_hinted_110 (by decide) ?_
                      refine r_iload (pc2 := 5) 4 dX10_hinted_3 rfl rfl ?_
                      refine r_iconst (pc2 := 6) (v := 2) dX10_hinted_5 (by decide) rfl ?_
                      refine r_icmp_ge (tgt := 113) (pc2 := 9) dX10_hinted_6 (by decide) rfl (fun b6 => ?_) (fun b6 => ?_)
                      · skip
                        exact r_vret rfl dX10_hinted_113 ⟨rfl, hx, c121⟩
                      · exact absurd b6 (by decide)
                · exact absurd b24 (by decide)
              · exact absurd b11 (by decide)
