/-! goesCart, laysChance -/
def QGC (v : Nat → Int32) (h0 : Hp) (x y : Nat) : Option Value → Hp → Prop := fun r h2 => r = none ∧ Ex [117, 122, 123] h0 h2 ∧ h2.1 117 = some (mO (cv v x y)) ∧ (∃ f, h2.1 122 = some (aI 900 f)) ∧ ∃ w, h2.1 123 = some (aI 9 w)
set_option maxRecDepth 20000 in
set_option maxHeartbeats 1000000 in
theorem c_goesCart {E : EnvT} {v rm : Nat → Int32} {nu : Nat → Int64} {a : Nat → Nat} {t : Nat} (hA : AIN a) (ht : t < 4) (hrm : rm t = nI (rowN rm t)) (hr6 : rowN rm t ≤ 6) (hV : okV (a 3) nu t (rowN rm t)) (h6 : a 6 ≤ 10) : ∀ m : Nat, ∀ (i s l x y d : Nat) (f2 w2 : Nat → Int32) (h0 : Hp), i + m = rowN rm t → LEG a (sv nu t) m i s → l * 10 ^ m ≤ 1000000 → m + 5 ≤ d → h0.1 117 = some (mO (cv v x y)) → h0.1 118 = some (aI 3531 (nA a)) → h0.1 122 = some (aI 900 f2) → h0.1 123 = some (aI 9 w2) → h0.1 137 = some (aI 4 rm) → h0.1 138 = some (aL 160 nu) → Cn E mX10_goesCart d [.ref 117, .int (nI t), .int (nI s), .int (nI i), .int (nI l)] h0 (QGC v h0 (x + (gS a (sv nu t) m i s l).1) (y + (gS a (sv nu t) m i s l).2)) := by
  intro m
  induction m with
  | zero =>
    intro i s l x y d f2 w2 h0 him hL hl hd c117 c118 c122 c123 c137 c138
    have hx : Ex [117, 122, 123] h0 h0 := Ex.rf
    obtain rfl : i = rowN rm t := by omega
    have hs4 := hL.1.1
    have hl : l ≤ 1000000 := by simpa using hl
    by_cases hz : s / 4096 = 0
    · have hg0 : gS a (sv nu t) 0 (rowN rm t) s l = (0, 0) := by rw [gS, if_pos (Or.inl hz)]
      refine Cn.go (ls := [.ref 117, .int (nI t), .int (nI s), .int (nI (rowN rm t)), .int (nI l), .float 0]) (by decide +kernel) rfl (Nat.le_of_ble_eq_true rfl) ?_
      refine r_iload_n (pc2 := 1) 2 dX10_goesCart_0 rfl rfl rfl ?_
      refine r_callS1 (pc2 := 4) (As := [.int (nI s)]) (st := []) kX10_231 dX10_goesCart_1 rfl rfl (Nat.le_of_ble_eq_true rfl) (by omega) (c_depthIn (nI s)) rfl (fun h2 hq1 => ?_)
      subst hq1
      refine r_cast (nI (s / 4096)) (depthN (by omega)) ?_
      refine r_if_eq (tgt := 12) (pc2 := 7) dX10_goesCart_4 (by decide) rfl (fun b4 => ?_) (fun b4 => ?_)
      · skip
        exact r_vret rfl dX10_goesCart_12 (by rw [hg0]; exact ⟨rfl, hx, c117, ⟨_, c122⟩, ⟨_, c123⟩⟩)
      · exact absurd (by rw [hz]; rfl) b4
    · by_cases hl0 : l = 0
      · have hg0 : gS a (sv nu t) 0 (rowN rm t) s l = (0, 0) := by rw [gS, if_pos (Or.inr hl0)]
        refine Cn.go (ls := [.ref 117, .int (nI t), .int (nI s), .int (nI (rowN rm t)), .int (nI l), .float 0]) (by decide +kernel) rfl (Nat.le_of_ble_eq_true rfl) ?_
        refine r_iload_n (pc2 := 1) 2 dX10_goesCart_0 rfl rfl rfl ?_
        refine r_callS1 (pc2 := 4) (As := [.int (nI s)]) (st := []) kX10_231 dX10_goesCart_1 rfl rfl (Nat.le_of_ble_eq_true rfl) (by omega) (c_depthIn (nI s)) rfl (fun h2 hq1 => ?_)
        subst hq1
        refine r_cast (nI (s / 4096)) (depthN (by omega)) ?_
        refine r_if_eq (tgt := 12) (pc2 := 7) dX10_goesCart_4 (by decide) rfl (fun b4 => ?_) (fun b4 => ?_)
        · exact absurd (nI_z0 (by omega) b4) hz
        · skip
          refine r_iload (pc2 := 9) 4 dX10_goesCart_7 rfl rfl ?_
          refine r_if_ne (tgt := 13) (pc2 := 12) dX10_goesCart_9 (by decide) rfl (fun b9 => ?_) (fun b9 => ?_)
          · exact absurd (by rw [hl0]; rfl) b9
          · skip
            exact r_vret rfl dX10_goesCart_12 (by rw [hg0]; exact ⟨rfl, hx, c117, ⟨_, c122⟩, ⟨_, c123⟩⟩)
      · have hg0 : gS a (sv nu t) 0 (rowN rm t) s l = (l, l * (s / 4096)) := by rw [gS, if_neg (fun z => z.elim hz hl0)]
        refine Cn.go (ls := [.ref 117, .int (nI t), .int (nI s), .int (nI (rowN rm t)), .int (nI l), .float 0]) (by decide +kernel) rfl (Nat.le_of_ble_eq_true rfl) ?_
        refine r_iload_n (pc2 := 1) 2 dX10_goesCart_0 rfl rfl rfl ?_
        refine r_callS1 (pc2 := 4) (As := [.int (nI s)]) (st := []) kX10_231 dX10_goesCart_1 rfl rfl (Nat.le_of_ble_eq_true rfl) (by omega) (c_depthIn (nI s)) rfl (fun h2 hq1 => ?_)
        subst hq1
        refine r_cast (nI (s / 4096)) (depthN (by omega)) ?_
        refine r_if_eq (tgt := 12) (pc2 := 7) dX10_goesCart_4 (by decide) rfl (fun b4 => ?_) (fun b4 => ?_)
        · exact absurd (nI_z0 (by omega) b4) hz
        · skip
          refine r_iload (pc2 := 9) 4 dX10_goesCart_7 rfl rfl ?_
          refine r_if_ne (tgt := 13) (pc2 := 12) dX10_goesCart_9 (by decide) rfl (fun b9 => ?_) (fun b9 => ?_)
          · skip
            refine r_iload_n (pc2 := 14) 3 dX10_goesCart_13 rfl rfl rfl ?_
            refine r_aload_n (pc2 := 15) 0 dX10_goesCart_14 rfl rfl rfl rfl ?_
            refine r_getf (pc2 := 18) (v := .ref 137) fX10_80 dX10_goesCart_15 c117 (by decide) rfl rfl ?_
            refine r_iload_n (pc2 := 19) 1 dX10_goesCart_18 rfl rfl rfl ?_
            refine r_ialdN (pc2 := 20) t dX10_goesCart_19 c137 (by decide) rfl (by omega) (by decide) rfl ?_
            refine r_cast (nI (rowN rm t)) (hrm) ?_
            refine r_icmp_ne (tgt := 51) (pc2 := 23) dX10_goesCart_20 (by decide) rfl (fun b20 => ?_) (fun b20 => ?_)
            · exact absurd rfl b20
            · skip
              refine r_aload_n (pc2 := 24) 0 dX10_goesCart_23 rfl rfl rfl rfl ?_
              refine r_dup (pc2 := 25) dX10_goesCart_24 rfl rfl ?_
              refine r_getf (pc2 := 28) (v := .int (nI x)) fX10_433 dX10_goesCart_25 c117 (by decide) rfl rfl ?_
              refine r_iload (pc2 := 30) 4 dX10_goesCart_28 rfl rfl ?_
              refine r_iadd (pc2 := 31) dX10_goesCart_30 rfl ?_
              refine r_cast (nI (x + l)) (nI_add _ _) ?_
              refine r_putfX (pc2 := 34) (moL (upd (cv v x y) 37 (nI (x + l)))) fX10_433 dX10_goesCart_31 c117 (by decide) (Nat.le_of_ble_eq_true rfl) rfl rfl rfl (fun h z31 o31 c117 => ?_)
              have c118 := (o31 118 (by decide)).trans c118
              have c122 := (o31 122 (by decide)).trans c122
              have c123 := (o31 123 (by decide)).trans c123
              have c137 := (o31 137 (by decide)).trans c137
              have c138 := (o31 138 (by decide)).trans c138
              have hx := hx.step (a := 117) (by decide) z31 o31
              refine r_aload_n (pc2 := 35) 0 dX10_goesCart_34 rfl rfl rfl rfl ?_
              refine r_dup (pc2 := 36) dX10_goesCart_35 rfl rfl ?_
              refine r_getf (pc2 := 39) (v := .int (nI y)) fX10_436 dX10_goesCart_36 c117 (by decide) rfl rfl ?_
              refine r_iload (pc2 := 41) 4 dX10_goesCart_39 rfl rfl ?_
              refine r_iload_n (pc2 := 42) 2 dX10_goesCart_41 rfl rfl rfl ?_
              refine r_callS1 (pc2 := 45) (As := [.int (nI s)]) (st := [.int (nI l), .int (nI y), .ref 117]) kX10_231 dX10_goesCart_42 rfl rfl (Nat.le_of_ble_eq_true rfl) (by omega) (c_depthIn (nI s)) rfl (fun h2 hq42 => ?_)
              subst hq42
              refine r_cast (nI (s / 4096)) (depthN (by omega)) ?_
              refine r_imul (pc2 := 46) dX10_goesCart_45 rfl ?_
              refine r_cast (nI (l * (s / 4096))) (mulN _ _) ?_
              refine r_iadd (pc2 := 47) dX10_goesCart_46 rfl ?_
              refine r_cast (nI (y + l * (s / 4096))) (nI_add _ _) ?_
              refine r_putfX (pc2 := 50) (moL (upd (upd (cv v x y) 37 (nI (x + l))) 38 (nI (y + l * (s / 4096))))) fX10_436 dX10_goesCart_47 c117 (by decide) (Nat.le_of_ble_eq_true rfl) rfl rfl rfl (fun h z47 o47 c117 => ?_)
              have c118 := (o47 118 (by decide)).trans c118
              have c122 := (o47 122 (by decide)).trans c122
              have c123 := (o47 123 (by decide)).trans c123
              have c137 := (o47 137 (by decide)).trans c137
              have c138 := (o47 138 (by decide)).trans c138
              have hx := hx.step (a := 117) (by decide) z47 o47
              exact r_vret rfl dX10_goesCart_50 (by rw [hg0]; rw [cv_37, cv_38] at c117; exact ⟨rfl, hx, c117, ⟨_, c122⟩, ⟨_, c123⟩⟩)
          · exact absurd (nI_z0 (by omega) b9) hl0
  | succ m ih =>
    intro i s l x y d f2 w2 h0 him hL hl hd c117 c118 c122 c123 c137 c138
    have hx : Ex [117, 122, 123] h0 h0 := Ex.rf
    have hs4 := hL.1.1
    have hi : i < rowN rm t := by omega
    have hlp : l * 1 ≤ l * 10 ^ (m + 1) := Nat.mul_le_mul_left _ (Nat.pow_pos (by decide))
    by_cases hz : s / 4096 = 0
    · have hg0 : gS a (sv nu t) (m + 1) i s l = (0, 0) := by rw [gS, if_pos (Or.inl hz)]
      refine Cn.go (ls := [.ref 117, .int (nI t), .int (nI s), .int (nI i), .int (nI l), .float 0]) (by decide +kernel) rfl (Nat.le_of_ble_eq_true rfl) ?_
      refine r_iload_n (pc2 := 1) 2 dX10_goesCart_0 rfl rfl rfl ?_
      refine r_callS1 (pc2 := 4) (As := [.int (nI s)]) (st := []) kX10_231 dX10_goesCart_1 rfl rfl (Nat.le_of_ble_eq_true rfl) (by omega) (c_depthIn (nI s)) rfl (fun h2 hq1 => ?_)
      subst hq1
      refine r_cast (nI (s / 4096)) (depthN (by omega)) ?_
      refine r_if_eq (tgt := 12) (pc2 := 7) dX10_goesCart_4 (by decide) rfl (fun b4 => ?_) (fun b4 => ?_)
      · skip
        exact r_vret rfl dX10_goesCart_12 (by rw [hg0]; exact ⟨rfl, hx, c117, ⟨_, c122⟩, ⟨_, c123⟩⟩)
      · exact absurd (by rw [hz]; rfl) b4
    · by_cases hl0 : l = 0
      · have hg0 : gS a (sv nu t) (m + 1) i s l = (0, 0) := by rw [gS, if_pos (Or.inr hl0)]
        refine Cn.go (ls := [.ref 117, .int (nI t), .int (nI s), .int (nI i), .int (nI l), .float 0]) (by decide +kernel) rfl (Nat.le_of_ble_eq_true rfl) ?_
        refine r_iload_n (pc2 := 1) 2 dX10_goesCart_0 rfl rfl rfl ?_
        refine r_callS1 (pc2 := 4) (As := [.int (nI s)]) (st := []) kX10_231 dX10_goesCart_1 rfl rfl (Nat.le_of_ble_eq_true rfl) (by omega) (c_depthIn (nI s)) rfl (fun h2 hq1 => ?_)
        subst hq1
        refine r_cast (nI (s / 4096)) (depthN (by omega)) ?_
        refine r_if_eq (tgt := 12) (pc2 := 7) dX10_goesCart_4 (by decide) rfl (fun b4 => ?_) (fun b4 => ?_)
        · exact absurd (nI_z0 (by omega) b4) hz
        · skip
          refine r_iload (pc2 := 9) 4 dX10_goesCart_7 rfl rfl ?_
          refine r_if_ne (tgt := 13) (pc2 := 12) dX10_goesCart_9 (by decide) rfl (fun b9 => ?_) (fun b9 => ?_)
          · exact absurd (by rw [hl0]; rfl) b9
          · skip
            exact r_vret rfl dX10_goesCart_12 (by rw [hg0]; exact ⟨rfl, hx, c117, ⟨_, c122⟩, ⟨_, c123⟩⟩)
      · have hg0 : gS a (sv nu t) (m + 1) i s l = ((gS a (sv nu t) m (i + 1) (hourN a s (sv nu t i) 0 (a 27)) (l * (10 - a 6))).1 + (gS a (sv nu t) m (i + 1) (hourN a s (sv nu t i) (a 7) (a 27)) (l * a 6)).1, (gS a (sv nu t) m (i + 1) (hourN a s (sv nu t i) 0 (a 27)) (l * (10 - a 6))).2 + (gS a (sv nu t) m (i + 1) (hourN a s (sv nu t i) (a 7) (a 27)) (l * a 6)).2) := by rw [gS, if_neg (fun z => z.elim hz hl0)]
        have hsv := (okV_sv hA.G hV hi).2
        have hp16 := pw16 hA.G
        have hdr := hA.dr
        have h7 := hA.ct.2
        have hl1 : l * (10 - a 6) * 10 ^ m ≤ 1000000 := Nat.le_trans (by rw [Nat.pow_succ, Nat.mul_comm (10 ^ m) 10, ← Nat.mul_assoc]; exact Nat.mul_le_mul_right _ (Nat.mul_le_mul_left _ (Nat.sub_le _ _))) hl
        have hl2 : l * a 6 * 10 ^ m ≤ 1000000 := Nat.le_trans (by rw [Nat.pow_succ, Nat.mul_comm (10 ^ m) 10, ← Nat.mul_assoc]; exact Nat.mul_le_mul_right _ (Nat.mul_le_mul_left _ h6)) hl
        refine Cn.go (ls := [.ref 117, .int (nI t), .int (nI s), .int (nI i), .int (nI l), .float 0]) (by decide +kernel) rfl (Nat.le_of_ble_eq_true rfl) ?_
        refine r_iload_n (pc2 := 1) 2 dX10_goesCart_0 rfl rfl rfl ?_
        refine r_callS1 (pc2 := 4) (As := [.int (nI s)]) (st := []) kX10_231 dX10_goesCart_1 rfl rfl (Nat.le_of_ble_eq_true rfl) (by omega) (c_depthIn (nI s)) rfl (fun h2 hq1 => ?_)
        subst hq1
        refine r_cast (nI (s / 4096)) (depthN (by omega)) ?_
        refine r_if_eq (tgt := 12) (pc2 := 7) dX10_goesCart_4 (by decide) rfl (fun b4 => ?_) (fun b4 => ?_)
        · exact absurd (nI_z0 (by omega) b4) hz
        · skip
          refine r_iload (pc2 := 9) 4 dX10_goesCart_7 rfl rfl ?_
          refine r_if_ne (tgt := 13) (pc2 := 12) dX10_goesCart_9 (by decide) rfl (fun b9 => ?_) (fun b9 => ?_)
          · skip
            refine r_iload_n (pc2 := 14) 3 dX10_goesCart_13 rfl rfl rfl ?_
            refine r_aload_n (pc2 := 15) 0 dX10_goesCart_14 rfl rfl rfl rfl ?_
            refine r_getf (pc2 := 18) (v := .ref 137) fX10_80 dX10_goesCart_15 c117 (by decide) rfl rfl ?_
            refine r_iload_n (pc2 := 19) 1 dX10_goesCart_18 rfl rfl rfl ?_
            refine r_ialdN (pc2 := 20) t dX10_goesCart_19 c137 (by decide) rfl (by omega) (by decide) rfl ?_
            refine r_cast (nI (rowN rm t)) (hrm) ?_
            refine r_icmp_ne (tgt := 51) (pc2 := 23) dX10_goesCart_20 (by decide) rfl (fun b20 => ?_) (fun b20 => ?_)
            · skip
              refine r_aload_n (pc2 := 52) 0 dX10_goesCart_51 rfl rfl rfl rfl ?_
              refine r_getf (pc2 := 55) (v := .ref 138) fX10_83 dX10_goesCart_52 c117 (by decide) rfl rfl ?_
              refine r_bipush (pc2 := 57) (v := 40) dX10_goesCart_55 (by decide) rfl ?_
              refine r_iload_n (pc2 := 58) 1 dX10_goesCart_57 rfl rfl rfl ?_
              refine r_imul (pc2 := 59) dX10_goesCart_58 rfl ?_
              refine r_cast (nI (40 * t)) (pk_mul 40 t) ?_
              refine r_iload_n (pc2 := 60) 3 dX10_goesCart_59 rfl rfl rfl ?_
              refine r_iadd (pc2 := 61) dX10_goesCart_60 rfl ?_
              refine r_cast (nI (40 * t + i)) (nI_add _ _) ?_
              refine r_laldN (pc2 := 62) (40 * t + i) dX10_goesCart_61 c138 (by decide) rfl (by omega) (by decide) rfl ?_
              refine r_castl (lN (sv nu t i)) ((okV_sv hA.G hV hi).1) ?_
              refine r_l2i (pc2 := 63) dX10_goesCart_62 rfl ?_
              refine r_cast (nI (sv nu t i)) (lN_i _) ?_
              refine r_istore (pc2 := 65) (ls2 := [.ref 117, .int (nI t), .int (nI s), .int (nI i), .int (nI l), .int (nI (sv nu t i))]) 5 dX10_goesCart_63 (by decide) rfl rfl rfl ?_
              refine r_aload_n (pc2 := 66) 0 dX10_goesCart_65 rfl rfl rfl rfl ?_
              refine r_iload_n (pc2 := 67) 1 dX10_goesCart_66 rfl rfl rfl ?_
              refine r_aload_n (pc2 := 68) 0 dX10_goesCart_67 rfl rfl rfl rfl ?_
              refine r_iload_n (pc2 := 69) 2 dX10_goesCart_68 rfl rfl rfl ?_
              refine r_iload (pc2 := 71) 5 dX10_goesCart_69 rfl rfl ?_
              refine r_iconst (pc2 := 72) (v := 0) dX10_goesCart_71 (by decide) rfl ?_
              refine r_aload_n (pc2 := 73) 0 dX10_goesCart_72 rfl rfl rfl rfl ?_
              refine r_getf (pc2 := 76) (v := .ref 118) fX10_13 dX10_goesCart_73 c117 (by decide) rfl rfl ?_
              refine r_bipush (pc2 := 78) (v := 27) dX10_goesCart_76 (by decide) rfl ?_
              refine r_ialdA (pc2 := 79) 27 dX10_goesCart_78 c118 (by decide) rfl (by decide) (by decide) rfl ?_
              refine r_callV1 (pc2 := 82) (As := [.int (nI s), .int (nI (sv nu t i)), .int 0, .int (nI (a 27))]) (st := [.int (nI t), .ref 117]) kX10_273 rfl rfl dX10_goesCart_79 c117 (by decide) rfl rfl (Nat.le_of_ble_eq_true rfl) (by omega) (c_hourTo (st := s) (sn := sv nu t i) (b := 0) (dr := a 27) c117 c118 c122 c123 (by omega) (by omega) (by omega) (by omega) hL.ok hA.G hA.C hA.h2 hA.lo hA.w0 hA.w1 (by omega)) rfl (fun h hq79 => ?_)
              obtain ⟨hx2, ⟨f2b, c122⟩, ⟨w2b, c123⟩⟩ := hq79
              have c117 := hx2.get (by decide) c117
              have c118 := hx2.get (by decide) c118
              have c137 := hx2.get (by decide) c137
              have c138 := hx2.get (by decide) c138
              have hx := hx.trans hx2 (by decide)
              refine r_iload_n (pc2 := 83) 3 dX10_goesCart_82 rfl rfl rfl ?_
              refine r_iconst (pc2 := 84) (v := 1) dX10_goesCart_83 (by decide) rfl ?_
              refine r_iadd (pc2 := 85) dX10_goesCart_84 rfl ?_
              refine r_cast (nI (i + 1)) (nI_1 _) ?_
              refine r_iload (pc2 := 87) 4 dX10_goesCart_85 rfl rfl ?_
              refine r_bipush (pc2 := 89) (v := 10) dX10_goesCart_87 (by decide) rfl ?_
              refine r_aload_n (pc2 := 90) 0 dX10_goesCart_89 rfl rfl rfl rfl ?_
              refine r_getf (pc2 := 93) (v := .ref 118) fX10_13 dX10_goesCart_90 c117 (by decide) rfl rfl ?_
              refine r_bipush (pc2 := 95) (v := 6) dX10_goesCart_93 (by decide) rfl ?_
              refine r_ialdA (pc2 := 96) 6 dX10_goesCart_95 c118 (by decide) rfl (by decide) (by decide) rfl ?_
              refine r_isub (pc2 := 97) dX10_goesCart_96 rfl ?_
              refine r_cast (nI (10 - a 6)) (pk_sub (a := 10) h6) ?_
              refine r_imul (pc2 := 98) dX10_goesCart_97 rfl ?_
              refine r_cast (nI (l * (10 - a 6))) (mulN _ _) ?_
              refine r_callV0 (pc2 := 101) (As := [.int (nI t), .int (nI (hourN a s (sv nu t i) 0 (a 27))), .int (nI (i + 1)), .int (nI (l * (10 - a 6)))]) (st := []) kX10_439 rfl rfl dX10_goesCart_98 c117 (by decide) rfl rfl (Nat.le_of_ble_eq_true rfl) (by omega) (ih (i + 1) (hourN a s (sv nu t i) 0 (a 27)) (l * (10 - a 6)) x y (d - 1) _ _ _ (by omega) (hL.step hA.G hA.C) hl1 (by omega) c117 c118 c122 c123 c137 c138) rfl (fun h hq98 => ?_)
              obtain ⟨hx3, c117, ⟨f2c, c122⟩, ⟨w2c, c123⟩⟩ := hq98
              have c118 := hx3.get (by decide) c118
              have c137 := hx3.get (by decide) c137
              have c138 := hx3.get (by decide) c138
              have hx := hx.trans hx3 (by decide)
              refine r_aload_n (pc2 := 102) 0 dX10_goesCart_101 rfl rfl rfl rfl ?_
              refine r_iload_n (pc2 := 103) 1 dX10_goesCart_102 rfl rfl rfl ?_
              refine r_aload_n (pc2 := 104) 0 dX10_goesCart_103 rfl rfl rfl rfl ?_
              refine r_iload_n (pc2 := 105) 2 dX10_goesCart_104 rfl rfl rfl ?_
              refine r_iload (pc2 := 107) 5 dX10_goesCart_105 rfl rfl ?_
              refine r_aload_n (pc2 := 108) 0 dX10_goesCart_107 rfl rfl rfl rfl ?_
              refine r_getf (pc2 := 111) (v := .ref 118) fX10_13 dX10_goesCart_108 c117 (by decide) rfl rfl ?_
              refine r_bipush (pc2 := 113) (v := 7) dX10_goesCart_111 (by decide) rfl ?_
              refine r_ialdA (pc2 := 114) 7 dX10_goesCart_113 c118 (by decide) rfl (by decide) (by decide) rfl ?_
              refine r_aload_n (pc2 := 115) 0 dX10_goesCart_114 rfl rfl rfl rfl ?_
              refine r_getf (pc2 := 118) (v := .ref 118) fX10_13 dX10_goesCart_115 c117 (by decide) rfl rfl ?_
              refine r_bipush (pc2 := 120) (v := 27) dX10_goesCart_118 (by decide) rfl ?_
              refine r_ialdA (pc2 := 121) 27 dX10_goesCart_120 c118 (by decide) rfl (by decide) (by decide) rfl ?_
              refine r_callV1 (pc2 := 124) (As := [.int (nI s), .int (nI (sv nu t i)), .int (nI (a 7)), .int (nI (a 27))]) (st := [.int (nI t), .ref 117]) kX10_273 rfl rfl dX10_goesCart_121 c117 (by decide) rfl rfl (Nat.le_of_ble_eq_true rfl) (by omega) (c_hourTo (st := s) (sn := sv nu t i) (b := (a 7)) (dr := a 27) c117 c118 c122 c123 (by omega) (by omega) (by omega) (by omega) hL.ok hA.G hA.C hA.h2 hA.lo hA.w0 hA.w1 (by omega)) rfl (fun h hq121 => ?_)
              obtain ⟨hx2, ⟨f2d, c122⟩, ⟨w2d, c123⟩⟩ := hq121
              have c117 := hx2.get (by decide) c117
              have c118 := hx2.get (by decide) c118
              have c137 := hx2.get (by decide) c137
              have c138 := hx2.get (by decide) c138
              have hx := hx.trans hx2 (by decide)
              refine r_iload_n (pc2 := 125) 3 dX10_goesCart_124 rfl rfl rfl ?_
              refine r_iconst (pc2 := 126) (v := 1) dX10_goesCart_125 (by decide) rfl ?_
              refine r_iadd (pc2 := 127) dX10_goesCart_126 rfl ?_
              refine r_cast (nI (i + 1)) (nI_1 _) ?_
              refine r_iload (pc2 := 129) 4 dX10_goesCart_127 rfl rfl ?_
              refine r_aload_n (pc2 := 130) 0 dX10_goesCart_129 rfl rfl rfl rfl ?_
              refine r_getf (pc2 := 133) (v := .ref 118) fX10_13 dX10_goesCart_130 c117 (by decide) rfl rfl ?_
              refine r_bipush (pc2 := 135) (v := 6) dX10_goesCart_133 (by decide) rfl ?_
              refine r_ialdA (pc2 := 136) 6 dX10_goesCart_135 c118 (by decide) rfl (by decide) (by decide) rfl ?_
              refine r_imul (pc2 := 137) dX10_goesCart_136 rfl ?_
              refine r_cast (nI (l * a 6)) (mulN _ _) ?_
              refine r_callV0 (pc2 := 140) (As := [.int (nI t), .int (nI (hourN a s (sv nu t i) (a 7) (a 27))), .int (nI (i + 1)), .int (nI (l * a 6))]) (st := []) kX10_439 rfl rfl dX10_goesCart_137 c117 (by decide) rfl rfl (Nat.le_of_ble_eq_true rfl) (by omega) (ih (i + 1) (hourN a s (sv nu t i) (a 7) (a 27)) (l * a 6) (x + (gS a (sv nu t) m (i + 1) (hourN a s (sv nu t i) 0 (a 27)) (l * (10 - a 6))).1) (y + (gS a (sv nu t) m (i + 1) (hourN a s (sv nu t i) 0 (a 27)) (l * (10 - a 6))).2) (d - 1) _ _ _ (by omega) (hL.step hA.G hA.C) hl2 (by omega) c117 c118 c122 c123 c137 c138) rfl (fun h hq137 => ?_)
              obtain ⟨hx3, c117, ⟨f2e, c122⟩, ⟨w2e, c123⟩⟩ := hq137
              have c118 := hx3.get (by decide) c118
              have c137 := hx3.get (by decide) c137
              have c138 := hx3.get (by decide) c138
              have hx := hx.trans hx3 (by decide)
              exact r_vret rfl dX10_goesCart_140 (by rw [hg0]; show QGC v _ (x + ((gS a (sv nu t) m (i + 1) (hourN a s (sv nu t i) 0 (a 27)) (l * (10 - a 6))).1 + (gS a (sv nu t) m (i + 1) (hourN a s (sv nu t i) (a 7) (a 27)) (l * a 6)).1)) (y + ((gS a (sv nu t) m (i + 1) (hourN a s (sv nu t i) 0 (a 27)) (l * (10 - a 6))).2 + (gS a (sv nu t) m (i + 1) (hourN a s (sv nu t i) (a 7) (a 27)) (l * a 6)).2)) none _; rw [← Nat.add_assoc, ← Nat.add_assoc]; exact ⟨rfl, hx, c117, ⟨_, c122⟩, ⟨_, c123⟩⟩)
            · exact absurd ((nI_eq (by omega) (by omega)).mp b20) (by omega)
          · exact absurd (nI_z0 (by omega) b9) hl0
set_option maxRecDepth 20000 in
set_option maxHeartbeats 1000000 in
theorem c_laysChance {E : EnvT} {d : Nat} {h0 : Hp} {v rm f2 w2 : Nat → Int32} {nu : Nat → Int64} {a : Nat → Nat} {t : Nat} (c117 : h0.1 117 = some (mO v)) (c118 : h0.1 118 = some (aI 3531 (nA a))) (c122 : h0.1 122 = some (aI 900 f2)) (c123 : h0.1 123 = some (aI 9 w2)) (c137 : h0.1 137 = some (aI 4 rm)) (c138 : h0.1 138 = some (aL 160 nu)) (hA : AIN a) (ht : t < 4) (hrm : rm t = nI (rowN rm t)) (hr6 : rowN rm t ≤ 6) (hV : okV (a 3) nu t (rowN rm t)) (hC : okC a (sv nu t) (rowN rm t) (a 3)) (hd : 12 ≤ d) : Cn E mX10_laysChance d [.ref 117, .int (nI t)] h0 (fun r h2 => r = some (.int (nI (10 ^ rowN rm t))) ∧ Ex [117, 122, 123] h0 h2 ∧ h2.1 117 = some (mO (cv v (gS a (sv nu t) (rowN rm t) 0 (packS a) 1).1 (gS a (sv nu t) (rowN rm t) 0 (packS a) 1).2)) ∧ (∃ f, h2.1 122 = some (aI 900 f)) ∧ ∃ w, h2.1 123 = some (aI 9 w)) := by
  have hx : Ex [117, 122, 123] h0 h0 := Ex.rf
  have hpw : 1 * 10 ^ rowN rm t ≤ 1000000 := by
    have := Nat.pow_le_pow_right (n := 10) (by decide) hr6
    omega
  refine Cn.go (ls := [.ref 117, .int (nI t), .float 0, .float 0]) (by decide +kernel) rfl (Nat.le_of_ble_eq_true rfl) ?_
  refine r_aload_n (pc2 := 1) 0 dX10_laysChance_0 rfl rfl rfl rfl ?_
  refine r_iconst (pc2 := 2) (v := 0) dX10_laysChance_1 (by decide) rfl ?_
  refine r_putfX (pc2 := 5) (moL (upd v 37 0)) fX10_433 dX10_laysChance_2 c117 (by decide) (Nat.le_of_ble_eq_true rfl) rfl rfl rfl (fun h z2 o2 c117 => ?_)
  have c118 := (o2 118 (by decide)).trans c118
  have c122 := (o2 122 (by decide)).trans c122
  have c123 := (o2 123 (by decide)).trans c123
  have c137 := (o2 137 (by decide)).trans c137
  have c138 := (o2 138 (by decide)).trans c138
  have hx := hx.step (a := 117) (by decide) z2 o2
  refine r_aload_n (pc2 := 6) 0 dX10_laysChance_5 rfl rfl rfl rfl ?_
  refine r_iconst (pc2 := 7) (v := 0) dX10_laysChance_6 (by decide) rfl ?_
  refine r_putfX (pc2 := 10) (moL (upd (upd v 37 0) 38 0)) fX10_436 dX10_laysChance_7 c117 (by decide) (Nat.le_of_ble_eq_true rfl) rfl rfl rfl (fun h z7 o7 c117 => ?_)
  have c118 := (o7 118 (by decide)).trans c118
  have c122 := (o7 122 (by decide)).trans c122
  have c123 := (o7 123 (by decide)).trans c123
  have c137 := (o7 137 (by decide)).trans c137
  have c138 := (o7 138 (by decide)).trans c138
  have hx := hx.step (a := 117) (by decide) z7 o7
  have c117 : h.1 117 = some (mO (cv v 0 0)) := c117
  refine r_aload_n (pc2 := 11) 0 dX10_laysChance_10 rfl rfl rfl rfl ?_
  refine r_iload_n (pc2 := 12) 1 dX10_laysChance_11 rfl rfl rfl ?_
  refine r_aload_n (pc2 := 13) 0 dX10_laysChance_12 rfl rfl rfl rfl ?_
  refine r_callV1 (pc2 := 16) (As := []) (st := [.int (nI t), .ref 117]) kX10_266 rfl rfl dX10_laysChance_13 c117 (by decide) rfl rfl (Nat.le_of_ble_eq_true rfl) (by omega) (c_standNow c117 c118 hA.G hA.c7 hA.dp) rfl (fun h2 hq13 => ?_)
  subst hq13
  refine r_iconst (pc2 := 17) (v := 0) dX10_laysChance_16 (by decide) rfl ?_
  refine r_iconst (pc2 := 18) (v := 1) dX10_laysChance_17 (by decide) rfl ?_
  refine r_callV0 (pc2 := 21) (As := [.int (nI t), .int (nI (packS a)), .int 0, .int 1]) (st := []) kX10_439 rfl rfl dX10_laysChance_18 c117 (by decide) rfl rfl (Nat.le_of_ble_eq_true rfl) (by omega) (c_goesCart (v := v) hA ht hrm hr6 hV hA.ct.1 (rowN rm t) 0 (packS a) 1 0 0 (d - 1) _ _ _ (by omega) (LEG.now hA hC) hpw (by omega) c117 c118 c122 c123 c137 c138) rfl (fun h hq18 => ?_)
  obtain ⟨hx3, c117, ⟨f2c, c122⟩, ⟨w2c, c123⟩⟩ := hq18
  have c118 := hx3.get (by decide) c118
  have c137 := hx3.get (by decide) c137
  have c138 := hx3.get (by decide) c138
  have hx := hx.trans hx3 (by decide)
  rw [Nat.zero_add, Nat.zero_add] at c117
  refine r_iconst (pc2 := 22) (v := 1) dX10_laysChance_21 (by decide) rfl ?_
  refine r_istore_n (pc2 := 23) (ls2 := [.ref 117, .int (nI t), .int 1, .float 0]) 2 dX10_laysChance_22 rfl (by decide) rfl rfl rfl ?_
  refine r_iconst (pc2 := 24) (v := 0) dX10_laysChance_23 (by decide) rfl ?_
  refine r_istore_n (pc2 := 25) (ls2 := [.ref 117, .int (nI t), .int 1, .int 0]) 3 dX10_laysChance_24 rfl (by decide) rfl rfl rfl ?_
  have loop : ∀ (m k : Nat), k + m = rowN rm t → Fr E mX10_laysChance d 25 [.ref 117, .int (nI t), .int (nI (10 ^ k)), .int (nI k)] [] h (fun r h2 => r = some (.int (nI (10 ^ rowN rm t))) ∧ Ex [117, 122, 123] h0 h2 ∧ h2.1 117 = some (mO (cv v (gS a (sv nu t) (rowN rm t) 0 (packS a) 1).1 (gS a (sv nu t) (rowN rm t) 0 (packS a) 1).2)) ∧ (∃ f, h2.1 122 = some (aI 900 f)) ∧ ∃ w, h2.1 123 = some (aI 9 w)) := by
    intro m
    induction m with
    | zero =>
      intro k hk
      obtain rfl : k = rowN rm t := by omega
      refine r_iload_n (pc2 := 26) 3 dX10_laysChance_25 rfl rfl rfl ?_
      refine r_aload_n (pc2 := 27) 0 dX10_laysChance_26 rfl rfl rfl rfl ?_
      refine r_getf (pc2 := 30) (v := .ref 137) fX10_80 dX10_laysChance_27 c117 (by decide) rfl rfl ?_
      refine r_iload_n (pc2 := 31) 1 dX10_laysChance_30 rfl rfl rfl ?_
      refine r_ialdN (pc2 := 32) t dX10_laysChance_31 c137 (by decide) rfl (by omega) (by decide) rfl ?_
      refine r_cast (nI (rowN rm t)) (hrm) ?_
      refine r_icmp_ge (tgt := 46) (pc2 := 35) dX10_laysChance_32 (by decide) rfl (fun b32 => ?_) (fun b32 => ?_)
      · skip
        refine r_iload_n (pc2 := 47) 2 dX10_laysChance_46 rfl rfl rfl ?_
        exact r_iret rfl dX10_laysChance_47 ⟨rfl, hx, c117, ⟨_, c122⟩, ⟨_, c123⟩⟩
      · exact absurd (nI_le (Nat.le_refl _) (by omega)) b32
    | succ m ih =>
      intro k hk
      have hlt : k < rowN rm t := by omega
      refine r_iload_n (pc2 := 26) 3 dX10_laysChance_25 rfl rfl rfl ?_
      refine r_aload_n (pc2 := 27) 0 dX10_laysChance_26 rfl rfl rfl rfl ?_
      refine r_getf (pc2 := 30) (v := .ref 137) fX10_80 dX10_laysChance_27 c117 (by decide) rfl rfl ?_
      refine r_iload_n (pc2 := 31) 1 dX10_laysChance_30 rfl rfl rfl ?_
      refine r_ialdN (pc2 := 32) t dX10_laysChance_31 c137 (by decide) rfl (by omega) (by decide) rfl ?_
      refine r_cast (nI (rowN rm t)) (hrm) ?_
      refine r_icmp_ge (tgt := 46) (pc2 := 35) dX10_laysChance_32 (by decide) rfl (fun b32 => ?_) (fun b32 => ?_)
      · exact absurd b32 (nI_ge hlt (by omega))
      · skip
        refine r_iload_n (pc2 := 36) 2 dX10_laysChance_35 rfl rfl rfl ?_
        refine r_bipush (pc2 := 38) (v := 10) dX10_laysChance_36 (by decide) rfl ?_
        refine r_imul (pc2 := 39) dX10_laysChance_38 rfl ?_
        refine r_cast (nI (10 ^ (k + 1))) ((mulN _ 10).trans (by rw [Nat.pow_succ])) ?_
        refine r_istore_n (pc2 := 40) (ls2 := [.ref 117, .int (nI t), .int (nI (10 ^ (k + 1))), .int (nI k)]) 2 dX10_laysChance_39 rfl (by decide) rfl rfl rfl ?_
        obtain ⟨x40, e40⟩ : ∃ z : Int32, z = (nI k) + (1) := ⟨_, rfl⟩
        refine r_iinc (pc2 := 43) (ls2 := [.ref 117, .int (nI t), .int (nI (10 ^ (k + 1))), .int x40]) (v := x40) 3 dX10_laysChance_40 rfl (by rw [e40]; rfl) rfl rfl rfl ?_
        refine r_goto (pc2 := 25) dX10_laysChance_43 (by decide) ?_
        rw [e40, nI_1]
        exact ih (k + 1) (by omega)
  exact loop (rowN rm t) 0 (by omega)
set_option maxRecDepth 20000 in
set_option maxHeartbeats 1000000 in
theorem ref_chance {E : EnvT} {d : Nat} {h0 : Hp} {v : Nat → Int32} {a : Nat → Nat} {hi : Nat → Int32} {tp : Nat → Nat} {rs rm : Nat → Int32} {nu : Nat → Int64} {x w : Int32} (hR : RS h0 v a hi tp rs rm nu) (hA : AIN a) (hT : TOK rs rm) (hd : 70 ≤ d) : Cn E mX10_chance d [.ref 117, .int x, .int w] h0 (RP (.int (chF a rs rm nu x w)) h0 v a hi tp rs rm nu) := by
  obtain ⟨k117, k118, k119, k120, ⟨f121, k121⟩, ⟨f122, k122⟩, ⟨f123, k123⟩, ⟨f124, k124⟩, ⟨f125, k125⟩, ⟨f126, k126⟩, ⟨f127, k127⟩, ⟨f128, k128⟩, ⟨f129, k129⟩, ⟨f130, k130⟩, ⟨f131, k131⟩, ⟨f132, k132⟩, ⟨f133, k133⟩, ⟨f134, k134⟩, ⟨f135, k135⟩, k136, k137, k138⟩ := hR
  have c117 := k117
  have c118 := k118
  have c122 := k122
  have c123 := k123
  have c136 := k136
  have c137 := k137
  have c138 := k138
  have hx : Ex [117, 118, 122, 123, 136, 137, 138] h0 h0 := Ex.rf
  by_cases h0n : ncF a rs rm nu x w = 0
  · obtain ⟨t, ht, rfl, hrm, hr1, hr6, hV, hC⟩ := ncF_0 hT h0n
    have hpw := Nat.pow_le_pow_right (n := 10) (by decide) hr6
    have hgl := gS_le hA.G hA.C hA.ct.1 (rowN rm t) 0 (packS a) 1 (LEG.now hA hC)
    refine Cn.go (ls := [.ref 117, .int (nI t), .int w, .float 0, .float 0]) (by decide +kernel) rfl (Nat.le_of_ble_eq_true rfl) ?_
    refine r_aload_n (pc2 := 1) 0 dX10_chance_0 rfl rfl rfl rfl ?_
    refine r_iconst (pc2 := 2) (v := 0) dX10_chance_1 (by decide) rfl ?_
    refine r_putfX (pc2 := 5) (moL (upd v 0 0)) fX10_1 dX10_chance_2 c117 (by decide) (Nat.le_of_ble_eq_true rfl) rfl rfl rfl (fun h z2 o2 c117 => ?_)
    have c118 := (o2 118 (by decide)).trans c118
    have c122 := (o2 122 (by decide)).trans c122
    have c123 := (o2 123 (by decide)).trans c123
    have c136 := (o2 136 (by decide)).trans c136
    have c137 := (o2 137 (by decide)).trans c137
    have c138 := (o2 138 (by decide)).trans c138
    have hx := hx.step (a := 117) (by decide) z2 o2
    refine r_aload_n (pc2 := 6) 0 dX10_chance_5 rfl rfl rfl rfl ?_
    refine r_iload_n (pc2 := 7) 1 dX10_chance_6 rfl rfl rfl ?_
    refine r_iload_n (pc2 := 8) 2 dX10_chance_7 rfl rfl rfl ?_
    refine r_callV1 (pc2 := 11) (As := [.int (nI t), .int w]) (st := []) kX10_443 rfl rfl dX10_chance_8 c117 (by decide) rfl rfl (Nat.le_of_ble_eq_true rfl) (by omega) (c_noChance c117 c118 c136 c137 c138 hA hT (by omega)) rfl (fun h2 hq8 => ?_)
    subst hq8
    refine r_topi (fun x11 e11 => ?_)
    refine r_istore_n (pc2 := 12) (ls2 := [.ref 117, .int (nI t), .int w, .int x11, .float 0]) 3 dX10_chance_11 rfl (by decide) rfl rfl rfl ?_
    refine r_iload_n (pc2 := 13) 3 dX10_chance_12 rfl rfl rfl ?_
    refine r_if_eq (tgt := 18) (pc2 := 16) dX10_chance_13 (by decide) rfl (fun b13 => ?_) (fun b13 => ?_)
    · skip
      refine r_aload_n (pc2 := 19) 0 dX10_chance_18 rfl rfl rfl rfl ?_
      refine r_iload_n (pc2 := 20) 1 dX10_chance_19 rfl rfl rfl ?_
      refine r_callV1 (pc2 := 23) (As := [.int (nI t)]) (st := []) kX10_446 rfl rfl dX10_chance_20 c117 (by decide) rfl rfl (Nat.le_of_ble_eq_true rfl) (by omega) (c_laysChance c117 c118 c122 c123 c137 c138 hA ht hrm hr6 hV hC (by omega)) rfl (fun h hq20 => ?_)
      obtain ⟨hxl, c117, ⟨f2, c122⟩, ⟨w2, c123⟩⟩ := hq20
      have c118 := hxl.get (by decide) c118
      have c136 := hxl.get (by decide) c136
      have c137 := hxl.get (by decide) c137
      have c138 := hxl.get (by decide) c138
      have hx := hx.trans hxl (by decide)
      refine r_istore (pc2 := 25) (ls2 := [.ref 117, .int (nI t), .int w, .int x11, .int (nI (10 ^ rowN rm t))]) 4 dX10_chance_23 (by decide) rfl rfl rfl ?_
      refine r_aload_n (pc2 := 26) 0 dX10_chance_25 rfl rfl rfl rfl ?_
      refine r_getf (pc2 := 29) (v := .int (nI (gS a (sv nu t) (rowN rm t) 0 (packS a) 1).1)) fX10_433 dX10_chance_26 c117 (by decide) rfl rfl ?_
      refine r_iload (pc2 := 31) 4 dX10_chance_29 rfl rfl ?_
      refine r_iload_n (pc2 := 32) 2 dX10_chance_31 rfl rfl rfl ?_
      refine r_callS1 (pc2 := 35) (As := [.int (nI (gS a (sv nu t) (rowN rm t) 0 (packS a) 1).1), .int (nI (10 ^ rowN rm t)), .int w]) (st := []) kX10_405 dX10_chance_32 rfl rfl (Nat.le_of_ble_eq_true rfl) (by omega) (c_part (x := (gS a (sv nu t) (rowN rm t) 0 (packS a) 1).1) (y := 10 ^ rowN rm t) (by omega) (by omega) (Nat.pow_pos (by decide)) (by omega)) rfl (fun h2 hq32 => ?_)
      subst hq32
      exact r_iret rfl dX10_chance_35 ⟨by rw [chF, if_neg (fun z => z h0n), nI_clamp (by omega)], (cv (upd v 0 0) (gS a (sv nu t) (rowN rm t) 0 (packS a) 1).1 (gS a (sv nu t) (rowN rm t) 0 (packS a) 1).2), ⟨rfl, rfl, rfl⟩, ⟨c117, c118, hx.get (by decide) k119, hx.get (by decide) k120, ⟨_, hx.get (by decide) k121⟩, ⟨_, c122⟩, ⟨_, c123⟩, ⟨_, hx.get (by decide) k124⟩, ⟨_, hx.get (by decide) k125⟩, ⟨_, hx.get (by decide) k126⟩, ⟨_, hx.get (by decide) k127⟩, ⟨_, hx.get (by decide) k128⟩, ⟨_, hx.get (by decide) k129⟩, ⟨_, hx.get (by decide) k130⟩, ⟨_, hx.get (by decide) k131⟩, ⟨_, hx.get (by decide) k132⟩, ⟨_, hx.get (by decide) k133⟩, ⟨_, hx.get (by decide) k134⟩, ⟨_, hx.get (by decide) k135⟩, c136, c137, c138⟩, hx.mono (by decide)⟩
    · exact absurd (e11.trans h0n) b13
  · skip
    refine Cn.go (ls := [.ref 117, .int x, .int w, .float 0, .float 0]) (by decide +kernel) rfl (Nat.le_of_ble_eq_true rfl) ?_
    refine r_aload_n (pc2 := 1) 0 dX10_chance_0 rfl rfl rfl rfl ?_
    refine r_iconst (pc2 := 2) (v := 0) dX10_chance_1 (by decide) rfl ?_
    refine r_putfX (pc2 := 5) (moL (upd v 0 0)) fX10_1 dX10_chance_2 c117 (by decide) (Nat.le_of_ble_eq_true rfl) rfl rfl rfl (fun h z2 o2 c117 => ?_)
    have c118 := (o2 118 (by decide)).trans c118
    have c122 := (o2 122 (by decide)).trans c122
    have c123 := (o2 123 (by decide)).trans c123
    have c136 := (o2 136 (by decide)).trans c136
    have c137 := (o2 137 (by decide)).trans c137
    have c138 := (o2 138 (by decide)).trans c138
    have hx := hx.step (a := 117) (by decide) z2 o2
    refine r_aload_n (pc2 := 6) 0 dX10_chance_5 rfl rfl rfl rfl ?_
    refine r_iload_n (pc2 := 7) 1 dX10_chance_6 rfl rfl rfl ?_
    refine r_iload_n (pc2 := 8) 2 dX10_chance_7 rfl rfl rfl ?_
    refine r_callV1 (pc2 := 11) (As := [.int x, .int w]) (st := []) kX10_443 rfl rfl dX10_chance_8 c117 (by decide) rfl rfl (Nat.le_of_ble_eq_true rfl) (by omega) (c_noChance c117 c118 c136 c137 c138 hA hT (by omega)) rfl (fun h2 hq8 => ?_)
    subst hq8
    refine r_topi (fun x11 e11 => ?_)
    refine r_istore_n (pc2 := 12) (ls2 := [.ref 117, .int x, .int w, .int x11, .float 0]) 3 dX10_chance_11 rfl (by decide) rfl rfl rfl ?_
    refine r_iload_n (pc2 := 13) 3 dX10_chance_12 rfl rfl rfl ?_
    refine r_if_eq (tgt := 18) (pc2 := 16) dX10_chance_13 (by decide) rfl (fun b13 => ?_) (fun b13 => ?_)
    · exact absurd (e11.symm.trans b13) h0n
    · skip
      refine r_iload_n (pc2 := 17) 3 dX10_chance_16 rfl rfl rfl ?_
      exact r_iret rfl dX10_chance_17 ⟨by rw [chF, if_pos h0n, e11], (upd v 0 0), ⟨rfl, rfl, rfl⟩, ⟨c117, c118, hx.get (by decide) k119, hx.get (by decide) k120, ⟨_, hx.get (by decide) k121⟩, ⟨_, c122⟩, ⟨_, c123⟩, ⟨_, hx.get (by decide) k124⟩, ⟨_, hx.get (by decide) k125⟩, ⟨_, hx.get (by decide) k126⟩, ⟨_, hx.get (by decide) k127⟩, ⟨_, hx.get (by decide) k128⟩, ⟨_, hx.get (by decide) k129⟩, ⟨_, hx.get (by decide) k130⟩, ⟨_, hx.get (by decide) k131⟩, ⟨_, hx.get (by decide) k132⟩, ⟨_, hx.get (by decide) k133⟩, ⟨_, hx.get (by decide) k134⟩, ⟨_, hx.get (by decide) k135⟩, c136, c137, c138⟩, hx.mono (by decide)⟩
set_option maxRecDepth 20000 in
set_option maxHeartbeats 1000000 in
theorem ref_mean {E : EnvT} {d : Nat} {h0 : Hp} {v : Nat → Int32} {a : Nat → Nat} {hi : Nat → Int32} {tp : Nat → Nat} {rs rm : Nat → Int32} {nu : Nat → Int64} {x w : Int32} (hR : RS h0 v a hi tp rs rm nu) (hA : AIN a) (hT : TOK rs rm) (hd : 70 ≤ d) : Cn E mX10_mean d [.ref 117, .int x, .int w] h0 (RP (.int (meF a rs rm nu x w)) h0 v a hi tp rs rm nu) := by
  obtain ⟨k117, k118, k119, k120, ⟨f121, k121⟩, ⟨f122, k122⟩, ⟨f123, k123⟩, ⟨f124, k124⟩, ⟨f125, k125⟩, ⟨f126, k126⟩, ⟨f127, k127⟩, ⟨f128, k128⟩, ⟨f129, k129⟩, ⟨f130, k130⟩, ⟨f131, k131⟩, ⟨f132, k132⟩, ⟨f133, k133⟩, ⟨f134, k134⟩, ⟨f135, k135⟩, k136, k137, k138⟩ := hR
  have c117 := k117
  have c118 := k118
  have c122 := k122
  have c123 := k123
  have c136 := k136
  have c137 := k137
  have c138 := k138
  have hx : Ex [117, 118, 122, 123, 136, 137, 138] h0 h0 := Ex.rf
  by_cases h0n : ncF a rs rm nu x w = 0
  · obtain ⟨t, ht, rfl, hrm, hr1, hr6, hV, hC⟩ := ncF_0 hT h0n
    have hpw := Nat.pow_le_pow_right (n := 10) (by decide) hr6
    have hgl := gS_le hA.G hA.C hA.ct.1 (rowN rm t) 0 (packS a) 1 (LEG.now hA hC)
    refine Cn.go (ls := [.ref 117, .int (nI t), .int w, .float 0, .float 0]) (by decide +kernel) rfl (Nat.le_of_ble_eq_true rfl) ?_
    refine r_aload_n (pc2 := 1) 0 dX10_mean_0 rfl rfl rfl rfl ?_
    refine r_iconst (pc2 := 2) (v := 0) dX10_mean_1 (by decide) rfl ?_
    refine r_putfX (pc2 := 5) (moL (upd v 0 0)) fX10_1 dX10_mean_2 c117 (by decide) (Nat.le_of_ble_eq_true rfl) rfl rfl rfl (fun h z2 o2 c117 => ?_)
    have c118 := (o2 118 (by decide)).trans c118
    have c122 := (o2 122 (by decide)).trans c122
    have c123 := (o2 123 (by decide)).trans c123
    have c136 := (o2 136 (by decide)).trans c136
    have c137 := (o2 137 (by decide)).trans c137
    have c138 := (o2 138 (by decide)).trans c138
    have hx := hx.step (a := 117) (by decide) z2 o2
    refine r_aload_n (pc2 := 6) 0 dX10_mean_5 rfl rfl rfl rfl ?_
    refine r_iload_n (pc2 := 7) 1 dX10_mean_6 rfl rfl rfl ?_
    refine r_iload_n (pc2 := 8) 2 dX10_mean_7 rfl rfl rfl ?_
    refine r_callV1 (pc2 := 11) (As := [.int (nI t), .int w]) (st := []) kX10_443 rfl rfl dX10_mean_8 c117 (by decide) rfl rfl (Nat.le_of_ble_eq_true rfl) (by omega) (c_noChance c117 c118 c136 c137 c138 hA hT (by omega)) rfl (fun h2 hq8 => ?_)
    subst hq8
    refine r_topi (fun x11 e11 => ?_)
    refine r_istore_n (pc2 := 12) (ls2 := [.ref 117, .int (nI t), .int w, .int x11, .float 0]) 3 dX10_mean_11 rfl (by decide) rfl rfl rfl ?_
    refine r_iload_n (pc2 := 13) 3 dX10_mean_12 rfl rfl rfl ?_
    refine r_if_eq (tgt := 18) (pc2 := 16) dX10_mean_13 (by decide) rfl (fun b13 => ?_) (fun b13 => ?_)
    · skip
      refine r_aload_n (pc2 := 19) 0 dX10_mean_18 rfl rfl rfl rfl ?_
      refine r_iload_n (pc2 := 20) 1 dX10_mean_19 rfl rfl rfl ?_
      refine r_callV1 (pc2 := 23) (As := [.int (nI t)]) (st := []) kX10_446 rfl rfl dX10_mean_20 c117 (by decide) rfl rfl (Nat.le_of_ble_eq_true rfl) (by omega) (c_laysChance c117 c118 c122 c123 c137 c138 hA ht hrm hr6 hV hC (by omega)) rfl (fun h hq20 => ?_)
      obtain ⟨hxl, c117, ⟨f2, c122⟩, ⟨w2, c123⟩⟩ := hq20
      have c118 := hxl.get (by decide) c118
      have c136 := hxl.get (by decide) c136
      have c137 := hxl.get (by decide) c137
      have c138 := hxl.get (by decide) c138
      have hx := hx.trans hxl (by decide)
      refine r_istore (pc2 := 25) (ls2 := [.ref 117, .int (nI t), .int w, .int x11, .int (nI (10 ^ rowN rm t))]) 4 dX10_mean_23 (by decide) rfl rfl rfl ?_
      refine r_aload_n (pc2 := 26) 0 dX10_mean_25 rfl rfl rfl rfl ?_
      refine r_getf (pc2 := 29) (v := .int (nI (gS a (sv nu t) (rowN rm t) 0 (packS a) 1).2)) fX10_436 dX10_mean_26 c117 (by decide) rfl rfl ?_
      refine r_iload (pc2 := 31) 4 dX10_mean_29 rfl rfl ?_
      refine r_iload_n (pc2 := 32) 2 dX10_mean_31 rfl rfl rfl ?_
      refine r_callS1 (pc2 := 35) (As := [.int (nI (gS a (sv nu t) (rowN rm t) 0 (packS a) 1).2), .int (nI (10 ^ rowN rm t)), .int w]) (st := []) kX10_405 dX10_mean_32 rfl rfl (Nat.le_of_ble_eq_true rfl) (by omega) (c_part (x := (gS a (sv nu t) (rowN rm t) 0 (packS a) 1).2) (y := 10 ^ rowN rm t) (by omega) (by omega) (Nat.pow_pos (by decide)) (by omega)) rfl (fun h2 hq32 => ?_)
      subst hq32
      exact r_iret rfl dX10_mean_35 ⟨by rw [meF, if_neg (fun z => z h0n), nI_clamp (by omega)], (cv (upd v 0 0) (gS a (sv nu t) (rowN rm t) 0 (packS a) 1).1 (gS a (sv nu t) (rowN rm t) 0 (packS a) 1).2), ⟨rfl, rfl, rfl⟩, ⟨c117, c118, hx.get (by decide) k119, hx.get (by decide) k120, ⟨_, hx.get (by decide) k121⟩, ⟨_, c122⟩, ⟨_, c123⟩, ⟨_, hx.get (by decide) k124⟩, ⟨_, hx.get (by decide) k125⟩, ⟨_, hx.get (by decide) k126⟩, ⟨_, hx.get (by decide) k127⟩, ⟨_, hx.get (by decide) k128⟩, ⟨_, hx.get (by decide) k129⟩, ⟨_, hx.get (by decide) k130⟩, ⟨_, hx.get (by decide) k131⟩, ⟨_, hx.get (by decide) k132⟩, ⟨_, hx.get (by decide) k133⟩, ⟨_, hx.get (by decide) k134⟩, ⟨_, hx.get (by decide) k135⟩, c136, c137, c138⟩, hx.mono (by decide)⟩
    · exact absurd (e11.trans h0n) b13
  · skip
    refine Cn.go (ls := [.ref 117, .int x, .int w, .float 0, .float 0]) (by decide +kernel) rfl (Nat.le_of_ble_eq_true rfl) ?_
    refine r_aload_n (pc2 := 1) 0 dX10_mean_0 rfl rfl rfl rfl ?_
    refine r_iconst (pc2 := 2) (v := 0) dX10_mean_1 (by decide) rfl ?_
    refine r_putfX (pc2 := 5) (moL (upd v 0 0)) fX10_1 dX10_mean_2 c117 (by decide) (Nat.le_of_ble_eq_true rfl) rfl rfl rfl (fun h z2 o2 c117 => ?_)
    have c118 := (o2 118 (by decide)).trans c118
    have c122 := (o2 122 (by decide)).trans c122
    have c123 := (o2 123 (by decide)).trans c123
    have c136 := (o2 136 (by decide)).trans c136
    have c137 := (o2 137 (by decide)).trans c137
    have c138 := (o2 138 (by decide)).trans c138
    have hx := hx.step (a := 117) (by decide) z2 o2
    refine r_aload_n (pc2 := 6) 0 dX10_mean_5 rfl rfl rfl rfl ?_
    refine r_iload_n (pc2 := 7) 1 dX10_mean_6 rfl rfl rfl ?_
    refine r_iload_n (pc2 := 8) 2 dX10_mean_7 rfl rfl rfl ?_
    refine r_callV1 (pc2 := 11) (As := [.int x, .int w]) (st := []) kX10_443 rfl rfl dX10_mean_8 c117 (by decide) rfl rfl (Nat.le_of_ble_eq_true rfl) (by omega) (c_noChance c117 c118 c136 c137 c138 hA hT (by omega)) rfl (fun h2 hq8 => ?_)
    subst hq8
    refine r_topi (fun x11 e11 => ?_)
    refine r_istore_n (pc2 := 12) (ls2 := [.ref 117, .int x, .int w, .int x11, .float 0]) 3 dX10_mean_11 rfl (by decide) rfl rfl rfl ?_
    refine r_iload_n (pc2 := 13) 3 dX10_mean_12 rfl rfl rfl ?_
    refine r_if_eq (tgt := 18) (pc2 := 16) dX10_mean_13 (by decide) rfl (fun b13 => ?_) (fun b13 => ?_)
    · exact absurd (e11.symm.trans b13) h0n
    · skip
      refine r_iload_n (pc2 := 17) 3 dX10_mean_16 rfl rfl rfl ?_
      exact r_iret rfl dX10_mean_17 ⟨by rw [meF, if_pos h0n, e11], (upd v 0 0), ⟨rfl, rfl, rfl⟩, ⟨c117, c118, hx.get (by decide) k119, hx.get (by decide) k120, ⟨_, hx.get (by decide) k121⟩, ⟨_, c122⟩, ⟨_, c123⟩, ⟨_, hx.get (by decide) k124⟩, ⟨_, hx.get (by decide) k125⟩, ⟨_, hx.get (by decide) k126⟩, ⟨_, hx.get (by decide) k127⟩, ⟨_, hx.get (by decide) k128⟩, ⟨_, hx.get (by decide) k129⟩, ⟨_, hx.get (by decide) k130⟩, ⟨_, hx.get (by decide) k131⟩, ⟨_, hx.get (by decide) k132⟩, ⟨_, hx.get (by decide) k133⟩, ⟨_, hx.get (by decide) k134⟩, ⟨_, hx.get (by decide) k135⟩, c136, c137, c138⟩, hx.mono (by decide)⟩
