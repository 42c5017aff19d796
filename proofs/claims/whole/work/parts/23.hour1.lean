/-! an hour -/
def hNz (a : Nat → Nat) (st sn b dr : Nat) : Nat → Nat
  | 0 => b
  | k + 1 => hNz a st sn b dr k + (if sn.testBit k then noiseN a k (st / 8 ^ k % 8 + 1) (st / 4096) dr else 0)
def hCs (st sn : Nat) : Nat → Nat
  | 0 => st % 4096
  | k + 1 => hCs st sn k + (if sn.testBit k then 8 ^ k else 0)
def dpN (a : Nat → Nat) (dp nz cs sn dr : Nat) : Nat :=
  if a 9 = 0 then (if nz = 0 then min 9 (dp + 1) else dp - nz)
  else lawV a 1 (wN [dr, dp, 0, 0, 0, 0, nz, popN sn, popN (pastN (a 1) cs (a 3))]) 9
def hourN (a : Nat → Nat) (st sn b dr : Nat) : Nat := hCs st sn (a 3) + 4096 * dpN a (st / 4096) (hNz a st sn b dr (a 3)) (hCs st sn (a 3)) sn dr
theorem noiseN_le (a : Nat → Nat) (g to dp dr : Nat) (hl : a (14 + g) ≤ 9) : noiseN a g to dp dr ≤ 99 := by
  unfold noiseN
  split
  · omega
  · exact lawV_le _ _ _ (by decide)
theorem hNz_le (a : Nat → Nat) (st sn b dr : Nat) (hl : ∀ g, g < 4 → a (14 + g) ≤ 9) : ∀ k, k ≤ 4 → hNz a st sn b dr k ≤ b + 99 * k := by
  intro k
  induction k with
  | zero => intro _; exact Nat.le_refl _
  | succ k ih =>
    intro hk
    have h1 := ih (by omega)
    have h2 := noiseN_le a k (st / 8 ^ k % 8 + 1) (st / 4096) dr (hl k (by omega))
    rw [hNz]
    split <;> omega
theorem or12 {c t : Nat} (h : c < 4096) : nI c ||| nI (t * 4096) = nI (c + 4096 * t) := by
  rw [nI_or, Nat.or_comm, Nat.mul_comm]
  have := Nat.two_pow_add_eq_or_of_lt (i := 12) h t
  rw [show (4096 : Nat) = 2 ^ 12 from rfl, ← this, Nat.add_comm]
theorem dpN_le (a : Nat → Nat) (dp nz cs sn dr : Nat) (hd : dp ≤ 9) : dpN a dp nz cs sn dr ≤ 9 := by
  unfold dpN
  split
  · split <;> omega
  · exact lawV_le _ _ _ (by decide)
theorem pastN_16 (C st : Nat) {k : Nat} (h : k ≤ 4) : pastN C st k < 16 := Nat.lt_of_lt_of_le (pastN_lt C st k) (Nat.pow_le_pow_right (n := 2) (by decide) h)
set_option maxRecDepth 20000 in
set_option maxHeartbeats 1000000 in
theorem hour_83 {E : EnvT} {d : Nat} {h0 : Hp} {v : Nat → Int32} {a : Nat → Nat} {f w : Nat → Int32} {sn dp nz cs dr : Nat} {u1 u3 u8 : Value} (c117 : h0.1 117 = some (mO v)) (c118 : h0.1 118 = some (aI 3531 (nA a))) (c122 : h0.1 122 = some (aI 900 f)) (c123 : h0.1 123 = some (aI 9 w)) (hsn : sn < 16) (hdp : dp ≤ 9) (hnz : nz < 1000) (hcs : cs < 4096) (hG : a 3 ≤ 4) (hC1 : a 1 ≤ 6) (hW1 : LWok a 1) (hd : 2 ≤ d) : Fr E mX10_hourTo d 83 [.ref 117, u1, .int (nI sn), u3, .int (nI dr), .int (nI nz), .int (nI cs), .int (nI dp), u8] [] h0 (fun r h2 => r = some (.int (nI (cs + 4096 * dpN a dp nz cs sn dr))) ∧ Ex [122, 123] h0 h2 ∧ (∃ f2, h2.1 122 = some (aI 900 f2)) ∧ ∃ w2, h2.1 123 = some (aI 9 w2)) := by
  have hx : Ex [122, 123] h0 h0 := Ex.rf
  have hdn := dpN_le a dp nz cs sn dr hdp
  by_cases h9 : a 9 = 0
  · by_cases hz : nz = 0
    · skip
      refine r_aload_n (pc2 := 84) 0 dX10_hourTo_83 rfl rfl rfl rfl ?_
      refine r_getf (pc2 := 87) (v := .ref 118) fX10_13 dX10_hourTo_84 c117 (by decide) rfl rfl ?_
      refine r_bipush (pc2 := 89) (v := 9) dX10_hourTo_87 (by decide) rfl ?_
      refine r_ialdA (pc2 := 90) 9 dX10_hourTo_89 c118 (by decide) rfl (by decide) (by decide) rfl ?_
      refine r_if_ne (tgt := 142) (pc2 := 93) dX10_hourTo_90 (by decide) rfl (fun b90 => ?_) (fun b90 => ?_)
      · exact absurd (by rw [h9]; rfl) b90
      · skip
        refine r_iload (pc2 := 95) 5 dX10_hourTo_93 rfl rfl ?_
        refine r_if_ne (tgt := 105) (pc2 := 98) dX10_hourTo_95 (by decide) rfl (fun b95 => ?_) (fun b95 => ?_)
        · exact absurd (by rw [hz]; rfl) b95
        · skip
          refine r_iload (pc2 := 100) 7 dX10_hourTo_98 rfl rfl ?_
          refine r_iconst (pc2 := 101) (v := 1) dX10_hourTo_100 (by decide) rfl ?_
          refine r_iadd (pc2 := 102) dX10_hourTo_101 rfl ?_
          refine r_goto (pc2 := 110) dX10_hourTo_102 (by decide) ?_
          refine r_cast (nI (dp + 1)) (nI_1 dp) ?_
          refine r_istore (pc2 := 112) (ls2 := [.ref 117, u1, .int (nI sn), u3, .int (nI dr), .int (nI nz), .int (nI cs), .int (nI dp), .int (nI (dp + 1))]) 8 dX10_hourTo_110 (by decide) rfl rfl rfl ?_
          refine r_iload (pc2 := 114) 6 dX10_hourTo_112 rfl rfl ?_
          refine r_iload (pc2 := 116) 8 dX10_hourTo_114 rfl rfl ?_
          refine r_if_ge (tgt := 123) (pc2 := 119) dX10_hourTo_116 (by decide) rfl (fun b116 => ?_) (fun b116 => ?_)
          · skip
            refine r_iload (pc2 := 125) 8 dX10_hourTo_123 rfl rfl ?_
            refine r_bipush (pc2 := 127) (v := 9) dX10_hourTo_125 (by decide) rfl ?_
            refine r_icmp_le (tgt := 135) (pc2 := 130) dX10_hourTo_127 (by decide) rfl (fun b127 => ?_) (fun b127 => ?_)
            · skip
              refine r_iload (pc2 := 137) 8 dX10_hourTo_135 rfl rfl ?_
              refine r_bipush (pc2 := 139) (v := 12) dX10_hourTo_137 (by decide) rfl ?_
              refine r_ishl (pc2 := 140) dX10_hourTo_139 rfl ?_
              refine r_cast (nI ((dp + 1) * 4096)) (pk_shlN _ 12 (by decide) (by omega)) ?_
              refine r_ior (pc2 := 141) dX10_hourTo_140 rfl ?_
              refine r_cast (nI (cs + 4096 * (dp + 1))) (or12 hcs) ?_
              exact r_iret rfl dX10_hourTo_141 ⟨by congr 3; unfold dpN; rw [if_pos h9, if_pos hz]; have b127 : nI (dp + 1) ≤ nI 9 := b127; rw [nI_leI (by omega) (by decide)] at b127; omega, Ex.rf, ⟨f, c122⟩, ⟨w, c123⟩⟩
            · skip
              refine r_bipush (pc2 := 132) (v := 9) dX10_hourTo_130 (by decide) rfl ?_
              refine r_goto (pc2 := 137) dX10_hourTo_132 (by decide) ?_
              refine r_cast (nI 9) (rfl) ?_
              refine r_bipush (pc2 := 139) (v := 12) dX10_hourTo_137 (by decide) rfl ?_
              refine r_ishl (pc2 := 140) dX10_hourTo_139 rfl ?_
              refine r_cast (nI (9 * 4096)) (pk_shlN _ 12 (by decide) (by omega)) ?_
              refine r_ior (pc2 := 141) dX10_hourTo_140 rfl ?_
              refine r_cast (nI (cs + 4096 * 9)) (or12 hcs) ?_
              exact r_iret rfl dX10_hourTo_141 ⟨by congr 3; unfold dpN; rw [if_pos h9, if_pos hz]; have b127 : ¬ nI (dp + 1) ≤ nI 9 := b127; rw [nI_leI (by omega) (by decide)] at b127; omega, Ex.rf, ⟨f, c122⟩, ⟨w, c123⟩⟩
          · exact absurd (nI_pos' (by omega)) b116
    · by_cases hle : nz ≤ dp
      · skip
        refine r_aload_n (pc2 := 84) 0 dX10_hourTo_83 rfl rfl rfl rfl ?_
        refine r_getf (pc2 := 87) (v := .ref 118) fX10_13 dX10_hourTo_84 c117 (by decide) rfl rfl ?_
        refine r_bipush (pc2 := 89) (v := 9) dX10_hourTo_87 (by decide) rfl ?_
        refine r_ialdA (pc2 := 90) 9 dX10_hourTo_89 c118 (by decide) rfl (by decide) (by decide) rfl ?_
        refine r_if_ne (tgt := 142) (pc2 := 93) dX10_hourTo_90 (by decide) rfl (fun b90 => ?_) (fun b90 => ?_)
        · exact absurd (by rw [h9]; rfl) b90
        · skip
          refine r_iload (pc2 := 95) 5 dX10_hourTo_93 rfl rfl ?_
          refine r_if_ne (tgt := 105) (pc2 := 98) dX10_hourTo_95 (by decide) rfl (fun b95 => ?_) (fun b95 => ?_)
          · skip
            refine r_iload (pc2 := 107) 7 dX10_hourTo_105 rfl rfl ?_
            refine r_iload (pc2 := 109) 5 dX10_hourTo_107 rfl rfl ?_
            refine r_isub (pc2 := 110) dX10_hourTo_109 rfl ?_
            refine r_cast (nI (dp - nz)) (pk_sub hle) ?_
            refine r_istore (pc2 := 112) (ls2 := [.ref 117, u1, .int (nI sn), u3, .int (nI dr), .int (nI nz), .int (nI cs), .int (nI dp), .int (nI (dp - nz))]) 8 dX10_hourTo_110 (by decide) rfl rfl rfl ?_
            refine r_iload (pc2 := 114) 6 dX10_hourTo_112 rfl rfl ?_
            refine r_iload (pc2 := 116) 8 dX10_hourTo_114 rfl rfl ?_
            refine r_if_ge (tgt := 123) (pc2 := 119) dX10_hourTo_116 (by decide) rfl (fun b116 => ?_) (fun b116 => ?_)
            · skip
              refine r_iload (pc2 := 125) 8 dX10_hourTo_123 rfl rfl ?_
              refine r_bipush (pc2 := 127) (v := 9) dX10_hourTo_125 (by decide) rfl ?_
              refine r_icmp_le (tgt := 135) (pc2 := 130) dX10_hourTo_127 (by decide) rfl (fun b127 => ?_) (fun b127 => ?_)
              · skip
                refine r_iload (pc2 := 137) 8 dX10_hourTo_135 rfl rfl ?_
                refine r_bipush (pc2 := 139) (v := 12) dX10_hourTo_137 (by decide) rfl ?_
                refine r_ishl (pc2 := 140) dX10_hourTo_139 rfl ?_
                refine r_cast (nI ((dp - nz) * 4096)) (pk_shlN _ 12 (by decide) (by omega)) ?_
                refine r_ior (pc2 := 141) dX10_hourTo_140 rfl ?_
                refine r_cast (nI (cs + 4096 * (dp - nz))) (or12 hcs) ?_
                exact r_iret rfl dX10_hourTo_141 ⟨by congr 3; unfold dpN; rw [if_pos h9, if_neg hz], Ex.rf, ⟨f, c122⟩, ⟨w, c123⟩⟩
              · exact absurd (nI_le (b := 9) (by omega) (by decide)) b127
            · exact absurd (nI_pos' (by omega)) b116
          · exact absurd b95 (nI_ne0 (by omega) (by omega))
      · skip
        refine r_aload_n (pc2 := 84) 0 dX10_hourTo_83 rfl rfl rfl rfl ?_
        refine r_getf (pc2 := 87) (v := .ref 118) fX10_13 dX10_hourTo_84 c117 (by decide) rfl rfl ?_
        refine r_bipush (pc2 := 89) (v := 9) dX10_hourTo_87 (by decide) rfl ?_
        refine r_ialdA (pc2 := 90) 9 dX10_hourTo_89 c118 (by decide) rfl (by decide) (by decide) rfl ?_
        refine r_if_ne (tgt := 142) (pc2 := 93) dX10_hourTo_90 (by decide) rfl (fun b90 => ?_) (fun b90 => ?_)
        · exact absurd (by rw [h9]; rfl) b90
        · skip
          refine r_iload (pc2 := 95) 5 dX10_hourTo_93 rfl rfl ?_
          refine r_if_ne (tgt := 105) (pc2 := 98) dX10_hourTo_95 (by decide) rfl (fun b95 => ?_) (fun b95 => ?_)
          · skip
            refine r_iload (pc2 := 107) 7 dX10_hourTo_105 rfl rfl ?_
            refine r_iload (pc2 := 109) 5 dX10_hourTo_107 rfl rfl ?_
            refine r_isub (pc2 := 110) dX10_hourTo_109 rfl ?_
            refine r_topi (fun x110 e110 => ?_)
            refine r_istore (pc2 := 112) (ls2 := [.ref 117, u1, .int (nI sn), u3, .int (nI dr), .int (nI nz), .int (nI cs), .int (nI dp), .int x110]) 8 dX10_hourTo_110 (by decide) rfl rfl rfl ?_
            refine r_iload (pc2 := 114) 6 dX10_hourTo_112 rfl rfl ?_
            refine r_iload (pc2 := 116) 8 dX10_hourTo_114 rfl rfl ?_
            refine r_if_ge (tgt := 123) (pc2 := 119) dX10_hourTo_116 (by decide) rfl (fun b116 => ?_) (fun b116 => ?_)
            · exact absurd b116 (by rw [e110]; exact Int32.not_le.mpr (pk_sneg (by omega) (by omega)))
            · skip
              refine r_iconst (pc2 := 120) (v := 0) dX10_hourTo_119 (by decide) rfl ?_
              refine r_goto (pc2 := 137) dX10_hourTo_120 (by decide) ?_
              refine r_cast (nI 0) (rfl) ?_
              refine r_bipush (pc2 := 139) (v := 12) dX10_hourTo_137 (by decide) rfl ?_
              refine r_ishl (pc2 := 140) dX10_hourTo_139 rfl ?_
              refine r_cast (nI (0 * 4096)) (pk_shlN _ 12 (by decide) (by omega)) ?_
              refine r_ior (pc2 := 141) dX10_hourTo_140 rfl ?_
              refine r_cast (nI (cs + 4096 * 0)) (or12 hcs) ?_
              exact r_iret rfl dX10_hourTo_141 ⟨by congr 3; unfold dpN; rw [if_pos h9, if_neg hz]; omega, Ex.rf, ⟨f, c122⟩, ⟨w, c123⟩⟩
          · exact absurd b95 (nI_ne0 (by omega) (by omega))
  · have h91 : a 9 ≤ 1 := by
      rcases hW1 with q | q
      · exact absurd q h9
      · have : a 9 = 1 := q.1
        omega
    have hL : a 9 = 1 ∧ a 11 + a 13 ≤ 900 ∧ LawWF (lawF a 1) (a 13) ∧ ∀ k, k < a 13 → 1000 ≤ lawF a 1 k → lawF a 1 k < 3000 → usedW 1 (lawF a 1 k - 1000) := by
      rcases hW1 with q | q
      · exact absurd q h9
      · exact q
    refine r_aload_n (pc2 := 84) 0 dX10_hourTo_83 rfl rfl rfl rfl ?_
    refine r_getf (pc2 := 87) (v := .ref 118) fX10_13 dX10_hourTo_84 c117 (by decide) rfl rfl ?_
    refine r_bipush (pc2 := 89) (v := 9) dX10_hourTo_87 (by decide) rfl ?_
    refine r_ialdA (pc2 := 90) 9 dX10_hourTo_89 c118 (by decide) rfl (by decide) (by decide) rfl ?_
    refine r_if_ne (tgt := 142) (pc2 := 93) dX10_hourTo_90 (by decide) rfl (fun b90 => ?_) (fun b90 => ?_)
    · skip
      refine r_aload_n (pc2 := 143) 0 dX10_hourTo_142 rfl rfl rfl rfl ?_
      refine r_getf (pc2 := 146) (v := .ref 123) fX10_33 dX10_hourTo_143 c117 (by decide) rfl rfl ?_
      refine r_iconst (pc2 := 147) (v := 0) dX10_hourTo_146 (by decide) rfl ?_
      refine r_iload (pc2 := 149) 4 dX10_hourTo_147 rfl rfl ?_
      refine r_iastN (pc2 := 150) 0 dX10_hourTo_149 c123 (by decide) rfl (by decide) (by decide) rfl (fun h z149 o149 c123 => ?_)
      have c117 := (o149 117 (by decide)).trans c117
      have c118 := (o149 118 (by decide)).trans c118
      have c122 := (o149 122 (by decide)).trans c122
      have hx := hx.step (a := 123) (by decide) z149 o149
      refine r_aload_n (pc2 := 151) 0 dX10_hourTo_150 rfl rfl rfl rfl ?_
      refine r_getf (pc2 := 154) (v := .ref 123) fX10_33 dX10_hourTo_151 c117 (by decide) rfl rfl ?_
      refine r_iconst (pc2 := 155) (v := 1) dX10_hourTo_154 (by decide) rfl ?_
      refine r_iload (pc2 := 157) 7 dX10_hourTo_155 rfl rfl ?_
      refine r_iastN (pc2 := 158) 1 dX10_hourTo_157 c123 (by decide) rfl (by decide) (by decide) rfl (fun h z157 o157 c123 => ?_)
      have c117 := (o157 117 (by decide)).trans c117
      have c118 := (o157 118 (by decide)).trans c118
      have c122 := (o157 122 (by decide)).trans c122
      have hx := hx.step (a := 123) (by decide) z157 o157
      refine r_aload_n (pc2 := 159) 0 dX10_hourTo_158 rfl rfl rfl rfl ?_
      refine r_getf (pc2 := 162) (v := .ref 123) fX10_33 dX10_hourTo_159 c117 (by decide) rfl rfl ?_
      refine r_bipush (pc2 := 164) (v := 6) dX10_hourTo_162 (by decide) rfl ?_
      refine r_iload (pc2 := 166) 5 dX10_hourTo_164 rfl rfl ?_
      refine r_iastN (pc2 := 167) 6 dX10_hourTo_166 c123 (by decide) rfl (by decide) (by decide) rfl (fun h z166 o166 c123 => ?_)
      have c117 := (o166 117 (by decide)).trans c117
      have c118 := (o166 118 (by decide)).trans c118
      have c122 := (o166 122 (by decide)).trans c122
      have hx := hx.step (a := 123) (by decide) z166 o166
      refine r_aload_n (pc2 := 168) 0 dX10_hourTo_167 rfl rfl rfl rfl ?_
      refine r_getf (pc2 := 171) (v := .ref 123) fX10_33 dX10_hourTo_168 c117 (by decide) rfl rfl ?_
      refine r_bipush (pc2 := 173) (v := 7) dX10_hourTo_171 (by decide) rfl ?_
      refine r_iload_n (pc2 := 174) 2 dX10_hourTo_173 rfl rfl rfl ?_
      refine r_callS1 (pc2 := 177) (As := [.int (nI sn)]) (st := [.int 7, .ref 123]) kX10_253 dX10_hourTo_174 rfl rfl (Nat.le_of_ble_eq_true rfl) (by omega) (c_bitsOf (nI sn)) rfl (fun h2 hq174 => ?_)
      subst hq174
      refine r_cast (nI (popN sn)) (bitsF_pop sn hsn) ?_
      refine r_iastN (pc2 := 178) 7 dX10_hourTo_177 c123 (by decide) rfl (by decide) (by decide) rfl (fun h z177 o177 c123 => ?_)
      have c117 := (o177 117 (by decide)).trans c117
      have c118 := (o177 118 (by decide)).trans c118
      have c122 := (o177 122 (by decide)).trans c122
      have hx := hx.step (a := 123) (by decide) z177 o177
      refine r_aload_n (pc2 := 179) 0 dX10_hourTo_178 rfl rfl rfl rfl ?_
      refine r_getf (pc2 := 182) (v := .ref 123) fX10_33 dX10_hourTo_179 c117 (by decide) rfl rfl ?_
      refine r_bipush (pc2 := 184) (v := 8) dX10_hourTo_182 (by decide) rfl ?_
      refine r_aload_n (pc2 := 185) 0 dX10_hourTo_184 rfl rfl rfl rfl ?_
      refine r_iload (pc2 := 187) 6 dX10_hourTo_185 rfl rfl ?_
      refine r_callV1 (pc2 := 190) (As := [.int (nI cs)]) (st := [.int 8, .ref 123]) kX10_256 rfl rfl dX10_hourTo_187 c117 (by decide) rfl rfl (Nat.le_of_ble_eq_true rfl) (by omega) (c_pastIn (st := cs) c117 c118 hG hC1 (by omega) (by omega)) rfl (fun h2 hq187 => ?_)
      subst hq187
      refine r_callS1 (pc2 := 193) (As := [.int (nI (pastN (a 1) cs (a 3)))]) (st := [.int 8, .ref 123]) kX10_253 dX10_hourTo_190 rfl rfl (Nat.le_of_ble_eq_true rfl) (by omega) (c_bitsOf (nI (pastN (a 1) cs (a 3)))) rfl (fun h2 hq190 => ?_)
      subst hq190
      refine r_cast (nI (popN (pastN (a 1) cs (a 3)))) (bitsF_pop _ (pastN_16 _ _ hG)) ?_
      refine r_iastN (pc2 := 194) 8 dX10_hourTo_193 c123 (by decide) rfl (by decide) (by decide) rfl (fun h z193 o193 c123 => ?_)
      have c117 := (o193 117 (by decide)).trans c117
      have c118 := (o193 118 (by decide)).trans c118
      have c122 := (o193 122 (by decide)).trans c122
      have hx := hx.step (a := 123) (by decide) z193 o193
      refine r_iload (pc2 := 196) 6 dX10_hourTo_194 rfl rfl ?_
      refine r_aload_n (pc2 := 197) 0 dX10_hourTo_196 rfl rfl rfl rfl ?_
      refine r_iconst (pc2 := 198) (v := 1) dX10_hourTo_197 (by decide) rfl ?_
      refine r_bipush (pc2 := 200) (v := 9) dX10_hourTo_198 (by decide) rfl ?_
      refine r_callV1 (pc2 := 203) (As := [.int 1, .int 9]) (st := [.int (nI cs)]) kX10_242 rfl rfl dX10_hourTo_200 c117 (by decide) rfl rfl (Nat.le_of_ble_eq_true rfl) (by omega) (c_reckons (lw := 1) (mx := nI 9) (cf := lawF a 1) (n := a 13) c117 c118 c122 c123 (by decide) rfl (fun k hk => rfl) hL.2.1 hL.2.2.1 (by omega)) rfl (fun h hq200 => ?_)
      obtain ⟨hx2, g2, c122⟩ := hq200
      have c117 := hx2.get (by decide) c117
      have c118 := hx2.get (by decide) c118
      have c123 := hx2.get (by decide) c123
      have hx := hx.trans hx2 (by decide)
      have hfin : ∀ w9 : Nat → Int32, (∀ j, j < 9 → usedW 1 j → w9 j = wN [dr, dp, 0, 0, 0, 0, nz, popN sn, popN (pastN (a 1) cs (a 3))] j) → clipM ((stk w9 (lawF a 1) (a 13)).headD 0) (nI 9) = nI (dpN a dp nz cs sn dr) := by
        intro w9 hw9
        have hU : ∀ k, k < a 13 → 1000 ≤ lawF a 1 k → lawF a 1 k < 3000 → (fun j => j < 9 ∧ usedW 1 j) (lawF a 1 k - 1000) := by
          intro k hk k1 k2
          refine ⟨?_, hL.2.2.2 k hk k1 k2⟩
          rcases hL.2.2.1.1 k hk with o | ⟨o, o2⟩ | ⟨o, o2⟩ | ⟨o, o2⟩ | ⟨o, o2⟩
          · omega
          · omega
          · omega
          · omega
          · rcases o with o | o | o | o | o | o | o | o <;> omega
        rw [stk_congr (U := fun j => j < 9 ∧ usedW 1 j) hU (fun j hj => hw9 j hj.1 hj.2) (a 13) (Nat.le_refl _), dpN, if_neg (by omega)]
        exact (clip_nI _ (by decide)).1
      refine r_cast (nI (dpN a dp nz cs sn dr)) (hfin _ (fun j hj hu => ?_)) ?_
      · have hu : j ≤ 1 ∨ 6 ≤ j := hu
        match j, hj, hu with
        | 0, _, _ => rfl
        | 1, _, _ => rfl
        | 2, _, hu => omega
        | 3, _, hu => omega
        | 4, _, hu => omega
        | 5, _, hu => omega
        | 6, _, _ => rfl
        | 7, _, _ => rfl
        | 8, _, _ => rfl
      refine r_bipush (pc2 := 205) (v := 12) dX10_hourTo_203 (by decide) rfl ?_
      refine r_ishl (pc2 := 206) dX10_hourTo_205 rfl ?_
      refine r_cast (nI ((dpN a dp nz cs sn dr) * 4096)) (pk_shlN _ 12 (by decide) (by omega)) ?_
      refine r_ior (pc2 := 207) dX10_hourTo_206 rfl ?_
      refine r_cast (nI (cs + 4096 * (dpN a dp nz cs sn dr))) (or12 hcs) ?_
      exact r_iret rfl dX10_hourTo_207 ⟨rfl, hx, ⟨_, c122⟩, ⟨_, c123⟩⟩
    · exact absurd b90 (nI_ne0 (by omega) (by omega))
theorem hCs_lt (st sn : Nat) : ∀ k, k ≤ 4 → (∀ g, g < k → sn.testBit g = true → st / 8 ^ g % 8 < 7) → hCs st sn k < 4096 := by
  intro k hk h
  have key : ∀ b0 b1 b2 b3 : Nat, (b0 = 0 ∨ (b0 = 1 ∧ st / 1 % 8 < 7)) → (b1 = 0 ∨ (b1 = 8 ∧ st / 8 % 8 < 7)) → (b2 = 0 ∨ (b2 = 64 ∧ st / 64 % 8 < 7)) → (b3 = 0 ∨ (b3 = 512 ∧ st / 512 % 8 < 7)) → st % 4096 + b0 + b1 + b2 + b3 < 4096 := by
    intro b0 b1 b2 b3 h0 h1 h2 h3
    omega
  have one : ∀ g, g < k → ((if sn.testBit g then 8 ^ g else 0) = 0 ∨ ((if sn.testBit g then 8 ^ g else 0) = 8 ^ g ∧ st / 8 ^ g % 8 < 7)) := by
    intro g hg
    by_cases q : sn.testBit g = true
    · rw [if_pos q]; exact Or.inr ⟨rfl, h g hg q⟩
    · rw [if_neg q]; exact Or.inl rfl
  match k, hk with
  | 0, _ => have := key 0 0 0 0 (Or.inl rfl) (Or.inl rfl) (Or.inl rfl) (Or.inl rfl); simpa [hCs] using this
  | 1, _ => have := key _ 0 0 0 (one 0 (by decide)) (Or.inl rfl) (Or.inl rfl) (Or.inl rfl); simpa [hCs] using this
  | 2, _ => have := key _ _ 0 0 (one 0 (by decide)) (one 1 (by decide)) (Or.inl rfl) (Or.inl rfl); simpa [hCs] using this
  | 3, _ => have := key _ _ _ 0 (one 0 (by decide)) (one 1 (by decide)) (one 2 (by decide)) (Or.inl rfl); simpa [hCs] using this
  | 4, _ => have := key _ _ _ _ (one 0 (by decide)) (one 1 (by decide)) (one 2 (by decide)) (one 3 (by decide)); simpa [hCs] using this
theorem shl3one (k : Nat) (hk : k < 4) : (1 : Int32) <<< ((3 * nI k) &&& 31) = nI (8 ^ k) := by
  have := shl3 1 k hk (by decide)
  rw [Nat.mul_one] at this
  exact this
theorem and4095 {s : Nat} (h : s < 2 ^ 31) : nI s &&& 4095 = nI (s % 4096) := pk_andN (by omega) 12 (by decide)
set_option maxRecDepth 20000 in
set_option maxHeartbeats 1000000 in
theorem c_hourTo {E : EnvT} {d : Nat} {h0 : Hp} {v : Nat → Int32} {a : Nat → Nat} {f w : Nat → Int32} {st sn b dr : Nat} (c117 : h0.1 117 = some (mO v)) (c118 : h0.1 118 = some (aI 3531 (nA a))) (c122 : h0.1 122 = some (aI 900 f)) (c123 : h0.1 123 = some (aI 9 w)) (hs : st < 2 ^ 31) (hsn : sn < 16) (hdp : st / 4096 ≤ 9) (hb9 : b < 100) (hst : ∀ g, g < a 3 → sn.testBit g = true → st / 8 ^ g % 8 < a 1) (hG : a 3 ≤ 4) (hC1 : a 1 ≤ 6) (hh : a 2 ≤ 6) (hl : ∀ g, g < 4 → a (14 + g) ≤ 9) (hW0 : LWok a 0) (hW1 : LWok a 1) (hd : 3 ≤ d) : Cn E mX10_hourTo d [.ref 117, .int (nI st), .int (nI sn), .int (nI b), .int (nI dr)] h0 (fun r h2 => r = some (.int (nI (hourN a st sn b dr))) ∧ Ex [122, 123] h0 h2 ∧ (∃ f2, h2.1 122 = some (aI 900 f2)) ∧ ∃ w2, h2.1 123 = some (aI 9 w2)) := by
  refine Cn.go (ls := [.ref 117, .int (nI st), .int (nI sn), .int (nI b), .int (nI dr), .float 0, .float 0, .float 0, .float 0]) (by decide +kernel) rfl (Nat.le_of_ble_eq_true rfl) ?_
  have loop : ∀ (m k : Nat) (h1 : Hp) (f w : Nat → Int32), k + m = a 3 → Ex [122, 123] h0 h1 → h1.1 117 = some (mO v) → h1.1 118 = some (aI 3531 (nA a)) → h1.1 122 = some (aI 900 f) → h1.1 123 = some (aI 9 w) → Fr E mX10_hourTo d 19 [.ref 117, .int (nI st), .int (nI sn), .int (nI b), .int (nI dr), .int (nI (hNz a st sn b dr k)), .int (nI (hCs st sn k)), .int (nI (st / 4096)), .int (nI k)] [] h1 (fun r h2 => r = some (.int (nI (hourN a st sn b dr))) ∧ Ex [122, 123] h0 h2 ∧ (∃ f2, h2.1 122 = some (aI 900 f2)) ∧ ∃ w2, h2.1 123 = some (aI 9 w2)) := by
    intro m
    induction m with
    | zero =>
      intro k h f w hk hx c117 c118 c122 c123
      obtain rfl : k = a 3 := by omega
      have hnz := hNz_le a st sn b dr hl (a 3) (by omega)
      have hcs := hCs_lt st sn (a 3) (by omega) (fun g hg q => by have := hst g hg q; omega)
      refine r_iload (pc2 := 21) 8 dX10_hourTo_19 rfl rfl ?_
      refine r_aload_n (pc2 := 22) 0 dX10_hourTo_21 rfl rfl rfl rfl ?_
      refine r_getf (pc2 := 25) (v := .ref 118) fX10_13 dX10_hourTo_22 c117 (by decide) rfl rfl ?_
      refine r_iconst (pc2 := 26) (v := 3) dX10_hourTo_25 (by decide) rfl ?_
      refine r_ialdA (pc2 := 27) 3 dX10_hourTo_26 c118 (by decide) rfl (by decide) (by decide) rfl ?_
      refine r_icmp_ge (tgt := 83) (pc2 := 30) dX10_hourTo_27 (by decide) rfl (fun b27 => ?_) (fun b27 => ?_)
      · skip
        refine (hour_83 c117 c118 c122 c123 hsn hdp (by omega) hcs hG hC1 hW1 (by omega)).mono ?_
        rintro r h2 ⟨q1, q2, q3⟩
        exact ⟨q1, hx.trans q2 (by decide), q3⟩
      · exact absurd (Int32.le_refl _) b27
    | succ m ih =>
      intro k h f w hk hx c117 c118 c122 c123
      have hlt : k < a 3 := by omega
      have hdg : st / 8 ^ k % 8 < 8 := Nat.mod_lt _ (by decide)
      have hb := isInB sn (by omega) k (by omega)
      have hln := hl k (by omega)
      by_cases ht : sn.testBit k = true
      · have e1 : hNz a st sn b dr (k + 1) = hNz a st sn b dr k + noiseN a k (st / 8 ^ k % 8 + 1) (st / 4096) dr := by rw [hNz, if_pos ht]
        have e2 : hCs st sn (k + 1) = hCs st sn k + 8 ^ k := by rw [hCs, if_pos ht]
        refine r_iload (pc2 := 21) 8 dX10_hourTo_19 rfl rfl ?_
        refine r_aload_n (pc2 := 22) 0 dX10_hourTo_21 rfl rfl rfl rfl ?_
        refine r_getf (pc2 := 25) (v := .ref 118) fX10_13 dX10_hourTo_22 c117 (by decide) rfl rfl ?_
        refine r_iconst (pc2 := 26) (v := 3) dX10_hourTo_25 (by decide) rfl ?_
        refine r_ialdA (pc2 := 27) 3 dX10_hourTo_26 c118 (by decide) rfl (by decide) (by decide) rfl ?_
        refine r_icmp_ge (tgt := 83) (pc2 := 30) dX10_hourTo_27 (by decide) rfl (fun b27 => ?_) (fun b27 => ?_)
        · exact absurd b27 (nI_ge hlt (by omega))
        · skip
          refine r_iload_n (pc2 := 31) 2 dX10_hourTo_30 rfl rfl rfl ?_
          refine r_i2l (pc2 := 32) dX10_hourTo_31 rfl ?_
          refine r_iload (pc2 := 34) 8 dX10_hourTo_32 rfl rfl ?_
          refine r_callS1 (pc2 := 37) (As := [.long (Int32.toInt64 (nI sn)), .int (nI k)]) (st := []) kX10_245 dX10_hourTo_34 rfl rfl (Nat.le_of_ble_eq_true rfl) (by omega) (c_isIn (Int32.toInt64 (nI sn)) (nI k)) rfl (fun h2 hq34 => ?_)
          subst hq34
          refine r_if_ne (tgt := 43) (pc2 := 40) dX10_hourTo_37 (by decide) rfl (fun b37 => ?_) (fun b37 => ?_)
          · skip
            refine r_iload (pc2 := 45) 5 dX10_hourTo_43 rfl rfl ?_
            refine r_aload_n (pc2 := 46) 0 dX10_hourTo_45 rfl rfl rfl rfl ?_
            refine r_iload (pc2 := 48) 8 dX10_hourTo_46 rfl rfl ?_
            refine r_iload_n (pc2 := 49) 1 dX10_hourTo_48 rfl rfl rfl ?_
            refine r_iload (pc2 := 51) 8 dX10_hourTo_49 rfl rfl ?_
            refine r_callS1 (pc2 := 54) (As := [.int (nI st), .int (nI k)]) (st := [.int (nI k), .ref 117, .int (nI (hNz a st sn b dr k))]) kX10_228 dX10_hourTo_51 rfl rfl (Nat.le_of_ble_eq_true rfl) (by omega) (c_cellIn (nI st) (nI k)) rfl (fun h2 hq51 => ?_)
            subst hq51
            refine r_cast (nI (st / 8 ^ k % 8)) (cellN hs (by omega)) ?_
            refine r_iconst (pc2 := 55) (v := 1) dX10_hourTo_54 (by decide) rfl ?_
            refine r_iadd (pc2 := 56) dX10_hourTo_55 rfl ?_
            refine r_cast (nI (st / 8 ^ k % 8 + 1)) (nI_1 _) ?_
            refine r_iload (pc2 := 58) 7 dX10_hourTo_56 rfl rfl ?_
            refine r_iload (pc2 := 60) 4 dX10_hourTo_58 rfl rfl ?_
            refine r_callV1 (pc2 := 63) (As := [.int (nI k), .int (nI (st / 8 ^ k % 8 + 1)), .int (nI (st / 4096)), .int (nI dr)]) (st := [.int (nI (hNz a st sn b dr k))]) kX10_249 rfl rfl dX10_hourTo_60 c117 (by decide) rfl rfl (Nat.le_of_ble_eq_true rfl) (by omega) (c_noiseOf (g := k) (to := st / 8 ^ k % 8 + 1) (dp := st / 4096) (dr := dr) c117 c118 c122 c123 (by omega) (by omega) (by omega) (by omega) (by have := hl k (by omega); omega) hW0 (by omega)) rfl (fun h hq60 => ?_)
            obtain ⟨hx2, ⟨f2, c122⟩, ⟨w2, c123⟩⟩ := hq60
            have c117 := hx2.get (by decide) c117
            have c118 := hx2.get (by decide) c118
            have hx := hx.trans hx2 (by decide)
            refine r_iadd (pc2 := 64) dX10_hourTo_63 rfl ?_
            refine r_cast (nI (hNz a st sn b dr (k + 1))) (by rw [e1]; exact nI_add _ _) ?_
            refine r_istore (pc2 := 66) (ls2 := [.ref 117, .int (nI st), .int (nI sn), .int (nI b), .int (nI dr), .int (nI (hNz a st sn b dr (k + 1))), .int (nI (hCs st sn k)), .int (nI (st / 4096)), .int (nI k)]) 5 dX10_hourTo_64 (by decide) rfl rfl rfl ?_
            refine r_iload (pc2 := 68) 6 dX10_hourTo_66 rfl rfl ?_
            refine r_iconst (pc2 := 69) (v := 1) dX10_hourTo_68 (by decide) rfl ?_
            refine r_iconst (pc2 := 70) (v := 3) dX10_hourTo_69 (by decide) rfl ?_
            refine r_iload (pc2 := 72) 8 dX10_hourTo_70 rfl rfl ?_
            refine r_imul (pc2 := 73) dX10_hourTo_72 rfl ?_
            refine r_ishl (pc2 := 74) dX10_hourTo_73 rfl ?_
            refine r_cast (nI (8 ^ k)) (shl3one k (by omega)) ?_
            refine r_iadd (pc2 := 75) dX10_hourTo_74 rfl ?_
            refine r_cast (nI (hCs st sn (k + 1))) (by rw [e2]; exact nI_add _ _) ?_
            refine r_istore (pc2 := 77) (ls2 := [.ref 117, .int (nI st), .int (nI sn), .int (nI b), .int (nI dr), .int (nI (hNz a st sn b dr (k + 1))), .int (nI (hCs st sn (k + 1))), .int (nI (st / 4096)), .int (nI k)]) 6 dX10_hourTo_75 (by decide) rfl rfl rfl ?_
            obtain ⟨x77, e77⟩ : ∃ z : Int32, z = (nI k) + (1) := ⟨_, rfl⟩
            refine r_iinc (pc2 := 80) (ls2 := [.ref 117, .int (nI st), .int (nI sn), .int (nI b), .int (nI dr), .int (nI (hNz a st sn b dr (k + 1))), .int (nI (hCs st sn (k + 1))), .int (nI (st / 4096)), .int x77]) (v := x77) 8 dX10_hourTo_77 rfl (by rw [e77]; rfl) rfl rfl rfl ?_
            refine r_goto (pc2 := 19) dX10_hourTo_80 (by decide) ?_
            rw [e77, nI_1]
            exact ih (k + 1) h _ _ (by omega) hx c117 c118 c122 c123
          · rw [if_pos (hb.mpr ht)] at b37; exact absurd b37 (by decide)
      · have e1 : hNz a st sn b dr (k + 1) = hNz a st sn b dr k := by rw [hNz, if_neg ht]; rfl
        have e2 : hCs st sn (k + 1) = hCs st sn k := by rw [hCs, if_neg ht]; rfl
        refine r_iload (pc2 := 21) 8 dX10_hourTo_19 rfl rfl ?_
        refine r_aload_n (pc2 := 22) 0 dX10_hourTo_21 rfl rfl rfl rfl ?_
        refine r_getf (pc2 := 25) (v := .ref 118) fX10_13 dX10_hourTo_22 c117 (by decide) rfl rfl ?_
        refine r_iconst (pc2 := 26) (v := 3) dX10_hourTo_25 (by decide) rfl ?_
        refine r_ialdA (pc2 := 27) 3 dX10_hourTo_26 c118 (by decide) rfl (by decide) (by decide) rfl ?_
        refine r_icmp_ge (tgt := 83) (pc2 := 30) dX10_hourTo_27 (by decide) rfl (fun b27 => ?_) (fun b27 => ?_)
        · exact absurd b27 (nI_ge hlt (by omega))
        · skip
          refine r_iload_n (pc2 := 31) 2 dX10_hourTo_30 rfl rfl rfl ?_
          refine r_i2l (pc2 := 32) dX10_hourTo_31 rfl ?_
          refine r_iload (pc2 := 34) 8 dX10_hourTo_32 rfl rfl ?_
          refine r_callS1 (pc2 := 37) (As := [.long (Int32.toInt64 (nI sn)), .int (nI k)]) (st := []) kX10_245 dX10_hourTo_34 rfl rfl (Nat.le_of_ble_eq_true rfl) (by omega) (c_isIn (Int32.toInt64 (nI sn)) (nI k)) rfl (fun h2 hq34 => ?_)
          subst hq34
          refine r_if_ne (tgt := 43) (pc2 := 40) dX10_hourTo_37 (by decide) rfl (fun b37 => ?_) (fun b37 => ?_)
          · rw [if_neg (fun q => ht (hb.mp q))] at b37; exact absurd rfl b37
          · skip
            refine r_goto (pc2 := 77) dX10_hourTo_40 (by decide) ?_
            obtain ⟨x77, e77⟩ : ∃ z : Int32, z = (nI k) + (1) := ⟨_, rfl⟩
            refine r_iinc (pc2 := 80) (ls2 := [.ref 117, .int (nI st), .int (nI sn), .int (nI b), .int (nI dr), .int (nI (hNz a st sn b dr k)), .int (nI (hCs st sn k)), .int (nI (st / 4096)), .int x77]) (v := x77) 8 dX10_hourTo_77 rfl (by rw [e77]; rfl) rfl rfl rfl ?_
            refine r_goto (pc2 := 19) dX10_hourTo_80 (by decide) ?_
            rw [e77, nI_1, ← e1, ← e2]
            exact ih (k + 1) _ _ _ (by omega) hx c117 c118 c122 c123
  refine r_iload_n (pc2 := 1) 3 dX10_hourTo_0 rfl rfl rfl ?_
  refine r_istore (pc2 := 3) (ls2 := [.ref 117, .int (nI st), .int (nI sn), .int (nI b), .int (nI dr), .int (nI b), .float 0, .float 0, .float 0]) 5 dX10_hourTo_1 (by decide) rfl rfl rfl ?_
  refine r_iload_n (pc2 := 4) 1 dX10_hourTo_3 rfl rfl rfl ?_
  refine r_sipush (pc2 := 7) (v := 4095) dX10_hourTo_4 (by decide) rfl ?_
  refine r_iand (pc2 := 8) dX10_hourTo_7 rfl ?_
  refine r_cast (nI (st % 4096)) (and4095 hs) ?_
  refine r_istore (pc2 := 10) (ls2 := [.ref 117, .int (nI st), .int (nI sn), .int (nI b), .int (nI dr), .int (nI b), .int (nI (st % 4096)), .float 0, .float 0]) 6 dX10_hourTo_8 (by decide) rfl rfl rfl ?_
  refine r_iload_n (pc2 := 11) 1 dX10_hourTo_10 rfl rfl rfl ?_
  refine r_callS1 (pc2 := 14) (As := [.int (nI st)]) (st := []) kX10_231 dX10_hourTo_11 rfl rfl (Nat.le_of_ble_eq_true rfl) (by omega) (c_depthIn (nI st)) rfl (fun h2 hq11 => ?_)
  subst hq11
  refine r_cast (nI (st / 4096)) (depthN hs) ?_
  refine r_istore (pc2 := 16) (ls2 := [.ref 117, .int (nI st), .int (nI sn), .int (nI b), .int (nI dr), .int (nI b), .int (nI (st % 4096)), .int (nI (st / 4096)), .float 0]) 7 dX10_hourTo_14 (by decide) rfl rfl rfl ?_
  refine r_iconst (pc2 := 17) (v := 0) dX10_hourTo_16 (by decide) rfl ?_
  refine r_istore (pc2 := 19) (ls2 := [.ref 117, .int (nI st), .int (nI sn), .int (nI b), .int (nI dr), .int (nI b), .int (nI (st % 4096)), .int (nI (st / 4096)), .int 0]) 8 dX10_hourTo_17 (by decide) rfl rfl rfl ?_
  exact loop (a 3) 0 _ f w (by omega) Ex.rf c117 c118 c122 c123
