/-! chance, mean -/
def sv (nu : Nat → Int64) (t i : Nat) : Nat := (nu (40 * t + i)).toNatClampNeg
def ctN (F : Nat → Nat) (g : Nat) : Nat → Nat
  | 0 => 0
  | k + 1 => ctN F g k + (if (F k).testBit g = true then 1 else 0)
def rmB (F : Nat → Nat) (g : Nat) : Nat → Nat → Nat
  | 0, _ => 0
  | m + 1, i => (if (F i).testBit g = true then 1 else 0) + rmB F g m (i + 1)
theorem ct_rm (F : Nat → Nat) (g : Nat) : ∀ m i, ctN F g i + rmB F g m i = ctN F g (i + m)
  | 0, i => rfl
  | m + 1, i => by
    have := ct_rm F g m (i + 1)
    rw [show i + 1 + m = i + (m + 1) by omega] at this
    rw [← this]
    show _ + (_ + _) = _ + _ + _
    omega
theorem ctN_le (F : Nat → Nat) (g : Nat) : ∀ k, ctN F g k ≤ k
  | 0 => Nat.le_refl _
  | k + 1 => by have := ctN_le F g k; unfold ctN; split <;> omega
abbrev okV (G : Nat) (nu : Nat → Int64) (t n : Nat) : Prop := ∀ i, i < n → vS G (nu (40 * t + i))
abbrev okC (a : Nat → Nat) (F : Nat → Nat) (n k : Nat) : Prop := ∀ g, g < k → a (22 + g) + ctN F g n ≤ a 1
def ncF (a : Nat → Nat) (rs rm : Nat → Int32) (nu : Nat → Int64) (x w : Int32) : Int32 := if inR 0 3 x ∧ inR 0 1 w then (if noTrayF rs x ≠ 0 then noTrayF rs x else if inR 1 6 (rm x.toNatClampNeg) then (if okV (a 3) nu x.toNatClampNeg (rowN rm x.toNatClampNeg) then (if okC a (sv nu x.toNatClampNeg) (rowN rm x.toNatClampNeg) (a 3) then 0 else -5) else -3) else -4) else -2
theorem ncF_0 {a : Nat → Nat} {rs rm : Nat → Int32} {nu : Nat → Int64} {x w : Int32} (hT : TOK rs rm) (h : ncF a rs rm nu x w = 0) : ∃ t, t < 4 ∧ x = nI t ∧ rm t = nI (rowN rm t) ∧ 1 ≤ rowN rm t ∧ rowN rm t ≤ 6 ∧ okV (a 3) nu t (rowN rm t) ∧ okC a (sv nu t) (rowN rm t) (a 3) := by
  unfold ncF at h
  split at h
  · by_cases h1 : noTrayF rs x = 0
    · rw [if_neg (fun z => z h1)] at h
      obtain ⟨t, ht, rfl, _⟩ := noTray_0 h1
      rw [nI_clamp (by omega)] at h
      obtain ⟨hrm, hr⟩ := hT t ht
      split at h
      · rename_i h2
        rw [hrm, inR_toNat (by decide) (by decide) (by omega)] at h2
        split at h
        · rename_i h3
          split at h
          · rename_i h4
            exact ⟨t, ht, rfl, hrm, h2.1, h2.2, h3, h4⟩
          · exact absurd h (by decide)
        · exact absurd h (by decide)
      · exact absurd h (by decide)
    · rw [if_pos h1] at h; exact absurd h h1
  · exact absurd h (by decide)
theorem okV_sv {G : Nat} {nu : Nat → Int64} {t n i : Nat} (hG : G ≤ 4) (h : okV G nu t n) (hi : i < n) : nu (40 * t + i) = lN (sv nu t i) ∧ sv nu t i < 2 ^ G := by
  obtain ⟨k, hk, e⟩ := vS_of hG (h i hi)
  have hk2 : k < 2 ^ 63 := Nat.lt_of_lt_of_le hk (Nat.pow_le_pow_right (by decide) (by omega))
  unfold sv
  rw [e, lN_clamp hk2]
  exact ⟨rfl, hk⟩
theorem isInL {k g : Nat} (hk : k < 16) (hg : g < 4) : (lN k >>> ((nI g).toInt64 &&& 63)) &&& 1 = 1 ↔ k.testBit g = true := by
  rw [← nI_l (show k < 2 ^ 31 by omega)]
  exact isInB k (by omega) g (by omega)
theorem hourN_dig {a : Nat → Nat} {s c b dr : Nat} (hG : a 3 ≤ 4) (hC : a 1 ≤ 6) (hd : ∀ g, g < a 3 → c.testBit g = true → s / 8 ^ g % 8 < a 1) {g : Nat} (hg : g < 4) : hourN a s c b dr / 8 ^ g % 8 = s / 8 ^ g % 8 + (if g < a 3 ∧ c.testBit g = true then 1 else 0) := by
  have h7 : ∀ g, g < a 3 → c.testBit g = true → s / 8 ^ g % 8 < 7 := fun g h1 h2 => by have := hd g h1 h2; omega
  unfold hourN
  rw [dig_hi (hCs_lt _ _ _ hG h7) hg, hCs_dig _ hG h7 g hg]
theorem SG.hour {a : Nat → Nat} {s c b dr : Nat} (hs : SG a s) (hG : a 3 ≤ 4) (hC : a 1 ≤ 6) (hd : ∀ g, g < a 3 → c.testBit g = true → s / 8 ^ g % 8 < a 1) : SG a (hourN a s c b dr) := by
  refine ⟨hourN_lt hG hC hs.dep hd, fun g hg => ?_, fun g h1 hg => ?_⟩
  · rw [hourN_dig hG hC hd hg]
    split
    · rename_i h; have := hd g h.1 h.2; omega
    · have := hs.2.1 g hg; omega
  · rw [hourN_dig hG hC hd hg, hs.2.2 g h1 hg, if_neg (fun z => by omega)]
def LEG (a : Nat → Nat) (F : Nat → Nat) (m i s : Nat) : Prop := SG a s ∧ ∀ g, g < a 3 → s / 8 ^ g % 8 + rmB F g m i ≤ a 1
theorem LEG.ok {a : Nat → Nat} {F : Nat → Nat} {m i s : Nat} (h : LEG a F (m + 1) i s) : ∀ g, g < a 3 → (F i).testBit g = true → s / 8 ^ g % 8 < a 1 := fun g hg hb => by
  have h1 := h.2 g hg
  unfold rmB at h1
  rw [if_pos hb] at h1
  omega
theorem LEG.step {a : Nat → Nat} {F : Nat → Nat} {m i s b dr : Nat} (hG : a 3 ≤ 4) (hC : a 1 ≤ 6) (h : LEG a F (m + 1) i s) : LEG a F m (i + 1) (hourN a s (F i) b dr) := by
  refine ⟨h.1.hour hG hC h.ok, fun g hg => ?_⟩
  rw [hourN_dig hG hC h.ok (by omega)]
  have h1 := h.2 g hg
  unfold rmB at h1
  by_cases hb : (F i).testBit g = true
  · rw [if_pos ⟨hg, hb⟩]; rw [if_pos hb] at h1; omega
  · rw [if_neg (fun z => hb z.2)]; rw [if_neg hb] at h1; omega
def gS (a : Nat → Nat) (F : Nat → Nat) : Nat → Nat → Nat → Nat → Nat × Nat
  | 0, _, s, l => if s / 4096 = 0 ∨ l = 0 then (0, 0) else (l, l * (s / 4096))
  | m + 1, i, s, l => if s / 4096 = 0 ∨ l = 0 then (0, 0) else ((gS a F m (i + 1) (hourN a s (F i) 0 (a 27)) (l * (10 - a 6))).1 + (gS a F m (i + 1) (hourN a s (F i) (a 7) (a 27)) (l * a 6)).1, (gS a F m (i + 1) (hourN a s (F i) 0 (a 27)) (l * (10 - a 6))).2 + (gS a F m (i + 1) (hourN a s (F i) (a 7) (a 27)) (l * a 6)).2)
theorem gS_le {a : Nat → Nat} {F : Nat → Nat} (hG : a 3 ≤ 4) (hC : a 1 ≤ 6) (h6 : a 6 ≤ 10) : ∀ m i s l, LEG a F m i s → (gS a F m i s l).1 ≤ l * 10 ^ m ∧ (gS a F m i s l).2 ≤ 9 * (l * 10 ^ m)
  | 0, i, s, l, h => by
    have hd := h.1.dep
    unfold gS
    split
    · exact ⟨Nat.zero_le _, Nat.zero_le _⟩
    · show l ≤ l * 1 ∧ l * (s / 4096) ≤ 9 * (l * 1)
      have : l * (s / 4096) ≤ l * 9 := Nat.mul_le_mul_left _ hd
      omega
  | m + 1, i, s, l, h => by
    have h1 := gS_le hG hC h6 m (i + 1) _ (l * (10 - a 6)) (h.step (b := 0) (dr := a 27) hG hC)
    have h2 := gS_le hG hC h6 m (i + 1) _ (l * a 6) (h.step (b := a 7) (dr := a 27) hG hC)
    have e : l * (10 - a 6) * 10 ^ m + l * a 6 * 10 ^ m = l * 10 ^ (m + 1) := by
      rw [← Nat.add_mul, ← Nat.mul_add, Nat.sub_add_cancel h6, Nat.pow_succ, Nat.mul_assoc, Nat.mul_comm 10]
    unfold gS
    split
    · exact ⟨Nat.zero_le _, Nat.zero_le _⟩
    · show _ + _ ≤ _ ∧ _ + _ ≤ _
      omega
def chF (a : Nat → Nat) (rs rm : Nat → Int32) (nu : Nat → Int64) (x w : Int32) : Int32 := if ncF a rs rm nu x w ≠ 0 then ncF a rs rm nu x w else nI (partN (gS a (sv nu x.toNatClampNeg) (rowN rm x.toNatClampNeg) 0 (packS a) 1).1 (10 ^ rowN rm x.toNatClampNeg) w)
def meF (a : Nat → Nat) (rs rm : Nat → Int32) (nu : Nat → Int64) (x w : Int32) : Int32 := if ncF a rs rm nu x w ≠ 0 then ncF a rs rm nu x w else nI (partN (gS a (sv nu x.toNatClampNeg) (rowN rm x.toNatClampNeg) 0 (packS a) 1).2 (10 ^ rowN rm x.toNatClampNeg) w)
def cv (v : Nat → Int32) (x y : Nat) : Nat → Int32 := upd (upd v 37 (nI x)) 38 (nI y)
theorem cv_37 (v : Nat → Int32) (x y z : Nat) : upd (cv v x y) 37 (nI z) = cv v z y := by
  funext k
  unfold cv upd
  by_cases h1 : k = 37 <;> by_cases h2 : k = 38 <;> simp_all
theorem cv_38 (v : Nat → Int32) (x y z : Nat) : upd (cv v x y) 38 (nI z) = cv v x z := by
  funext k
  unfold cv upd
  by_cases h2 : k = 38 <;> simp_all
theorem LEG.now {a : Nat → Nat} {F : Nat → Nat} {n : Nat} (hA : AIN a) (h : okC a F n (a 3)) : LEG a F n 0 (packS a) := ⟨SG.now hA, fun g hg => by
  have h1 := ct_rm F g n 0
  have h2 := h g hg
  rw [Nat.zero_add] at h1
  have h3 : ctN F g 0 = 0 := rfl
  rw [hA.pdig g (by have := hA.G; omega)]
  omega⟩
set_option maxRecDepth 20000 in
set_option maxHeartbeats 1000000 in
theorem c_noChance {E : EnvT} {d : Nat} {h0 : Hp} {v rs rm : Nat → Int32} {nu : Nat → Int64} {a : Nat → Nat} {x w : Int32} (c117 : h0.1 117 = some (mO v)) (c118 : h0.1 118 = some (aI 3531 (nA a))) (c136 : h0.1 136 = some (aI 4 rs)) (c137 : h0.1 137 = some (aI 4 rm)) (c138 : h0.1 138 = some (aL 160 nu)) (hA : AIN a) (hT : TOK rs rm) (hd : 2 ≤ d) : Cn E mX10_noChance d [.ref 117, .int x, .int w] h0 (fun r h2 => r = some (.int (ncF a rs rm nu x w)) ∧ h2 = h0) := by
  have hG := hA.G
  have hC1 := hA.C
  by_cases h1 : inR 0 3 x
  · by_cases hw2 : inR 0 1 w
    · by_cases h3 : noTrayF rs x = 0
      · obtain ⟨t, ht, rfl, _⟩ := noTray_0 h3
        obtain ⟨hrm, hr40⟩ := hT t ht
        by_cases h4 : inR 1 6 (rm t)
        · have loopB : okV (a 3) nu t (rowN rm t) → ∀ (m g : Nat) (u3 : Int32) (u5 u6 : Value), g + m = a 3 → okC a (sv nu t) (rowN rm t) g → Fr E mX10_noChance d 102 [.ref 117, .int (nI t), .int w, .int u3, .int (nI g), u5, u6] [] h0 (fun r h2 => r = some (.int (ncF a rs rm nu (nI t) w)) ∧ h2 = h0) := by
            intro hV m
            induction m with
            | zero =>
              intro g u3 u5 u6 hgm hC
              obtain rfl : g = a 3 := by omega
              refine r_iload (pc2 := 104) 4 dX10_noChance_102 rfl rfl ?_
              refine r_aload_n (pc2 := 105) 0 dX10_noChance_104 rfl rfl rfl rfl ?_
              refine r_getf (pc2 := 108) (v := .ref 118) fX10_13 dX10_noChance_105 c117 (by decide) rfl rfl ?_
              refine r_iconst (pc2 := 109) (v := 3) dX10_noChance_108 (by decide) rfl ?_
              refine r_ialdA (pc2 := 110) 3 dX10_noChance_109 c118 (by decide) rfl (by decide) (by decide) rfl ?_
              refine r_icmp_ge (tgt := 195) (pc2 := 113) dX10_noChance_110 (by decide) rfl (fun b110 => ?_) (fun b110 => ?_)
              · skip
                refine r_iconst (pc2 := 196) (v := 0) dX10_noChance_195 (by decide) rfl ?_
                exact r_iret rfl dX10_noChance_196 ⟨by rw [ncF, if_pos ⟨h1, hw2⟩, if_neg (fun z => z h3), nI_clamp (by omega), if_pos h4, if_pos hV, if_pos hC], rfl⟩
              · exact absurd (nI_le (Nat.le_refl _) (by omega)) b110
            | succ m ihb =>
              intro g u3 u5 u6 hgm hC
              have hg : g < a 3 := by omega
              have hcl := hA.cl g (by omega)
              have hct := ctN_le (sv nu t) g (rowN rm t)
              have loopC : ∀ (m k : Nat), k + m = rowN rm t → Fr E mX10_noChance d 128 [.ref 117, .int (nI t), .int w, .int u3, .int (nI g), .int (nI (a (22 + g) + ctN (sv nu t) g k)), .int (nI k)] [] h0 (fun r h2 => r = some (.int (ncF a rs rm nu (nI t) w)) ∧ h2 = h0) := by
                intro m
                induction m with
                | zero =>
                  intro k hkm
                  obtain rfl : k = rowN rm t := by omega
                  by_cases hcg : a (22 + g) + ctN (sv nu t) g (rowN rm t) ≤ a 1
                  · skip
                    refine r_iload (pc2 := 130) 6 dX10_noChance_128 rfl rfl ?_
                    refine r_aload_n (pc2 := 131) 0 dX10_noChance_130 rfl rfl rfl rfl ?_
                    refine r_getf (pc2 := 134) (v := .ref 137) fX10_80 dX10_noChance_131 c117 (by decide) rfl rfl ?_
                    refine r_iload_n (pc2 := 135) 1 dX10_noChance_134 rfl rfl rfl ?_
                    refine r_ialdN (pc2 := 136) t dX10_noChance_135 c137 (by decide) rfl (by omega) (by decide) rfl ?_
                    refine r_cast (nI (rowN rm t)) (hrm) ?_
                    refine r_icmp_ge (tgt := 175) (pc2 := 139) dX10_noChance_136 (by decide) rfl (fun b136 => ?_) (fun b136 => ?_)
                    · skip
                      refine r_iload (pc2 := 177) 5 dX10_noChance_175 rfl rfl ?_
                      refine r_aload_n (pc2 := 178) 0 dX10_noChance_177 rfl rfl rfl rfl ?_
                      refine r_getf (pc2 := 181) (v := .ref 118) fX10_13 dX10_noChance_178 c117 (by decide) rfl rfl ?_
                      refine r_iconst (pc2 := 182) (v := 1) dX10_noChance_181 (by decide) rfl ?_
                      refine r_ialdA (pc2 := 183) 1 dX10_noChance_182 c118 (by decide) rfl (by decide) (by decide) rfl ?_
                      refine r_icmp_le (tgt := 189) (pc2 := 186) dX10_noChance_183 (by decide) rfl (fun b183 => ?_) (fun b183 => ?_)
                      · skip
                        obtain ⟨x189, e189⟩ : ∃ z : Int32, z = (nI g) + (1) := ⟨_, rfl⟩
                        refine r_iinc (pc2 := 192) (ls2 := [.ref 117, .int (nI t), .int w, .int u3, .int x189, .int (nI (a (22 + g) + ctN (sv nu t) g (rowN rm t))), .int (nI (rowN rm t))]) (v := x189) 4 dX10_noChance_189 rfl (by rw [e189]; rfl) rfl rfl rfl ?_
                        refine r_goto (pc2 := 102) dX10_noChance_192 (by decide) ?_
                        rw [e189, nI_1]
                        exact ihb (g + 1) _ _ _ (by omega) (fun i hi2 => by by_cases e : i = g; rw [e]; exact hcg; exact hC i (by omega))
                      · exact absurd (nI_le hcg (by omega)) b183
                    · exact absurd (nI_le (Nat.le_refl _) (by omega)) b136
                  · skip
                    refine r_iload (pc2 := 130) 6 dX10_noChance_128 rfl rfl ?_
                    refine r_aload_n (pc2 := 131) 0 dX10_noChance_130 rfl rfl rfl rfl ?_
                    refine r_getf (pc2 := 134) (v := .ref 137) fX10_80 dX10_noChance_131 c117 (by decide) rfl rfl ?_
                    refine r_iload_n (pc2 := 135) 1 dX10_noChance_134 rfl rfl rfl ?_
                    refine r_ialdN (pc2 := 136) t dX10_noChance_135 c137 (by decide) rfl (by omega) (by decide) rfl ?_
                    refine r_cast (nI (rowN rm t)) (hrm) ?_
                    refine r_icmp_ge (tgt := 175) (pc2 := 139) dX10_noChance_136 (by decide) rfl (fun b136 => ?_) (fun b136 => ?_)
                    · skip
                      refine r_iload (pc2 := 177) 5 dX10_noChance_175 rfl rfl ?_
                      refine r_aload_n (pc2 := 178) 0 dX10_noChance_177 rfl rfl rfl rfl ?_
                      refine r_getf (pc2 := 181) (v := .ref 118) fX10_13 dX10_noChance_178 c117 (by decide) rfl rfl ?_
                      refine r_iconst (pc2 := 182) (v := 1) dX10_noChance_181 (by decide) rfl ?_
                      refine r_ialdA (pc2 := 183) 1 dX10_noChance_182 c118 (by decide) rfl (by decide) (by decide) rfl ?_
                      refine r_icmp_le (tgt := 189) (pc2 := 186) dX10_noChance_183 (by decide) rfl (fun b183 => ?_) (fun b183 => ?_)
                      · exact absurd b183 (nI_ge (by omega) (by omega))
                      · skip
                        refine r_bipush (pc2 := 188) (v := -5) dX10_noChance_186 (by decide) rfl ?_
                        exact r_iret rfl dX10_noChance_188 ⟨by rw [ncF, if_pos ⟨h1, hw2⟩, if_neg (fun z => z h3), nI_clamp (by omega), if_pos h4, if_pos hV, if_neg (fun z => hcg (z g hg))], rfl⟩
                    · exact absurd (nI_le (Nat.le_refl _) (by omega)) b136
                | succ m ihc =>
                  intro k hkm
                  have hlt : k < rowN rm t := by omega
                  have hsv := (okV_sv hA.G hV hlt).2
                  have hp16 := pw16 hA.G
                  by_cases hb : (sv nu t k).testBit g = true
                  · skip
                    refine r_iload (pc2 := 130) 6 dX10_noChance_128 rfl rfl ?_
                    refine r_aload_n (pc2 := 131) 0 dX10_noChance_130 rfl rfl rfl rfl ?_
                    refine r_getf (pc2 := 134) (v := .ref 137) fX10_80 dX10_noChance_131 c117 (by decide) rfl rfl ?_
                    refine r_iload_n (pc2 := 135) 1 dX10_noChance_134 rfl rfl rfl ?_
                    refine r_ialdN (pc2 := 136) t dX10_noChance_135 c137 (by decide) rfl (by omega) (by decide) rfl ?_
                    refine r_cast (nI (rowN rm t)) (hrm) ?_
                    refine r_icmp_ge (tgt := 175) (pc2 := 139) dX10_noChance_136 (by decide) rfl (fun b136 => ?_) (fun b136 => ?_)
                    · exact absurd b136 (nI_ge hlt (by omega))
                    · skip
                      refine r_iload (pc2 := 141) 5 dX10_noChance_139 rfl rfl ?_
                      refine r_aload_n (pc2 := 142) 0 dX10_noChance_141 rfl rfl rfl rfl ?_
                      refine r_getf (pc2 := 145) (v := .ref 138) fX10_83 dX10_noChance_142 c117 (by decide) rfl rfl ?_
                      refine r_bipush (pc2 := 147) (v := 40) dX10_noChance_145 (by decide) rfl ?_
                      refine r_iload_n (pc2 := 148) 1 dX10_noChance_147 rfl rfl rfl ?_
                      refine r_imul (pc2 := 149) dX10_noChance_148 rfl ?_
                      refine r_cast (nI (40 * t)) (pk_mul 40 t) ?_
                      refine r_iload (pc2 := 151) 6 dX10_noChance_149 rfl rfl ?_
                      refine r_iadd (pc2 := 152) dX10_noChance_151 rfl ?_
                      refine r_cast (nI (40 * t + k)) (nI_add _ _) ?_
                      refine r_laldN (pc2 := 153) (40 * t + k) dX10_noChance_152 c138 (by decide) rfl (by omega) (by decide) rfl ?_
                      refine r_castl (lN (sv nu t k)) ((okV_sv hA.G hV hlt).1) ?_
                      refine r_iload (pc2 := 155) 4 dX10_noChance_153 rfl rfl ?_
                      refine r_callS1 (pc2 := 158) (As := [.long (lN (sv nu t k)), .int (nI g)]) (st := [.int (nI (a (22 + g) + ctN (sv nu t) g k))]) kX10_245 dX10_noChance_155 rfl rfl (Nat.le_of_ble_eq_true rfl) (by omega) (c_isIn (lN (sv nu t k)) (nI g)) rfl (fun h2 hq155 => ?_)
                      subst hq155
                      refine r_if_eq (tgt := 165) (pc2 := 161) dX10_noChance_158 (by decide) rfl (fun b158 => ?_) (fun b158 => ?_)
                      · exact absurd b158 (if1 ((isInL (by omega) (by omega)).mpr hb))
                      · skip
                        refine r_iconst (pc2 := 162) (v := 1) dX10_noChance_161 (by decide) rfl ?_
                        refine r_goto (pc2 := 166) dX10_noChance_162 (by decide) ?_
                        refine r_cast (nI (if (sv nu t k).testBit g = true then 1 else 0)) (by rw [if_pos hb]; rfl) ?_
                        refine r_iadd (pc2 := 167) dX10_noChance_166 rfl ?_
                        refine r_cast (nI (a (22 + g) + ctN (sv nu t) g (k + 1))) ((nI_add _ _).trans (congrArg nI (Nat.add_assoc _ _ _))) ?_
                        refine r_istore (pc2 := 169) (ls2 := [.ref 117, .int (nI t), .int w, .int u3, .int (nI g), .int (nI (a (22 + g) + ctN (sv nu t) g (k + 1))), .int (nI k)]) 5 dX10_noChance_167 (by decide) rfl rfl rfl ?_
                        obtain ⟨x169, e169⟩ : ∃ z : Int32, z = (nI k) + (1) := ⟨_, rfl⟩
                        refine r_iinc (pc2 := 172) (ls2 := [.ref 117, .int (nI t), .int w, .int u3, .int (nI g), .int (nI (a (22 + g) + ctN (sv nu t) g (k + 1))), .int x169]) (v := x169) 6 dX10_noChance_169 rfl (by rw [e169]; rfl) rfl rfl rfl ?_
                        refine r_goto (pc2 := 128) dX10_noChance_172 (by decide) ?_
                        rw [e169, nI_1]
                        exact ihc (k + 1) (by omega)
                  · skip
                    refine r_iload (pc2 := 130) 6 dX10_noChance_128 rfl rfl ?_
                    refine r_aload_n (pc2 := 131) 0 dX10_noChance_130 rfl rfl rfl rfl ?_
                    refine r_getf (pc2 := 134) (v := .ref 137) fX10_80 dX10_noChance_131 c117 (by decide) rfl rfl ?_
                    refine r_iload_n (pc2 := 135) 1 dX10_noChance_134 rfl rfl rfl ?_
                    refine r_ialdN (pc2 := 136) t dX10_noChance_135 c137 (by decide) rfl (by omega) (by decide) rfl ?_
                    refine r_cast (nI (rowN rm t)) (hrm) ?_
                    refine r_icmp_ge (tgt := 175) (pc2 := 139) dX10_noChance_136 (by decide) rfl (fun b136 => ?_) (fun b136 => ?_)
                    · exact absurd b136 (nI_ge hlt (by omega))
                    · skip
                      refine r_iload (pc2 := 141) 5 dX10_noChance_139 rfl rfl ?_
                      refine r_aload_n (pc2 := 142) 0 dX10_noChance_141 rfl rfl rfl rfl ?_
                      refine r_getf (pc2 := 145) (v := .ref 138) fX10_83 dX10_noChance_142 c117 (by decide) rfl rfl ?_
                      refine r_bipush (pc2 := 147) (v := 40) dX10_noChance_145 (by decide) rfl ?_
                      refine r_iload_n (pc2 := 148) 1 dX10_noChance_147 rfl rfl rfl ?_
                      refine r_imul (pc2 := 149) dX10_noChance_148 rfl ?_
                      refine r_cast (nI (40 * t)) (pk_mul 40 t) ?_
                      refine r_iload (pc2 := 151) 6 dX10_noChance_149 rfl rfl ?_
                      refine r_iadd (pc2 := 152) dX10_noChance_151 rfl ?_
                      refine r_cast (nI (40 * t + k)) (nI_add _ _) ?_
                      refine r_laldN (pc2 := 153) (40 * t + k) dX10_noChance_152 c138 (by decide) rfl (by omega) (by decide) rfl ?_
                      refine r_castl (lN (sv nu t k)) ((okV_sv hA.G hV hlt).1) ?_
                      refine r_iload (pc2 := 155) 4 dX10_noChance_153 rfl rfl ?_
                      refine r_callS1 (pc2 := 158) (As := [.long (lN (sv nu t k)), .int (nI g)]) (st := [.int (nI (a (22 + g) + ctN (sv nu t) g k))]) kX10_245 dX10_noChance_155 rfl rfl (Nat.le_of_ble_eq_true rfl) (by omega) (c_isIn (lN (sv nu t k)) (nI g)) rfl (fun h2 hq155 => ?_)
                      subst hq155
                      refine r_if_eq (tgt := 165) (pc2 := 161) dX10_noChance_158 (by decide) rfl (fun b158 => ?_) (fun b158 => ?_)
                      · skip
                        refine r_iconst (pc2 := 166) (v := 0) dX10_noChance_165 (by decide) rfl ?_
                        refine r_cast (nI (if (sv nu t k).testBit g = true then 1 else 0)) (by rw [if_neg hb]; rfl) ?_
                        refine r_iadd (pc2 := 167) dX10_noChance_166 rfl ?_
                        refine r_cast (nI (a (22 + g) + ctN (sv nu t) g (k + 1))) ((nI_add _ _).trans (congrArg nI (Nat.add_assoc _ _ _))) ?_
                        refine r_istore (pc2 := 169) (ls2 := [.ref 117, .int (nI t), .int w, .int u3, .int (nI g), .int (nI (a (22 + g) + ctN (sv nu t) g (k + 1))), .int (nI k)]) 5 dX10_noChance_167 (by decide) rfl rfl rfl ?_
                        obtain ⟨x169, e169⟩ : ∃ z : Int32, z = (nI k) + (1) := ⟨_, rfl⟩
                        refine r_iinc (pc2 := 172) (ls2 := [.ref 117, .int (nI t), .int w, .int u3, .int (nI g), .int (nI (a (22 + g) + ctN (sv nu t) g (k + 1))), .int x169]) (v := x169) 6 dX10_noChance_169 rfl (by rw [e169]; rfl) rfl rfl rfl ?_
                        refine r_goto (pc2 := 128) dX10_noChance_172 (by decide) ?_
                        rw [e169, nI_1]
                        exact ihc (k + 1) (by omega)
                      · exact absurd (if_neg (fun z => hb ((isInL (by omega) (by omega)).mp z))) b158
              refine r_iload (pc2 := 104) 4 dX10_noChance_102 rfl rfl ?_
              refine r_aload_n (pc2 := 105) 0 dX10_noChance_104 rfl rfl rfl rfl ?_
              refine r_getf (pc2 := 108) (v := .ref 118) fX10_13 dX10_noChance_105 c117 (by decide) rfl rfl ?_
              refine r_iconst (pc2 := 109) (v := 3) dX10_noChance_108 (by decide) rfl ?_
              refine r_ialdA (pc2 := 110) 3 dX10_noChance_109 c118 (by decide) rfl (by decide) (by decide) rfl ?_
              refine r_icmp_ge (tgt := 195) (pc2 := 113) dX10_noChance_110 (by decide) rfl (fun b110 => ?_) (fun b110 => ?_)
              · exact absurd b110 (nI_ge hg (by omega))
              · skip
                refine r_aload_n (pc2 := 114) 0 dX10_noChance_113 rfl rfl rfl rfl ?_
                refine r_getf (pc2 := 117) (v := .ref 118) fX10_13 dX10_noChance_114 c117 (by decide) rfl rfl ?_
                refine r_bipush (pc2 := 119) (v := 22) dX10_noChance_117 (by decide) rfl ?_
                refine r_iload (pc2 := 121) 4 dX10_noChance_119 rfl rfl ?_
                refine r_iadd (pc2 := 122) dX10_noChance_121 rfl ?_
                refine r_cast (nI (22 + g)) (nI_add 22 g) ?_
                refine r_ialdA (pc2 := 123) (22 + g) dX10_noChance_122 c118 (by decide) rfl (by omega) (by decide) rfl ?_
                refine r_istore (pc2 := 125) (ls2 := [.ref 117, .int (nI t), .int w, .int u3, .int (nI g), .int (nI (a (22 + g))), u6]) 5 dX10_noChance_123 (by decide) rfl rfl rfl ?_
                refine r_iconst (pc2 := 126) (v := 0) dX10_noChance_125 (by decide) rfl ?_
                refine r_istore (pc2 := 128) (ls2 := [.ref 117, .int (nI t), .int w, .int u3, .int (nI g), .int (nI (a (22 + g))), .int 0]) 6 dX10_noChance_126 (by decide) rfl rfl rfl ?_
                exact loopC (rowN rm t) 0 (by omega)
          have loopA : ∀ (m k : Nat) (u3 : Int32), k + m = rowN rm t → okV (a 3) nu t k → Fr E mX10_noChance d 60 [.ref 117, .int (nI t), .int w, .int u3, .int (nI k), .float 0, .float 0] [] h0 (fun r h2 => r = some (.int (ncF a rs rm nu (nI t) w)) ∧ h2 = h0) := by
            intro m
            induction m with
            | zero =>
              intro k u3 hkm hi
              obtain rfl : k = rowN rm t := by omega
              refine r_iload (pc2 := 62) 4 dX10_noChance_60 rfl rfl ?_
              refine r_aload_n (pc2 := 63) 0 dX10_noChance_62 rfl rfl rfl rfl ?_
              refine r_getf (pc2 := 66) (v := .ref 137) fX10_80 dX10_noChance_63 c117 (by decide) rfl rfl ?_
              refine r_iload_n (pc2 := 67) 1 dX10_noChance_66 rfl rfl rfl ?_
              refine r_ialdN (pc2 := 68) t dX10_noChance_67 c137 (by decide) rfl (by omega) (by decide) rfl ?_
              refine r_cast (nI (rowN rm t)) (hrm) ?_
              refine r_icmp_ge (tgt := 99) (pc2 := 71) dX10_noChance_68 (by decide) rfl (fun b68 => ?_) (fun b68 => ?_)
              · skip
                refine r_iconst (pc2 := 100) (v := 0) dX10_noChance_99 (by decide) rfl ?_
                refine r_istore (pc2 := 102) (ls2 := [.ref 117, .int (nI t), .int w, .int u3, .int 0, .float 0, .float 0]) 4 dX10_noChance_100 (by decide) rfl rfl rfl ?_
                exact loopB hi (a 3) 0 _ _ _ (by omega) (fun g hg => absurd hg (Nat.not_lt_zero _))
              · exact absurd (nI_le (Nat.le_refl _) (by omega)) b68
            | succ m ih =>
              intro k u3 hkm hi
              have hlt : k < rowN rm t := by omega
              by_cases hk9 : vS (a 3) (nu (40 * t + k))
              · skip
                refine r_iload (pc2 := 62) 4 dX10_noChance_60 rfl rfl ?_
                refine r_aload_n (pc2 := 63) 0 dX10_noChance_62 rfl rfl rfl rfl ?_
                refine r_getf (pc2 := 66) (v := .ref 137) fX10_80 dX10_noChance_63 c117 (by decide) rfl rfl ?_
                refine r_iload_n (pc2 := 67) 1 dX10_noChance_66 rfl rfl rfl ?_
                refine r_ialdN (pc2 := 68) t dX10_noChance_67 c137 (by decide) rfl (by omega) (by decide) rfl ?_
                refine r_cast (nI (rowN rm t)) (hrm) ?_
                refine r_icmp_ge (tgt := 99) (pc2 := 71) dX10_noChance_68 (by decide) rfl (fun b68 => ?_) (fun b68 => ?_)
                · exact absurd b68 (nI_ge hlt (by omega))
                · skip
                  refine r_aload_n (pc2 := 72) 0 dX10_noChance_71 rfl rfl rfl rfl ?_
                  refine r_aload_n (pc2 := 73) 0 dX10_noChance_72 rfl rfl rfl rfl ?_
                  refine r_getf (pc2 := 76) (v := .ref 138) fX10_83 dX10_noChance_73 c117 (by decide) rfl rfl ?_
                  refine r_bipush (pc2 := 78) (v := 40) dX10_noChance_76 (by decide) rfl ?_
                  refine r_iload_n (pc2 := 79) 1 dX10_noChance_78 rfl rfl rfl ?_
                  refine r_imul (pc2 := 80) dX10_noChance_79 rfl ?_
                  refine r_cast (nI (40 * t)) (pk_mul 40 t) ?_
                  refine r_iload (pc2 := 82) 4 dX10_noChance_80 rfl rfl ?_
                  refine r_iadd (pc2 := 83) dX10_noChance_82 rfl ?_
                  refine r_cast (nI (40 * t + k)) (nI_add _ _) ?_
                  refine r_laldN (pc2 := 84) (40 * t + k) dX10_noChance_83 c138 (by decide) rfl (by omega) (by decide) rfl ?_
                  refine r_callV1 (pc2 := 87) (As := [.long (nu (40 * t + k))]) (st := []) kX10_259 rfl rfl dX10_noChance_84 c117 (by decide) rfl rfl (Nat.le_of_ble_eq_true rfl) (by omega) (c_isSet c117 c118 hA.G (by omega)) rfl (fun h2 hq84 => ?_)
                  subst hq84
                  refine r_if_ne (tgt := 93) (pc2 := 90) dX10_noChance_87 (by decide) rfl (fun b87 => ?_) (fun b87 => ?_)
                  · skip
                    obtain ⟨x93, e93⟩ : ∃ z : Int32, z = (nI k) + (1) := ⟨_, rfl⟩
                    refine r_iinc (pc2 := 96) (ls2 := [.ref 117, .int (nI t), .int w, .int u3, .int x93, .float 0, .float 0]) (v := x93) 4 dX10_noChance_93 rfl (by rw [e93]; rfl) rfl rfl rfl ?_
                    refine r_goto (pc2 := 60) dX10_noChance_96 (by decide) ?_
                    rw [e93, nI_1]
                    exact ih (k + 1) _ (by omega) (fun i hi2 => by by_cases e : i = k; rw [e]; exact hk9; exact hi i (by omega))
                  · exact absurd b87 (if1 hk9)
              · skip
                refine r_iload (pc2 := 62) 4 dX10_noChance_60 rfl rfl ?_
                refine r_aload_n (pc2 := 63) 0 dX10_noChance_62 rfl rfl rfl rfl ?_
                refine r_getf (pc2 := 66) (v := .ref 137) fX10_80 dX10_noChance_63 c117 (by decide) rfl rfl ?_
                refine r_iload_n (pc2 := 67) 1 dX10_noChance_66 rfl rfl rfl ?_
                refine r_ialdN (pc2 := 68) t dX10_noChance_67 c137 (by decide) rfl (by omega) (by decide) rfl ?_
                refine r_cast (nI (rowN rm t)) (hrm) ?_
                refine r_icmp_ge (tgt := 99) (pc2 := 71) dX10_noChance_68 (by decide) rfl (fun b68 => ?_) (fun b68 => ?_)
                · exact absurd b68 (nI_ge hlt (by omega))
                · skip
                  refine r_aload_n (pc2 := 72) 0 dX10_noChance_71 rfl rfl rfl rfl ?_
                  refine r_aload_n (pc2 := 73) 0 dX10_noChance_72 rfl rfl rfl rfl ?_
                  refine r_getf (pc2 := 76) (v := .ref 138) fX10_83 dX10_noChance_73 c117 (by decide) rfl rfl ?_
                  refine r_bipush (pc2 := 78) (v := 40) dX10_noChance_76 (by decide) rfl ?_
                  refine r_iload_n (pc2 := 79) 1 dX10_noChance_78 rfl rfl rfl ?_
                  refine r_imul (pc2 := 80) dX10_noChance_79 rfl ?_
                  refine r_cast (nI (40 * t)) (pk_mul 40 t) ?_
                  refine r_iload (pc2 := 82) 4 dX10_noChance_80 rfl rfl ?_
                  refine r_iadd (pc2 := 83) dX10_noChance_82 rfl ?_
                  refine r_cast (nI (40 * t + k)) (nI_add _ _) ?_
                  refine r_laldN (pc2 := 84) (40 * t + k) dX10_noChance_83 c138 (by decide) rfl (by omega) (by decide) rfl ?_
                  refine r_callV1 (pc2 := 87) (As := [.long (nu (40 * t + k))]) (st := []) kX10_259 rfl rfl dX10_noChance_84 c117 (by decide) rfl rfl (Nat.le_of_ble_eq_true rfl) (by omega) (c_isSet c117 c118 hA.G (by omega)) rfl (fun h2 hq84 => ?_)
                  subst hq84
                  refine r_if_ne (tgt := 93) (pc2 := 90) dX10_noChance_87 (by decide) rfl (fun b87 => ?_) (fun b87 => ?_)
                  · exact absurd (if0 hk9) b87
                  · skip
                    refine r_bipush (pc2 := 92) (v := -3) dX10_noChance_90 (by decide) rfl ?_
                    exact r_iret rfl dX10_noChance_92 ⟨by rw [ncF, if_pos ⟨h1, hw2⟩, if_neg (fun z => z h3), nI_clamp (by omega), if_pos h4, if_neg (fun z => hk9 (z k hlt))], rfl⟩
          refine Cn.go (ls := [.ref 117, .int (nI t), .int w, .float 0, .float 0, .float 0, .float 0]) (by decide +kernel) rfl (Nat.le_of_ble_eq_true rfl) ?_
          refine r_iload_n (pc2 := 1) 1 dX10_noChance_0 rfl rfl rfl ?_
          refine r_i2l (pc2 := 2) dX10_noChance_1 rfl ?_
          refine r_lconst (pc2 := 3) (v := 0) dX10_noChance_2 (by decide) rfl ?_
          refine r_ldc2 (pc2 := 6) (v := 3) qX10_321 dX10_noChance_3 rfl ?_
          refine r_callS1 (pc2 := 9) (As := [.long (Int32.toInt64 (nI t)), .long 0, .long 3]) (st := []) kX10_152 dX10_noChance_6 rfl rfl (Nat.le_of_ble_eq_true rfl) (by omega) (c_within (Int32.toInt64 (nI t)) 0 3) rfl (fun h2 hq6 => ?_)
          subst hq6
          refine r_if_eq (tgt := 22) (pc2 := 12) dX10_noChance_9 (by decide) rfl (fun b9 => ?_) (fun b9 => ?_)
          · exact absurd b9 (if1 h1)
          · skip
            refine r_iload_n (pc2 := 13) 2 dX10_noChance_12 rfl rfl rfl ?_
            refine r_i2l (pc2 := 14) dX10_noChance_13 rfl ?_
            refine r_lconst (pc2 := 15) (v := 0) dX10_noChance_14 (by decide) rfl ?_
            refine r_lconst (pc2 := 16) (v := 1) dX10_noChance_15 (by decide) rfl ?_
            refine r_callS1 (pc2 := 19) (As := [.long (Int32.toInt64 w), .long 0, .long 1]) (st := []) kX10_152 dX10_noChance_16 rfl rfl (Nat.le_of_ble_eq_true rfl) (by omega) (c_within (Int32.toInt64 w) 0 1) rfl (fun h2 hq16 => ?_)
            subst hq16
            refine r_if_ne (tgt := 25) (pc2 := 22) dX10_noChance_19 (by decide) rfl (fun b19 => ?_) (fun b19 => ?_)
            · skip
              refine r_aload_n (pc2 := 26) 0 dX10_noChance_25 rfl rfl rfl rfl ?_
              refine r_iload_n (pc2 := 27) 1 dX10_noChance_26 rfl rfl rfl ?_
              refine r_callV1 (pc2 := 30) (As := [.int (nI t)]) (st := []) kX10_323 rfl rfl dX10_noChance_27 c117 (by decide) rfl rfl (Nat.le_of_ble_eq_true rfl) (by omega) (c_noTray (x := (nI t)) c117 c136 (by omega)) rfl (fun h2 hq27 => ?_)
              subst hq27
              refine r_topi (fun x30 e30 => ?_)
              refine r_istore_n (pc2 := 31) (ls2 := [.ref 117, .int (nI t), .int w, .int x30, .float 0, .float 0, .float 0]) 3 dX10_noChance_30 rfl (by decide) rfl rfl rfl ?_
              refine r_iload_n (pc2 := 32) 3 dX10_noChance_31 rfl rfl rfl ?_
              refine r_if_eq (tgt := 37) (pc2 := 35) dX10_noChance_32 (by decide) rfl (fun b32 => ?_) (fun b32 => ?_)
              · skip
                refine r_aload_n (pc2 := 38) 0 dX10_noChance_37 rfl rfl rfl rfl ?_
                refine r_getf (pc2 := 41) (v := .ref 137) fX10_80 dX10_noChance_38 c117 (by decide) rfl rfl ?_
                refine r_iload_n (pc2 := 42) 1 dX10_noChance_41 rfl rfl rfl ?_
                refine r_ialdN (pc2 := 43) t dX10_noChance_42 c137 (by decide) rfl (by omega) (by decide) rfl ?_
                refine r_i2l (pc2 := 44) dX10_noChance_43 rfl ?_
                refine r_lconst (pc2 := 45) (v := 1) dX10_noChance_44 (by decide) rfl ?_
                refine r_ldc2 (pc2 := 48) (v := 6) qX10_431 dX10_noChance_45 rfl ?_
                refine r_callS1 (pc2 := 51) (As := [.long (Int32.toInt64 (rm t)), .long 1, .long 6]) (st := []) kX10_152 dX10_noChance_48 rfl rfl (Nat.le_of_ble_eq_true rfl) (by omega) (c_within (Int32.toInt64 (rm t)) 1 6) rfl (fun h2 hq48 => ?_)
                subst hq48
                refine r_if_ne (tgt := 57) (pc2 := 54) dX10_noChance_51 (by decide) rfl (fun b51 => ?_) (fun b51 => ?_)
                · skip
                  refine r_iconst (pc2 := 58) (v := 0) dX10_noChance_57 (by decide) rfl ?_
                  refine r_istore (pc2 := 60) (ls2 := [.ref 117, .int (nI t), .int w, .int x30, .int 0, .float 0, .float 0]) 4 dX10_noChance_58 (by decide) rfl rfl rfl ?_
                  exact loopA (rowN rm t) 0 _ (by omega) (fun i hi => absurd hi (Nat.not_lt_zero _))
                · exact absurd b51 (if1 h4)
              · exact absurd (e30.trans h3) b32
            · exact absurd b19 (if1 hw2)
        · skip
          refine Cn.go (ls := [.ref 117, .int (nI t), .int w, .float 0, .float 0, .float 0, .float 0]) (by decide +kernel) rfl (Nat.le_of_ble_eq_true rfl) ?_
          refine r_iload_n (pc2 := 1) 1 dX10_noChance_0 rfl rfl rfl ?_
          refine r_i2l (pc2 := 2) dX10_noChance_1 rfl ?_
          refine r_lconst (pc2 := 3) (v := 0) dX10_noChance_2 (by decide) rfl ?_
          refine r_ldc2 (pc2 := 6) (v := 3) qX10_321 dX10_noChance_3 rfl ?_
          refine r_callS1 (pc2 := 9) (As := [.long (Int32.toInt64 (nI t)), .long 0, .long 3]) (st := []) kX10_152 dX10_noChance_6 rfl rfl (Nat.le_of_ble_eq_true rfl) (by omega) (c_within (Int32.toInt64 (nI t)) 0 3) rfl (fun h2 hq6 => ?_)
          subst hq6
          refine r_if_eq (tgt := 22) (pc2 := 12) dX10_noChance_9 (by decide) rfl (fun b9 => ?_) (fun b9 => ?_)
          · exact absurd b9 (if1 h1)
          · skip
            refine r_iload_n (pc2 := 13) 2 dX10_noChance_12 rfl rfl rfl ?_
            refine r_i2l (pc2 := 14) dX10_noChance_13 rfl ?_
            refine r_lconst (pc2 := 15) (v := 0) dX10_noChance_14 (by decide) rfl ?_
            refine r_lconst (pc2 := 16) (v := 1) dX10_noChance_15 (by decide) rfl ?_
            refine r_callS1 (pc2 := 19) (As := [.long (Int32.toInt64 w), .long 0, .long 1]) (st := []) kX10_152 dX10_noChance_16 rfl rfl (Nat.le_of_ble_eq_true rfl) (by omega) (c_within (Int32.toInt64 w) 0 1) rfl (fun h2 hq16 => ?_)
            subst hq16
            refine r_if_ne (tgt := 25) (pc2 := 22) dX10_noChance_19 (by decide) rfl (fun b19 => ?_) (fun b19 => ?_)
            · skip
              refine r_aload_n (pc2 := 26) 0 dX10_noChance_25 rfl rfl rfl rfl ?_
              refine r_iload_n (pc2 := 27) 1 dX10_noChance_26 rfl rfl rfl ?_
              refine r_callV1 (pc2 := 30) (As := [.int (nI t)]) (st := []) kX10_323 rfl rfl dX10_noChance_27 c117 (by decide) rfl rfl (Nat.le_of_ble_eq_true rfl) (by omega) (c_noTray (x := (nI t)) c117 c136 (by omega)) rfl (fun h2 hq27 => ?_)
              subst hq27
              refine r_topi (fun x30 e30 => ?_)
              refine r_istore_n (pc2 := 31) (ls2 := [.ref 117, .int (nI t), .int w, .int x30, .float 0, .float 0, .float 0]) 3 dX10_noChance_30 rfl (by decide) rfl rfl rfl ?_
              refine r_iload_n (pc2 := 32) 3 dX10_noChance_31 rfl rfl rfl ?_
              refine r_if_eq (tgt := 37) (pc2 := 35) dX10_noChance_32 (by decide) rfl (fun b32 => ?_) (fun b32 => ?_)
              · skip
                refine r_aload_n (pc2 := 38) 0 dX10_noChance_37 rfl rfl rfl rfl ?_
                refine r_getf (pc2 := 41) (v := .ref 137) fX10_80 dX10_noChance_38 c117 (by decide) rfl rfl ?_
                refine r_iload_n (pc2 := 42) 1 dX10_noChance_41 rfl rfl rfl ?_
                refine r_ialdN (pc2 := 43) t dX10_noChance_42 c137 (by decide) rfl (by omega) (by decide) rfl ?_
                refine r_i2l (pc2 := 44) dX10_noChance_43 rfl ?_
                refine r_lconst (pc2 := 45) (v := 1) dX10_noChance_44 (by decide) rfl ?_
                refine r_ldc2 (pc2 := 48) (v := 6) qX10_431 dX10_noChance_45 rfl ?_
                refine r_callS1 (pc2 := 51) (As := [.long (Int32.toInt64 (rm t)), .long 1, .long 6]) (st := []) kX10_152 dX10_noChance_48 rfl rfl (Nat.le_of_ble_eq_true rfl) (by omega) (c_within (Int32.toInt64 (rm t)) 1 6) rfl (fun h2 hq48 => ?_)
                subst hq48
                refine r_if_ne (tgt := 57) (pc2 := 54) dX10_noChance_51 (by decide) rfl (fun b51 => ?_) (fun b51 => ?_)
                · exact absurd (if0 h4) b51
                · skip
                  refine r_bipush (pc2 := 56) (v := -4) dX10_noChance_54 (by decide) rfl ?_
                  exact r_iret rfl dX10_noChance_56 ⟨by rw [ncF, if_pos ⟨h1, hw2⟩, if_neg (fun z => z h3), nI_clamp (by omega), if_neg h4], rfl⟩
              · exact absurd (e30.trans h3) b32
            · exact absurd b19 (if1 hw2)
      · skip
        refine Cn.go (ls := [.ref 117, .int x, .int w, .float 0, .float 0, .float 0, .float 0]) (by decide +kernel) rfl (Nat.le_of_ble_eq_true rfl) ?_
        refine r_iload_n (pc2 := 1) 1 dX10_noChance_0 rfl rfl rfl ?_
        refine r_i2l (pc2 := 2) dX10_noChance_1 rfl ?_
        refine r_lconst (pc2 := 3) (v := 0) dX10_noChance_2 (by decide) rfl ?_
        refine r_ldc2 (pc2 := 6) (v := 3) qX10_321 dX10_noChance_3 rfl ?_
        refine r_callS1 (pc2 := 9) (As := [.long (Int32.toInt64 x), .long 0, .long 3]) (st := []) kX10_152 dX10_noChance_6 rfl rfl (Nat.le_of_ble_eq_true rfl) (by omega) (c_within (Int32.toInt64 x) 0 3) rfl (fun h2 hq6 => ?_)
        subst hq6
        refine r_if_eq (tgt := 22) (pc2 := 12) dX10_noChance_9 (by decide) rfl (fun b9 => ?_) (fun b9 => ?_)
        · exact absurd b9 (if1 h1)
        · skip
          refine r_iload_n (pc2 := 13) 2 dX10_noChance_12 rfl rfl rfl ?_
          refine r_i2l (pc2 := 14) dX10_noChance_13 rfl ?_
          refine r_lconst (pc2 := 15) (v := 0) dX10_noChance_14 (by decide) rfl ?_
          refine r_lconst (pc2 := 16) (v := 1) dX10_noChance_15 (by decide) rfl ?_
          refine r_callS1 (pc2 := 19) (As := [.long (Int32.toInt64 w), .long 0, .long 1]) (st := []) kX10_152 dX10_noChance_16 rfl rfl (Nat.le_of_ble_eq_true rfl) (by omega) (c_within (Int32.toInt64 w) 0 1) rfl (fun h2 hq16 => ?_)
          subst hq16
          refine r_if_ne (tgt := 25) (pc2 := 22) dX10_noChance_19 (by decide) rfl (fun b19 => ?_) (fun b19 => ?_)
          · skip
            refine r_aload_n (pc2 := 26) 0 dX10_noChance_25 rfl rfl rfl rfl ?_
            refine r_iload_n (pc2 := 27) 1 dX10_noChance_26 rfl rfl rfl ?_
            refine r_callV1 (pc2 := 30) (As := [.int x]) (st := []) kX10_323 rfl rfl dX10_noChance_27 c117 (by decide) rfl rfl (Nat.le_of_ble_eq_true rfl) (by omega) (c_noTray (x := x) c117 c136 (by omega)) rfl (fun h2 hq27 => ?_)
            subst hq27
            refine r_topi (fun x30 e30 => ?_)
            refine r_istore_n (pc2 := 31) (ls2 := [.ref 117, .int x, .int w, .int x30, .float 0, .float 0, .float 0]) 3 dX10_noChance_30 rfl (by decide) rfl rfl rfl ?_
            refine r_iload_n (pc2 := 32) 3 dX10_noChance_31 rfl rfl rfl ?_
            refine r_if_eq (tgt := 37) (pc2 := 35) dX10_noChance_32 (by decide) rfl (fun b32 => ?_) (fun b32 => ?_)
            · exact absurd (e30.symm.trans b32) h3
            · skip
              refine r_iload_n (pc2 := 36) 3 dX10_noChance_35 rfl rfl rfl ?_
              exact r_iret rfl dX10_noChance_36 ⟨by rw [ncF, if_pos ⟨h1, hw2⟩, if_pos h3, e30], rfl⟩
          · exact absurd b19 (if1 hw2)
    · skip
      refine Cn.go (ls := [.ref 117, .int x, .int w, .float 0, .float 0, .float 0, .float 0]) (by decide +kernel) rfl (Nat.le_of_ble_eq_true rfl) ?_
      refine r_iload_n (pc2 := 1) 1 dX10_noChance_0 rfl rfl rfl ?_
      refine r_i2l (pc2 := 2) dX10_noChance_1 rfl ?_
      refine r_lconst (pc2 := 3) (v := 0) dX10_noChance_2 (by decide) rfl ?_
      refine r_ldc2 (pc2 := 6) (v := 3) qX10_321 dX10_noChance_3 rfl ?_
      refine r_callS1 (pc2 := 9) (As := [.long (Int32.toInt64 x), .long 0, .long 3]) (st := []) kX10_152 dX10_noChance_6 rfl rfl (Nat.le_of_ble_eq_true rfl) (by omega) (c_within (Int32.toInt64 x) 0 3) rfl (fun h2 hq6 => ?_)
      subst hq6
      refine r_if_eq (tgt := 22) (pc2 := 12) dX10_noChance_9 (by decide) rfl (fun b9 => ?_) (fun b9 => ?_)
      · exact absurd b9 (if1 h1)
      · skip
        refine r_iload_n (pc2 := 13) 2 dX10_noChance_12 rfl rfl rfl ?_
        refine r_i2l (pc2 := 14) dX10_noChance_13 rfl ?_
        refine r_lconst (pc2 := 15) (v := 0) dX10_noChance_14 (by decide) rfl ?_
        refine r_lconst (pc2 := 16) (v := 1) dX10_noChance_15 (by decide) rfl ?_
        refine r_callS1 (pc2 := 19) (As := [.long (Int32.toInt64 w), .long 0, .long 1]) (st := []) kX10_152 dX10_noChance_16 rfl rfl (Nat.le_of_ble_eq_true rfl) (by omega) (c_within (Int32.toInt64 w) 0 1) rfl (fun h2 hq16 => ?_)
        subst hq16
        refine r_if_ne (tgt := 25) (pc2 := 22) dX10_noChance_19 (by decide) rfl (fun b19 => ?_) (fun b19 => ?_)
        · exact absurd (if0 hw2) b19
        · skip
          refine r_bipush (pc2 := 24) (v := -2) dX10_noChance_22 (by decide) rfl ?_
          exact r_iret rfl dX10_noChance_24 ⟨by rw [ncF, if_neg (fun z => hw2 z.2)], rfl⟩
  · skip
    refine Cn.go (ls := [.ref 117, .int x, .int w, .float 0, .float 0, .float 0, .float 0]) (by decide +kernel) rfl (Nat.le_of_ble_eq_true rfl) ?_
    refine r_iload_n (pc2 := 1) 1 dX10_noChance_0 rfl rfl rfl ?_
    refine r_i2l (pc2 := 2) dX10_noChance_1 rfl ?_
    refine r_lconst (pc2 := 3) (v := 0) dX10_noChance_2 (by decide) rfl ?_
    refine r_ldc2 (pc2 := 6) (v := 3) qX10_321 dX10_noChance_3 rfl ?_
    refine r_callS1 (pc2 := 9) (As := [.long (Int32.toInt64 x), .long 0, .long 3]) (st := []) kX10_152 dX10_noChance_6 rfl rfl (Nat.le_of_ble_eq_true rfl) (by omega) (c_within (Int32.toInt64 x) 0 3) rfl (fun h2 hq6 => ?_)
    subst hq6
    refine r_if_eq (tgt := 22) (pc2 := 12) dX10_noChance_9 (by decide) rfl (fun b9 => ?_) (fun b9 => ?_)
    · skip
      refine r_bipush (pc2 := 24) (v := -2) dX10_noChance_22 (by decide) rfl ?_
      exact r_iret rfl dX10_noChance_24 ⟨by rw [ncF, if_neg (fun z => h1 z.1)], rfl⟩
    · exact absurd (if0 h1) b9
