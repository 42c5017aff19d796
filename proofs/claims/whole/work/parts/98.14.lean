/-! the class: walks: laySets, depthThen -/
theorem LST2.top {w f} {G op k : Nat} (h : LST2 w G op f k) (hop : op < 16) (hk : op < k) : LST2 w G op f 16 := ⟨h.1, fun c h0 h1 h2 h3 => h.2 c h0 h1 h2 (Or.inl (by
  have := dif_le2 c h1 op hop h2
  omega))⟩
def nzW (a : FR) (x dr : Nat) : Nat → Nat := fun g => noiseN a g (x / 8 ^ g % 8 + 1) (x / 4096) dr
def psW (a : FR) (x : Nat) : Nat → Nat := fun g => if x / 8 ^ g % 8 + 1 = a 1 then 1 else 0
/-- the single goers so far -/
def L1 (w : Nat → Nat) (a : FR) (x : Nat) (f : Nat → Int32) (k : Nat) : Prop := f 0 = 0 ∧ ∀ g, g < k → x / 8 ^ g % 8 < a 1 → f (2 ^ g) = nI (w g)
theorem L1.skip {w f} {a : FR} {x k : Nat} (h : L1 w a x f k) (hk : ¬ x / 8 ^ k % 8 < a 1) : L1 w a x f (k + 1) := ⟨h.1, fun g hg z => h.2 g (by
  rcases Nat.lt_succ_iff_lt_or_eq.mp hg with y | y
  · exact y
  · subst y; exact absurd z hk) z⟩
theorem pow2_inj {g k : Nat} (h : 2 ^ g = 2 ^ k) : g = k := by
  rcases Nat.lt_trichotomy g k with z | z | z
  · have := Nat.pow_lt_pow_right (a := 2) (by decide) z; omega
  · exact z
  · have := Nat.pow_lt_pow_right (a := 2) (by decide) z; omega
theorem L1.set {w f} {a : FR} {x k : Nat} {y : Int32} (h : L1 w a x f k) (hy : y = nI (w k)) : L1 w a x (upd f (2 ^ k) y) (k + 1) := ⟨(if_neg (by have := Nat.pow_pos (n := k) (show 0 < 2 by decide); omega)).trans h.1, fun g hg z => by
  by_cases q : g = k
  · subst q; exact (if_pos rfl).trans hy
  · refine (if_neg (fun e => q (pow2_inj e))).trans (h.2 g (by omega) z)⟩
theorem L1.to {w f} {a : FR} {x : Nat} (h : L1 w a x f (a 3)) (hG : a 3 ≤ 4) : LST2 w (a 3) (opK a x (a 3)) f 1 := LST2.one h.1 hG (opK_lt a x (a 3)) (fun g hg hb => h.2 g hg (by
  rw [opK_bit, decide_eq_true hg, Bool.true_and] at hb
  exact of_decide_eq_true hb))
theorem div7s (n g : Nat) : n / 7 ^ g / 7 = n / 7 ^ (g + 1) := by rw [Nat.div_div_eq_div_mul, Nat.pow_succ]
set_option maxRecDepth 20000 in
set_option maxHeartbeats 1000000 in
theorem c_laySets {E : EnvT} {d : Nat} {h0 : Hp} {Z : Nat → Prop} {reg : Nat → FR} {ns s sg dr kd : Nat} {a b : FR} {q x : Nat} {wst wsd lk fd go gh op pa X D : Int32} {nz sh ps : Nat → Int32} (cq : h0.1 q = some (.inr (8, wkL q s (nI dr) wst wsd lk fd go gh op pa))) (cnz : h0.1 (q + 5) = some (aI 16 nz)) (csh : h0.1 (q + 6) = some (aI 16 sh)) (cps : h0.1 (q + 7) = some (aI 16 ps)) (hz0 : nz 0 = 0 ∧ sh 0 = 0 ∧ ps 0 = 0) (hW : WQ Z kd q) (hL : LQ Z h0 reg ns s sg dr kd b) (hA : AIN a) (hst : Stat a b) (hs : SG a x) (eX : X = nI (tws x)) (eD : D = nI (x / 4096)) (hd9 : 3 ≤ d) : Cn E mX8_laySets d [.ref q, .int X, .int D] h0 (fun r h2 => r = none ∧ ∃ nz sh ps : Nat → Int32, h2.1 q = some (.inr (8, wkL q s (nI dr) wst wsd lk fd go gh (nI (opK a x (a 3))) (nI (paK a x (a 3))))) ∧ h2.1 (q + 5) = some (aI 16 nz) ∧ h2.1 (q + 6) = some (aI 16 sh) ∧ h2.1 (q + 7) = some (aI 16 ps) ∧ LST2 (nzW a x dr) (a 3) (opK a x (a 3)) nz 16 ∧ LST2 (fun g => 7 ^ g) (a 3) (opK a x (a 3)) sh 16 ∧ LST2 (psW a x) (a 3) (opK a x (a 3)) ps 16 ∧ LQ Z h2 reg ns s sg dr kd b ∧ GQ [q, q + 5, q + 6, q + 7] kd h0 h2 kd) := by
  subst eX eD
  have hG := hA.G
  have hC6 := hA.C
  have hdp := hs.dep
  have htl := hs.tl hC6
  have st1 : a 1 = b 1 := hst 1 (by omega)
  have st3 : a 3 = b 3 := hst 3 (by omega)
  have hk0 := hL.dv.k0
  have hzs := hL.dv.zs
  have hs64 := hL.dv.s64
  have hq139 := hW.1
  have hqk := hW.2.1
  have hqs := hW.2.2 s hL.2.2.2.2.2.2.2.2.1
  have hop : (opK a x (a 3)) < 16 := Nat.lt_of_lt_of_le (opK_lt a x (a 3)) (pw16 hG)
  have hp16 : ∀ g, g < 4 → 2 ^ g < 16 := fun g hg => Nat.pow_lt_pow_right (by decide) hg
  obtain ⟨lo, so9, sa, nl, sl, cs⟩ := hL.dv.cs
  have loop2 : ∀ (m k : Nat) (h : Hp) (nz sh ps : Nat → Int32) (u3 : Int32) (u5 u6 : Value), k + m = 16 → 1 ≤ k → LST2 (nzW a x dr) (a 3) (opK a x (a 3)) nz k → LST2 (fun g => 7 ^ g) (a 3) (opK a x (a 3)) sh k → LST2 (psW a x) (a 3) (opK a x (a 3)) ps k → GQ [q, q + 5, q + 6, q + 7] kd h0 h kd → LQ Z h reg ns s sg dr kd b → h.1 q = some (.inr (8, wkL q s (nI dr) wst wsd lk fd go gh (nI (opK a x (a 3))) (nI (paK a x (a 3))))) → h.1 (q + 5) = some (aI 16 nz) → h.1 (q + 6) = some (aI 16 sh) → h.1 (q + 7) = some (aI 16 ps) → h.1 s = some (.inr (6, stL sg b lo so9 sa nl sl)) → Fr E mX8_laySets d 147 [.ref q, .int (nI (tws x)), .int (nI (x / 4096)), .int u3, .int (nI k), u5, u6] [] h (fun r h2 => r = none ∧ ∃ nz sh ps : Nat → Int32, h2.1 q = some (.inr (8, wkL q s (nI dr) wst wsd lk fd go gh (nI (opK a x (a 3))) (nI (paK a x (a 3))))) ∧ h2.1 (q + 5) = some (aI 16 nz) ∧ h2.1 (q + 6) = some (aI 16 sh) ∧ h2.1 (q + 7) = some (aI 16 ps) ∧ LST2 (nzW a x dr) (a 3) (opK a x (a 3)) nz 16 ∧ LST2 (fun g => 7 ^ g) (a 3) (opK a x (a 3)) sh 16 ∧ LST2 (psW a x) (a 3) (opK a x (a 3)) ps 16 ∧ LQ Z h2 reg ns s sg dr kd b ∧ GQ [q, q + 5, q + 6, q + 7] kd h0 h2 kd) := by
    intro m
    induction m with
    | zero =>
      intro k h nz sh ps u3 u5 u6 hk hk1 h1 h2 h3 hQ hL cq cnz csh cps cs
      have hgt : (opK a x (a 3)) < k := by omega
      refine r_iload (pc2 := 149) 4 dX8_laySets_147 rfl rfl ?_
      refine r_aload_n (pc2 := 150) 0 dX8_laySets_149 rfl rfl rfl rfl ?_
      refine r_getf (pc2 := 153) (v := .int (nI (opK a x (a 3)))) fX8_66 dX8_laySets_150 cq (by omega) rfl rfl ?_
      refine r_icmp_gt (tgt := 260) (pc2 := 156) dX8_laySets_153 (by decide) rfl (fun b153 => ?_) (fun b153 => ?_)
      · skip
        exact r_vret rfl dX8_laySets_260 ⟨rfl, nz, sh, ps, cq, cnz, csh, cps, h1.top hop hgt, h2.top hop hgt, h3.top hop hgt, hL, hQ⟩
      · exact absurd (nI_lt (by omega) (by omega)) b153
    | succ m ih =>
      intro k h nz sh ps u3 u5 u6 hk hk1 h1 h2 h3 hQ hL cq cnz csh cps cs
      by_cases hgt : (opK a x (a 3)) < k
      · skip
        refine r_iload (pc2 := 149) 4 dX8_laySets_147 rfl rfl ?_
        refine r_aload_n (pc2 := 150) 0 dX8_laySets_149 rfl rfl rfl rfl ?_
        refine r_getf (pc2 := 153) (v := .int (nI (opK a x (a 3)))) fX8_66 dX8_laySets_150 cq (by omega) rfl rfl ?_
        refine r_icmp_gt (tgt := 260) (pc2 := 156) dX8_laySets_153 (by decide) rfl (fun b153 => ?_) (fun b153 => ?_)
        · skip
          exact r_vret rfl dX8_laySets_260 ⟨rfl, nz, sh, ps, cq, cnz, csh, cps, h1.top hop hgt, h2.top hop hgt, h3.top hop hgt, hL, hQ⟩
        · exact absurd (nI_lt (by omega) (by omega)) b153
      · have hlb := lsb_lt k (by omega) (by omega)
        have hdl := dif_le k (opK a x (a 3))
        by_cases hot : k ^^^ lsb k = 0
        · skip
          refine r_iload (pc2 := 149) 4 dX8_laySets_147 rfl rfl ?_
          refine r_aload_n (pc2 := 150) 0 dX8_laySets_149 rfl rfl rfl rfl ?_
          refine r_getf (pc2 := 153) (v := .int (nI (opK a x (a 3)))) fX8_66 dX8_laySets_150 cq (by omega) rfl rfl ?_
          refine r_icmp_gt (tgt := 260) (pc2 := 156) dX8_laySets_153 (by decide) rfl (fun b153 => ?_) (fun b153 => ?_)
          · exact absurd b153 (nI_nlt (by omega) (by omega))
          · skip
            refine r_iload (pc2 := 158) 4 dX8_laySets_156 rfl rfl ?_
            refine r_iload (pc2 := 160) 4 dX8_laySets_158 rfl rfl ?_
            refine r_ineg (pc2 := 161) dX8_laySets_160 rfl ?_
            refine r_iand (pc2 := 162) dX8_laySets_161 rfl ?_
            refine r_cast (nI (lsb k)) (lsb_nI k (by omega) (by omega)) ?_
            refine r_istore (pc2 := 164) (ls2 := [.ref q, .int (nI (tws x)), .int (nI (x / 4096)), .int u3, .int (nI k), .int (nI (lsb k)), u6]) 5 dX8_laySets_162 (by decide) rfl rfl rfl ?_
            refine r_iload (pc2 := 166) 4 dX8_laySets_164 rfl rfl ?_
            refine r_iload (pc2 := 168) 5 dX8_laySets_166 rfl rfl ?_
            refine r_ixor (pc2 := 169) dX8_laySets_168 rfl ?_
            refine r_cast (nI (k ^^^ lsb k)) (lsb_x k (by omega)) ?_
            refine r_istore (pc2 := 171) (ls2 := [.ref q, .int (nI (tws x)), .int (nI (x / 4096)), .int u3, .int (nI k), .int (nI (lsb k)), .int (nI (k ^^^ lsb k))]) 6 dX8_laySets_169 (by decide) rfl rfl rfl ?_
            refine r_iload (pc2 := 173) 6 dX8_laySets_171 rfl rfl ?_
            refine r_if_eq (tgt := 254) (pc2 := 176) dX8_laySets_173 (by decide) rfl (fun b173 => ?_) (fun b173 => ?_)
            · skip
              obtain ⟨x254, e254⟩ : ∃ z : Int32, z = (nI k) + (1) := ⟨_, rfl⟩
              refine r_iinc (pc2 := 257) (ls2 := [.ref q, .int (nI (tws x)), .int (nI (x / 4096)), .int u3, .int x254, .int (nI (lsb k)), .int (nI (k ^^^ lsb k))]) (v := x254) 4 dX8_laySets_254 rfl (by rw [e254]; rfl) rfl rfl rfl ?_
              refine r_goto (pc2 := 147) dX8_laySets_257 (by decide) ?_
              rw [e254, nI_1]
              exact ih (k + 1) h nz sh ps _ _ _ (by omega) (by omega) (h1.skip (Or.inr hot)) (h2.skip (Or.inr hot)) (h3.skip (Or.inr hot)) hQ hL cq cnz csh cps cs
            · exact absurd (congrArg nI hot) b173
        · by_cases hdf : dif k (opK a x (a 3)) = 0
          · skip
            refine r_iload (pc2 := 149) 4 dX8_laySets_147 rfl rfl ?_
            refine r_aload_n (pc2 := 150) 0 dX8_laySets_149 rfl rfl rfl rfl ?_
            refine r_getf (pc2 := 153) (v := .int (nI (opK a x (a 3)))) fX8_66 dX8_laySets_150 cq (by omega) rfl rfl ?_
            refine r_icmp_gt (tgt := 260) (pc2 := 156) dX8_laySets_153 (by decide) rfl (fun b153 => ?_) (fun b153 => ?_)
            · exact absurd b153 (nI_nlt (by omega) (by omega))
            · skip
              refine r_iload (pc2 := 158) 4 dX8_laySets_156 rfl rfl ?_
              refine r_iload (pc2 := 160) 4 dX8_laySets_158 rfl rfl ?_
              refine r_ineg (pc2 := 161) dX8_laySets_160 rfl ?_
              refine r_iand (pc2 := 162) dX8_laySets_161 rfl ?_
              refine r_cast (nI (lsb k)) (lsb_nI k (by omega) (by omega)) ?_
              refine r_istore (pc2 := 164) (ls2 := [.ref q, .int (nI (tws x)), .int (nI (x / 4096)), .int u3, .int (nI k), .int (nI (lsb k)), u6]) 5 dX8_laySets_162 (by decide) rfl rfl rfl ?_
              refine r_iload (pc2 := 166) 4 dX8_laySets_164 rfl rfl ?_
              refine r_iload (pc2 := 168) 5 dX8_laySets_166 rfl rfl ?_
              refine r_ixor (pc2 := 169) dX8_laySets_168 rfl ?_
              refine r_cast (nI (k ^^^ lsb k)) (lsb_x k (by omega)) ?_
              refine r_istore (pc2 := 171) (ls2 := [.ref q, .int (nI (tws x)), .int (nI (x / 4096)), .int u3, .int (nI k), .int (nI (lsb k)), .int (nI (k ^^^ lsb k))]) 6 dX8_laySets_169 (by decide) rfl rfl rfl ?_
              refine r_iload (pc2 := 173) 6 dX8_laySets_171 rfl rfl ?_
              refine r_if_eq (tgt := 254) (pc2 := 176) dX8_laySets_173 (by decide) rfl (fun b173 => ?_) (fun b173 => ?_)
              · exact absurd (nI_z0 (by omega) b173) hot
              · skip
                refine r_iload (pc2 := 178) 4 dX8_laySets_176 rfl rfl ?_
                refine r_aload_n (pc2 := 179) 0 dX8_laySets_178 rfl rfl rfl rfl ?_
                refine r_getf (pc2 := 182) (v := .int (nI (opK a x (a 3)))) fX8_66 dX8_laySets_179 cq (by omega) rfl rfl ?_
                refine r_iconst (pc2 := 183) (v := -1) dX8_laySets_182 (by decide) rfl ?_
                refine r_ixor (pc2 := 184) dX8_laySets_183 rfl ?_
                refine r_iand (pc2 := 185) dX8_laySets_184 rfl ?_
                refine r_cast (nI (dif k (opK a x (a 3)))) (dif_nI k (by omega) _ hop) ?_
                refine r_if_ne (tgt := 254) (pc2 := 188) dX8_laySets_185 (by decide) rfl (fun b185 => ?_) (fun b185 => ?_)
                · exact absurd (congrArg nI hdf) b185
                · skip
                  refine r_aload_n (pc2 := 189) 0 dX8_laySets_188 rfl rfl rfl rfl ?_
                  refine r_getf (pc2 := 192) (v := .ref (q + 5)) fX8_29 dX8_laySets_189 cq (by omega) rfl rfl ?_
                  refine r_iload (pc2 := 194) 4 dX8_laySets_192 rfl rfl ?_
                  refine r_aload_n (pc2 := 195) 0 dX8_laySets_194 rfl rfl rfl rfl ?_
                  refine r_getf (pc2 := 198) (v := .ref (q + 5)) fX8_29 dX8_laySets_195 cq (by omega) rfl rfl ?_
                  refine r_iload (pc2 := 200) 5 dX8_laySets_198 rfl rfl ?_
                  refine r_ialdN (pc2 := 201) (lsb k) dX8_laySets_200 cnz (by omega) rfl (by omega) (by decide) rfl ?_
                  refine r_aload_n (pc2 := 202) 0 dX8_laySets_201 rfl rfl rfl rfl ?_
                  refine r_getf (pc2 := 205) (v := .ref (q + 5)) fX8_29 dX8_laySets_202 cq (by omega) rfl rfl ?_
                  refine r_iload (pc2 := 207) 6 dX8_laySets_205 rfl rfl ?_
                  refine r_ialdN (pc2 := 208) (k ^^^ lsb k) dX8_laySets_207 cnz (by omega) rfl (by omega) (by decide) rfl ?_
                  refine r_iadd (pc2 := 209) dX8_laySets_208 rfl ?_
                  refine r_topi (fun y209 ey209 => ?_)
                  refine r_iastN (pc2 := 210) k dX8_laySets_209 cnz (by omega) rfl (by omega) (by decide) rfl (fun h z209 o209 cnz => ?_)
                  have cq := (o209 q (by omega)).trans cq
                  have csh := (o209 (q + 6) (by omega)).trans csh
                  have cps := (o209 (q + 7) (by omega)).trans cps
                  have cs := (o209 s (by omega)).trans cs
                  have hxw : Ex [q + 5] _ h := ⟨z209, fun y hy => o209 y (by simpa using hy)⟩
                  have hL := hL.ex hxw (hW.off (by simp))
                  have hQ := hQ.wr hxw (by simp)
                  refine r_aload_n (pc2 := 211) 0 dX8_laySets_210 rfl rfl rfl rfl ?_
                  refine r_getf (pc2 := 214) (v := .ref (q + 6)) fX8_32 dX8_laySets_211 cq (by omega) rfl rfl ?_
                  refine r_iload (pc2 := 216) 4 dX8_laySets_214 rfl rfl ?_
                  refine r_aload_n (pc2 := 217) 0 dX8_laySets_216 rfl rfl rfl rfl ?_
                  refine r_getf (pc2 := 220) (v := .ref (q + 6)) fX8_32 dX8_laySets_217 cq (by omega) rfl rfl ?_
                  refine r_iload (pc2 := 222) 5 dX8_laySets_220 rfl rfl ?_
                  refine r_ialdN (pc2 := 223) (lsb k) dX8_laySets_222 csh (by omega) rfl (by omega) (by decide) rfl ?_
                  refine r_aload_n (pc2 := 224) 0 dX8_laySets_223 rfl rfl rfl rfl ?_
                  refine r_getf (pc2 := 227) (v := .ref (q + 6)) fX8_32 dX8_laySets_224 cq (by omega) rfl rfl ?_
                  refine r_iload (pc2 := 229) 6 dX8_laySets_227 rfl rfl ?_
                  refine r_ialdN (pc2 := 230) (k ^^^ lsb k) dX8_laySets_229 csh (by omega) rfl (by omega) (by decide) rfl ?_
                  refine r_iadd (pc2 := 231) dX8_laySets_230 rfl ?_
                  refine r_topi (fun y231 ey231 => ?_)
                  refine r_iastN (pc2 := 232) k dX8_laySets_231 csh (by omega) rfl (by omega) (by decide) rfl (fun h z231 o231 csh => ?_)
                  have cq := (o231 q (by omega)).trans cq
                  have cnz := (o231 (q + 5) (by omega)).trans cnz
                  have cps := (o231 (q + 7) (by omega)).trans cps
                  have cs := (o231 s (by omega)).trans cs
                  have hxw : Ex [q + 6] _ h := ⟨z231, fun y hy => o231 y (by simpa using hy)⟩
                  have hL := hL.ex hxw (hW.off (by simp))
                  have hQ := hQ.wr hxw (by simp)
                  refine r_aload_n (pc2 := 233) 0 dX8_laySets_232 rfl rfl rfl rfl ?_
                  refine r_getf (pc2 := 236) (v := .ref (q + 7)) fX8_35 dX8_laySets_233 cq (by omega) rfl rfl ?_
                  refine r_iload (pc2 := 238) 4 dX8_laySets_236 rfl rfl ?_
                  refine r_aload_n (pc2 := 239) 0 dX8_laySets_238 rfl rfl rfl rfl ?_
                  refine r_getf (pc2 := 242) (v := .ref (q + 7)) fX8_35 dX8_laySets_239 cq (by omega) rfl rfl ?_
                  refine r_iload (pc2 := 244) 5 dX8_laySets_242 rfl rfl ?_
                  refine r_ialdN (pc2 := 245) (lsb k) dX8_laySets_244 cps (by omega) rfl (by omega) (by decide) rfl ?_
                  refine r_aload_n (pc2 := 246) 0 dX8_laySets_245 rfl rfl rfl rfl ?_
                  refine r_getf (pc2 := 249) (v := .ref (q + 7)) fX8_35 dX8_laySets_246 cq (by omega) rfl rfl ?_
                  refine r_iload (pc2 := 251) 6 dX8_laySets_249 rfl rfl ?_
                  refine r_ialdN (pc2 := 252) (k ^^^ lsb k) dX8_laySets_251 cps (by omega) rfl (by omega) (by decide) rfl ?_
                  refine r_iadd (pc2 := 253) dX8_laySets_252 rfl ?_
                  refine r_topi (fun y253 ey253 => ?_)
                  refine r_iastN (pc2 := 254) k dX8_laySets_253 cps (by omega) rfl (by omega) (by decide) rfl (fun h z253 o253 cps => ?_)
                  have cq := (o253 q (by omega)).trans cq
                  have cnz := (o253 (q + 5) (by omega)).trans cnz
                  have csh := (o253 (q + 6) (by omega)).trans csh
                  have cs := (o253 s (by omega)).trans cs
                  have hxw : Ex [q + 7] _ h := ⟨z253, fun y hy => o253 y (by simpa using hy)⟩
                  have hL := hL.ex hxw (hW.off (by simp))
                  have hQ := hQ.wr hxw (by simp)
                  obtain ⟨x254, e254⟩ : ∃ z : Int32, z = (nI k) + (1) := ⟨_, rfl⟩
                  refine r_iinc (pc2 := 257) (ls2 := [.ref q, .int (nI (tws x)), .int (nI (x / 4096)), .int u3, .int x254, .int (nI (lsb k)), .int (nI (k ^^^ lsb k))]) (v := x254) 4 dX8_laySets_254 rfl (by rw [e254]; rfl) rfl rfl rfl ?_
                  refine r_goto (pc2 := 147) dX8_laySets_257 (by decide) ?_
                  rw [e254, nI_1]
                  exact ih (k + 1) h _ _ _ _ _ _ (by omega) (by omega) (h1.set hG (by omega) (by omega) hop hdf hot ey209) (h2.set hG (by omega) (by omega) hop hdf hot ey231) (h3.set hG (by omega) (by omega) hop hdf hot ey253) hQ hL cq cnz csh cps cs
          · skip
            refine r_iload (pc2 := 149) 4 dX8_laySets_147 rfl rfl ?_
            refine r_aload_n (pc2 := 150) 0 dX8_laySets_149 rfl rfl rfl rfl ?_
            refine r_getf (pc2 := 153) (v := .int (nI (opK a x (a 3)))) fX8_66 dX8_laySets_150 cq (by omega) rfl rfl ?_
            refine r_icmp_gt (tgt := 260) (pc2 := 156) dX8_laySets_153 (by decide) rfl (fun b153 => ?_) (fun b153 => ?_)
            · exact absurd b153 (nI_nlt (by omega) (by omega))
            · skip
              refine r_iload (pc2 := 158) 4 dX8_laySets_156 rfl rfl ?_
              refine r_iload (pc2 := 160) 4 dX8_laySets_158 rfl rfl ?_
              refine r_ineg (pc2 := 161) dX8_laySets_160 rfl ?_
              refine r_iand (pc2 := 162) dX8_laySets_161 rfl ?_
              refine r_cast (nI (lsb k)) (lsb_nI k (by omega) (by omega)) ?_
              refine r_istore (pc2 := 164) (ls2 := [.ref q, .int (nI (tws x)), .int (nI (x / 4096)), .int u3, .int (nI k), .int (nI (lsb k)), u6]) 5 dX8_laySets_162 (by decide) rfl rfl rfl ?_
              refine r_iload (pc2 := 166) 4 dX8_laySets_164 rfl rfl ?_
              refine r_iload (pc2 := 168) 5 dX8_laySets_166 rfl rfl ?_
              refine r_ixor (pc2 := 169) dX8_laySets_168 rfl ?_
              refine r_cast (nI (k ^^^ lsb k)) (lsb_x k (by omega)) ?_
              refine r_istore (pc2 := 171) (ls2 := [.ref q, .int (nI (tws x)), .int (nI (x / 4096)), .int u3, .int (nI k), .int (nI (lsb k)), .int (nI (k ^^^ lsb k))]) 6 dX8_laySets_169 (by decide) rfl rfl rfl ?_
              refine r_iload (pc2 := 173) 6 dX8_laySets_171 rfl rfl ?_
              refine r_if_eq (tgt := 254) (pc2 := 176) dX8_laySets_173 (by decide) rfl (fun b173 => ?_) (fun b173 => ?_)
              · exact absurd (nI_z0 (by omega) b173) hot
              · skip
                refine r_iload (pc2 := 178) 4 dX8_laySets_176 rfl rfl ?_
                refine r_aload_n (pc2 := 179) 0 dX8_laySets_178 rfl rfl rfl rfl ?_
                refine r_getf (pc2 := 182) (v := .int (nI (opK a x (a 3)))) fX8_66 dX8_laySets_179 cq (by omega) rfl rfl ?_
                refine r_iconst (pc2 := 183) (v := -1) dX8_laySets_182 (by decide) rfl ?_
                refine r_ixor (pc2 := 184) dX8_laySets_183 rfl ?_
                refine r_iand (pc2 := 185) dX8_laySets_184 rfl ?_
                refine r_cast (nI (dif k (opK a x (a 3)))) (dif_nI k (by omega) _ hop) ?_
                refine r_if_ne (tgt := 254) (pc2 := 188) dX8_laySets_185 (by decide) rfl (fun b185 => ?_) (fun b185 => ?_)
                · skip
                  obtain ⟨x254, e254⟩ : ∃ z : Int32, z = (nI k) + (1) := ⟨_, rfl⟩
                  refine r_iinc (pc2 := 257) (ls2 := [.ref q, .int (nI (tws x)), .int (nI (x / 4096)), .int u3, .int x254, .int (nI (lsb k)), .int (nI (k ^^^ lsb k))]) (v := x254) 4 dX8_laySets_254 rfl (by rw [e254]; rfl) rfl rfl rfl ?_
                  refine r_goto (pc2 := 147) dX8_laySets_257 (by decide) ?_
                  rw [e254, nI_1]
                  exact ih (k + 1) h nz sh ps _ _ _ (by omega) (by omega) (h1.skip (Or.inl hdf)) (h2.skip (Or.inl hdf)) (h3.skip (Or.inl hdf)) hQ hL cq cnz csh cps cs
                · exact absurd (nI_z0 (by omega) b185) hdf
  have loop : ∀ (m g : Nat) (h : Hp) (nz sh ps : Nat → Int32) (u5 u6 : Value), g + m = a 3 → L1 (nzW a x dr) a x nz g → L1 (fun g => 7 ^ g) a x sh g → L1 (psW a x) a x ps g → GQ [q, q + 5, q + 6, q + 7] kd h0 h kd → LQ Z h reg ns s sg dr kd b → h.1 q = some (.inr (8, wkL q s (nI dr) wst wsd lk fd go gh (nI (opK a x g)) (nI (paK a x g)))) → h.1 (q + 5) = some (aI 16 nz) → h.1 (q + 6) = some (aI 16 sh) → h.1 (q + 7) = some (aI 16 ps) → h.1 s = some (.inr (6, stL sg b lo so9 sa nl sl)) → Fr E mX8_laySets d 15 [.ref q, .int (nI (tws x)), .int (nI (x / 4096)), .int (nI (tws x / 7 ^ g)), .int (nI g), u5, u6] [] h (fun r h2 => r = none ∧ ∃ nz sh ps : Nat → Int32, h2.1 q = some (.inr (8, wkL q s (nI dr) wst wsd lk fd go gh (nI (opK a x (a 3))) (nI (paK a x (a 3))))) ∧ h2.1 (q + 5) = some (aI 16 nz) ∧ h2.1 (q + 6) = some (aI 16 sh) ∧ h2.1 (q + 7) = some (aI 16 ps) ∧ LST2 (nzW a x dr) (a 3) (opK a x (a 3)) nz 16 ∧ LST2 (fun g => 7 ^ g) (a 3) (opK a x (a 3)) sh 16 ∧ LST2 (psW a x) (a 3) (opK a x (a 3)) ps 16 ∧ LQ Z h2 reg ns s sg dr kd b ∧ GQ [q, q + 5, q + 6, q + 7] kd h0 h2 kd) := by
    intro m
    induction m with
    | zero =>
      intro g h nz sh ps u5 u6 hg h1 h2 h3 hQ hL cq cnz csh cps cs
      refine r_iload (pc2 := 17) 4 dX8_laySets_15 rfl rfl ?_
      refine r_aload_n (pc2 := 18) 0 dX8_laySets_17 rfl rfl rfl rfl ?_
      refine r_getf (pc2 := 21) (v := .ref s) fX8_48 dX8_laySets_18 cq (by omega) rfl rfl ?_
      refine r_getf (pc2 := 24) (v := .int (nI (b 3))) fX8_72 dX8_laySets_21 cs hs64 rfl rfl ?_
      refine r_icmp_ge (tgt := 144) (pc2 := 27) dX8_laySets_24 (by decide) rfl (fun b24 => ?_) (fun b24 => ?_)
      · skip
        refine r_iconst (pc2 := 145) (v := 1) dX8_laySets_144 (by decide) rfl ?_
        refine r_cast (nI 1) (rfl) ?_
        refine r_istore (pc2 := 147) (ls2 := [.ref q, .int (nI (tws x)), .int (nI (x / 4096)), .int (nI (tws x / 7 ^ g)), .int (nI 1), u5, u6]) 4 dX8_laySets_145 (by decide) rfl rfl rfl ?_
        have hge : g = a 3 := by omega
        subst hge
        exact loop2 15 1 h nz sh ps _ _ _ (by omega) (by omega) (h1.to hG) (h2.to hG) (h3.to hG) hQ hL cq cnz csh cps cs
      · exact absurd (nI_le (by omega) (by omega)) b24
    | succ m ih =>
      intro g h nz sh ps u5 u6 hg h1 h2 h3 hQ hL cq cnz csh cps cs
      have hdc := hs.2.1 g (by omega)
      by_cases hd : (x / 8 ^ g % 8) < a 1
      · by_cases hp : (x / 8 ^ g % 8) + 1 = a 1
        · skip
          refine r_iload (pc2 := 17) 4 dX8_laySets_15 rfl rfl ?_
          refine r_aload_n (pc2 := 18) 0 dX8_laySets_17 rfl rfl rfl rfl ?_
          refine r_getf (pc2 := 21) (v := .ref s) fX8_48 dX8_laySets_18 cq (by omega) rfl rfl ?_
          refine r_getf (pc2 := 24) (v := .int (nI (b 3))) fX8_72 dX8_laySets_21 cs hs64 rfl rfl ?_
          refine r_icmp_ge (tgt := 144) (pc2 := 27) dX8_laySets_24 (by decide) rfl (fun b24 => ?_) (fun b24 => ?_)
          · exact absurd b24 (nI_ge (by omega) (by omega))
          · skip
            refine r_iload_n (pc2 := 28) 3 dX8_laySets_27 rfl rfl rfl ?_
            refine r_bipush (pc2 := 30) (v := 7) dX8_laySets_28 (by decide) rfl ?_
            refine r_irem (pc2 := 31) dX8_laySets_30 (by decide) rfl ?_
            refine r_cast (nI (x / 8 ^ g % 8)) (by rw [rem7 (by have := Nat.div_le_self (tws x) (7 ^ g); omega), tws_dig hs.2.1 hC6 g (by omega)]) ?_
            refine r_iconst (pc2 := 32) (v := 1) dX8_laySets_31 (by decide) rfl ?_
            refine r_iadd (pc2 := 33) dX8_laySets_32 rfl ?_
            refine r_cast (nI ((x / 8 ^ g % 8) + 1)) (nI_1 _) ?_
            refine r_istore (pc2 := 35) (ls2 := [.ref q, .int (nI (tws x)), .int (nI (x / 4096)), .int (nI (tws x / 7 ^ g)), .int (nI g), .int (nI ((x / 8 ^ g % 8) + 1)), u6]) 5 dX8_laySets_33 (by decide) rfl rfl rfl ?_
            refine r_iload_n (pc2 := 36) 3 dX8_laySets_35 rfl rfl rfl ?_
            refine r_bipush (pc2 := 38) (v := 7) dX8_laySets_36 (by decide) rfl ?_
            refine r_idiv (pc2 := 39) dX8_laySets_38 (by decide) rfl ?_
            refine r_cast (nI (tws x / 7 ^ (g + 1))) (by rw [div7 (by have := Nat.div_le_self (tws x) (7 ^ g); omega), div7s]) ?_
            refine r_istore_n (pc2 := 40) (ls2 := [.ref q, .int (nI (tws x)), .int (nI (x / 4096)), .int (nI (tws x / 7 ^ (g + 1))), .int (nI g), .int (nI ((x / 8 ^ g % 8) + 1)), u6]) 3 dX8_laySets_39 rfl (by decide) rfl rfl rfl ?_
            refine r_iload (pc2 := 42) 5 dX8_laySets_40 rfl rfl ?_
            refine r_aload_n (pc2 := 43) 0 dX8_laySets_42 rfl rfl rfl rfl ?_
            refine r_getf (pc2 := 46) (v := .ref s) fX8_48 dX8_laySets_43 cq (by omega) rfl rfl ?_
            refine r_getf (pc2 := 49) (v := .int (nI (b 1))) fX8_77 dX8_laySets_46 cs hs64 rfl rfl ?_
            refine r_icmp_le (tgt := 65) (pc2 := 52) dX8_laySets_49 (by decide) rfl (fun b49 => ?_) (fun b49 => ?_)
            · skip
              refine r_iconst (pc2 := 66) (v := 1) dX8_laySets_65 (by decide) rfl ?_
              refine r_iload (pc2 := 68) 4 dX8_laySets_66 rfl rfl ?_
              refine r_ishl (pc2 := 69) dX8_laySets_68 rfl ?_
              refine r_cast (nI (2 ^ g)) (shl1 g (by omega)) ?_
              refine r_istore (pc2 := 71) (ls2 := [.ref q, .int (nI (tws x)), .int (nI (x / 4096)), .int (nI (tws x / 7 ^ (g + 1))), .int (nI g), .int (nI ((x / 8 ^ g % 8) + 1)), .int (nI (2 ^ g))]) 6 dX8_laySets_69 (by decide) rfl rfl rfl ?_
              refine r_aload_n (pc2 := 72) 0 dX8_laySets_71 rfl rfl rfl rfl ?_
              refine r_dup (pc2 := 73) dX8_laySets_72 rfl rfl ?_
              refine r_getf (pc2 := 76) (v := .int (nI (opK a x g))) fX8_66 dX8_laySets_73 cq (by omega) rfl rfl ?_
              refine r_iload (pc2 := 78) 6 dX8_laySets_76 rfl rfl ?_
              refine r_ior (pc2 := 79) dX8_laySets_78 rfl ?_
              refine r_cast (nI (opK a x (g + 1))) (by rw [nI_or, opK, if_pos hd]) ?_
              refine r_putfX (pc2 := 82) [.ref 82, .ref s, .int (nI dr), .int wst, .int wsd, .ref (q + 1), .ref (q + 2), .int lk, .int fd, .int go, .int gh, .ref (q + 3), .ref (q + 4), .ref (q + 5), .ref (q + 6), .ref (q + 7), .int (nI (opK a x (g + 1))), .int (nI (paK a x g))] fX8_66 dX8_laySets_79 cq (by omega) (Nat.le_of_ble_eq_true rfl) rfl rfl rfl (fun h z79 o79 cq => ?_)
              have cnz := (o79 (q + 5) (by omega)).trans cnz
              have csh := (o79 (q + 6) (by omega)).trans csh
              have cps := (o79 (q + 7) (by omega)).trans cps
              have cs := (o79 s (by omega)).trans cs
              have hxw : Ex [q] _ h := ⟨z79, fun y hy => o79 y (by simpa using hy)⟩
              have hL := hL.ex hxw (hW.off (by simp))
              have hQ := hQ.wr hxw (by simp)
              refine r_aload_n (pc2 := 83) 0 dX8_laySets_82 rfl rfl rfl rfl ?_
              refine r_getf (pc2 := 86) (v := .ref (q + 5)) fX8_29 dX8_laySets_83 cq (by omega) rfl rfl ?_
              refine r_iload (pc2 := 88) 6 dX8_laySets_86 rfl rfl ?_
              refine r_aload_n (pc2 := 89) 0 dX8_laySets_88 rfl rfl rfl rfl ?_
              refine r_getf (pc2 := 92) (v := .ref 82) fX8_38 dX8_laySets_89 cq (by omega) rfl rfl ?_
              refine r_iload (pc2 := 94) 4 dX8_laySets_92 rfl rfl ?_
              refine r_iload (pc2 := 96) 5 dX8_laySets_94 rfl rfl ?_
              refine r_iload_n (pc2 := 97) 2 dX8_laySets_96 rfl rfl rfl ?_
              refine r_callV1 (pc2 := 100) (As := [.int (nI g), .int (nI ((x / 8 ^ g % 8) + 1)), .int (nI (x / 4096))]) (st := [.int (nI (2 ^ g)), .ref (q + 5)]) kX8_80 rfl rfl dX8_laySets_97 hL.1.1 (by decide) rfl rfl (Nat.le_of_ble_eq_true rfl) (by omega) (c_noiseQ (a := a) (g := g) (to := (x / 8 ^ g % 8) + 1) (dp := x / 4096) hL hst (by omega) (by omega) hdp rfl rfl rfl (by omega)) rfl (fun h hq97 => ?_)
              obtain ⟨hxd, hL⟩ := hq97
              have cq := hxd.get (by simp <;> omega) cq
              have cnz := hxd.get (by simp <;> omega) cnz
              have csh := hxd.get (by simp <;> omega) csh
              have cps := hxd.get (by simp <;> omega) cps
              have cs := hxd.get (by simp <;> omega) cs
              have hQ := hQ.nz hxd
              refine r_iastN (pc2 := 101) (2 ^ g) dX8_laySets_100 cnz (by omega) rfl (hp16 g (by omega)) (by decide) rfl (fun h z100 o100 cnz => ?_)
              have cq := (o100 q (by omega)).trans cq
              have csh := (o100 (q + 6) (by omega)).trans csh
              have cps := (o100 (q + 7) (by omega)).trans cps
              have cs := (o100 s (by omega)).trans cs
              have hxw : Ex [q + 5] _ h := ⟨z100, fun y hy => o100 y (by simpa using hy)⟩
              have hL := hL.ex hxw (hW.off (by simp))
              have hQ := hQ.wr hxw (by simp)
              refine r_aload_n (pc2 := 102) 0 dX8_laySets_101 rfl rfl rfl rfl ?_
              refine r_getf (pc2 := 105) (v := .ref (q + 6)) fX8_32 dX8_laySets_102 cq (by omega) rfl rfl ?_
              refine r_iload (pc2 := 107) 6 dX8_laySets_105 rfl rfl ?_
              refine r_sWt (pc2 := 110) (Or.inr ⟨_, qX8_84⟩) dX8_laySets_107 rfl ?_
              refine r_iload (pc2 := 112) 4 dX8_laySets_110 rfl rfl ?_
              refine r_wldN (pc2 := 113) g dX8_laySets_112 rfl (by omega) rfl ?_
              refine r_cast (nI (7 ^ g)) (xW7 g (by omega)) ?_
              refine r_iastN (pc2 := 114) (2 ^ g) dX8_laySets_113 csh (by omega) rfl (hp16 g (by omega)) (by decide) rfl (fun h z113 o113 csh => ?_)
              have cq := (o113 q (by omega)).trans cq
              have cnz := (o113 (q + 5) (by omega)).trans cnz
              have cps := (o113 (q + 7) (by omega)).trans cps
              have cs := (o113 s (by omega)).trans cs
              have hxw : Ex [q + 6] _ h := ⟨z113, fun y hy => o113 y (by simpa using hy)⟩
              have hL := hL.ex hxw (hW.off (by simp))
              have hQ := hQ.wr hxw (by simp)
              refine r_aload_n (pc2 := 115) 0 dX8_laySets_114 rfl rfl rfl rfl ?_
              refine r_getf (pc2 := 118) (v := .ref (q + 7)) fX8_35 dX8_laySets_115 cq (by omega) rfl rfl ?_
              refine r_iload (pc2 := 120) 6 dX8_laySets_118 rfl rfl ?_
              refine r_iload (pc2 := 122) 5 dX8_laySets_120 rfl rfl ?_
              refine r_aload_n (pc2 := 123) 0 dX8_laySets_122 rfl rfl rfl rfl ?_
              refine r_getf (pc2 := 126) (v := .ref s) fX8_48 dX8_laySets_123 cq (by omega) rfl rfl ?_
              refine r_getf (pc2 := 129) (v := .int (nI (b 1))) fX8_77 dX8_laySets_126 cs hs64 rfl rfl ?_
              refine r_icmp_ne (tgt := 136) (pc2 := 132) dX8_laySets_129 (by decide) rfl (fun b129 => ?_) (fun b129 => ?_)
              · exact absurd (congrArg nI (by omega)) b129
              · skip
                refine r_iconst (pc2 := 133) (v := 1) dX8_laySets_132 (by decide) rfl ?_
                refine r_goto (pc2 := 137) dX8_laySets_133 (by decide) ?_
                refine r_cast (nI (psW a x g)) (by unfold psW; rw [if_pos hp]; rfl) ?_
                refine r_iastN (pc2 := 138) (2 ^ g) dX8_laySets_137 cps (by omega) rfl (hp16 g (by omega)) (by decide) rfl (fun h z137 o137 cps => ?_)
                have cq := (o137 q (by omega)).trans cq
                have cnz := (o137 (q + 5) (by omega)).trans cnz
                have csh := (o137 (q + 6) (by omega)).trans csh
                have cs := (o137 s (by omega)).trans cs
                have hxw : Ex [q + 7] _ h := ⟨z137, fun y hy => o137 y (by simpa using hy)⟩
                have hL := hL.ex hxw (hW.off (by simp))
                have hQ := hQ.wr hxw (by simp)
                obtain ⟨x138, e138⟩ : ∃ z : Int32, z = (nI g) + (1) := ⟨_, rfl⟩
                refine r_iinc (pc2 := 141) (ls2 := [.ref q, .int (nI (tws x)), .int (nI (x / 4096)), .int (nI (tws x / 7 ^ (g + 1))), .int x138, .int (nI ((x / 8 ^ g % 8) + 1)), .int (nI (2 ^ g))]) (v := x138) 4 dX8_laySets_138 rfl (by rw [e138]; rfl) rfl rfl rfl ?_
                refine r_goto (pc2 := 15) dX8_laySets_141 (by decide) ?_
                rw [e138, nI_1]
                rw [show paK a x g = paK a x (g + 1) by rw [paK, if_pos hd, Nat.add_zero]] at cq
                exact ih (g + 1) h _ _ _ _ _ (by omega) (h1.set rfl) (h2.set rfl) (h3.set rfl) hQ hL cq cnz csh cps cs
            · exact absurd (nI_le (by omega) (by omega)) b49
        · skip
          refine r_iload (pc2 := 17) 4 dX8_laySets_15 rfl rfl ?_
          refine r_aload_n (pc2 := 18) 0 dX8_laySets_17 rfl rfl rfl rfl ?_
          refine r_getf (pc2 := 21) (v := .ref s) fX8_48 dX8_laySets_18 cq (by omega) rfl rfl ?_
          refine r_getf (pc2 := 24) (v := .int (nI (b 3))) fX8_72 dX8_laySets_21 cs hs64 rfl rfl ?_
          refine r_icmp_ge (tgt := 144) (pc2 := 27) dX8_laySets_24 (by decide) rfl (fun b24 => ?_) (fun b24 => ?_)
          · exact absurd b24 (nI_ge (by omega) (by omega))
          · skip
            refine r_iload_n (pc2 := 28) 3 dX8_laySets_27 rfl rfl rfl ?_
            refine r_bipush (pc2 := 30) (v := 7) dX8_laySets_28 (by decide) rfl ?_
            refine r_irem (pc2 := 31) dX8_laySets_30 (by decide) rfl ?_
            refine r_cast (nI (x / 8 ^ g % 8)) (by rw [rem7 (by have := Nat.div_le_self (tws x) (7 ^ g); omega), tws_dig hs.2.1 hC6 g (by omega)]) ?_
            refine r_iconst (pc2 := 32) (v := 1) dX8_laySets_31 (by decide) rfl ?_
            refine r_iadd (pc2 := 33) dX8_laySets_32 rfl ?_
            refine r_cast (nI ((x / 8 ^ g % 8) + 1)) (nI_1 _) ?_
            refine r_istore (pc2 := 35) (ls2 := [.ref q, .int (nI (tws x)), .int (nI (x / 4096)), .int (nI (tws x / 7 ^ g)), .int (nI g), .int (nI ((x / 8 ^ g % 8) + 1)), u6]) 5 dX8_laySets_33 (by decide) rfl rfl rfl ?_
            refine r_iload_n (pc2 := 36) 3 dX8_laySets_35 rfl rfl rfl ?_
            refine r_bipush (pc2 := 38) (v := 7) dX8_laySets_36 (by decide) rfl ?_
            refine r_idiv (pc2 := 39) dX8_laySets_38 (by decide) rfl ?_
            refine r_cast (nI (tws x / 7 ^ (g + 1))) (by rw [div7 (by have := Nat.div_le_self (tws x) (7 ^ g); omega), div7s]) ?_
            refine r_istore_n (pc2 := 40) (ls2 := [.ref q, .int (nI (tws x)), .int (nI (x / 4096)), .int (nI (tws x / 7 ^ (g + 1))), .int (nI g), .int (nI ((x / 8 ^ g % 8) + 1)), u6]) 3 dX8_laySets_39 rfl (by decide) rfl rfl rfl ?_
            refine r_iload (pc2 := 42) 5 dX8_laySets_40 rfl rfl ?_
            refine r_aload_n (pc2 := 43) 0 dX8_laySets_42 rfl rfl rfl rfl ?_
            refine r_getf (pc2 := 46) (v := .ref s) fX8_48 dX8_laySets_43 cq (by omega) rfl rfl ?_
            refine r_getf (pc2 := 49) (v := .int (nI (b 1))) fX8_77 dX8_laySets_46 cs hs64 rfl rfl ?_
            refine r_icmp_le (tgt := 65) (pc2 := 52) dX8_laySets_49 (by decide) rfl (fun b49 => ?_) (fun b49 => ?_)
            · skip
              refine r_iconst (pc2 := 66) (v := 1) dX8_laySets_65 (by decide) rfl ?_
              refine r_iload (pc2 := 68) 4 dX8_laySets_66 rfl rfl ?_
              refine r_ishl (pc2 := 69) dX8_laySets_68 rfl ?_
              refine r_cast (nI (2 ^ g)) (shl1 g (by omega)) ?_
              refine r_istore (pc2 := 71) (ls2 := [.ref q, .int (nI (tws x)), .int (nI (x / 4096)), .int (nI (tws x / 7 ^ (g + 1))), .int (nI g), .int (nI ((x / 8 ^ g % 8) + 1)), .int (nI (2 ^ g))]) 6 dX8_laySets_69 (by decide) rfl rfl rfl ?_
              refine r_aload_n (pc2 := 72) 0 dX8_laySets_71 rfl rfl rfl rfl ?_
              refine r_dup (pc2 := 73) dX8_laySets_72 rfl rfl ?_
              refine r_getf (pc2 := 76) (v := .int (nI (opK a x g))) fX8_66 dX8_laySets_73 cq (by omega) rfl rfl ?_
              refine r_iload (pc2 := 78) 6 dX8_laySets_76 rfl rfl ?_
              refine r_ior (pc2 := 79) dX8_laySets_78 rfl ?_
              refine r_cast (nI (opK a x (g + 1))) (by rw [nI_or, opK, if_pos hd]) ?_
              refine r_putfX (pc2 := 82) [.ref 82, .ref s, .int (nI dr), .int wst, .int wsd, .ref (q + 1), .ref (q + 2), .int lk, .int fd, .int go, .int gh, .ref (q + 3), .ref (q + 4), .ref (q + 5), .ref (q + 6), .ref (q + 7), .int (nI (opK a x (g + 1))), .int (nI (paK a x g))] fX8_66 dX8_laySets_79 cq (by omega) (Nat.le_of_ble_eq_true rfl) rfl rfl rfl (fun h z79 o79 cq => ?_)
              have cnz := (o79 (q + 5) (by omega)).trans cnz
              have csh := (o79 (q + 6) (by omega)).trans csh
              have cps := (o79 (q + 7) (by omega)).trans cps
              have cs := (o79 s (by omega)).trans cs
              have hxw : Ex [q] _ h := ⟨z79, fun y hy => o79 y (by simpa using hy)⟩
              have hL := hL.ex hxw (hW.off (by simp))
              have hQ := hQ.wr hxw (by simp)
              refine r_aload_n (pc2 := 83) 0 dX8_laySets_82 rfl rfl rfl rfl ?_
              refine r_getf (pc2 := 86) (v := .ref (q + 5)) fX8_29 dX8_laySets_83 cq (by omega) rfl rfl ?_
              refine r_iload (pc2 := 88) 6 dX8_laySets_86 rfl rfl ?_
              refine r_aload_n (pc2 := 89) 0 dX8_laySets_88 rfl rfl rfl rfl ?_
              refine r_getf (pc2 := 92) (v := .ref 82) fX8_38 dX8_laySets_89 cq (by omega) rfl rfl ?_
              refine r_iload (pc2 := 94) 4 dX8_laySets_92 rfl rfl ?_
              refine r_iload (pc2 := 96) 5 dX8_laySets_94 rfl rfl ?_
              refine r_iload_n (pc2 := 97) 2 dX8_laySets_96 rfl rfl rfl ?_
              refine r_callV1 (pc2 := 100) (As := [.int (nI g), .int (nI ((x / 8 ^ g % 8) + 1)), .int (nI (x / 4096))]) (st := [.int (nI (2 ^ g)), .ref (q + 5)]) kX8_80 rfl rfl dX8_laySets_97 hL.1.1 (by decide) rfl rfl (Nat.le_of_ble_eq_true rfl) (by omega) (c_noiseQ (a := a) (g := g) (to := (x / 8 ^ g % 8) + 1) (dp := x / 4096) hL hst (by omega) (by omega) hdp rfl rfl rfl (by omega)) rfl (fun h hq97 => ?_)
              obtain ⟨hxd, hL⟩ := hq97
              have cq := hxd.get (by simp <;> omega) cq
              have cnz := hxd.get (by simp <;> omega) cnz
              have csh := hxd.get (by simp <;> omega) csh
              have cps := hxd.get (by simp <;> omega) cps
              have cs := hxd.get (by simp <;> omega) cs
              have hQ := hQ.nz hxd
              refine r_iastN (pc2 := 101) (2 ^ g) dX8_laySets_100 cnz (by omega) rfl (hp16 g (by omega)) (by decide) rfl (fun h z100 o100 cnz => ?_)
              have cq := (o100 q (by omega)).trans cq
              have csh := (o100 (q + 6) (by omega)).trans csh
              have cps := (o100 (q + 7) (by omega)).trans cps
              have cs := (o100 s (by omega)).trans cs
              have hxw : Ex [q + 5] _ h := ⟨z100, fun y hy => o100 y (by simpa using hy)⟩
              have hL := hL.ex hxw (hW.off (by simp))
              have hQ := hQ.wr hxw (by simp)
              refine r_aload_n (pc2 := 102) 0 dX8_laySets_101 rfl rfl rfl rfl ?_
              refine r_getf (pc2 := 105) (v := .ref (q + 6)) fX8_32 dX8_laySets_102 cq (by omega) rfl rfl ?_
              refine r_iload (pc2 := 107) 6 dX8_laySets_105 rfl rfl ?_
              refine r_sWt (pc2 := 110) (Or.inr ⟨_, qX8_84⟩) dX8_laySets_107 rfl ?_
              refine r_iload (pc2 := 112) 4 dX8_laySets_110 rfl rfl ?_
              refine r_wldN (pc2 := 113) g dX8_laySets_112 rfl (by omega) rfl ?_
              refine r_cast (nI (7 ^ g)) (xW7 g (by omega)) ?_
              refine r_iastN (pc2 := 114) (2 ^ g) dX8_laySets_113 csh (by omega) rfl (hp16 g (by omega)) (by decide) rfl (fun h z113 o113 csh => ?_)
              have cq := (o113 q (by omega)).trans cq
              have cnz := (o113 (q + 5) (by omega)).trans cnz
              have cps := (o113 (q + 7) (by omega)).trans cps
              have cs := (o113 s (by omega)).trans cs
              have hxw : Ex [q + 6] _ h := ⟨z113, fun y hy => o113 y (by simpa using hy)⟩
              have hL := hL.ex hxw (hW.off (by simp))
              have hQ := hQ.wr hxw (by simp)
              refine r_aload_n (pc2 := 115) 0 dX8_laySets_114 rfl rfl rfl rfl ?_
              refine r_getf (pc2 := 118) (v := .ref (q + 7)) fX8_35 dX8_laySets_115 cq (by omega) rfl rfl ?_
              refine r_iload (pc2 := 120) 6 dX8_laySets_118 rfl rfl ?_
              refine r_iload (pc2 := 122) 5 dX8_laySets_120 rfl rfl ?_
              refine r_aload_n (pc2 := 123) 0 dX8_laySets_122 rfl rfl rfl rfl ?_
              refine r_getf (pc2 := 126) (v := .ref s) fX8_48 dX8_laySets_123 cq (by omega) rfl rfl ?_
              refine r_getf (pc2 := 129) (v := .int (nI (b 1))) fX8_77 dX8_laySets_126 cs hs64 rfl rfl ?_
              refine r_icmp_ne (tgt := 136) (pc2 := 132) dX8_laySets_129 (by decide) rfl (fun b129 => ?_) (fun b129 => ?_)
              · skip
                refine r_iconst (pc2 := 137) (v := 0) dX8_laySets_136 (by decide) rfl ?_
                refine r_cast (nI (psW a x g)) (by unfold psW; rw [if_neg hp]; rfl) ?_
                refine r_iastN (pc2 := 138) (2 ^ g) dX8_laySets_137 cps (by omega) rfl (hp16 g (by omega)) (by decide) rfl (fun h z137 o137 cps => ?_)
                have cq := (o137 q (by omega)).trans cq
                have cnz := (o137 (q + 5) (by omega)).trans cnz
                have csh := (o137 (q + 6) (by omega)).trans csh
                have cs := (o137 s (by omega)).trans cs
                have hxw : Ex [q + 7] _ h := ⟨z137, fun y hy => o137 y (by simpa using hy)⟩
                have hL := hL.ex hxw (hW.off (by simp))
                have hQ := hQ.wr hxw (by simp)
                obtain ⟨x138, e138⟩ : ∃ z : Int32, z = (nI g) + (1) := ⟨_, rfl⟩
                refine r_iinc (pc2 := 141) (ls2 := [.ref q, .int (nI (tws x)), .int (nI (x / 4096)), .int (nI (tws x / 7 ^ (g + 1))), .int x138, .int (nI ((x / 8 ^ g % 8) + 1)), .int (nI (2 ^ g))]) (v := x138) 4 dX8_laySets_138 rfl (by rw [e138]; rfl) rfl rfl rfl ?_
                refine r_goto (pc2 := 15) dX8_laySets_141 (by decide) ?_
                rw [e138, nI_1]
                rw [show paK a x g = paK a x (g + 1) by rw [paK, if_pos hd, Nat.add_zero]] at cq
                exact ih (g + 1) h _ _ _ _ _ (by omega) (h1.set rfl) (h2.set rfl) (h3.set rfl) hQ hL cq cnz csh cps cs
              · exact absurd ((nI_eq (by omega) (by omega)).mp b129) (by omega)
            · exact absurd (nI_le (by omega) (by omega)) b49
      · skip
        refine r_iload (pc2 := 17) 4 dX8_laySets_15 rfl rfl ?_
        refine r_aload_n (pc2 := 18) 0 dX8_laySets_17 rfl rfl rfl rfl ?_
        refine r_getf (pc2 := 21) (v := .ref s) fX8_48 dX8_laySets_18 cq (by omega) rfl rfl ?_
        refine r_getf (pc2 := 24) (v := .int (nI (b 3))) fX8_72 dX8_laySets_21 cs hs64 rfl rfl ?_
        refine r_icmp_ge (tgt := 144) (pc2 := 27) dX8_laySets_24 (by decide) rfl (fun b24 => ?_) (fun b24 => ?_)
        · exact absurd b24 (nI_ge (by omega) (by omega))
        · skip
          refine r_iload_n (pc2 := 28) 3 dX8_laySets_27 rfl rfl rfl ?_
          refine r_bipush (pc2 := 30) (v := 7) dX8_laySets_28 (by decide) rfl ?_
          refine r_irem (pc2 := 31) dX8_laySets_30 (by decide) rfl ?_
          refine r_cast (nI (x / 8 ^ g % 8)) (by rw [rem7 (by have := Nat.div_le_self (tws x) (7 ^ g); omega), tws_dig hs.2.1 hC6 g (by omega)]) ?_
          refine r_iconst (pc2 := 32) (v := 1) dX8_laySets_31 (by decide) rfl ?_
          refine r_iadd (pc2 := 33) dX8_laySets_32 rfl ?_
          refine r_cast (nI ((x / 8 ^ g % 8) + 1)) (nI_1 _) ?_
          refine r_istore (pc2 := 35) (ls2 := [.ref q, .int (nI (tws x)), .int (nI (x / 4096)), .int (nI (tws x / 7 ^ g)), .int (nI g), .int (nI ((x / 8 ^ g % 8) + 1)), u6]) 5 dX8_laySets_33 (by decide) rfl rfl rfl ?_
          refine r_iload_n (pc2 := 36) 3 dX8_laySets_35 rfl rfl rfl ?_
          refine r_bipush (pc2 := 38) (v := 7) dX8_laySets_36 (by decide) rfl ?_
          refine r_idiv (pc2 := 39) dX8_laySets_38 (by decide) rfl ?_
          refine r_cast (nI (tws x / 7 ^ (g + 1))) (by rw [div7 (by have := Nat.div_le_self (tws x) (7 ^ g); omega), div7s]) ?_
          refine r_istore_n (pc2 := 40) (ls2 := [.ref q, .int (nI (tws x)), .int (nI (x / 4096)), .int (nI (tws x / 7 ^ (g + 1))), .int (nI g), .int (nI ((x / 8 ^ g % 8) + 1)), u6]) 3 dX8_laySets_39 rfl (by decide) rfl rfl rfl ?_
          refine r_iload (pc2 := 42) 5 dX8_laySets_40 rfl rfl ?_
          refine r_aload_n (pc2 := 43) 0 dX8_laySets_42 rfl rfl rfl rfl ?_
          refine r_getf (pc2 := 46) (v := .ref s) fX8_48 dX8_laySets_43 cq (by omega) rfl rfl ?_
          refine r_getf (pc2 := 49) (v := .int (nI (b 1))) fX8_77 dX8_laySets_46 cs hs64 rfl rfl ?_
          refine r_icmp_le (tgt := 65) (pc2 := 52) dX8_laySets_49 (by decide) rfl (fun b49 => ?_) (fun b49 => ?_)
          · exact absurd b49 (nI_ge (by omega) (by omega))
          · skip
            refine r_aload_n (pc2 := 53) 0 dX8_laySets_52 rfl rfl rfl rfl ?_
            refine r_dup (pc2 := 54) dX8_laySets_53 rfl rfl ?_
            refine r_getf (pc2 := 57) (v := .int (nI (paK a x g))) fX8_69 dX8_laySets_54 cq (by omega) rfl rfl ?_
            refine r_iconst (pc2 := 58) (v := 1) dX8_laySets_57 (by decide) rfl ?_
            refine r_iadd (pc2 := 59) dX8_laySets_58 rfl ?_
            refine r_cast (nI (paK a x (g + 1))) (by rw [nI_1]; exact congrArg nI (by rw [paK, if_neg hd])) ?_
            refine r_putfX (pc2 := 62) [.ref 82, .ref s, .int (nI dr), .int wst, .int wsd, .ref (q + 1), .ref (q + 2), .int lk, .int fd, .int go, .int gh, .ref (q + 3), .ref (q + 4), .ref (q + 5), .ref (q + 6), .ref (q + 7), .int (nI (opK a x g)), .int (nI (paK a x (g + 1)))] fX8_69 dX8_laySets_59 cq (by omega) (Nat.le_of_ble_eq_true rfl) rfl rfl rfl (fun h z59 o59 cq => ?_)
            have cnz := (o59 (q + 5) (by omega)).trans cnz
            have csh := (o59 (q + 6) (by omega)).trans csh
            have cps := (o59 (q + 7) (by omega)).trans cps
            have cs := (o59 s (by omega)).trans cs
            have hxw : Ex [q] _ h := ⟨z59, fun y hy => o59 y (by simpa using hy)⟩
            have hL := hL.ex hxw (hW.off (by simp))
            have hQ := hQ.wr hxw (by simp)
            refine r_goto (pc2 := 138) dX8_laySets_62 (by decide) ?_
            obtain ⟨x138, e138⟩ : ∃ z : Int32, z = (nI g) + (1) := ⟨_, rfl⟩
            refine r_iinc (pc2 := 141) (ls2 := [.ref q, .int (nI (tws x)), .int (nI (x / 4096)), .int (nI (tws x / 7 ^ (g + 1))), .int x138, .int (nI ((x / 8 ^ g % 8) + 1)), u6]) (v := x138) 4 dX8_laySets_138 rfl (by rw [e138]; rfl) rfl rfl rfl ?_
            refine r_goto (pc2 := 15) dX8_laySets_141 (by decide) ?_
            rw [e138, nI_1]
            rw [show opK a x g = opK a x (g + 1) by rw [opK, if_neg hd, Nat.or_zero]] at cq
            exact ih (g + 1) h nz sh ps _ _ (by omega) (h1.skip hd) (h2.skip hd) (h3.skip hd) hQ hL cq cnz csh cps cs
  refine Cn.go (ls := [.ref q, .int (nI (tws x)), .int (nI (x / 4096)), .float 0, .float 0, .float 0, .float 0]) (by decide +kernel) rfl (Nat.le_of_ble_eq_true rfl) ?_
  refine r_aload_n (pc2 := 1) 0 dX8_laySets_0 rfl rfl rfl rfl ?_
  refine r_iconst (pc2 := 2) (v := 0) dX8_laySets_1 (by decide) rfl ?_
  refine r_putfX (pc2 := 5) [.ref 82, .ref s, .int (nI dr), .int wst, .int wsd, .ref (q + 1), .ref (q + 2), .int lk, .int fd, .int go, .int gh, .ref (q + 3), .ref (q + 4), .ref (q + 5), .ref (q + 6), .ref (q + 7), .int 0, .int pa] fX8_66 dX8_laySets_2 cq (by omega) (Nat.le_of_ble_eq_true rfl) rfl rfl rfl (fun h z2 o2 cq => ?_)
  have cnz := (o2 (q + 5) (by omega)).trans cnz
  have csh := (o2 (q + 6) (by omega)).trans csh
  have cps := (o2 (q + 7) (by omega)).trans cps
  have cs := (o2 s (by omega)).trans cs
  have hQ := (GQ.rf (S := [q, q + 5, q + 6, q + 7]) (kd := kd) (h := h0))
  have hxw : Ex [q] _ h := ⟨z2, fun y hy => o2 y (by simpa using hy)⟩
  have hL := hL.ex hxw (hW.off (by simp))
  have hQ := hQ.wr hxw (by simp)
  refine r_aload_n (pc2 := 6) 0 dX8_laySets_5 rfl rfl rfl rfl ?_
  refine r_iconst (pc2 := 7) (v := 0) dX8_laySets_6 (by decide) rfl ?_
  refine r_putfX (pc2 := 10) [.ref 82, .ref s, .int (nI dr), .int wst, .int wsd, .ref (q + 1), .ref (q + 2), .int lk, .int fd, .int go, .int gh, .ref (q + 3), .ref (q + 4), .ref (q + 5), .ref (q + 6), .ref (q + 7), .int 0, .int 0] fX8_69 dX8_laySets_7 cq (by omega) (Nat.le_of_ble_eq_true rfl) rfl rfl rfl (fun h z7 o7 cq => ?_)
  have cnz := (o7 (q + 5) (by omega)).trans cnz
  have csh := (o7 (q + 6) (by omega)).trans csh
  have cps := (o7 (q + 7) (by omega)).trans cps
  have cs := (o7 s (by omega)).trans cs
  have hxw : Ex [q] _ h := ⟨z7, fun y hy => o7 y (by simpa using hy)⟩
  have hL := hL.ex hxw (hW.off (by simp))
  have hQ := hQ.wr hxw (by simp)
  refine r_iload_n (pc2 := 11) 1 dX8_laySets_10 rfl rfl rfl ?_
  refine r_istore_n (pc2 := 12) (ls2 := [.ref q, .int (nI (tws x)), .int (nI (x / 4096)), .int (nI (tws x)), .float 0, .float 0, .float 0]) 3 dX8_laySets_11 rfl (by decide) rfl rfl rfl ?_
  refine r_iconst (pc2 := 13) (v := 0) dX8_laySets_12 (by decide) rfl ?_
  refine r_cast (nI 0) (rfl) ?_
  refine r_istore (pc2 := 15) (ls2 := [.ref q, .int (nI (tws x)), .int (nI (x / 4096)), .int (nI (tws x)), .int (nI 0), .float 0, .float 0]) 4 dX8_laySets_13 (by decide) rfl rfl rfl ?_
  have l9 := loop (a 3) 0 h nz sh ps (.float 0) (.float 0) (by omega) ⟨hz0.1, fun g hg => absurd hg (Nat.not_lt_zero _)⟩ ⟨hz0.2.1, fun g hg => absurd hg (Nat.not_lt_zero _)⟩ ⟨hz0.2.2, fun g hg => absurd hg (Nat.not_lt_zero _)⟩ hQ hL cq cnz csh cps cs
  rw [Nat.pow_zero, Nat.div_one] at l9
  exact l9
