/-! street of the reference -/
def plainX (f : Nat → Int32) : FR := fun k => if k < 1177 then plainF k else (f k).toBitVec.toNat
theorem plainX_eq (f : Nat → Int32) : upd (upd (fillN f 0 1177 (fun _ => 0)) 1 1) 26 9 = nA (plainX f) := by
  funext k
  show upd (upd (fillN f 0 1177 (fun _ => 0)) 1 1) 26 9 k = nI (plainX f k)
  unfold plainX plainF upd
  by_cases h26 : k = 26
  · subst h26; rfl
  · rw [if_neg h26]
    by_cases h1 : k = 1
    · subst h1; rfl
    · rw [if_neg h1]
      by_cases hk : k < 1177
      · rw [if_pos hk, if_neg h1, if_neg h26, fillN_at (Nat.zero_le _) (by omega)]; rfl
      · rw [if_neg hk, fillN_out (by omega)]; exact i32_nI (f k)
def sF (x : PX FR) : Int32 := match x with
  | .ok (_, fr) => nI (fr 0)
  | .error (w, _) => -30 - nI w
def sK (x : PX FR) : Int32 := match x with
  | .ok _ => 0
  | .error (w, _) => nI w
def sP (x : PX FR) : Int32 := match x with
  | .ok _ => -1
  | .error (_, q) => nI q
def sA (a : Nat → Nat) (x : PX FR) : Nat → Nat := match x with
  | .ok (_, fr) => fillN a 0 1177 fr
  | .error _ => a
theorem fillN_1177 {f : Nat → Int32} {k : Nat} : upd (fillN f 0 k (fun _ => (0 : Int32))) k 0 = fillN f 0 (k + 1) (fun _ => 0) := fillN_u rfl
set_option maxRecDepth 20000 in
set_option maxHeartbeats 1000000 in
theorem c_plain121 {E : EnvT} {d : Nat} {h0 : Hp} {f : Nat → Int32} (c121 : h0.1 121 = some (aI 1177 f)) : Cn E mX10_plain d [.ref 121] h0 (fun r h2 => r = none ∧ Ex [121] h0 h2 ∧ h2.1 121 = some (aI 1177 (nA (plainX f)))) := by
  have hx : Ex [121] h0 h0 := Ex.rf
  have loop : ∀ (m k : Nat) (h1 : Hp), k + m = 1177 → Ex [121] h0 h1 → h1.1 121 = some (aI 1177 (fillN f 0 k (fun _ => (0 : Int32)))) → Fr E mX10_plain d 2 [.ref 121, .int (nI k)] [] h1 (fun r h2 => r = none ∧ Ex [121] h0 h2 ∧ h2.1 121 = some (aI 1177 (nA (plainX f)))) := by
    intro m
    induction m with
    | zero =>
      intro k h hk hx c121
      obtain rfl : k = 1177 := by omega
      refine r_iload_n (pc2 := 3) 1 dX10_plain_2 rfl rfl rfl ?_
      refine r_sipush (pc2 := 6) (v := 1177) dX10_plain_3 (by decide) rfl ?_
      refine r_icmp_ge (tgt := 19) (pc2 := 9) dX10_plain_6 (by decide) rfl (fun b6 => ?_) (fun b6 => ?_)
      · skip
        refine r_aload_n (pc2 := 20) 0 dX10_plain_19 rfl rfl rfl rfl ?_
        refine r_iconst (pc2 := 21) (v := 1) dX10_plain_20 (by decide) rfl ?_
        refine r_iconst (pc2 := 22) (v := 1) dX10_plain_21 (by decide) rfl ?_
        refine r_iastN (pc2 := 23) 1 dX10_plain_22 c121 (by decide) rfl (by decide) (by decide) rfl (fun h z22 o22 c121 => ?_)
        have hx := hx.step (a := 121) (by decide) z22 o22
        refine r_aload_n (pc2 := 24) 0 dX10_plain_23 rfl rfl rfl rfl ?_
        refine r_bipush (pc2 := 26) (v := 26) dX10_plain_24 (by decide) rfl ?_
        refine r_bipush (pc2 := 28) (v := 9) dX10_plain_26 (by decide) rfl ?_
        refine r_iastN (pc2 := 29) 26 dX10_plain_28 c121 (by decide) rfl (by decide) (by decide) rfl (fun h z28 o28 c121 => ?_)
        have hx := hx.step (a := 121) (by decide) z28 o28
        exact r_vret rfl dX10_plain_29 ⟨rfl, hx, by rw [plainX_eq] at c121; exact c121⟩
      · exact absurd (nI_le (a := 1177) (b := 1177) (Nat.le_refl _) (by decide)) b6
    | succ m ih =>
      intro k h hk hx c121
      have hlt : k < 1177 := by omega
      refine r_iload_n (pc2 := 3) 1 dX10_plain_2 rfl rfl rfl ?_
      refine r_sipush (pc2 := 6) (v := 1177) dX10_plain_3 (by decide) rfl ?_
      refine r_icmp_ge (tgt := 19) (pc2 := 9) dX10_plain_6 (by decide) rfl (fun b6 => ?_) (fun b6 => ?_)
      · exact absurd b6 (nI_ge (b := 1177) hlt (by decide))
      · skip
        refine r_aload_n (pc2 := 10) 0 dX10_plain_9 rfl rfl rfl rfl ?_
        refine r_iload_n (pc2 := 11) 1 dX10_plain_10 rfl rfl rfl ?_
        refine r_iconst (pc2 := 12) (v := 0) dX10_plain_11 (by decide) rfl ?_
        refine r_iastN (pc2 := 13) k dX10_plain_12 c121 (by decide) rfl (by omega) (by decide) rfl (fun h z12 o12 c121 => ?_)
        have hx := hx.step (a := 121) (by decide) z12 o12
        obtain ⟨x13, e13⟩ : ∃ z : Int32, z = (nI k) + (1) := ⟨_, rfl⟩
        refine r_iinc (pc2 := 16) (ls2 := [.ref 121, .int x13]) (v := x13) 1 dX10_plain_13 rfl (by rw [e13]; rfl) rfl rfl rfl ?_
        refine r_goto (pc2 := 2) dX10_plain_16 (by decide) ?_
        rw [e13, nI_1]
        rw [fillN_1177] at c121
        exact ih (k + 1) h (by omega) hx c121
  refine Cn.go (ls := [.ref 121, .float 0]) (by decide +kernel) rfl (Nat.le_of_ble_eq_true rfl) ?_
  refine r_iconst (pc2 := 1) (v := 0) dX10_plain_0 (by decide) rfl ?_
  refine r_istore_n (pc2 := 2) (ls2 := [.ref 121, .int 0]) 1 dX10_plain_1 rfl (by decide) rfl rfl rfl ?_
  rw [← fillN_0 f 0 (fun _ => (0 : Int32))] at c121
  exact loop 1177 0 _ (by omega) hx c121
theorem LI0 {n : Nat} {f0 : FR} (h0 : ∀ k, k < 1177 → f0 k = plainF k) : WI n 0 (.ok (0, f0)) := by
  have e : ∀ k, k < 1177 → k ≠ 1 → k ≠ 26 → f0 k = 0 := fun k h1 h2 h3 => by rw [h0 k h1]; unfold plainF; rw [if_neg h2, if_neg h3]
  exact ⟨Nat.le_refl _, Nat.zero_le _, by rw [e 276 (by omega) (by omega) (by omega)]; exact Nat.le_refl _, by rw [h0 1 (by omega)]; decide, by rw [e 3 (by omega) (by omega) (by omega)]; decide, by rw [e 4 (by omega) (by omega) (by omega)]; decide, by rw [e 5 (by omega) (by omega) (by omega)]; decide, fun j hj => by rw [e _ (by omega) (by omega) (by omega)]; decide, fun j hj => by rw [e _ (by omega) (by omega) (by omega)]; decide⟩
set_option maxRecDepth 20000 in
set_option maxHeartbeats 1000000 in
theorem ref_street {E : EnvT} {d : Nat} {h0 : Hp} {v : Nat → Int32} {a : Nat → Nat} {hi : Nat → Int32} {tp : Nat → Nat} {rs rm : Nat → Int32} {nu : Nat → Int64} {t N : Nat} (hR : RS h0 v a hi tp rs rm nu) (h5 : v 5 = nI t) (ht9 : t ≤ 900) (hNt : N ≤ t) (htp : ∀ k, k < 900 → tp k < 256) (hd : 57 ≤ d) : Cn E mX10_street d [.ref 117, .int (nI N)] h0 (fun r h2 => ∀ f : Nat → Int32, h0.1 121 = some (aI 1177 f) → RPV (.int (sF (pStreet tp N (plainX f)))) h0 0 (sK (pStreet tp N (plainX f))) (sP (pStreet tp N (plainX f))) (sA a (pStreet tp N (plainX f))) hi tp rs rm nu r h2) := by
  obtain ⟨k117, k118, k119, k120, ⟨f121, k121⟩, ⟨f122, k122⟩, ⟨f123, k123⟩, ⟨f124, k124⟩, ⟨f125, k125⟩, ⟨f126, k126⟩, ⟨f127, k127⟩, ⟨f128, k128⟩, ⟨f129, k129⟩, ⟨f130, k130⟩, ⟨f131, k131⟩, ⟨f132, k132⟩, ⟨f133, k133⟩, ⟨f134, k134⟩, ⟨f135, k135⟩, k136, k137, k138⟩ := hR
  have hx : Ex [117, 118, 121] h0 h0 := Ex.rf
  have c117 := k117
  have c118 := k118
  have c121 := k121
  have c120 := k120
  have htN : TOk tp N := ⟨by omega, htp⟩
  have k169 : ∀ (x : PX FR) (v1 : Nat → Int32) (u2 : Value) (h : Hp), v1 5 = 0 → Ex [117, 118, 121] h0 h → h.1 118 = some (aI 3531 (nA a)) → RT tp N rI v1 x h → Fr E mX10_street d 169 [.ref 117, .int (nI N), u2] [] h (RPV (.int (sF x)) h0 0 (sK x) (sP x) (sA a x) hi tp rs rm nu) := by
    intro x v1 u2 h h5v hx c118 hT
    match x, hT with
    | .error (we, ae), hT =>
      have hTo := hT
      obtain ⟨w, g, c117, c120, c121, hN, hR⟩ := hTo
      refine r_aload_n (pc2 := 170) 0 dX10_street_169 rfl rfl rfl rfl ?_
      refine r_aload_n (pc2 := 171) 0 dX10_street_170 rfl rfl rfl rfl ?_
      refine r_getf (pc2 := 174) (v := .int (w 11)) fX10_136 dX10_street_171 c117 (by decide) rfl rfl ?_
      refine r_cast (nI we) (hR.2.1) ?_
      refine r_putfX (pc2 := 177) (moL (upd w 13 (nI we))) fX10_225 dX10_street_174 c117 (by decide) (Nat.le_of_ble_eq_true rfl) rfl rfl rfl (fun h z174 o174 c117 => ?_)
      have c118 := (o174 118 (by decide)).trans c118
      have c120 := (o174 120 (by decide)).trans c120
      have c121 := (o174 121 (by decide)).trans c121
      have hx := hx.step (a := 117) (by decide) z174 o174
      refine r_aload_n (pc2 := 178) 0 dX10_street_177 rfl rfl rfl rfl ?_
      refine r_aload_n (pc2 := 179) 0 dX10_street_178 rfl rfl rfl rfl ?_
      refine r_getf (pc2 := 182) (v := .int ((upd w 13 (nI we)) 11)) fX10_136 dX10_street_179 c117 (by decide) rfl rfl ?_
      refine r_if_ne (tgt := 189) (pc2 := 185) dX10_street_182 (by decide) rfl (fun b182 => ?_) (fun b182 => ?_)
      · skip
        refine r_aload_n (pc2 := 190) 0 dX10_street_189 rfl rfl rfl rfl ?_
        refine r_getf (pc2 := 193) (v := .int ((upd w 13 (nI we)) 12)) fX10_139 dX10_street_190 c117 (by decide) rfl rfl ?_
        refine r_cast (nI ae) (hR.2.2) ?_
        refine r_putfX (pc2 := 196) (moL (upd (upd w 13 (nI we)) 14 (nI ae))) fX10_27 dX10_street_193 c117 (by decide) (Nat.le_of_ble_eq_true rfl) rfl rfl rfl (fun h z193 o193 c117 => ?_)
        have c118 := (o193 118 (by decide)).trans c118
        have c120 := (o193 120 (by decide)).trans c120
        have c121 := (o193 121 (by decide)).trans c121
        have hx := hx.step (a := 117) (by decide) z193 o193
        refine r_aload_n (pc2 := 197) 0 dX10_street_196 rfl rfl rfl rfl ?_
        refine r_getf (pc2 := 200) (v := .int ((upd (upd w 13 (nI we)) 14 (nI ae)) 11)) fX10_136 dX10_street_197 c117 (by decide) rfl rfl ?_
        refine r_if_eq (tgt := 211) (pc2 := 203) dX10_street_200 (by decide) rfl (fun b200 => ?_) (fun b200 => ?_)
        · exact absurd b200 hR.bad
        · skip
          refine r_bipush (pc2 := 205) (v := -30) dX10_street_203 (by decide) rfl ?_
          refine r_aload_n (pc2 := 206) 0 dX10_street_205 rfl rfl rfl rfl ?_
          refine r_getf (pc2 := 209) (v := .int ((upd (upd w 13 (nI we)) 14 (nI ae)) 11)) fX10_136 dX10_street_206 c117 (by decide) rfl rfl ?_
          refine r_cast (nI we) (hR.2.1) ?_
          refine r_isub (pc2 := 210) dX10_street_209 rfl ?_
          exact r_iret rfl dX10_street_210 ⟨rfl, (upd (upd w 13 (nI we)) 14 (nI ae)), ⟨(hN 5 (by decide) (by decide) (by decide) (by decide) (by decide) (by decide)).trans h5v, rfl, rfl⟩, ⟨c117, c118, hx.get (by decide) k119, hx.get (by decide) k120, ⟨_, c121⟩, ⟨_, hx.get (by decide) k122⟩, ⟨_, hx.get (by decide) k123⟩, ⟨_, hx.get (by decide) k124⟩, ⟨_, hx.get (by decide) k125⟩, ⟨_, hx.get (by decide) k126⟩, ⟨_, hx.get (by decide) k127⟩, ⟨_, hx.get (by decide) k128⟩, ⟨_, hx.get (by decide) k129⟩, ⟨_, hx.get (by decide) k130⟩, ⟨_, hx.get (by decide) k131⟩, ⟨_, hx.get (by decide) k132⟩, ⟨_, hx.get (by decide) k133⟩, ⟨_, hx.get (by decide) k134⟩, ⟨_, hx.get (by decide) k135⟩, hx.get (by decide) k136, hx.get (by decide) k137, hx.get (by decide) k138⟩, hx.mono (by decide)⟩
      · exact absurd b182 hR.bad
    | .ok (q, fr), hT =>
      have hTo := hT
      obtain ⟨w, g, c117, c120, c121, hN, hR⟩ := hTo
      have hf := hR.2.2
      subst hf
      have c121 : h.1 121 = some (aI 1177 (nA fr)) := c121
      have loop : ∀ (m k : Nat) (h1 : Hp), k + m = 1177 → Ex [117, 118, 121] h0 h1 → h1.1 117 = some (mO (upd (upd w 13 0) 14 (-1))) → h1.1 118 = some (aI 3531 (nA (fillN a 0 k fr))) → h1.1 121 = some (aI 1177 (nA fr)) → Fr E mX10_street d 213 [.ref 117, .int (nI N), .int (nI k)] [] h1 (RPV (.int (sF (.ok (q, fr) : PX FR))) h0 0 (sK (.ok (q, fr) : PX FR)) (sP (.ok (q, fr) : PX FR)) (sA a (.ok (q, fr) : PX FR)) hi tp rs rm nu) := by
        intro m
        induction m with
        | zero =>
          intro k h hk hx c117 c118 c121
          obtain rfl : k = 1177 := by omega
          refine r_iload_n (pc2 := 214) 2 dX10_street_213 rfl rfl rfl ?_
          refine r_sipush (pc2 := 217) (v := 1177) dX10_street_214 (by decide) rfl ?_
          refine r_icmp_ge (tgt := 238) (pc2 := 220) dX10_street_217 (by decide) rfl (fun b217 => ?_) (fun b217 => ?_)
          · skip
            refine r_aload_n (pc2 := 239) 0 dX10_street_238 rfl rfl rfl rfl ?_
            refine r_getf (pc2 := 242) (v := .ref 118) fX10_13 dX10_street_239 c117 (by decide) rfl rfl ?_
            refine r_iconst (pc2 := 243) (v := 0) dX10_street_242 (by decide) rfl ?_
            refine r_ialdA (pc2 := 244) 0 dX10_street_243 c118 (by decide) rfl (by decide) (by decide) rfl ?_
            exact r_iret rfl dX10_street_244 ⟨by rw [show fillN a 0 1177 fr 0 = fr 0 from fillN_at (Nat.zero_le _) (by omega)]; rfl, (upd (upd w 13 0) 14 (-1)), ⟨(hN 5 (by decide) (by decide) (by decide) (by decide) (by decide) (by decide)).trans h5v, rfl, rfl⟩, ⟨c117, c118, hx.get (by decide) k119, hx.get (by decide) k120, ⟨_, c121⟩, ⟨_, hx.get (by decide) k122⟩, ⟨_, hx.get (by decide) k123⟩, ⟨_, hx.get (by decide) k124⟩, ⟨_, hx.get (by decide) k125⟩, ⟨_, hx.get (by decide) k126⟩, ⟨_, hx.get (by decide) k127⟩, ⟨_, hx.get (by decide) k128⟩, ⟨_, hx.get (by decide) k129⟩, ⟨_, hx.get (by decide) k130⟩, ⟨_, hx.get (by decide) k131⟩, ⟨_, hx.get (by decide) k132⟩, ⟨_, hx.get (by decide) k133⟩, ⟨_, hx.get (by decide) k134⟩, ⟨_, hx.get (by decide) k135⟩, hx.get (by decide) k136, hx.get (by decide) k137, hx.get (by decide) k138⟩, hx.mono (by decide)⟩
          · exact absurd (nI_le (a := 1177) (b := 1177) (Nat.le_refl _) (by decide)) b217
        | succ m ih =>
          intro k h hk hx c117 c118 c121
          have hlt : k < 1177 := by omega
          refine r_iload_n (pc2 := 214) 2 dX10_street_213 rfl rfl rfl ?_
          refine r_sipush (pc2 := 217) (v := 1177) dX10_street_214 (by decide) rfl ?_
          refine r_icmp_ge (tgt := 238) (pc2 := 220) dX10_street_217 (by decide) rfl (fun b217 => ?_) (fun b217 => ?_)
          · exact absurd b217 (nI_ge (b := 1177) hlt (by decide))
          · skip
            refine r_aload_n (pc2 := 221) 0 dX10_street_220 rfl rfl rfl rfl ?_
            refine r_getf (pc2 := 224) (v := .ref 118) fX10_13 dX10_street_221 c117 (by decide) rfl rfl ?_
            refine r_iload_n (pc2 := 225) 2 dX10_street_224 rfl rfl rfl ?_
            refine r_aload_n (pc2 := 226) 0 dX10_street_225 rfl rfl rfl rfl ?_
            refine r_getf (pc2 := 229) (v := .ref 121) fX10_24 dX10_street_226 c117 (by decide) rfl rfl ?_
            refine r_iload_n (pc2 := 230) 2 dX10_street_229 rfl rfl rfl ?_
            refine r_ialdA (pc2 := 231) k dX10_street_230 c121 (by decide) rfl (by omega) (by decide) rfl ?_
            refine r_iastN (pc2 := 232) k dX10_street_231 c118 (by decide) rfl (by omega) (by decide) rfl (fun h z231 o231 c118 => ?_)
            rw [upd_nA] at c118
            have c117 := (o231 117 (by decide)).trans c117
            have c121 := (o231 121 (by decide)).trans c121
            have hx := hx.step (a := 118) (by decide) z231 o231
            obtain ⟨x232, e232⟩ : ∃ z : Int32, z = (nI k) + (1) := ⟨_, rfl⟩
            refine r_iinc (pc2 := 235) (ls2 := [.ref 117, .int (nI N), .int x232]) (v := x232) 2 dX10_street_232 rfl (by rw [e232]; rfl) rfl rfl rfl ?_
            refine r_goto (pc2 := 213) dX10_street_235 (by decide) ?_
            rw [e232, nI_1]
            rw [fillN_sv0 (g := fr) rfl] at c118
            exact ih (k + 1) h (by omega) hx c117 c118 c121
      refine r_aload_n (pc2 := 170) 0 dX10_street_169 rfl rfl rfl rfl ?_
      refine r_aload_n (pc2 := 171) 0 dX10_street_170 rfl rfl rfl rfl ?_
      refine r_getf (pc2 := 174) (v := .int (w 11)) fX10_136 dX10_street_171 c117 (by decide) rfl rfl ?_
      refine r_cast (0) (hR.good) ?_
      refine r_putfX (pc2 := 177) (moL (upd w 13 0)) fX10_225 dX10_street_174 c117 (by decide) (Nat.le_of_ble_eq_true rfl) rfl rfl rfl (fun h z174 o174 c117 => ?_)
      have c118 := (o174 118 (by decide)).trans c118
      have c120 := (o174 120 (by decide)).trans c120
      have c121 := (o174 121 (by decide)).trans c121
      have hx := hx.step (a := 117) (by decide) z174 o174
      refine r_aload_n (pc2 := 178) 0 dX10_street_177 rfl rfl rfl rfl ?_
      refine r_aload_n (pc2 := 179) 0 dX10_street_178 rfl rfl rfl rfl ?_
      refine r_getf (pc2 := 182) (v := .int ((upd w 13 0) 11)) fX10_136 dX10_street_179 c117 (by decide) rfl rfl ?_
      refine r_if_ne (tgt := 189) (pc2 := 185) dX10_street_182 (by decide) rfl (fun b182 => ?_) (fun b182 => ?_)
      · exact absurd hR.good b182
      · skip
        refine r_iconst (pc2 := 186) (v := -1) dX10_street_185 (by decide) rfl ?_
        refine r_goto (pc2 := 193) dX10_street_186 (by decide) ?_
        refine r_putfX (pc2 := 196) (moL (upd (upd w 13 0) 14 (-1))) fX10_27 dX10_street_193 c117 (by decide) (Nat.le_of_ble_eq_true rfl) rfl rfl rfl (fun h z193 o193 c117 => ?_)
        have c118 := (o193 118 (by decide)).trans c118
        have c120 := (o193 120 (by decide)).trans c120
        have c121 := (o193 121 (by decide)).trans c121
        have hx := hx.step (a := 117) (by decide) z193 o193
        refine r_aload_n (pc2 := 197) 0 dX10_street_196 rfl rfl rfl rfl ?_
        refine r_getf (pc2 := 200) (v := .int ((upd (upd w 13 0) 14 (-1)) 11)) fX10_136 dX10_street_197 c117 (by decide) rfl rfl ?_
        refine r_if_eq (tgt := 211) (pc2 := 203) dX10_street_200 (by decide) rfl (fun b200 => ?_) (fun b200 => ?_)
        · skip
          refine r_iconst (pc2 := 212) (v := 0) dX10_street_211 (by decide) rfl ?_
          refine r_istore_n (pc2 := 213) (ls2 := [.ref 117, .int (nI N), .int 0]) 2 dX10_street_212 rfl (by decide) rfl rfl rfl ?_
          rw [← fillN_0 a 0 fr] at c118
          exact loop 1177 0 _ (by omega) hx c117 c118 c121
        · exact absurd hR.good b200
  have k142 : ∀ (m : Nat) (x : PX FR) (v1 : Nat → Int32) (u2 : Value) (h : Hp), v1 5 = 0 → Ex [117, 118, 121] h0 h → h.1 118 = some (aI 3531 (nA a)) → LnI N 0 x → (∀ p L, x = .ok (p, L) → N < m + p) → RT tp N rI v1 x h → Fr E mX10_street d 142 [.ref 117, .int (nI N), u2] [] h (RPV (.int (sF (bnd x (pLines tp N m)))) h0 0 (sK (bnd x (pLines tp N m))) (sP (bnd x (pLines tp N m))) (sA a (bnd x (pLines tp N m))) hi tp rs rm nu) := by
    have lpE : ∀ (we ae : Nat) (v1 : Nat → Int32) (u2 : Value) (h : Hp), v1 5 = 0 → Ex [117, 118, 121] h0 h → h.1 118 = some (aI 3531 (nA a)) → RT tp N rI v1 (.error (we, ae) : PX FR) h → Fr E mX10_street d 142 [.ref 117, .int (nI N), u2] [] h (RPV (.int (sF (.error (we, ae) : PX FR))) h0 0 (sK (.error (we, ae) : PX FR)) (sP (.error (we, ae) : PX FR)) (sA a (.error (we, ae) : PX FR)) hi tp rs rm nu) := by
      intro we ae v1 u2 h h5v hx c118 hT
      have hTo := hT
      obtain ⟨w, g, c117, c120, c121, hN, hR⟩ := hTo
      refine r_aload_n (pc2 := 143) 0 dX10_street_142 rfl rfl rfl rfl ?_
      refine r_getf (pc2 := 146) (v := .int (w 11)) fX10_136 dX10_street_143 c117 (by decide) rfl rfl ?_
      refine r_if_ne (tgt := 169) (pc2 := 149) dX10_street_146 (by decide) rfl (fun b146 => ?_) (fun b146 => ?_)
      · skip
        exact k169 (.error (we, ae)) _ u2 _ h5v hx c118 hT
      · exact absurd b146 hR.bad
    intro m
    induction m with
    | zero =>
      intro x v1 u2 h h5v hx c118 hI hq hT
      match x, hI, hq, hT with
      | .error (we, ae), hI, hq, hT => exact lpE we ae v1 u2 h h5v hx c118 hT
      | .ok (p, fr), hI, hq, hT => exact absurd (hq p fr rfl) (by have := hI.1.2.1; omega)
    | succ m ih =>
      intro x v1 u2 h h5v hx c118 hI hq hT
      match x, hI, hq, hT with
      | .error (we, ae), hI, hq, hT => exact lpE we ae v1 u2 h h5v hx c118 hT
      | .ok (p, fr), hI, hq, hT =>
        have hTo := hT
        obtain ⟨w, g, c117, c120, c121, hN, hR⟩ := hTo
        have hq2 := hq p fr rfl
        show Fr E mX10_street d 142 [.ref 117, .int (nI N), u2] [] h (RPV (.int (sF (pLines tp N (m + 1) p fr))) h0 0 (sK (pLines tp N (m + 1) p fr)) (sP (pLines tp N (m + 1) p fr)) (sA a (pLines tp N (m + 1) p fr)) hi tp rs rm nu)
        by_cases hk : lxK tp N p = 25
        · have eL : pLines tp N (m + 1) p fr = .ok (p, fr) := by rw [pLines_s, if_pos hk]
          rw [eL]
          refine r_aload_n (pc2 := 143) 0 dX10_street_142 rfl rfl rfl rfl ?_
          refine r_getf (pc2 := 146) (v := .int (w 11)) fX10_136 dX10_street_143 c117 (by decide) rfl rfl ?_
          refine r_if_ne (tgt := 169) (pc2 := 149) dX10_street_146 (by decide) rfl (fun b146 => ?_) (fun b146 => ?_)
          · exact absurd hR.good b146
          · skip
            refine r_aload_n (pc2 := 150) 0 dX10_street_149 rfl rfl rfl rfl ?_
            refine r_getf (pc2 := 153) (v := .int (w 9)) fX10_118 dX10_street_150 c117 (by decide) rfl rfl ?_
            refine r_cast (nI (lxK tp N p)) (hR.2.1.2.2.2.2.1) ?_
            refine r_bipush (pc2 := 155) (v := 25) dX10_street_153 (by decide) rfl ?_
            refine r_icmp_eq (tgt := 169) (pc2 := 158) dX10_street_155 (by decide) rfl (fun b155 => ?_) (fun b155 => ?_)
            · skip
              exact k169 (.ok (p, fr)) _ u2 _ h5v hx c118 hT
            · exact absurd (congrArg nI hk) b155
        · have eL : pLines tp N (m + 1) p fr = bnd (bnd (pLine tp N p fr) (pEnds tp N)) (pLines tp N m) := by rw [pLines_s, if_neg hk]
          rw [eL]
          have i2 : LnI N (p + 1) (bnd (pLine tp N p fr) (pEnds tp N)) := i_line1 ⟨⟨Nat.le_refl _, hI.1.2⟩, hI.2⟩
          refine r_aload_n (pc2 := 143) 0 dX10_street_142 rfl rfl rfl rfl ?_
          refine r_getf (pc2 := 146) (v := .int (w 11)) fX10_136 dX10_street_143 c117 (by decide) rfl rfl ?_
          refine r_if_ne (tgt := 169) (pc2 := 149) dX10_street_146 (by decide) rfl (fun b146 => ?_) (fun b146 => ?_)
          · exact absurd hR.good b146
          · skip
            refine r_aload_n (pc2 := 150) 0 dX10_street_149 rfl rfl rfl rfl ?_
            refine r_getf (pc2 := 153) (v := .int (w 9)) fX10_118 dX10_street_150 c117 (by decide) rfl rfl ?_
            refine r_cast (nI (lxK tp N p)) (hR.2.1.2.2.2.2.1) ?_
            refine r_bipush (pc2 := 155) (v := 25) dX10_street_153 (by decide) rfl ?_
            refine r_icmp_eq (tgt := 169) (pc2 := 158) dX10_street_155 (by decide) rfl (fun b155 => ?_) (fun b155 => ?_)
            · exact absurd ((nI_k (k := 25) (lxK_le tp N p) (by decide)).mp b155) hk
            · skip
              refine r_aload_n (pc2 := 159) 0 dX10_street_158 rfl rfl rfl rfl ?_
              refine r_callV0 (pc2 := 162) (As := []) (st := []) kX10_222 rfl rfl dX10_street_159 c117 (by decide) rfl rfl (Nat.le_of_ble_eq_true rfl) (by omega) (C_line htN (by omega) hI.1 hT) rfl (fun h hq159 => ?_)
              obtain ⟨hxc, u, hT⟩ := hq159
              have c118 := hxc.get (by decide) c118
              have hx := hx.trans hxc (by decide)
              have hTo := hT
              obtain ⟨w, g, c117, c120, c121, hN, hR⟩ := hTo
              refine r_aload_n (pc2 := 163) 0 dX10_street_162 rfl rfl rfl rfl ?_
              refine r_callV0 (pc2 := 166) (As := []) (st := []) kX10_219 rfl rfl dX10_street_163 c117 (by decide) rfl rfl (Nat.le_of_ble_eq_true rfl) (by omega) (C_ends (x := pLine tp N p fr) htN (by omega) hT) rfl (fun h hq163 => ?_)
              obtain ⟨hxc, hT⟩ := hq163
              have c118 := hxc.get (by decide) c118
              have hx := hx.trans hxc (by decide)
              have hTo := hT
              obtain ⟨w, g, c117, c120, c121, hN, hR⟩ := hTo
              refine r_goto (pc2 := 142) dX10_street_166 (by decide) ?_
              exact ih (bnd (pLine tp N p fr) (pEnds tp N)) (upd v1 15 u) u2 _ h5v hx c118 (i2.mono (Nat.zero_le _)) (fun p2 L2 z => by rw [z] at i2; have := i2.1.1; omega) hT
  have kH : ∀ (f0 : FR) (v1 : Nat → Int32) (h : Hp), (∀ k, k < 1177 → f0 k = plainF k) → v1 5 = 0 → Ex [117, 118, 121] h0 h → h.1 118 = some (aI 3531 (nA a)) → RT tp N rI v1 (.ok (0, f0) : PX FR) h → Fr E mX10_street d 53 [.ref 117, .int (nI N), .float 0] [] h (RPV (.int (sF (pStreet tp N f0))) h0 0 (sK (pStreet tp N f0)) (sP (pStreet tp N f0)) (sA a (pStreet tp N f0)) hi tp rs rm nu) := by
    intro f0 v1 h h0f h5v hx c118 hT
    have w0 : WI N 0 (.ok (0, f0) : PX FR) := LI0 h0f
    have i3 : WI N 0 (bnd (bnd (bnd (.ok (0, f0) : PX FR) (pEat tp N 0)) (pSet tp N 1 (fun _ => 7) 1)) (pEat tp N 1)) := ((w0.b l_eat).b (l_set (M := 6) (by omega) WF1.ten (by omega) (by omega) (by omega) (by omega))).b l_eat
    have eG : pStreet tp N f0 = bnd (bnd (bnd (bnd (bnd (bnd (bnd (bnd (.ok (0, f0) : PX FR) (pEat tp N 0)) (pSet tp N 1 (fun _ => 7) 1)) (pEat tp N 1)) (pSet tp N 0 (fun fr => fr 1) 2)) (pEat tp N 2)) (pSet tp N 1 (fun _ => 10) 26)) (pEnds tp N)) (pLines tp N 901) := rfl
    rw [eG]
    have k124 : ∀ h : Hp, Ex [117, 118, 121] h0 h → h.1 118 = some (aI 3531 (nA a)) → RT tp N rI v1 (bnd (bnd (bnd (bnd (bnd (.ok (0, f0) : PX FR) (pEat tp N 0)) (pSet tp N 1 (fun _ => 7) 1)) (pEat tp N 1)) (pSet tp N 0 (fun fr => fr 1) 2)) (pEat tp N 2)) h → Fr E mX10_street d 124 [.ref 117, .int (nI N), .float 0] [] h (RPV (.int (sF (bnd (bnd (bnd (bnd (bnd (bnd (bnd (bnd (.ok (0, f0) : PX FR) (pEat tp N 0)) (pSet tp N 1 (fun _ => 7) 1)) (pEat tp N 1)) (pSet tp N 0 (fun fr => fr 1) 2)) (pEat tp N 2)) (pSet tp N 1 (fun _ => 10) 26)) (pEnds tp N)) (pLines tp N 901)))) h0 0 (sK (bnd (bnd (bnd (bnd (bnd (bnd (bnd (bnd (.ok (0, f0) : PX FR) (pEat tp N 0)) (pSet tp N 1 (fun _ => 7) 1)) (pEat tp N 1)) (pSet tp N 0 (fun fr => fr 1) 2)) (pEat tp N 2)) (pSet tp N 1 (fun _ => 10) 26)) (pEnds tp N)) (pLines tp N 901))) (sP (bnd (bnd (bnd (bnd (bnd (bnd (bnd (bnd (.ok (0, f0) : PX FR) (pEat tp N 0)) (pSet tp N 1 (fun _ => 7) 1)) (pEat tp N 1)) (pSet tp N 0 (fun fr => fr 1) 2)) (pEat tp N 2)) (pSet tp N 1 (fun _ => 10) 26)) (pEnds tp N)) (pLines tp N 901))) (sA a (bnd (bnd (bnd (bnd (bnd (bnd (bnd (bnd (.ok (0, f0) : PX FR) (pEat tp N 0)) (pSet tp N 1 (fun _ => 7) 1)) (pEat tp N 1)) (pSet tp N 0 (fun fr => fr 1) 2)) (pEat tp N 2)) (pSet tp N 1 (fun _ => 10) 26)) (pEnds tp N)) (pLines tp N 901))) hi tp rs rm nu) := by
      intro h hx c118 hT
      have hTo := hT
      obtain ⟨w, g, c117, c120, c121, hN, hR⟩ := hTo
      refine r_aload_n (pc2 := 125) 0 dX10_street_124 rfl rfl rfl rfl ?_
      refine r_getf (pc2 := 128) (v := .ref 121) fX10_24 dX10_street_125 c117 (by decide) rfl rfl ?_
      refine r_bipush (pc2 := 130) (v := 26) dX10_street_128 (by decide) rfl ?_
      refine r_aload_n (pc2 := 131) 0 dX10_street_130 rfl rfl rfl rfl ?_
      refine r_iconst (pc2 := 132) (v := 1) dX10_street_131 (by decide) rfl ?_
      refine r_bipush (pc2 := 134) (v := 9) dX10_street_132 (by decide) rfl ?_
      refine r_callV2 (pc2 := 137) (As := [.int 1, .int 9]) (st := [.int 26, .ref 121]) kX10_192 rfl rfl dX10_street_134 c117 (by decide) rfl rfl (Nat.le_of_ble_eq_true rfl) (by omega) (G_takes (x := (bnd (bnd (bnd (bnd (bnd (.ok (0, f0) : PX FR) (pEat tp N 0)) (pSet tp N 1 (fun _ => 7) 1)) (pEat tp N 1)) (pSet tp N 0 (fun fr => fr 1) 2)) (pEat tp N 2))) (lo := 1) (H := (fun _ => 10)) (fun p2 L2 z => ⟨rfl, by decide, (show (10 : Nat) ≤ 1000 by decide)⟩) (by decide) htN (by omega) hT) rfl (fun v134 h hq134 => ?_)
      obtain ⟨z134, rfl, hxc, hz134, hT⟩ := hq134
      have c118 := hxc.get (by decide) c118
      have hx := hx.trans hxc (by decide)
      have hTo := hT
      obtain ⟨w, g, c117, c120, c121, hN, hR⟩ := hTo
      refine r_iastN (pc2 := 138) 26 dX10_street_137 c121 (by decide) rfl (by decide) (by decide) rfl (fun h z137 o137 c121 => ?_)
      have c117 := (o137 117 (by decide)).trans c117
      have c118 := (o137 118 (by decide)).trans c118
      have c120 := (o137 120 (by decide)).trans c120
      have hx := hx.step (a := 121) (by decide) z137 o137
      have hT : RT tp N rI v1 (bnd (bnd (bnd (bnd (bnd (bnd (.ok (0, f0) : PX FR) (pEat tp N 0)) (pSet tp N 1 (fun _ => 7) 1)) (pEat tp N 1)) (pSet tp N 0 (fun fr => fr 1) 2)) (pEat tp N 2)) (pSet tp N 1 (fun _ => 10) 26)) h := ⟨w, _, c117, c120, c121, hN, RV_set (i := 26) hR hz134⟩
      have hTo := hT
      obtain ⟨w, g, c117, c120, c121, hN, hR⟩ := hTo
      refine r_aload_n (pc2 := 139) 0 dX10_street_138 rfl rfl rfl rfl ?_
      refine r_callV0 (pc2 := 142) (As := []) (st := []) kX10_219 rfl rfl dX10_street_139 c117 (by decide) rfl rfl (Nat.le_of_ble_eq_true rfl) (by omega) (C_ends (x := (bnd (bnd (bnd (bnd (bnd (bnd (.ok (0, f0) : PX FR) (pEat tp N 0)) (pSet tp N 1 (fun _ => 7) 1)) (pEat tp N 1)) (pSet tp N 0 (fun fr => fr 1) 2)) (pEat tp N 2)) (pSet tp N 1 (fun _ => 10) 26))) htN (by omega) hT) rfl (fun h hq139 => ?_)
      obtain ⟨hxc, hT⟩ := hq139
      have c118 := hxc.get (by decide) c118
      have hx := hx.trans hxc (by decide)
      have hTo := hT
      obtain ⟨w, g, c117, c120, c121, hN, hR⟩ := hTo
      exact k142 901 (bnd (bnd (bnd (bnd (bnd (bnd (bnd (.ok (0, f0) : PX FR) (pEat tp N 0)) (pSet tp N 1 (fun _ => 7) 1)) (pEat tp N 1)) (pSet tp N 0 (fun fr => fr 1) 2)) (pEat tp N 2)) (pSet tp N 1 (fun _ => 10) 26)) (pEnds tp N)) v1 _ _ h5v hx c118 (i_head h0f) (fun p2 L2 z => by omega) hT
    have k92 : ∀ h : Hp, Ex [117, 118, 121] h0 h → h.1 118 = some (aI 3531 (nA a)) → RT tp N rI v1 (bnd (bnd (bnd (.ok (0, f0) : PX FR) (pEat tp N 0)) (pSet tp N 1 (fun _ => 7) 1)) (pEat tp N 1)) h → Fr E mX10_street d 92 [.ref 117, .int (nI N), .float 0] [] h (RPV (.int (sF (bnd (bnd (bnd (bnd (bnd (bnd (bnd (bnd (.ok (0, f0) : PX FR) (pEat tp N 0)) (pSet tp N 1 (fun _ => 7) 1)) (pEat tp N 1)) (pSet tp N 0 (fun fr => fr 1) 2)) (pEat tp N 2)) (pSet tp N 1 (fun _ => 10) 26)) (pEnds tp N)) (pLines tp N 901)))) h0 0 (sK (bnd (bnd (bnd (bnd (bnd (bnd (bnd (bnd (.ok (0, f0) : PX FR) (pEat tp N 0)) (pSet tp N 1 (fun _ => 7) 1)) (pEat tp N 1)) (pSet tp N 0 (fun fr => fr 1) 2)) (pEat tp N 2)) (pSet tp N 1 (fun _ => 10) 26)) (pEnds tp N)) (pLines tp N 901))) (sP (bnd (bnd (bnd (bnd (bnd (bnd (bnd (bnd (.ok (0, f0) : PX FR) (pEat tp N 0)) (pSet tp N 1 (fun _ => 7) 1)) (pEat tp N 1)) (pSet tp N 0 (fun fr => fr 1) 2)) (pEat tp N 2)) (pSet tp N 1 (fun _ => 10) 26)) (pEnds tp N)) (pLines tp N 901))) (sA a (bnd (bnd (bnd (bnd (bnd (bnd (bnd (bnd (.ok (0, f0) : PX FR) (pEat tp N 0)) (pSet tp N 1 (fun _ => 7) 1)) (pEat tp N 1)) (pSet tp N 0 (fun fr => fr 1) 2)) (pEat tp N 2)) (pSet tp N 1 (fun _ => 10) 26)) (pEnds tp N)) (pLines tp N 901))) hi tp rs rm nu) := by
      intro h hx c118 hT
      have hTo := hT
      obtain ⟨w, g, c117, c120, c121, hN, hR⟩ := hTo
      refine r_aload_n (pc2 := 93) 0 dX10_street_92 rfl rfl rfl rfl ?_
      refine r_getf (pc2 := 96) (v := .ref 121) fX10_24 dX10_street_93 c117 (by decide) rfl rfl ?_
      refine r_iconst (pc2 := 97) (v := 2) dX10_street_96 (by decide) rfl ?_
      refine r_aload_n (pc2 := 98) 0 dX10_street_97 rfl rfl rfl rfl ?_
      refine r_iconst (pc2 := 99) (v := 0) dX10_street_98 (by decide) rfl ?_
      refine r_aload_n (pc2 := 100) 0 dX10_street_99 rfl rfl rfl rfl ?_
      refine r_getf (pc2 := 103) (v := .ref 121) fX10_24 dX10_street_100 c117 (by decide) rfl rfl ?_
      refine r_iconst (pc2 := 104) (v := 1) dX10_street_103 (by decide) rfl ?_
      refine r_ialdN (pc2 := 105) 1 dX10_street_104 c121 (by decide) rfl (by decide) (by decide) rfl ?_
      refine r_iconst (pc2 := 106) (v := 1) dX10_street_105 (by decide) rfl ?_
      refine r_isub (pc2 := 107) dX10_street_106 rfl ?_
      refine r_callV2 (pc2 := 110) (As := [.int 0, .int ((g 1) - 1)]) (st := [.int 2, .ref 121]) kX10_192 rfl rfl dX10_street_107 c117 (by decide) rfl rfl (Nat.le_of_ble_eq_true rfl) (by omega) (G_takes (x := (bnd (bnd (bnd (.ok (0, f0) : PX FR) (pEat tp N 0)) (pSet tp N 1 (fun _ => 7) 1)) (pEat tp N 1))) (lo := 0) (H := (fun fr => fr 1)) (fun p2 L2 z => by rw [z] at hR i3; exact ⟨rfl, by rw [hR.2.2], by have := i3.2.2.2.1; show L2 1 ≤ 1000; omega⟩) (by decide) htN (by omega) hT) rfl (fun v107 h hq107 => ?_)
      obtain ⟨z107, rfl, hxc, hz107, hT⟩ := hq107
      have c118 := hxc.get (by decide) c118
      have hx := hx.trans hxc (by decide)
      have hTo := hT
      obtain ⟨w, g, c117, c120, c121, hN, hR⟩ := hTo
      refine r_iastN (pc2 := 111) 2 dX10_street_110 c121 (by decide) rfl (by decide) (by decide) rfl (fun h z110 o110 c121 => ?_)
      have c117 := (o110 117 (by decide)).trans c117
      have c118 := (o110 118 (by decide)).trans c118
      have c120 := (o110 120 (by decide)).trans c120
      have hx := hx.step (a := 121) (by decide) z110 o110
      have hT : RT tp N rI v1 (bnd (bnd (bnd (bnd (.ok (0, f0) : PX FR) (pEat tp N 0)) (pSet tp N 1 (fun _ => 7) 1)) (pEat tp N 1)) (pSet tp N 0 (fun fr => fr 1) 2)) h := ⟨w, _, c117, c120, c121, hN, RV_set (i := 2) hR hz107⟩
      have hTo := hT
      obtain ⟨w, g, c117, c120, c121, hN, hR⟩ := hTo
      refine r_aload_n (pc2 := 112) 0 dX10_street_111 rfl rfl rfl rfl ?_
      refine r_iconst (pc2 := 113) (v := 2) dX10_street_112 (by decide) rfl ?_
      refine r_callV1 (pc2 := 116) (As := [.int 2]) (st := []) kX10_171 rfl rfl dX10_street_113 c117 (by decide) rfl rfl (Nat.le_of_ble_eq_true rfl) (by omega) (G_eats (x := (bnd (bnd (bnd (bnd (.ok (0, f0) : PX FR) (pEat tp N 0)) (pSet tp N 1 (fun _ => 7) 1)) (pEat tp N 1)) (pSet tp N 0 (fun fr => fr 1) 2))) (k := 2) (by decide) htN (by omega) hT) rfl (fun h hq113 => ?_)
      obtain ⟨hxc, hT⟩ := hq113
      have c118 := hxc.get (by decide) c118
      have hx := hx.trans hxc (by decide)
      have hTo := hT
      obtain ⟨w, g, c117, c120, c121, hN, hR⟩ := hTo
      refine r_if_ne (tgt := 124) (pc2 := 119) dX10_street_116 (by decide) rfl (fun b116 => ?_) (fun b116 => ?_)
      · skip
        exact k124 _ hx c118 (by rw [pEat_t (iteB1 b116)]; rw [if_pos (iteB1 b116)] at hT; exact hT)
      · skip
        rw [if_neg (iteB0 b116)] at hT
        refine r_aload_n (pc2 := 120) 0 dX10_street_119 rfl rfl rfl rfl ?_
        refine r_iconst (pc2 := 121) (v := 2) dX10_street_120 (by decide) rfl ?_
        refine r_callV0 (pc2 := 124) (As := [.int 2]) (st := []) kX10_148 rfl rfl dX10_street_121 c117 (by decide) rfl rfl (Nat.le_of_ble_eq_true rfl) (by omega) (G_fails (x := (bnd (bnd (bnd (bnd (.ok (0, f0) : PX FR) (pEat tp N 0)) (pSet tp N 1 (fun _ => 7) 1)) (pEat tp N 1)) (pSet tp N 0 (fun fr => fr 1) 2))) (f := 2) (by decide) (by decide) hT) rfl (fun h hq121 => ?_)
        obtain ⟨hxc, hT⟩ := hq121
        have c118 := hxc.get (by decide) c118
        have hx := hx.trans hxc (by decide)
        have hTo := hT
        obtain ⟨w, g, c117, c120, c121, hN, hR⟩ := hTo
        exact k124 _ hx c118 (by rw [pEat_f (iteB0 b116)]; exact hT)
    have k66 : ∀ h : Hp, Ex [117, 118, 121] h0 h → h.1 118 = some (aI 3531 (nA a)) → RT tp N rI v1 (bnd (.ok (0, f0) : PX FR) (pEat tp N 0)) h → Fr E mX10_street d 66 [.ref 117, .int (nI N), .float 0] [] h (RPV (.int (sF (bnd (bnd (bnd (bnd (bnd (bnd (bnd (bnd (.ok (0, f0) : PX FR) (pEat tp N 0)) (pSet tp N 1 (fun _ => 7) 1)) (pEat tp N 1)) (pSet tp N 0 (fun fr => fr 1) 2)) (pEat tp N 2)) (pSet tp N 1 (fun _ => 10) 26)) (pEnds tp N)) (pLines tp N 901)))) h0 0 (sK (bnd (bnd (bnd (bnd (bnd (bnd (bnd (bnd (.ok (0, f0) : PX FR) (pEat tp N 0)) (pSet tp N 1 (fun _ => 7) 1)) (pEat tp N 1)) (pSet tp N 0 (fun fr => fr 1) 2)) (pEat tp N 2)) (pSet tp N 1 (fun _ => 10) 26)) (pEnds tp N)) (pLines tp N 901))) (sP (bnd (bnd (bnd (bnd (bnd (bnd (bnd (bnd (.ok (0, f0) : PX FR) (pEat tp N 0)) (pSet tp N 1 (fun _ => 7) 1)) (pEat tp N 1)) (pSet tp N 0 (fun fr => fr 1) 2)) (pEat tp N 2)) (pSet tp N 1 (fun _ => 10) 26)) (pEnds tp N)) (pLines tp N 901))) (sA a (bnd (bnd (bnd (bnd (bnd (bnd (bnd (bnd (.ok (0, f0) : PX FR) (pEat tp N 0)) (pSet tp N 1 (fun _ => 7) 1)) (pEat tp N 1)) (pSet tp N 0 (fun fr => fr 1) 2)) (pEat tp N 2)) (pSet tp N 1 (fun _ => 10) 26)) (pEnds tp N)) (pLines tp N 901))) hi tp rs rm nu) := by
      intro h hx c118 hT
      have hTo := hT
      obtain ⟨w, g, c117, c120, c121, hN, hR⟩ := hTo
      refine r_aload_n (pc2 := 67) 0 dX10_street_66 rfl rfl rfl rfl ?_
      refine r_getf (pc2 := 70) (v := .ref 121) fX10_24 dX10_street_67 c117 (by decide) rfl rfl ?_
      refine r_iconst (pc2 := 71) (v := 1) dX10_street_70 (by decide) rfl ?_
      refine r_aload_n (pc2 := 72) 0 dX10_street_71 rfl rfl rfl rfl ?_
      refine r_iconst (pc2 := 73) (v := 1) dX10_street_72 (by decide) rfl ?_
      refine r_bipush (pc2 := 75) (v := 6) dX10_street_73 (by decide) rfl ?_
      refine r_callV2 (pc2 := 78) (As := [.int 1, .int 6]) (st := [.int 1, .ref 121]) kX10_192 rfl rfl dX10_street_75 c117 (by decide) rfl rfl (Nat.le_of_ble_eq_true rfl) (by omega) (G_takes (x := (bnd (.ok (0, f0) : PX FR) (pEat tp N 0))) (lo := 1) (H := (fun _ => 7)) (fun p2 L2 z => ⟨rfl, by decide, (show (7 : Nat) ≤ 1000 by decide)⟩) (by decide) htN (by omega) hT) rfl (fun v75 h hq75 => ?_)
      obtain ⟨z75, rfl, hxc, hz75, hT⟩ := hq75
      have c118 := hxc.get (by decide) c118
      have hx := hx.trans hxc (by decide)
      have hTo := hT
      obtain ⟨w, g, c117, c120, c121, hN, hR⟩ := hTo
      refine r_iastN (pc2 := 79) 1 dX10_street_78 c121 (by decide) rfl (by decide) (by decide) rfl (fun h z78 o78 c121 => ?_)
      have c117 := (o78 117 (by decide)).trans c117
      have c118 := (o78 118 (by decide)).trans c118
      have c120 := (o78 120 (by decide)).trans c120
      have hx := hx.step (a := 121) (by decide) z78 o78
      have hT : RT tp N rI v1 (bnd (bnd (.ok (0, f0) : PX FR) (pEat tp N 0)) (pSet tp N 1 (fun _ => 7) 1)) h := ⟨w, _, c117, c120, c121, hN, RV_set (i := 1) hR hz75⟩
      have hTo := hT
      obtain ⟨w, g, c117, c120, c121, hN, hR⟩ := hTo
      refine r_aload_n (pc2 := 80) 0 dX10_street_79 rfl rfl rfl rfl ?_
      refine r_iconst (pc2 := 81) (v := 1) dX10_street_80 (by decide) rfl ?_
      refine r_callV1 (pc2 := 84) (As := [.int 1]) (st := []) kX10_171 rfl rfl dX10_street_81 c117 (by decide) rfl rfl (Nat.le_of_ble_eq_true rfl) (by omega) (G_eats (x := (bnd (bnd (.ok (0, f0) : PX FR) (pEat tp N 0)) (pSet tp N 1 (fun _ => 7) 1))) (k := 1) (by decide) htN (by omega) hT) rfl (fun h hq81 => ?_)
      obtain ⟨hxc, hT⟩ := hq81
      have c118 := hxc.get (by decide) c118
      have hx := hx.trans hxc (by decide)
      have hTo := hT
      obtain ⟨w, g, c117, c120, c121, hN, hR⟩ := hTo
      refine r_if_ne (tgt := 92) (pc2 := 87) dX10_street_84 (by decide) rfl (fun b84 => ?_) (fun b84 => ?_)
      · skip
        exact k92 _ hx c118 (by rw [pEat_t (iteB1 b84)]; rw [if_pos (iteB1 b84)] at hT; exact hT)
      · skip
        rw [if_neg (iteB0 b84)] at hT
        refine r_aload_n (pc2 := 88) 0 dX10_street_87 rfl rfl rfl rfl ?_
        refine r_iconst (pc2 := 89) (v := 2) dX10_street_88 (by decide) rfl ?_
        refine r_callV0 (pc2 := 92) (As := [.int 2]) (st := []) kX10_148 rfl rfl dX10_street_89 c117 (by decide) rfl rfl (Nat.le_of_ble_eq_true rfl) (by omega) (G_fails (x := (bnd (bnd (.ok (0, f0) : PX FR) (pEat tp N 0)) (pSet tp N 1 (fun _ => 7) 1))) (f := 2) (by decide) (by decide) hT) rfl (fun h hq89 => ?_)
        obtain ⟨hxc, hT⟩ := hq89
        have c118 := hxc.get (by decide) c118
        have hx := hx.trans hxc (by decide)
        have hTo := hT
        obtain ⟨w, g, c117, c120, c121, hN, hR⟩ := hTo
        exact k92 _ hx c118 (by rw [pEat_f (iteB0 b84)]; exact hT)
    have hTo := hT
    obtain ⟨w, g, c117, c120, c121, hN, hR⟩ := hTo
    refine r_aload_n (pc2 := 54) 0 dX10_street_53 rfl rfl rfl rfl ?_
    refine r_iconst (pc2 := 55) (v := 0) dX10_street_54 (by decide) rfl ?_
    refine r_callV1 (pc2 := 58) (As := [.int 0]) (st := []) kX10_171 rfl rfl dX10_street_55 c117 (by decide) rfl rfl (Nat.le_of_ble_eq_true rfl) (by omega) (G_eats (x := (.ok (0, f0) : PX FR)) (k := 0) (by decide) htN (by omega) hT) rfl (fun h hq55 => ?_)
    obtain ⟨hxc, hT⟩ := hq55
    have c118 := hxc.get (by decide) c118
    have hx := hx.trans hxc (by decide)
    have hTo := hT
    obtain ⟨w, g, c117, c120, c121, hN, hR⟩ := hTo
    refine r_if_ne (tgt := 66) (pc2 := 61) dX10_street_58 (by decide) rfl (fun b58 => ?_) (fun b58 => ?_)
    · skip
      exact k66 _ hx c118 (by rw [pEat_t (iteB1 b58)]; rw [if_pos (iteB1 b58)] at hT; exact hT)
    · skip
      rw [if_neg (iteB0 b58)] at hT
      refine r_aload_n (pc2 := 62) 0 dX10_street_61 rfl rfl rfl rfl ?_
      refine r_iconst (pc2 := 63) (v := 2) dX10_street_62 (by decide) rfl ?_
      refine r_callV0 (pc2 := 66) (As := [.int 2]) (st := []) kX10_148 rfl rfl dX10_street_63 c117 (by decide) rfl rfl (Nat.le_of_ble_eq_true rfl) (by omega) (G_fails (x := (.ok (0, f0) : PX FR)) (f := 2) (by decide) (by decide) hT) rfl (fun h hq63 => ?_)
      obtain ⟨hxc, hT⟩ := hq63
      have c118 := hxc.get (by decide) c118
      have hx := hx.trans hxc (by decide)
      have hTo := hT
      obtain ⟨w, g, c117, c120, c121, hN, hR⟩ := hTo
      exact k66 _ hx c118 (by rw [pEat_f (iteB0 b58)]; exact hT)
  have hv : (0 : Int64) ≤ (nI N).toInt64 ∧ (nI N).toInt64 ≤ (v 5).toInt64 := by
    rw [h5]
    exact ⟨by rw [nI_l (by omega)]; exact (pk_lLE (a := 0) (by omega) (by omega)).mpr (Nat.zero_le _), (i2l_le _ _).mpr (nI_le hNt (by omega))⟩
  refine Cn.go (ls := [.ref 117, .int (nI N), .float 0]) (by decide +kernel) rfl (Nat.le_of_ble_eq_true rfl) ?_
  refine r_aload_n (pc2 := 1) 0 dX10_street_0 rfl rfl rfl rfl ?_
  refine r_iconst (pc2 := 2) (v := 0) dX10_street_1 (by decide) rfl ?_
  refine r_putfX (pc2 := 5) (moL (upd v 0 0)) fX10_1 dX10_street_2 c117 (by decide) (Nat.le_of_ble_eq_true rfl) rfl rfl rfl (fun h z2 o2 c117 => ?_)
  have c118 := (o2 118 (by decide)).trans c118
  have c120 := (o2 120 (by decide)).trans c120
  have c121 := (o2 121 (by decide)).trans c121
  have hx := hx.step (a := 117) (by decide) z2 o2
  refine r_iload_n (pc2 := 6) 1 dX10_street_5 rfl rfl rfl ?_
  refine r_i2l (pc2 := 7) dX10_street_6 rfl ?_
  refine r_lconst (pc2 := 8) (v := 0) dX10_street_7 (by decide) rfl ?_
  refine r_aload_n (pc2 := 9) 0 dX10_street_8 rfl rfl rfl rfl ?_
  refine r_getf (pc2 := 12) (v := .int ((upd v 0 0) 5)) fX10_90 dX10_street_9 c117 (by decide) rfl rfl ?_
  refine r_cast (v 5) (rfl) ?_
  refine r_i2l (pc2 := 13) dX10_street_12 rfl ?_
  refine r_callS1 (pc2 := 16) (As := [.long (Int32.toInt64 (nI N)), .long 0, .long (Int32.toInt64 (v 5))]) (st := []) kX10_152 dX10_street_13 rfl rfl (Nat.le_of_ble_eq_true rfl) (by omega) ((c_within _ _ _).mono fun r h2 q => ⟨q.1.trans (by rw [if_pos hv]), q.2⟩) rfl (fun h2 hq13 => ?_)
  subst hq13
  refine r_if_ne (tgt := 22) (pc2 := 19) dX10_street_16 (by decide) rfl (fun b16 => ?_) (fun b16 => ?_)
  · skip
    refine r_aload_n (pc2 := 23) 0 dX10_street_22 rfl rfl rfl rfl ?_
    refine r_iload_n (pc2 := 24) 1 dX10_street_23 rfl rfl rfl ?_
    refine r_putfX (pc2 := 27) (moL (upd (upd v 0 0) 8 (nI N))) fX10_93 dX10_street_24 c117 (by decide) (Nat.le_of_ble_eq_true rfl) rfl rfl rfl (fun h z24 o24 c117 => ?_)
    have c118 := (o24 118 (by decide)).trans c118
    have c120 := (o24 120 (by decide)).trans c120
    have c121 := (o24 121 (by decide)).trans c121
    have hx := hx.step (a := 117) (by decide) z24 o24
    refine r_aload_n (pc2 := 28) 0 dX10_street_27 rfl rfl rfl rfl ?_
    refine r_iconst (pc2 := 29) (v := 0) dX10_street_28 (by decide) rfl ?_
    refine r_putfX (pc2 := 32) (moL (upd (upd (upd v 0 0) 8 (nI N)) 5 0)) fX10_90 dX10_street_29 c117 (by decide) (Nat.le_of_ble_eq_true rfl) rfl rfl rfl (fun h z29 o29 c117 => ?_)
    have c118 := (o29 118 (by decide)).trans c118
    have c120 := (o29 120 (by decide)).trans c120
    have c121 := (o29 121 (by decide)).trans c121
    have hx := hx.step (a := 117) (by decide) z29 o29
    refine r_aload_n (pc2 := 33) 0 dX10_street_32 rfl rfl rfl rfl ?_
    refine r_iconst (pc2 := 34) (v := 0) dX10_street_33 (by decide) rfl ?_
    refine r_putfX (pc2 := 37) (moL (upd (upd (upd (upd v 0 0) 8 (nI N)) 5 0) 7 0)) fX10_111 dX10_street_34 c117 (by decide) (Nat.le_of_ble_eq_true rfl) rfl rfl rfl (fun h z34 o34 c117 => ?_)
    have c118 := (o34 118 (by decide)).trans c118
    have c120 := (o34 120 (by decide)).trans c120
    have c121 := (o34 121 (by decide)).trans c121
    have hx := hx.step (a := 117) (by decide) z34 o34
    refine r_aload_n (pc2 := 38) 0 dX10_street_37 rfl rfl rfl rfl ?_
    refine r_iconst (pc2 := 39) (v := 0) dX10_street_38 (by decide) rfl ?_
    refine r_putfX (pc2 := 42) (moL (upd (upd (upd (upd (upd v 0 0) 8 (nI N)) 5 0) 7 0) 11 0)) fX10_136 dX10_street_39 c117 (by decide) (Nat.le_of_ble_eq_true rfl) rfl rfl rfl (fun h z39 o39 c117 => ?_)
    have c118 := (o39 118 (by decide)).trans c118
    have c120 := (o39 120 (by decide)).trans c120
    have c121 := (o39 121 (by decide)).trans c121
    have hx := hx.step (a := 117) (by decide) z39 o39
    refine r_aload_n (pc2 := 43) 0 dX10_street_42 rfl rfl rfl rfl ?_
    refine r_getf (pc2 := 46) (v := .ref 121) fX10_24 dX10_street_43 c117 (by decide) rfl rfl ?_
    refine r_callS0 (pc2 := 49) (As := [.ref 121]) (st := []) kX10_86 dX10_street_46 rfl rfl (Nat.le_of_ble_eq_true rfl) (by omega) (c_plain121 c121) rfl (fun h hq46 => ?_)
    obtain ⟨hxc, c121⟩ := hq46
    have c117 := hxc.get (by decide) c117
    have c118 := hxc.get (by decide) c118
    have c120 := hxc.get (by decide) c120
    have hx := hx.trans hxc (by decide)
    refine r_aload_n (pc2 := 50) 0 dX10_street_49 rfl rfl rfl rfl ?_
    refine r_callV0 (pc2 := 53) (As := []) (st := []) kX10_145 rfl rfl dX10_street_50 c117 (by decide) rfl rfl (Nat.le_of_ble_eq_true rfl) (by omega) (c_next (tp := tp) (n := N) (p := 0) c117 c120 rfl rfl rfl (Nat.zero_le _) (by omega) htp (by omega)) rfl (fun h hq50 => ?_)
    obtain ⟨hxc, v2, c117, hNV, hPA⟩ := hq50
    have c118 := hxc.get (by decide) c118
    have c120 := hxc.get (by decide) c120
    have c121 := hxc.get (by decide) c121
    have hx := hx.trans hxc (by decide)
    refine (kH (plainX f121) (upd (upd (upd (upd (upd v 0 0) 8 (nI N)) 5 0) 7 0) 11 0) _ (fun k hk => if_pos hk) rfl hx c118 ⟨v2, _, c117, c120, c121, N6.nv hNV, Nat.zero_le _, hPA, rfl⟩).mono (fun r h2 q f hf => by have e := k121.symm.trans hf; cases e; exact q)
  · exact absurd b16 (by decide)
set_option maxRecDepth 20000 in
set_option maxHeartbeats 1000000 in
theorem ref_streetN {E : EnvT} {d : Nat} {h0 : Hp} {v : Nat → Int32} {a : Nat → Nat} {hi : Nat → Int32} {tp : Nat → Nat} {rs rm : Nat → Int32} {nu : Nat → Int64} {x : Int32} (hR : RS h0 v a hi tp rs rm nu) (hv : ¬ ((0 : Int64) ≤ x.toInt64 ∧ x.toInt64 ≤ (v 5).toInt64)) (hd : 1 ≤ d) : Cn E mX10_street d [.ref 117, .int x] h0 (RPV (.int (-3)) h0 (v 5) (v 13) (v 14) a hi tp rs rm nu) := by
  obtain ⟨k117, k118, k119, k120, ⟨f121, k121⟩, ⟨f122, k122⟩, ⟨f123, k123⟩, ⟨f124, k124⟩, ⟨f125, k125⟩, ⟨f126, k126⟩, ⟨f127, k127⟩, ⟨f128, k128⟩, ⟨f129, k129⟩, ⟨f130, k130⟩, ⟨f131, k131⟩, ⟨f132, k132⟩, ⟨f133, k133⟩, ⟨f134, k134⟩, ⟨f135, k135⟩, k136, k137, k138⟩ := hR
  have c117 := k117
  have hx : Ex [117] h0 h0 := Ex.rf
  refine Cn.go (ls := [.ref 117, .int x, .float 0]) (by decide +kernel) rfl (Nat.le_of_ble_eq_true rfl) ?_
  refine r_aload_n (pc2 := 1) 0 dX10_street_0 rfl rfl rfl rfl ?_
  refine r_iconst (pc2 := 2) (v := 0) dX10_street_1 (by decide) rfl ?_
  refine r_putfX (pc2 := 5) (moL (upd v 0 0)) fX10_1 dX10_street_2 c117 (by decide) (Nat.le_of_ble_eq_true rfl) rfl rfl rfl (fun h z2 o2 c117 => ?_)
  have hx := hx.step (a := 117) (by decide) z2 o2
  refine r_iload_n (pc2 := 6) 1 dX10_street_5 rfl rfl rfl ?_
  refine r_i2l (pc2 := 7) dX10_street_6 rfl ?_
  refine r_lconst (pc2 := 8) (v := 0) dX10_street_7 (by decide) rfl ?_
  refine r_aload_n (pc2 := 9) 0 dX10_street_8 rfl rfl rfl rfl ?_
  refine r_getf (pc2 := 12) (v := .int ((upd v 0 0) 5)) fX10_90 dX10_street_9 c117 (by decide) rfl rfl ?_
  refine r_cast (v 5) (rfl) ?_
  refine r_i2l (pc2 := 13) dX10_street_12 rfl ?_
  refine r_callS1 (pc2 := 16) (As := [.long (Int32.toInt64 x), .long 0, .long (Int32.toInt64 (v 5))]) (st := []) kX10_152 dX10_street_13 rfl rfl (Nat.le_of_ble_eq_true rfl) (by omega) ((c_within _ _ _).mono fun r h2 q => ⟨q.1.trans (by rw [if_neg hv]), q.2⟩) rfl (fun h2 hq13 => ?_)
  subst hq13
  refine r_if_ne (tgt := 22) (pc2 := 19) dX10_street_16 (by decide) rfl (fun b16 => ?_) (fun b16 => ?_)
  · exact absurd b16 (by decide)
  · skip
    refine r_bipush (pc2 := 21) (v := -3) dX10_street_19 (by decide) rfl ?_
    exact r_iret rfl dX10_street_21 ⟨rfl, (upd v 0 0), ⟨rfl, rfl, rfl⟩, ⟨c117, hx.get (by decide) k118, hx.get (by decide) k119, hx.get (by decide) k120, ⟨_, hx.get (by decide) k121⟩, ⟨_, hx.get (by decide) k122⟩, ⟨_, hx.get (by decide) k123⟩, ⟨_, hx.get (by decide) k124⟩, ⟨_, hx.get (by decide) k125⟩, ⟨_, hx.get (by decide) k126⟩, ⟨_, hx.get (by decide) k127⟩, ⟨_, hx.get (by decide) k128⟩, ⟨_, hx.get (by decide) k129⟩, ⟨_, hx.get (by decide) k130⟩, ⟨_, hx.get (by decide) k131⟩, ⟨_, hx.get (by decide) k132⟩, ⟨_, hx.get (by decide) k133⟩, ⟨_, hx.get (by decide) k134⟩, ⟨_, hx.get (by decide) k135⟩, hx.get (by decide) k136, hx.get (by decide) k137, hx.get (by decide) k138⟩, hx.mono (by decide)⟩
