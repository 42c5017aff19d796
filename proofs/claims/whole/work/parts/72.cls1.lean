/-! the class: streets, stands; noise and depth by its laws -/
def tow (k : Nat → Nat) : Nat := k 0 + 7 * k 1 + 49 * k 2 + 343 * k 3
def pkL : List Nat → Nat
  | [] => 0
  | x :: t => x + 256 * pkL t
def bL (k : Nat → Nat) (o : Nat) : Int64 := lN (pkL [k o, k (o + 1), k (o + 2), k (o + 3), k (o + 4), k (o + 5), k (o + 6), k (o + 7)])
/-- a stand's fields: k as the reference keeps one -/
def sdL (k : Nat → Nat) : List Value := [.int (nI (tow k)), .int (nI (k 4)), .long (bL k 7), .long (bL k 15), .int (nI (k 5)), .int (nI (k 6))]
def stL (sg : Nat) (b : FR) (lo so sa : Nat) (nl sl : Value) : List Value := [.int (nI sg), .int (nI (b 0)), .int (nI (b 1)), .int (nI (b 2)), .int (nI (b 3)), .ref lo, .ref so, .int (nI (b 4)), .int (nI (b 6)), .int (nI (b 7)), .ref sa, nl, sl]
def LWv (Z : Nat → Prop) (h : Hp) (b : FR) (lw : Nat) (v : Value) : Prop := (b (8 + lw) = 0 ∧ v = .null) ∨ (b (8 + lw) = 1 ∧ ∃ na fc, v = .ref na ∧ Z na ∧ h.1 na = some (aI (b (12 + lw)) fc) ∧ ∀ k, k < b (12 + lw) → fc k = cmI (lawF b lw k))
def StO (Z : Nat → Prop) (h : Hp) (s sg : Nat) (b : FR) : Prop := ∃ lo so sa nl sl, (Z s ∧ Z lo ∧ Z so ∧ Z sa) ∧ h.1 s = some (.inr (6, stL sg b lo so sa nl sl)) ∧ (∃ f, h.1 lo = some (aI 4 f) ∧ ∀ j, j < 4 → f j = nI (b (14 + j))) ∧ (∃ f, h.1 so = some (aI 4 f) ∧ ∀ j, j < 4 → f j = nI (b (18 + j))) ∧ h.1 sa = some (.inr (5, sdL (keepV b))) ∧ LWv Z h b 0 nl ∧ LWv Z h b 1 sl
theorem StO.mono {Z : Nat → Prop} {h h2 : Hp} {s sg : Nat} {b : FR} (o : StO Z h s sg b) (e : ∀ q, Z q → h2.1 q = h.1 q) : StO Z h2 s sg b := by
  obtain ⟨lo, so, sa, nl, sl, ⟨z1, z2, z3, z4⟩, c1, ⟨f1, c2, q2⟩, ⟨f2, c3, q3⟩, c4, l0, l1⟩ := o
  have lw : ∀ w v, LWv Z h b w v → LWv Z h2 b w v := fun w v q => by
    rcases q with q | ⟨q1, na, fc, q2, q3, q4, q5⟩
    · exact Or.inl q
    · exact Or.inr ⟨q1, na, fc, q2, q3, (e na q3).trans q4, q5⟩
  exact ⟨lo, so, sa, nl, sl, ⟨z1, z2, z3, z4⟩, (e s z1).trans c1, ⟨f1, (e lo z2).trans c2, q2⟩, ⟨f2, (e so z3).trans c3, q3⟩, (e sa z4).trans c4, lw 0 nl l0, lw 1 sl l1⟩
def ZL (Z : Nat → Prop) (kd : Nat) : Prop := ∀ q, Z q → 64 ≤ q ∧ q ≠ 82 ∧ q ≠ 87 ∧ q ≠ 88 ∧ q ≠ 89 ∧ q ≠ kd
def LK (b : FR) : Prop := AOK b ∧ ∀ lw, lw < 2 → b (8 + lw) = 1 → SafF (lawF b lw) (b (12 + lw))
abbrev stN (sg dr : Nat) : Nat := 10 * sg + dr + 1
def CN (reg : Nat → FR) (ns : Nat) (kn : Nat → Int32) : Prop := ∀ j, j < 280 → ∀ sg dr, sg ≤ 900 → dr ≤ 9 → kn j >>> ((7 : Int32) &&& 31) = nI (stN sg dr) → sg ≤ ns ∧ kn j = nI (128 * stN sg dr + noiseN (reg sg) (j / 70) (j / 10 % 7) (j % 10) dr)
def CD (reg : Nat → FR) (ns : Nat) (g : Nat → Int32) : Prop := ∀ j, j < 32000 → ∀ sg dr, sg ≤ 900 → dr ≤ 9 → g j >>> ((4 : Int32) &&& 31) = nI (stN sg dr) → sg ≤ ns ∧ g j = nI (16 * stN sg dr + lawV (reg sg) 1 (wN [dr, j / 3200, 0, 0, 0, 0, j / 25 % 128, j / 5 % 5, j % 5]) 9)
def kdV (kd : Nat) : Value := if kd = 0 then .null else .ref kd
/-- the laws of the class, taken for the street s (its number sg) and the draught dr; kd: where depths are kept, 0 if nowhere yet -/
def LWS (h : Hp) (reg : Nat → FR) (ns s sg dr kd : Nat) : Prop := h.1 82 = some (.inr (2, [.ref s, .int (nI dr), .int (nI (stN sg dr)), .ref 87, kdV kd, .ref 88, .ref 89])) ∧ (∃ kn, h.1 87 = some (aI 280 kn) ∧ CN reg ns kn) ∧ (∃ w, h.1 88 = some (aI 6 w)) ∧ (∃ f, h.1 89 = some (aI 64 f)) ∧ (kd ≠ 0 → 139 ≤ kd ∧ ∃ g, h.1 kd = some (aI 32000 g) ∧ CD reg ns g)
theorem nin1 {a b : Nat} (h : a ≠ b) : a ∉ [b] := by simpa using h
theorem wN_bd {l : List Nat} (h : ∀ x ∈ l, x ≤ 1000000) (j : Nat) : bd (wN l j) := by
  unfold wN
  apply bd_nI
  rw [List.getD_eq_getElem?_getD]
  cases e : l[j]? with
  | none => exact Nat.zero_le _
  | some x => exact h x (List.mem_of_getElem? e)
theorem mm_clip {v M : Int32} (hM : 0 < M) : (if (0 : Int32) < (if M ≤ v then M else v) then (if M ≤ v then M else v) else 0) = clipM v M := by
  unfold clipM
  by_cases h1 : M ≤ v
  · rw [if_pos h1, if_pos hM]
    have h0 : ¬ v < 0 := fun z => absurd (Int32.lt_of_lt_of_le hM h1) (fun y => Int32.lt_irrefl (Int32.lt_trans y z))
    rw [if_neg h0]
    by_cases h2 : M < v
    · rw [if_pos h2]
    · rw [if_neg h2]; exact Int32.le_antisymm h1 (Int32.not_lt.mp h2)
  · rw [if_neg h1]
    have h2 : ¬ M < v := fun z => h1 (Int32.le_of_lt z)
    by_cases h0 : v < 0
    · rw [if_pos h0, if_neg (fun z => Int32.lt_irrefl (Int32.lt_trans z h0))]
    · rw [if_neg h0, if_neg h2]
      by_cases h3 : 0 < v
      · rw [if_pos h3]
      · rw [if_neg h3]; exact Int32.le_antisymm (Int32.not_lt.mp h0) (Int32.not_lt.mp h3)
theorem far_abs : ∀ t, t < 8 → ∀ h, h < 8 → (if 0 ≤ nI t - nI h then nI t - nI h else -(nI t - nI h)) = nI (if t < h then h - t else t - h) := by decide +kernel
theorem max_sub : ∀ l, l < 10 → ∀ f, f < 8 → (if 0 < nI l - nI f then nI l - nI f else 0) = nI (l - f) := by decide +kernel
theorem pack7 {S x : Nat} (hS : S < 10000) (hx : x < 128) : (nI S <<< ((7 : Int32) &&& 31)) ||| nI x = nI (128 * S + x) := by
  rw [pk_shlN _ 7 (by decide) (by omega), nI_or, Nat.mul_comm S]
  congr 1
  exact (Nat.two_pow_add_eq_or_of_lt (i := 7) (b := x) hx S).symm
theorem pack4 {S x : Nat} (hS : S < 10000) (hx : x < 16) : (nI S <<< ((4 : Int32) &&& 31)) ||| nI x = nI (16 * S + x) := by
  rw [pk_shlN _ 4 (by decide) (by omega), nI_or, Nat.mul_comm S]
  congr 1
  exact (Nat.two_pow_add_eq_or_of_lt (i := 4) (b := x) hx S).symm
theorem unp7 {S x : Nat} (hS : S < 10000) (hx : x < 128) : nI (128 * S + x) &&& 127 = nI x := by
  rw [pk_andN (by omega) 7 (by decide)]
  congr 1
  omega
theorem unp4 {S x : Nat} (hS : S < 10000) (hx : x < 16) : nI (16 * S + x) &&& 15 = nI x := by
  rw [pk_andN (by omega) 4 (by decide)]
  congr 1
  omega
theorem sh7 {S x : Nat} (hS : S < 10000) (hx : x < 128) : nI (128 * S + x) >>> ((7 : Int32) &&& 31) = nI S := by
  rw [pk_shrN (by omega) _ 7 (by decide)]
  congr 1
  omega
theorem sh4 {S x : Nat} (hS : S < 10000) (hx : x < 16) : nI (16 * S + x) >>> ((4 : Int32) &&& 31) = nI S := by
  rw [pk_shrN (by omega) _ 4 (by decide)]
  congr 1
  omega
theorem CN.up {reg : Nat → FR} {ns sg dr j : Nat} {kn : Nat → Int32} {y : Int32} (h : CN reg ns kn) (hns : ns ≤ 900) (hsg : sg ≤ ns) (hdr : dr ≤ 9) (hy : y = nI (128 * stN sg dr + noiseN (reg sg) (j / 70) (j / 10 % 7) (j % 10) dr)) (hx : noiseN (reg sg) (j / 70) (j / 10 % 7) (j % 10) dr < 128) : CN reg ns (upd kn j y) := by
  intro i hi sg2 dr2 h1 h2 e
  unfold upd at e ⊢
  by_cases q : i = j
  · rw [if_pos q] at e ⊢
    subst q
    rw [hy, sh7 (by unfold stN; omega) hx] at e
    have := (nI_eq (by unfold stN; omega) (by unfold stN; omega)).mp e
    unfold stN at this
    obtain rfl : sg2 = sg := by omega
    obtain rfl : dr2 = dr := by omega
    exact ⟨hsg, hy⟩
  · rw [if_neg q] at e ⊢
    exact h i hi sg2 dr2 h1 h2 e
theorem CD.up {reg : Nat → FR} {ns sg dr j : Nat} {g : Nat → Int32} {y : Int32} (h : CD reg ns g) (hns : ns ≤ 900) (hsg : sg ≤ ns) (hdr : dr ≤ 9) (hy : y = nI (16 * stN sg dr + lawV (reg sg) 1 (wN [dr, j / 3200, 0, 0, 0, 0, j / 25 % 128, j / 5 % 5, j % 5]) 9)) : CD reg ns (upd g j y) := by
  have hx : lawV (reg sg) 1 (wN [dr, j / 3200, 0, 0, 0, 0, j / 25 % 128, j / 5 % 5, j % 5]) 9 < 16 := Nat.lt_of_le_of_lt (lawV_le _ _ _ (by decide)) (by decide)
  intro i hi sg2 dr2 h1 h2 e
  unfold upd at e ⊢
  by_cases q : i = j
  · rw [if_pos q] at e ⊢
    subst q
    rw [hy, sh4 (by unfold stN; omega) hx] at e
    have := (nI_eq (by unfold stN; omega) (by unfold stN; omega)).mp e
    unfold stN at this
    obtain rfl : sg2 = sg := by omega
    obtain rfl : dr2 = dr := by omega
    exact ⟨hsg, hy⟩
  · rw [if_neg q] at e ⊢
    exact h i hi sg2 dr2 h1 h2 e
theorem lawV_nI (b : FR) (lw : Nat) (w : Nat → Int32) {mx : Nat} (h : mx < 2 ^ 31) : clipM ((stk w (lawF b lw) (b (12 + lw))).headD 0) (nI mx) = nI (lawV b lw w mx) := (clip_nI _ h).1
set_option maxRecDepth 20000 in
set_option maxHeartbeats 1000000 in
theorem c_noise {E : EnvT} {d : Nat} {h0 : Hp} {Z : Nat → Prop} {reg : Nat → FR} {b : FR} {ns s sg dr kd g to dp : Nat} (hL : LWS h0 reg ns s sg dr kd) (hS : StO Z h0 s sg b) (hZ : ZL Z kd) (hb : LK b) (hreg : b = reg sg) (hsg : sg ≤ ns) (hns : ns ≤ 900) (hdr : dr ≤ 9) (hg : g < 4) (hto : to ≤ 6) (hdp : dp ≤ 9) (hd : 2 ≤ d) : Cn E mX2_noiseOf d [.ref 82, .int (nI g), .int (nI to), .int (nI dp)] h0 (fun r h2 => r = some (.int (nI (noiseN b g to dp dr))) ∧ Ex [87, 88, 89] h0 h2 ∧ LWS h2 reg ns s sg dr kd) := by
  obtain ⟨c82, ⟨kn, c87, hCN⟩, ⟨w, c88⟩, ⟨f, c89⟩, hKD⟩ := hL
  obtain ⟨lo, so, sa, nl, sl, ⟨zs, zlo, zso, zsa⟩, cs, ⟨fl, clo, hfl⟩, ⟨fs, cso, hfs⟩, csa, hl0, hl1⟩ := hS
  have hA := hb.1
  have a1 := hA.1
  have a2 := hA.2.1
  have hx : Ex [87, 88, 89] h0 h0 := Ex.rf
  have a14 := hA.2.2.2.2.2.1 g hg
  have hfar : farN b to ≤ 6 := by unfold farN; split <;> omega
  rcases hl0 with ⟨h8, rfl⟩ | ⟨h8, na, fc, rfl, zna, cna, hfc⟩
  · skip
    refine Cn.go (ls := [.ref 82, .int (nI g), .int (nI to), .int (nI dp), .float 0, .float 0, .float 0, .float 0]) (by decide +kernel) rfl (Nat.le_of_ble_eq_true rfl) ?_
    refine r_iload_n (pc2 := 1) 2 dX2_noiseOf_0 rfl rfl rfl ?_
    refine r_aload_n (pc2 := 2) 0 dX2_noiseOf_1 rfl rfl rfl rfl ?_
    refine r_getf (pc2 := 5) (v := .ref s) fX2_14 dX2_noiseOf_2 c82 (by decide) rfl rfl ?_
    refine r_getf (pc2 := 8) (v := .int (nI (b 2))) fX2_66 dX2_noiseOf_5 cs (hZ s zs).1 rfl rfl ?_
    refine r_isub (pc2 := 9) dX2_noiseOf_8 rfl ?_
    refine r_callS1 (pc2 := 12) (As := [.int ((nI to) - (nI (b 2)))]) (st := []) kX2_69 dX2_noiseOf_9 rfl rfl (Nat.le_of_ble_eq_true rfl) (by omega) ((c_abs _).mono fun r h2 q => ⟨q.1.trans (by rw [far_abs to (by omega) (b 2) (by omega)]), q.2⟩) rfl (fun h2 hq9 => ?_)
    subst hq9
    refine r_istore (pc2 := 14) (ls2 := [.ref 82, .int (nI g), .int (nI to), .int (nI dp), .int (nI (farN b to)), .float 0, .float 0, .float 0]) 4 dX2_noiseOf_12 (by decide) rfl rfl rfl ?_
    refine r_iload_n (pc2 := 15) 1 dX2_noiseOf_14 rfl rfl rfl ?_
    refine r_if_lt (tgt := 23) (pc2 := 18) dX2_noiseOf_15 (by decide) rfl (fun b15 => ?_) (fun b15 => ?_)
    · exact absurd b15 (nI_pos (by omega))
    · skip
      refine r_iload_n (pc2 := 19) 1 dX2_noiseOf_18 rfl rfl rfl ?_
      refine r_iconst (pc2 := 20) (v := 4) dX2_noiseOf_19 (by decide) rfl ?_
      refine r_icmp_lt (tgt := 25) (pc2 := 23) dX2_noiseOf_20 (by decide) rfl (fun b20 => ?_) (fun b20 => ?_)
      · skip
        refine r_aload_n (pc2 := 26) 0 dX2_noiseOf_25 rfl rfl rfl rfl ?_
        refine r_getf (pc2 := 29) (v := .ref s) fX2_14 dX2_noiseOf_26 c82 (by decide) rfl rfl ?_
        refine r_getf (pc2 := 32) (v := .null) fX2_74 dX2_noiseOf_29 cs (hZ s zs).1 rfl rfl ?_
        refine r_ifnonnullN (pc2 := 35) dX2_noiseOf_32 rfl ?_
        refine r_iconst (pc2 := 36) (v := 0) dX2_noiseOf_35 (by decide) rfl ?_
        refine r_aload_n (pc2 := 37) 0 dX2_noiseOf_36 rfl rfl rfl rfl ?_
        refine r_getf (pc2 := 40) (v := .ref s) fX2_14 dX2_noiseOf_37 c82 (by decide) rfl rfl ?_
        refine r_getf (pc2 := 43) (v := .ref lo) fX2_77 dX2_noiseOf_40 cs (hZ s zs).1 rfl rfl ?_
        refine r_iload_n (pc2 := 44) 1 dX2_noiseOf_43 rfl rfl rfl ?_
        refine r_ialdN (pc2 := 45) g dX2_noiseOf_44 clo (hZ lo zlo).1 rfl (by omega) (by decide) rfl ?_
        refine r_cast (nI (b (14 + g))) (hfl g hg) ?_
        refine r_iload (pc2 := 47) 4 dX2_noiseOf_45 rfl rfl ?_
        refine r_isub (pc2 := 48) dX2_noiseOf_47 rfl ?_
        refine r_callS1 (pc2 := 51) (As := [.int 0, .int (nI (b (14 + g)) - (nI (farN b to)))]) (st := []) kX2_80 dX2_noiseOf_48 rfl rfl (Nat.le_of_ble_eq_true rfl) (by omega) ((c_max _ _).mono fun r h2 q => ⟨q.1.trans (by rw [max_sub (b (14 + g)) (by omega) (farN b to) (by omega)]), q.2⟩) rfl (fun h2 hq48 => ?_)
        subst hq48
        exact r_iret rfl dX2_noiseOf_51 ⟨by unfold noiseN; rw [if_pos h8], hx, ⟨c82, ⟨_, c87, hCN⟩, ⟨_, c88⟩, ⟨_, c89⟩, fun z => ⟨(hKD z).1, by obtain ⟨g9, q, r⟩ := (hKD z).2; exact ⟨g9, hx.get (by have := (hKD z).1; simp; omega) q, r⟩⟩⟩⟩
      · exact absurd (nI_lt (b := 4) (by omega) (by decide)) b20
  · have a18 := hA.2.2.2.2.2.2.1 g hg
    have hst : stN sg dr < 10000 := by unfold stN; omega
    have hn8 : ¬ b 8 = 0 := by have : b 8 = 1 := h8; omega
    obtain ⟨hfm, hwf, husd⟩ : b 10 + b 12 ≤ 900 ∧ LawWF (lawF b 0) (b 12) ∧ ∀ k, k < b 12 → 1000 ≤ lawF b 0 k → lawF b 0 k < 3000 → usedW 0 (lawF b 0 k - 1000) := by
      rcases hA.2.2.2.2.2.2.2.1 with q | q
      · exact absurd q hn8
      · exact q.2
    have hsaf := hb.2 0 (by decide) h8
    have hnl : (noiseN b g to dp dr) < 128 := Nat.lt_of_le_of_lt (noiseN_le b g to dp dr a14) (by decide)
    have eN : lawV b 0 (wN [dr, dp, g, b (14 + g), b (18 + g), farN b to]) 99 = (noiseN b g to dp dr) := by unfold noiseN; rw [if_neg hn8]
    have ed1 : ((g * 7 + to) * 10 + dp) / 70 = g := by omega
    have ed2 : ((g * 7 + to) * 10 + dp) / 10 % 7 = to := by omega
    have ed3 : ((g * 7 + to) * 10 + dp) % 10 = dp := by omega
    have hwd0 : ∀ k, k < b 12 → 1000 ≤ lawF b 0 k → lawF b 0 k < 3000 → upd (upd (upd (upd (upd (upd w 0 (nI dr)) 1 (nI dp)) 2 (nI g)) 3 (nI (b (14 + g)))) 4 (nI (b (18 + g)))) 5 (nI (farN b to)) (widx (lawF b 0 k - 1000)) = wN [dr, dp, g, b (14 + g), b (18 + g), farN b to] (lawF b 0 k - 1000) := fun k hk q1 q2 => by
      have u := husd k hk q1 q2
      have u5 : lawF b 0 k - 1000 ≤ 5 := u
      generalize lawF b 0 k - 1000 = j at u5
      match j, u5 with
      | 0, _ => rfl
      | 1, _ => rfl
      | 2, _ => rfl
      | 3, _ => rfl
      | 4, _ => rfl
      | 5, _ => rfl
    refine Cn.go (ls := [.ref 82, .int (nI g), .int (nI to), .int (nI dp), .float 0, .float 0, .float 0, .float 0]) (by decide +kernel) rfl (Nat.le_of_ble_eq_true rfl) ?_
    refine r_iload_n (pc2 := 1) 2 dX2_noiseOf_0 rfl rfl rfl ?_
    refine r_aload_n (pc2 := 2) 0 dX2_noiseOf_1 rfl rfl rfl rfl ?_
    refine r_getf (pc2 := 5) (v := .ref s) fX2_14 dX2_noiseOf_2 c82 (by decide) rfl rfl ?_
    refine r_getf (pc2 := 8) (v := .int (nI (b 2))) fX2_66 dX2_noiseOf_5 cs (hZ s zs).1 rfl rfl ?_
    refine r_isub (pc2 := 9) dX2_noiseOf_8 rfl ?_
    refine r_callS1 (pc2 := 12) (As := [.int ((nI to) - (nI (b 2)))]) (st := []) kX2_69 dX2_noiseOf_9 rfl rfl (Nat.le_of_ble_eq_true rfl) (by omega) ((c_abs _).mono fun r h2 q => ⟨q.1.trans (by rw [far_abs to (by omega) (b 2) (by omega)]), q.2⟩) rfl (fun h2 hq9 => ?_)
    subst hq9
    refine r_istore (pc2 := 14) (ls2 := [.ref 82, .int (nI g), .int (nI to), .int (nI dp), .int (nI (farN b to)), .float 0, .float 0, .float 0]) 4 dX2_noiseOf_12 (by decide) rfl rfl rfl ?_
    refine r_iload_n (pc2 := 15) 1 dX2_noiseOf_14 rfl rfl rfl ?_
    refine r_if_lt (tgt := 23) (pc2 := 18) dX2_noiseOf_15 (by decide) rfl (fun b15 => ?_) (fun b15 => ?_)
    · exact absurd b15 (nI_pos (by omega))
    · skip
      refine r_iload_n (pc2 := 19) 1 dX2_noiseOf_18 rfl rfl rfl ?_
      refine r_iconst (pc2 := 20) (v := 4) dX2_noiseOf_19 (by decide) rfl ?_
      refine r_icmp_lt (tgt := 25) (pc2 := 23) dX2_noiseOf_20 (by decide) rfl (fun b20 => ?_) (fun b20 => ?_)
      · skip
        refine r_aload_n (pc2 := 26) 0 dX2_noiseOf_25 rfl rfl rfl rfl ?_
        refine r_getf (pc2 := 29) (v := .ref s) fX2_14 dX2_noiseOf_26 c82 (by decide) rfl rfl ?_
        refine r_getf (pc2 := 32) (v := .ref na) fX2_74 dX2_noiseOf_29 cs (hZ s zs).1 rfl rfl ?_
        refine r_ifnonnull (tgt := 52) dX2_noiseOf_32 (hZ na zna).1 (by decide) ?_
        refine r_iload_n (pc2 := 53) 1 dX2_noiseOf_52 rfl rfl rfl ?_
        refine r_bipush (pc2 := 55) (v := 7) dX2_noiseOf_53 (by decide) rfl ?_
        refine r_imul (pc2 := 56) dX2_noiseOf_55 rfl ?_
        refine r_cast (nI (g * 7)) (pk_mul g 7) ?_
        refine r_iload_n (pc2 := 57) 2 dX2_noiseOf_56 rfl rfl rfl ?_
        refine r_iadd (pc2 := 58) dX2_noiseOf_57 rfl ?_
        refine r_cast (nI (g * 7 + to)) (nI_add _ _) ?_
        refine r_bipush (pc2 := 60) (v := 10) dX2_noiseOf_58 (by decide) rfl ?_
        refine r_imul (pc2 := 61) dX2_noiseOf_60 rfl ?_
        refine r_cast (nI ((g * 7 + to) * 10)) (pk_mul _ 10) ?_
        refine r_iload_n (pc2 := 62) 3 dX2_noiseOf_61 rfl rfl rfl ?_
        refine r_iadd (pc2 := 63) dX2_noiseOf_62 rfl ?_
        refine r_cast (nI ((g * 7 + to) * 10 + dp)) (nI_add _ _) ?_
        refine r_istore (pc2 := 65) (ls2 := [.ref 82, .int (nI g), .int (nI to), .int (nI dp), .int (nI (farN b to)), .int (nI ((g * 7 + to) * 10 + dp)), .float 0, .float 0]) 5 dX2_noiseOf_63 (by decide) rfl rfl rfl ?_
        refine r_iload (pc2 := 67) 5 dX2_noiseOf_65 rfl rfl ?_
        refine r_if_lt (tgt := 84) (pc2 := 70) dX2_noiseOf_67 (by decide) rfl (fun b67 => ?_) (fun b67 => ?_)
        · exact absurd b67 (nI_pos (by omega))
        · skip
          refine r_iload (pc2 := 72) 5 dX2_noiseOf_70 rfl rfl ?_
          refine r_aload_n (pc2 := 73) 0 dX2_noiseOf_72 rfl rfl rfl rfl ?_
          refine r_getf (pc2 := 76) (v := .ref 87) fX2_20 dX2_noiseOf_73 c82 (by decide) rfl rfl ?_
          refine r_alen (pc2 := 77) dX2_noiseOf_76 c87 (by decide) (by decide) rfl ?_
          refine r_icmp_ge (tgt := 84) (pc2 := 80) dX2_noiseOf_77 (by decide) rfl (fun b77 => ?_) (fun b77 => ?_)
          · exact absurd b77 (nI_ge (b := 280) (by omega) (by decide))
          · skip
            refine r_iconst (pc2 := 81) (v := 1) dX2_noiseOf_80 (by decide) rfl ?_
            refine r_goto (pc2 := 85) dX2_noiseOf_81 (by decide) ?_
            refine r_istore (pc2 := 87) (ls2 := [.ref 82, .int (nI g), .int (nI to), .int (nI dp), .int (nI (farN b to)), .int (nI ((g * 7 + to) * 10 + dp)), .int 1, .float 0]) 6 dX2_noiseOf_85 (by decide) rfl rfl rfl ?_
            refine r_iload (pc2 := 89) 6 dX2_noiseOf_87 rfl rfl ?_
            refine r_if_eq (tgt := 120) (pc2 := 92) dX2_noiseOf_89 (by decide) rfl (fun b89 => ?_) (fun b89 => ?_)
            · exact absurd b89 (by decide)
            · skip
              refine r_aload_n (pc2 := 93) 0 dX2_noiseOf_92 rfl rfl rfl rfl ?_
              refine r_getf (pc2 := 96) (v := .ref 87) fX2_20 dX2_noiseOf_93 c82 (by decide) rfl rfl ?_
              refine r_iload (pc2 := 98) 5 dX2_noiseOf_96 rfl rfl ?_
              refine r_ialdN (pc2 := 99) ((g * 7 + to) * 10 + dp) dX2_noiseOf_98 c87 (by decide) rfl (by omega) (by decide) rfl ?_
              refine r_bipush (pc2 := 101) (v := 7) dX2_noiseOf_99 (by decide) rfl ?_
              refine r_ishr (pc2 := 102) dX2_noiseOf_101 rfl ?_
              refine r_aload_n (pc2 := 103) 0 dX2_noiseOf_102 rfl rfl rfl rfl ?_
              refine r_getf (pc2 := 106) (v := .int (nI (stN sg dr))) fX2_37 dX2_noiseOf_103 c82 (by decide) rfl rfl ?_
              refine r_icmp_ne (tgt := 120) (pc2 := 109) dX2_noiseOf_106 (by decide) rfl (fun b106 => ?_) (fun b106 => ?_)
              · skip
                refine r_aload_n (pc2 := 121) 0 dX2_noiseOf_120 rfl rfl rfl rfl ?_
                refine r_getf (pc2 := 124) (v := .ref 88) fX2_24 dX2_noiseOf_121 c82 (by decide) rfl rfl ?_
                refine r_iconst (pc2 := 125) (v := 0) dX2_noiseOf_124 (by decide) rfl ?_
                refine r_aload_n (pc2 := 126) 0 dX2_noiseOf_125 rfl rfl rfl rfl ?_
                refine r_getf (pc2 := 129) (v := .int (nI dr)) fX2_30 dX2_noiseOf_126 c82 (by decide) rfl rfl ?_
                refine r_iastN (pc2 := 130) 0 dX2_noiseOf_129 c88 (by decide) rfl (by decide) (by decide) rfl (fun h z129 o129 c88 => ?_)
                have c82 := (o129 82 (by decide)).trans c82
                have cs := (o129 s (hZ s zs).2.2.2.1).trans cs
                have clo := (o129 lo (hZ lo zlo).2.2.2.1).trans clo
                have cso := (o129 so (hZ so zso).2.2.2.1).trans cso
                have c87 := (o129 87 (by decide)).trans c87
                have c89 := (o129 89 (by decide)).trans c89
                have cna := (o129 na (hZ na zna).2.2.2.1).trans cna
                have hx := hx.step (a := 88) (by decide) z129 o129
                refine r_aload_n (pc2 := 131) 0 dX2_noiseOf_130 rfl rfl rfl rfl ?_
                refine r_getf (pc2 := 134) (v := .ref 88) fX2_24 dX2_noiseOf_131 c82 (by decide) rfl rfl ?_
                refine r_iconst (pc2 := 135) (v := 1) dX2_noiseOf_134 (by decide) rfl ?_
                refine r_iload_n (pc2 := 136) 3 dX2_noiseOf_135 rfl rfl rfl ?_
                refine r_iastN (pc2 := 137) 1 dX2_noiseOf_136 c88 (by decide) rfl (by decide) (by decide) rfl (fun h z136 o136 c88 => ?_)
                have c82 := (o136 82 (by decide)).trans c82
                have cs := (o136 s (hZ s zs).2.2.2.1).trans cs
                have clo := (o136 lo (hZ lo zlo).2.2.2.1).trans clo
                have cso := (o136 so (hZ so zso).2.2.2.1).trans cso
                have c87 := (o136 87 (by decide)).trans c87
                have c89 := (o136 89 (by decide)).trans c89
                have cna := (o136 na (hZ na zna).2.2.2.1).trans cna
                have hx := hx.step (a := 88) (by decide) z136 o136
                refine r_aload_n (pc2 := 138) 0 dX2_noiseOf_137 rfl rfl rfl rfl ?_
                refine r_getf (pc2 := 141) (v := .ref 88) fX2_24 dX2_noiseOf_138 c82 (by decide) rfl rfl ?_
                refine r_iconst (pc2 := 142) (v := 2) dX2_noiseOf_141 (by decide) rfl ?_
                refine r_iload_n (pc2 := 143) 1 dX2_noiseOf_142 rfl rfl rfl ?_
                refine r_iastN (pc2 := 144) 2 dX2_noiseOf_143 c88 (by decide) rfl (by decide) (by decide) rfl (fun h z143 o143 c88 => ?_)
                have c82 := (o143 82 (by decide)).trans c82
                have cs := (o143 s (hZ s zs).2.2.2.1).trans cs
                have clo := (o143 lo (hZ lo zlo).2.2.2.1).trans clo
                have cso := (o143 so (hZ so zso).2.2.2.1).trans cso
                have c87 := (o143 87 (by decide)).trans c87
                have c89 := (o143 89 (by decide)).trans c89
                have cna := (o143 na (hZ na zna).2.2.2.1).trans cna
                have hx := hx.step (a := 88) (by decide) z143 o143
                refine r_aload_n (pc2 := 145) 0 dX2_noiseOf_144 rfl rfl rfl rfl ?_
                refine r_getf (pc2 := 148) (v := .ref 88) fX2_24 dX2_noiseOf_145 c82 (by decide) rfl rfl ?_
                refine r_iconst (pc2 := 149) (v := 3) dX2_noiseOf_148 (by decide) rfl ?_
                refine r_aload_n (pc2 := 150) 0 dX2_noiseOf_149 rfl rfl rfl rfl ?_
                refine r_getf (pc2 := 153) (v := .ref s) fX2_14 dX2_noiseOf_150 c82 (by decide) rfl rfl ?_
                refine r_getf (pc2 := 156) (v := .ref lo) fX2_77 dX2_noiseOf_153 cs (hZ s zs).1 rfl rfl ?_
                refine r_iload_n (pc2 := 157) 1 dX2_noiseOf_156 rfl rfl rfl ?_
                refine r_ialdN (pc2 := 158) g dX2_noiseOf_157 clo (hZ lo zlo).1 rfl (by omega) (by decide) rfl ?_
                refine r_cast (nI (b (14 + g))) (hfl g hg) ?_
                refine r_iastN (pc2 := 159) 3 dX2_noiseOf_158 c88 (by decide) rfl (by decide) (by decide) rfl (fun h z158 o158 c88 => ?_)
                have c82 := (o158 82 (by decide)).trans c82
                have cs := (o158 s (hZ s zs).2.2.2.1).trans cs
                have clo := (o158 lo (hZ lo zlo).2.2.2.1).trans clo
                have cso := (o158 so (hZ so zso).2.2.2.1).trans cso
                have c87 := (o158 87 (by decide)).trans c87
                have c89 := (o158 89 (by decide)).trans c89
                have cna := (o158 na (hZ na zna).2.2.2.1).trans cna
                have hx := hx.step (a := 88) (by decide) z158 o158
                refine r_aload_n (pc2 := 160) 0 dX2_noiseOf_159 rfl rfl rfl rfl ?_
                refine r_getf (pc2 := 163) (v := .ref 88) fX2_24 dX2_noiseOf_160 c82 (by decide) rfl rfl ?_
                refine r_iconst (pc2 := 164) (v := 4) dX2_noiseOf_163 (by decide) rfl ?_
                refine r_aload_n (pc2 := 165) 0 dX2_noiseOf_164 rfl rfl rfl rfl ?_
                refine r_getf (pc2 := 168) (v := .ref s) fX2_14 dX2_noiseOf_165 c82 (by decide) rfl rfl ?_
                refine r_getf (pc2 := 171) (v := .ref so) fX2_84 dX2_noiseOf_168 cs (hZ s zs).1 rfl rfl ?_
                refine r_iload_n (pc2 := 172) 1 dX2_noiseOf_171 rfl rfl rfl ?_
                refine r_ialdN (pc2 := 173) g dX2_noiseOf_172 cso (hZ so zso).1 rfl (by omega) (by decide) rfl ?_
                refine r_cast (nI (b (18 + g))) (hfs g hg) ?_
                refine r_iastN (pc2 := 174) 4 dX2_noiseOf_173 c88 (by decide) rfl (by decide) (by decide) rfl (fun h z173 o173 c88 => ?_)
                have c82 := (o173 82 (by decide)).trans c82
                have cs := (o173 s (hZ s zs).2.2.2.1).trans cs
                have clo := (o173 lo (hZ lo zlo).2.2.2.1).trans clo
                have cso := (o173 so (hZ so zso).2.2.2.1).trans cso
                have c87 := (o173 87 (by decide)).trans c87
                have c89 := (o173 89 (by decide)).trans c89
                have cna := (o173 na (hZ na zna).2.2.2.1).trans cna
                have hx := hx.step (a := 88) (by decide) z173 o173
                refine r_aload_n (pc2 := 175) 0 dX2_noiseOf_174 rfl rfl rfl rfl ?_
                refine r_getf (pc2 := 178) (v := .ref 88) fX2_24 dX2_noiseOf_175 c82 (by decide) rfl rfl ?_
                refine r_iconst (pc2 := 179) (v := 5) dX2_noiseOf_178 (by decide) rfl ?_
                refine r_iload (pc2 := 181) 4 dX2_noiseOf_179 rfl rfl ?_
                refine r_iastN (pc2 := 182) 5 dX2_noiseOf_181 c88 (by decide) rfl (by decide) (by decide) rfl (fun h z181 o181 c88 => ?_)
                have c82 := (o181 82 (by decide)).trans c82
                have cs := (o181 s (hZ s zs).2.2.2.1).trans cs
                have clo := (o181 lo (hZ lo zlo).2.2.2.1).trans clo
                have cso := (o181 so (hZ so zso).2.2.2.1).trans cso
                have c87 := (o181 87 (by decide)).trans c87
                have c89 := (o181 89 (by decide)).trans c89
                have cna := (o181 na (hZ na zna).2.2.2.1).trans cna
                have hx := hx.step (a := 88) (by decide) z181 o181
                refine r_iconst (pc2 := 183) (v := 0) dX2_noiseOf_182 (by decide) rfl ?_
                refine r_bipush (pc2 := 185) (v := 99) dX2_noiseOf_183 (by decide) rfl ?_
                refine r_aload_n (pc2 := 186) 0 dX2_noiseOf_185 rfl rfl rfl rfl ?_
                refine r_aload_n (pc2 := 187) 0 dX2_noiseOf_186 rfl rfl rfl rfl ?_
                refine r_getf (pc2 := 190) (v := .ref s) fX2_14 dX2_noiseOf_187 c82 (by decide) rfl rfl ?_
                refine r_getf (pc2 := 193) (v := .ref na) fX2_74 dX2_noiseOf_190 cs (hZ s zs).1 rfl rfl ?_
                refine r_callV1 (pc2 := 196) (As := [.ref na]) (st := [.int 99, .int 0]) kX2_87 rfl rfl dX2_noiseOf_193 c82 (by decide) rfl rfl (Nat.le_of_ble_eq_true rfl) (by omega) (c_run (w := wN [dr, dp, g, b (14 + g), b (18 + g), farN b to]) (cf := lawF b 0) (n := b 12) c82 c88 c89 cna (hZ na zna).1 (hZ na zna).2.2.2.2.1 (by omega) hwf hfc (fun k hk q1 q2 => hwd0 k hk q1 q2) (fun k hk q y x r z => hsaf (wN [dr, dp, g, b (14 + g), b (18 + g), farN b to]) (wN_bd (by intro x hx; simp at hx; omega)) k hk q y x r z) (by omega)) rfl (fun h hq193 => ?_)
                obtain ⟨hxr, f9, c89⟩ := hq193
                have c82 := hxr.get (by decide) c82
                have cs := hxr.get (nin1 (hZ s zs).2.2.2.2.1) cs
                have clo := hxr.get (nin1 (hZ lo zlo).2.2.2.2.1) clo
                have cso := hxr.get (nin1 (hZ so zso).2.2.2.2.1) cso
                have c87 := hxr.get (by decide) c87
                have c88 := hxr.get (by decide) c88
                have cna := hxr.get (nin1 (hZ na zna).2.2.2.2.1) cna
                have hx := hx.trans hxr (by decide)
                refine r_callS1 (pc2 := 199) (As := [.int 99, .int ((stk (wN [dr, dp, g, b (14 + g), b (18 + g), farN b to]) (lawF b 0) (b 12)).headD 0)]) (st := [.int 0]) kX2_91 dX2_noiseOf_196 rfl rfl (Nat.le_of_ble_eq_true rfl) (by omega) (c_min _ _) rfl (fun h2 hq196 => ?_)
                subst hq196
                refine r_callS1 (pc2 := 202) (As := [.int 0, .int (if (99 : Int32) ≤ ((stk (wN [dr, dp, g, b (14 + g), b (18 + g), farN b to]) (lawF b 0) (b 12)).headD 0) then 99 else ((stk (wN [dr, dp, g, b (14 + g), b (18 + g), farN b to]) (lawF b 0) (b 12)).headD 0))]) (st := []) kX2_80 dX2_noiseOf_199 rfl rfl (Nat.le_of_ble_eq_true rfl) (by omega) ((c_max _ _).mono fun r h2 q => ⟨q.1.trans (by rw [mm_clip (by decide), show (99 : Int32) = nI 99 from rfl, lawV_nI b 0 _ (by decide)]), q.2⟩) rfl (fun h2 hq199 => ?_)
                subst hq199
                refine r_istore (pc2 := 204) (ls2 := [.ref 82, .int (nI g), .int (nI to), .int (nI dp), .int (nI (farN b to)), .int (nI ((g * 7 + to) * 10 + dp)), .int 1, .int (nI (lawV b 0 (wN [dr, dp, g, b (14 + g), b (18 + g), farN b to]) 99))]) 7 dX2_noiseOf_202 (by decide) rfl rfl rfl ?_
                refine r_iload (pc2 := 206) 6 dX2_noiseOf_204 rfl rfl ?_
                refine r_if_eq (tgt := 226) (pc2 := 209) dX2_noiseOf_206 (by decide) rfl (fun b206 => ?_) (fun b206 => ?_)
                · exact absurd b206 (by decide)
                · skip
                  refine r_aload_n (pc2 := 210) 0 dX2_noiseOf_209 rfl rfl rfl rfl ?_
                  refine r_getf (pc2 := 213) (v := .ref 87) fX2_20 dX2_noiseOf_210 c82 (by decide) rfl rfl ?_
                  refine r_iload (pc2 := 215) 5 dX2_noiseOf_213 rfl rfl ?_
                  refine r_aload_n (pc2 := 216) 0 dX2_noiseOf_215 rfl rfl rfl rfl ?_
                  refine r_getf (pc2 := 219) (v := .int (nI (stN sg dr))) fX2_37 dX2_noiseOf_216 c82 (by decide) rfl rfl ?_
                  refine r_bipush (pc2 := 221) (v := 7) dX2_noiseOf_219 (by decide) rfl ?_
                  refine r_ishl (pc2 := 222) dX2_noiseOf_221 rfl ?_
                  refine r_iload (pc2 := 224) 7 dX2_noiseOf_222 rfl rfl ?_
                  refine r_ior (pc2 := 225) dX2_noiseOf_224 rfl ?_
                  refine r_topi (fun y225 ey225 => ?_)
                  refine r_iastN (pc2 := 226) ((g * 7 + to) * 10 + dp) dX2_noiseOf_225 c87 (by decide) rfl (by omega) (by decide) rfl (fun h z225 o225 c87 => ?_)
                  have c82 := (o225 82 (by decide)).trans c82
                  have cs := (o225 s (hZ s zs).2.2.1).trans cs
                  have clo := (o225 lo (hZ lo zlo).2.2.1).trans clo
                  have cso := (o225 so (hZ so zso).2.2.1).trans cso
                  have c88 := (o225 88 (by decide)).trans c88
                  have c89 := (o225 89 (by decide)).trans c89
                  have cna := (o225 na (hZ na zna).2.2.1).trans cna
                  have hx := hx.step (a := 87) (by decide) z225 o225
                  refine r_iload (pc2 := 228) 7 dX2_noiseOf_226 rfl rfl ?_
                  exact r_iret rfl dX2_noiseOf_228 ⟨by rw [eN], hx, ⟨c82, ⟨_, c87, hCN.up hns hsg hdr (by rw [ey225, eN, pack7 hst hnl, ed1, ed2, ed3, ← hreg]) (by rw [ed1, ed2, ed3, ← hreg]; exact hnl)⟩, ⟨_, c88⟩, ⟨_, c89⟩, fun z => ⟨(hKD z).1, by obtain ⟨g9, q, r⟩ := (hKD z).2; exact ⟨g9, hx.get (by have := (hKD z).1; simp; omega) q, r⟩⟩⟩⟩
              · skip
                refine r_aload_n (pc2 := 110) 0 dX2_noiseOf_109 rfl rfl rfl rfl ?_
                refine r_getf (pc2 := 113) (v := .ref 87) fX2_20 dX2_noiseOf_110 c82 (by decide) rfl rfl ?_
                refine r_iload (pc2 := 115) 5 dX2_noiseOf_113 rfl rfl ?_
                refine r_ialdN (pc2 := 116) ((g * 7 + to) * 10 + dp) dX2_noiseOf_115 c87 (by decide) rfl (by omega) (by decide) rfl ?_
                refine r_bipush (pc2 := 118) (v := 127) dX2_noiseOf_116 (by decide) rfl ?_
                refine r_iand (pc2 := 119) dX2_noiseOf_118 rfl ?_
                exact r_iret rfl dX2_noiseOf_119 ⟨by rw [(hCN _ (by omega) sg dr (by omega) hdr b106).2, unp7 hst (by rw [ed1, ed2, ed3, ← hreg]; exact hnl), ed1, ed2, ed3, ← hreg], hx, ⟨c82, ⟨_, c87, hCN⟩, ⟨_, c88⟩, ⟨_, c89⟩, fun z => ⟨(hKD z).1, by obtain ⟨g9, q, r⟩ := (hKD z).2; exact ⟨g9, hx.get (by have := (hKD z).1; simp; omega) q, r⟩⟩⟩⟩
      · exact absurd (nI_lt (b := 4) (by omega) (by decide)) b20
