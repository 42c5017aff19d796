/-! what holds of the reference's row -/
abbrev vS (G : Nat) (x : Int64) : Prop := 0 ≤ x ∧ x ≤ lN (2 ^ G - 1)
def AOK (a : Nat → Nat) : Prop := (1 ≤ a 1 ∧ a 1 ≤ 6) ∧ a 2 ≤ 6 ∧ a 3 ≤ 4 ∧ a 4 ≤ 8 ∧ (a 6 ≤ 10 ∧ a 7 ≤ 9) ∧ (∀ g, g < 4 → a (14 + g) ≤ 9) ∧ (∀ g, g < 4 → a (18 + g) ≤ 9) ∧ LWok a 0 ∧ LWok a 1
def SOK (a : Nat → Nat) (s : Nat → Nat) : Prop := (∀ g, g < 4 → s g ≤ a 1) ∧ (∀ g, a 3 ≤ g → g < 4 → s g = 0) ∧ s 4 ≤ 9 ∧ s 5 ≤ 9 ∧ (∀ p, p < 8 → s (7 + p) < 256) ∧ ∀ p, p < 8 → s (15 + p) < 256
def keepV (a : Nat → Nat) : Nat → Nat := fun k => a (22 + k)
def WASok (a : Nat → Nat) : Prop := a 45 ≤ 10 ∧ ∀ j, j < a 45 → SOK a (fun k => a (46 + 23 * j + k))
def AIN (a : Nat → Nat) : Prop := AOK a ∧ SOK a (keepV a) ∧ WASok a
section AI
variable {a : Nat → Nat}
theorem AIN.C (h : AIN a) : a 1 ≤ 6 := h.1.1.2
theorem AIN.C1 (h : AIN a) : 1 ≤ a 1 := h.1.1.1
theorem AIN.h2 (h : AIN a) : a 2 ≤ 6 := h.1.2.1
theorem AIN.G (h : AIN a) : a 3 ≤ 4 := h.1.2.2.1
theorem AIN.P (h : AIN a) : a 4 ≤ 8 := h.1.2.2.2.1
theorem AIN.ct (h : AIN a) : a 6 ≤ 10 ∧ a 7 ≤ 9 := h.1.2.2.2.2.1
theorem AIN.lo (h : AIN a) : ∀ g, g < 4 → a (14 + g) ≤ 9 := h.1.2.2.2.2.2.1
theorem AIN.so (h : AIN a) : ∀ g, g < 4 → a (18 + g) ≤ 9 := h.1.2.2.2.2.2.2.1
theorem AIN.w0 (h : AIN a) : LWok a 0 := h.1.2.2.2.2.2.2.2.1
theorem AIN.w1 (h : AIN a) : LWok a 1 := h.1.2.2.2.2.2.2.2.2
theorem AIN.cl (h : AIN a) : ∀ g, g < 4 → a (22 + g) ≤ a 1 := h.2.1.1
theorem AIN.c7 (h : AIN a) : ∀ g, g < 4 → a (22 + g) ≤ 7 := fun g hg => by have := h.cl g hg; have := h.C; omega
theorem AIN.c0 (h : AIN a) : ∀ g, a 3 ≤ g → g < 4 → a (22 + g) = 0 := h.2.1.2.1
theorem AIN.dp (h : AIN a) : a 26 ≤ 9 := h.2.1.2.2.1
theorem AIN.dr (h : AIN a) : a 27 ≤ 9 := h.2.1.2.2.2.1
theorem AIN.bd (h : AIN a) : ∀ p, p < 8 → a (29 + p) < 256 := fun p hp => by
  have := h.2.1.2.2.2.2.1 p hp
  have e : keepV a (7 + p) = a (29 + p) := by show a (22 + (7 + p)) = _; congr 1; omega
  rw [← e]; exact this
theorem AIN.ub (h : AIN a) : ∀ p, p < 8 → a (37 + p) < 256 := fun p hp => by
  have := h.2.1.2.2.2.2.2 p hp
  have e : keepV a (15 + p) = a (37 + p) := by show a (22 + (15 + p)) = _; congr 1; omega
  rw [← e]; exact this
theorem AIN.nd (h : AIN a) : a 45 ≤ 10 := h.2.2.1
end AI
theorem packC4 {a : Nat → Nat} : ∀ k, k ≤ 4 → (∀ g, k ≤ g → g < 4 → a (22 + g) = 0) → packC a k = a 22 + 8 * a 23 + 64 * a 24 + 512 * a 25 := by
  intro k hk h
  match k, hk with
  | 0, _ => have h0 := h 0 (by omega) (by omega); have h1 := h 1 (by omega) (by omega); have h2 := h 2 (by omega) (by omega); have h3 := h 3 (by omega) (by omega); simp at h0 h1 h2 h3; simp [packC]; omega
  | 1, _ => have h1 := h 1 (by omega) (by omega); have h2 := h 2 (by omega) (by omega); have h3 := h 3 (by omega) (by omega); simp at h1 h2 h3; simp [packC]; omega
  | 2, _ => have h2 := h 2 (by omega) (by omega); have h3 := h 3 (by omega) (by omega); simp at h2 h3; simp [packC]; omega
  | 3, _ => have h3 := h 3 (by omega) (by omega); simp at h3; simp [packC]; omega
  | 4, _ => simp [packC]; omega
theorem AIN.pk {a : Nat → Nat} (h : AIN a) : packS a = 4096 * a 26 + (a 22 + 8 * a 23 + 64 * a 24 + 512 * a 25) := by
  unfold packS
  rw [packC4 (a 3) h.G h.c0]
theorem AIN.c4 {a : Nat → Nat} (h : AIN a) : a 22 ≤ 6 ∧ a 23 ≤ 6 ∧ a 24 ≤ 6 ∧ a 25 ≤ 6 := by
  have h0 := h.cl 0 (by decide)
  have h1 := h.cl 1 (by decide)
  have h2 := h.cl 2 (by decide)
  have h3 := h.cl 3 (by decide)
  have := h.C
  simp at h0 h1 h2 h3
  omega
theorem AIN.pdep {a : Nat → Nat} (h : AIN a) : packS a / 4096 = a 26 := by
  have := h.c4
  rw [h.pk]; omega
theorem AIN.plt {a : Nat → Nat} (h : AIN a) : packS a < 40960 := by
  have := h.c4
  have := h.dp
  rw [h.pk]; omega
theorem AIN.pdig {a : Nat → Nat} (h : AIN a) : ∀ g, g < 4 → packS a / 8 ^ g % 8 = a (22 + g) := by
  intro g hg
  have := h.c4
  rw [h.pk]
  match g, hg with
  | 0, _ => simp; omega
  | 1, _ => simp; omega
  | 2, _ => simp; omega
  | 3, _ => simp; omega
theorem lN_le63 {a b : Nat} (ha : a < 2 ^ 63) (hb : b < 2 ^ 63) : lN a ≤ lN b ↔ a ≤ b := pk_lLE ha hb
theorem vS_of {G : Nat} {x : Int64} (hG : G ≤ 4) (h : vS G x) : ∃ n, n < 2 ^ G ∧ x = lN n := by
  obtain ⟨k, hk, rfl⟩ := pk_lOf (Int64.not_lt.mpr h.1)
  have hb : 2 ^ G ≤ 16 := Nat.pow_le_pow_right (n := 2) (by decide) hG
  have h1 := (pk_lLE hk (by omega)).mp h.2
  have hp : 0 < 2 ^ G := Nat.pos_of_ne_zero (by simp)
  exact ⟨k, by omega, rfl⟩
theorem vS_lN {G n : Nat} (hG : G ≤ 4) (h : n < 2 ^ G) : vS G (lN n) := by
  have hb : 2 ^ G ≤ 16 := Nat.pow_le_pow_right (n := 2) (by decide) hG
  exact ⟨(pk_lLE (a := 0) (by decide) (by omega)).mpr (Nat.zero_le _), (pk_lLE (by omega) (by omega)).mpr (by omega)⟩
theorem vS_i {G : Nat} {x : Int32} (hG : G ≤ 4) (h : vS G x.toInt64) : ∃ n, n < 2 ^ G ∧ n < 16 ∧ x = nI n := by
  obtain ⟨n, hn, e⟩ := vS_of hG h
  have hb : 2 ^ G ≤ 16 := Nat.pow_le_pow_right (n := 2) (by decide) hG
  refine ⟨n, hn, by omega, ?_⟩
  have : x.toInt64.toInt32 = (lN n).toInt32 := by rw [e]
  rw [lN_i] at this
  rw [← this]
  simp
/-- why a set can't step in a stand -/
def why2 (a : Nat → Nat) (st sn : Nat) : Nat := if pastN (a 1) st (a 3) &&& sn ≠ 0 then 2 else if st / 4096 = 0 then 3 else 0
set_option maxRecDepth 20000 in
set_option maxHeartbeats 1000000 in
theorem c_whyBy1 {E : EnvT} {d : Nat} {h0 : Hp} {v : Nat → Int32} {a : Nat → Nat} {s : Int32} {x : Int64} (c117 : h0.1 117 = some (mO v)) (c118 : h0.1 118 = some (aI 3531 (nA a))) (hA : AIN a) (hv : ¬ vS (a 3) x) (hd : 2 ≤ d) : Cn E mX10_whyBy d [.ref 117, .int s, .long x] h0 (fun r h2 => r = some (.int 1) ∧ h2 = h0) := by
  refine Cn.go (ls := [.ref 117, .int s, .long x, .float 0]) (by decide +kernel) rfl (Nat.le_of_ble_eq_true rfl) ?_
  refine r_aload_n (pc2 := 1) 0 dX10_whyBy_0 rfl rfl rfl rfl ?_
  refine r_lload_n (pc2 := 2) 2 dX10_whyBy_1 rfl rfl rfl ?_
  refine r_callV1 (pc2 := 5) (As := [.long x]) (st := []) kX10_259 rfl rfl dX10_whyBy_2 c117 (by decide) rfl rfl (Nat.le_of_ble_eq_true rfl) (by omega) (c_isSet c117 c118 hA.G (by omega)) rfl (fun h2 hq2 => ?_)
  subst hq2
  refine r_if_ne (tgt := 12) (pc2 := 8) dX10_whyBy_5 (by decide) rfl (fun b5 => ?_) (fun b5 => ?_)
  · rw [if_neg hv] at b5; exact absurd rfl b5
  · skip
    refine r_iconst (pc2 := 9) (v := 1) dX10_whyBy_8 (by decide) rfl ?_
    refine r_goto (pc2 := 39) dX10_whyBy_9 (by decide) ?_
    exact r_iret rfl dX10_whyBy_39 ⟨rfl, rfl⟩
theorem nI_z0 {n : Nat} (h : n < 2 ^ 31) (e : nI n = 0) : n = 0 := by
  have e : nI n = nI 0 := e
  rw [nI_eq h (by decide)] at e
  exact e
set_option maxRecDepth 20000 in
set_option maxHeartbeats 1000000 in
theorem c_whyBy {E : EnvT} {d : Nat} {h0 : Hp} {v : Nat → Int32} {a : Nat → Nat} {st sn : Nat} (c117 : h0.1 117 = some (mO v)) (c118 : h0.1 118 = some (aI 3531 (nA a))) (hA : AIN a) (hs : st < 2 ^ 31) (hn : sn < 2 ^ (a 3)) (hd : 2 ≤ d) : Cn E mX10_whyBy d [.ref 117, .int (nI st), .long (lN sn)] h0 (fun r h2 => r = some (.int (nI (why2 a st sn))) ∧ h2 = h0) := by
  refine Cn.go (ls := [.ref 117, .int (nI st), .long (lN sn), .float 0]) (by decide +kernel) rfl (Nat.le_of_ble_eq_true rfl) ?_
  refine r_aload_n (pc2 := 1) 0 dX10_whyBy_0 rfl rfl rfl rfl ?_
  refine r_lload_n (pc2 := 2) 2 dX10_whyBy_1 rfl rfl rfl ?_
  refine r_callV1 (pc2 := 5) (As := [.long (lN sn)]) (st := []) kX10_259 rfl rfl dX10_whyBy_2 c117 (by decide) rfl rfl (Nat.le_of_ble_eq_true rfl) (by omega) (c_isSet c117 c118 hA.G (by omega)) rfl (fun h2 hq2 => ?_)
  subst hq2
  refine r_if_ne (tgt := 12) (pc2 := 8) dX10_whyBy_5 (by decide) rfl (fun b5 => ?_) (fun b5 => ?_)
  · skip
    refine r_aload_n (pc2 := 13) 0 dX10_whyBy_12 rfl rfl rfl rfl ?_
    refine r_iload_n (pc2 := 14) 1 dX10_whyBy_13 rfl rfl rfl ?_
    refine r_callV1 (pc2 := 17) (As := [.int (nI st)]) (st := []) kX10_256 rfl rfl dX10_whyBy_14 c117 (by decide) rfl rfl (Nat.le_of_ble_eq_true rfl) (by omega) (c_pastIn (st := st) c117 c118 hA.G hA.C (by omega) (by omega)) rfl (fun h2 hq14 => ?_)
    subst hq14
    refine r_lload_n (pc2 := 18) 2 dX10_whyBy_17 rfl rfl rfl ?_
    skip
    refine r_l2i (pc2 := 19) dX10_whyBy_18 rfl ?_
    refine r_cast (nI sn) (lN_i sn) ?_
    refine r_iand (pc2 := 20) dX10_whyBy_19 rfl ?_
    refine r_cast (nI (pastN (a 1) st (a 3) &&& sn)) (nI_and _ _) ?_
    refine r_if_eq (tgt := 27) (pc2 := 23) dX10_whyBy_20 (by decide) rfl (fun b20 => ?_) (fun b20 => ?_)
    · skip
      refine r_iload_n (pc2 := 28) 1 dX10_whyBy_27 rfl rfl rfl ?_
      refine r_callS1 (pc2 := 31) (As := [.int (nI st)]) (st := []) kX10_231 dX10_whyBy_28 rfl rfl (Nat.le_of_ble_eq_true rfl) (by omega) (c_depthIn (nI st)) rfl (fun h2 hq28 => ?_)
      subst hq28
      refine r_cast (nI (st / 4096)) (depthN hs) ?_
      refine r_if_ne (tgt := 38) (pc2 := 34) dX10_whyBy_31 (by decide) rfl (fun b31 => ?_) (fun b31 => ?_)
      · skip
        refine r_iconst (pc2 := 39) (v := 0) dX10_whyBy_38 (by decide) rfl ?_
        exact r_iret rfl dX10_whyBy_39 ⟨by rw [why2, if_neg (by simpa using nI_z0 (Nat.lt_of_le_of_lt Nat.and_le_left (Nat.lt_of_lt_of_le (pastN_16 _ _ hA.G) (by decide))) b20), if_neg (fun q => b31 (by rw [q]; rfl))]; rfl, rfl⟩
      · skip
        refine r_iconst (pc2 := 35) (v := 3) dX10_whyBy_34 (by decide) rfl ?_
        refine r_goto (pc2 := 39) dX10_whyBy_35 (by decide) ?_
        exact r_iret rfl dX10_whyBy_39 ⟨by rw [why2, if_neg (by simpa using nI_z0 (Nat.lt_of_le_of_lt Nat.and_le_left (Nat.lt_of_lt_of_le (pastN_16 _ _ hA.G) (by decide))) b20), if_pos (nI_z0 (by omega) b31)]; rfl, rfl⟩
    · skip
      refine r_iconst (pc2 := 24) (v := 2) dX10_whyBy_23 (by decide) rfl ?_
      refine r_goto (pc2 := 39) dX10_whyBy_24 (by decide) ?_
      exact r_iret rfl dX10_whyBy_39 ⟨by rw [why2, if_pos (fun q => b20 (by rw [q]; rfl))]; rfl, rfl⟩
  · rw [if_pos (vS_lN hA.G hn)] at b5; exact absurd b5 (by decide)
/-- the row behind an hour -/
def standTo (a : Nat → Nat) (st : Nat) : Nat → Nat := va_up (fillN a 22 (a 3) (fun g => st / 8 ^ g % 8)) 26 (st / 4096)
def goesN (a : Nat → Nat) (sn : Nat) : Nat → Nat := va_up (standTo a (hourN a (packS a) sn 0 (a 27))) 28 (a 28 + 1)
theorem hourN_lt {a : Nat → Nat} {st sn b dr : Nat} (hG : a 3 ≤ 4) (hC : a 1 ≤ 6) (hd : st / 4096 ≤ 9) (hst : ∀ g, g < a 3 → sn.testBit g = true → st / 8 ^ g % 8 < a 1) : hourN a st sn b dr < 40960 := by
  have h1 := hCs_lt st sn (a 3) hG (fun g hg q => by have := hst g hg q; omega)
  have h2 := dpN_le a (st / 4096) (hNz a st sn b dr (a 3)) (hCs st sn (a 3)) sn dr hd
  unfold hourN
  omega
set_option maxRecDepth 20000 in
set_option maxHeartbeats 1000000 in
theorem c_goesHour {E : EnvT} {d : Nat} {h0 : Hp} {v : Nat → Int32} {a : Nat → Nat} {f w : Nat → Int32} {sn : Nat} (c117 : h0.1 117 = some (mO v)) (c118 : h0.1 118 = some (aI 3531 (nA a))) (c122 : h0.1 122 = some (aI 900 f)) (c123 : h0.1 123 = some (aI 9 w)) (hA : AIN a) (hsn : sn < 16) (hst0 : ∀ g, g < a 3 → sn.testBit g = true → a (22 + g) < a 1) (hd : 4 ≤ d) : Cn E mX10_goesHour d [.ref 117, .int (nI sn)] h0 (fun r h2 => r = none ∧ Ex [118, 122, 123] h0 h2 ∧ h2.1 118 = some (aI 3531 (nA (goesN a sn))) ∧ (∃ f2, h2.1 122 = some (aI 900 f2)) ∧ ∃ w2, h2.1 123 = some (aI 9 w2)) := by
  refine Cn.go (ls := [.ref 117, .int (nI sn)]) (by decide +kernel) rfl (Nat.le_of_ble_eq_true rfl) ?_
  have hx : Ex [118, 122, 123] h0 h0 := Ex.rf
  have hst : ∀ g, g < a 3 → sn.testBit g = true → packS a / 8 ^ g % 8 < a 1 := fun g hg q => by
    rw [hA.pdig g (by have := hA.G; omega)]
    exact hst0 g hg q
  have hlt := hourN_lt (b := 0) (dr := a 27) hA.G hA.C (by rw [hA.pdep]; exact hA.dp) hst
  have e28 : standTo a (hourN a (packS a) sn 0 (a 27)) 28 = a 28 := by
    have := hA.G
    unfold standTo
    rw [va_up_ne _ _ (by decide), fillN_out (Or.inr (by omega))]
  refine r_aload_n (pc2 := 1) 0 dX10_goesHour_0 rfl rfl rfl rfl ?_
  refine r_aload_n (pc2 := 2) 0 dX10_goesHour_1 rfl rfl rfl rfl ?_
  refine r_aload_n (pc2 := 3) 0 dX10_goesHour_2 rfl rfl rfl rfl ?_
  refine r_callV1 (pc2 := 6) (As := []) (st := [.ref 117, .ref 117]) kX10_266 rfl rfl dX10_goesHour_3 c117 (by decide) rfl rfl (Nat.le_of_ble_eq_true rfl) (by omega) (c_standNow c117 c118 hA.G hA.c7 hA.dp) rfl (fun h2 hq3 => ?_)
  subst hq3
  refine r_iload_n (pc2 := 7) 1 dX10_goesHour_6 rfl rfl rfl ?_
  refine r_iconst (pc2 := 8) (v := 0) dX10_goesHour_7 (by decide) rfl ?_
  refine r_aload_n (pc2 := 9) 0 dX10_goesHour_8 rfl rfl rfl rfl ?_
  refine r_getf (pc2 := 12) (v := .ref 118) fX10_13 dX10_goesHour_9 c117 (by decide) rfl rfl ?_
  refine r_bipush (pc2 := 14) (v := 27) dX10_goesHour_12 (by decide) rfl ?_
  refine r_ialdA (pc2 := 15) 27 dX10_goesHour_14 c118 (by decide) rfl (by decide) (by decide) rfl ?_
  refine r_callV1 (pc2 := 18) (As := [.int (nI (packS a)), .int (nI sn), .int 0, .int (nI (a 27))]) (st := [.ref 117]) kX10_273 rfl rfl dX10_goesHour_15 c117 (by decide) rfl rfl (Nat.le_of_ble_eq_true rfl) (by omega) (c_hourTo (st := (packS a)) (sn := sn) (b := 0) (dr := (a 27)) c117 c118 c122 c123 (by have := hA.plt; omega) (by omega) (by rw [hA.pdep]; exact hA.dp) (by decide) hst hA.G hA.C hA.h2 hA.lo hA.w0 hA.w1 (by omega)) rfl (fun h hq15 => ?_)
  obtain ⟨hx2, ⟨f2, c122⟩, ⟨w2, c123⟩⟩ := hq15
  have c117 := hx2.get (by decide) c117
  have c118 := hx2.get (by decide) c118
  have hx := hx.trans hx2 (by decide)
  refine r_callV0 (pc2 := 21) (As := [.int (nI (hourN a (packS a) sn 0 (a 27)))]) (st := []) kX10_276 rfl rfl dX10_goesHour_18 c117 (by decide) rfl rfl (Nat.le_of_ble_eq_true rfl) (by omega) (c_isStand (st := (hourN a (packS a) sn 0 (a 27))) c117 c118 hA.G (Nat.lt_of_lt_of_le hlt (by decide)) (by omega)) rfl (fun h hq18 => ?_)
  obtain ⟨hx3, c118⟩ := hq18
  have c117 := hx3.get (by decide) c117
  have c122 := hx3.get (by decide) c122
  have c123 := hx3.get (by decide) c123
  have hx := hx.trans hx3 (by decide)
  refine r_aload_n (pc2 := 22) 0 dX10_goesHour_21 rfl rfl rfl rfl ?_
  refine r_getf (pc2 := 25) (v := .ref 118) fX10_13 dX10_goesHour_22 c117 (by decide) rfl rfl ?_
  refine r_bipush (pc2 := 27) (v := 28) dX10_goesHour_25 (by decide) rfl ?_
  refine r_dup2 (pc2 := 28) dX10_goesHour_27 rfl rfl rfl ?_
  refine r_ialdA (pc2 := 29) 28 dX10_goesHour_28 c118 (by decide) rfl (by decide) (by decide) rfl ?_
  refine r_cast (nI (a 28)) (congrArg nI e28) ?_
  refine r_iconst (pc2 := 30) (v := 1) dX10_goesHour_29 (by decide) rfl ?_
  refine r_iadd (pc2 := 31) dX10_goesHour_30 rfl ?_
  refine r_cast (nI (a 28 + 1)) (nI_1 _) ?_
  refine r_iastN (pc2 := 32) 28 dX10_goesHour_31 c118 (by decide) rfl (by decide) (by decide) rfl (fun h z31 o31 c118 => ?_)
  rw [upd_nA] at c118
  have c117 := (o31 117 (by decide)).trans c117
  have c122 := (o31 122 (by decide)).trans c122
  have c123 := (o31 123 (by decide)).trans c123
  have hx := hx.step (a := 118) (by decide) z31 o31
  exact r_vret rfl dX10_goesHour_32 ⟨rfl, hx, c118, ⟨_, c122⟩, ⟨_, c123⟩⟩
