/-! rows filled in a stretch -/
def fillN {α : Type} (a : Nat → α) (off n : Nat) (g : Nat → α) : Nat → α := fun j => if off ≤ j ∧ j < off + n then g (j - off) else a j
theorem fillN_0 {α : Type} (a : Nat → α) (off : Nat) (g : Nat → α) : fillN a off 0 g = a := by
  funext j
  unfold fillN
  rw [if_neg (by omega)]
theorem fillN_s {α : Type} (a : Nat → α) (off k : Nat) (g : Nat → α) : va_up (fillN a off k g) (off + k) (g k) = fillN a off (k + 1) g := by
  funext j
  show (if j = off + k then g k else if off ≤ j ∧ j < off + k then g (j - off) else a j) = (if off ≤ j ∧ j < off + (k + 1) then g (j - off) else a j)
  by_cases h : j = off + k
  · rw [if_pos h, if_pos (by omega)]
    congr 1
    omega
  · rw [if_neg h]
    by_cases h2 : off ≤ j ∧ j < off + k
    · rw [if_pos h2, if_pos (by omega)]
    · rw [if_neg h2, if_neg (by omega)]
theorem fillN_in {α : Type} {a : Nat → α} {off n j : Nat} {g : Nat → α} (h : j < n) : fillN a off n g (off + j) = g j := by
  unfold fillN
  rw [if_pos (by omega)]
  congr 1
  omega
theorem fillN_out {α : Type} {a : Nat → α} {off n j : Nat} {g : Nat → α} (h : j < off ∨ off + n ≤ j) : fillN a off n g j = a j := by
  unfold fillN
  rw [if_neg (by omega)]
theorem fillN_s0 {α : Type} (a : Nat → α) (k : Nat) (g : Nat → α) : va_up (fillN a 0 k g) k (g k) = fillN a 0 (k + 1) g := by
  have := fillN_s a 0 k g
  rw [Nat.zero_add] at this
  exact this
theorem upd_up (f : Nat → Int32) (j : Nat) (x : Int32) : upd f j x = va_up f j x := rfl
set_option maxRecDepth 20000 in
set_option maxHeartbeats 1000000 in
theorem c_isStand {E : EnvT} {d : Nat} {h : Hp} {v : Nat → Int32} {a : Nat → Nat} {st : Nat} (c117 : h.1 117 = some (mO v)) (c118 : h.1 118 = some (aI 3531 (nA a))) (hG : a 3 ≤ 4) (hs : st < 2 ^ 31) (hd : 1 ≤ d) : Cn E mX10_isStand d [.ref 117, .int (nI st)] h (fun r h2 => r = none ∧ Ex [118] h h2 ∧ h2.1 118 = some (aI 3531 (nA (va_up (fillN a 22 (a 3) (fun g => st / 8 ^ g % 8)) 26 (st / 4096))))) := by
  refine Cn.go (ls := [.ref 117, .int (nI st), .float 0]) (by decide +kernel) rfl (Nat.le_of_ble_eq_true rfl) ?_
  have loop : ∀ (m k : Nat) (h1 : Hp), k + m = a 3 → Ex [118] h h1 → h1.1 117 = some (mO v) → h1.1 118 = some (aI 3531 (nA (fillN a 22 k (fun g => st / 8 ^ g % 8)))) → Fr E mX10_isStand d 2 [.ref 117, .int (nI st), .int (nI k)] [] h1 (fun r h2 => r = none ∧ Ex [118] h h2 ∧ h2.1 118 = some (aI 3531 (nA (va_up (fillN a 22 (a 3) (fun g => st / 8 ^ g % 8)) 26 (st / 4096))))) := by
    intro m
    induction m with
    | zero =>
      intro k h hk hx c117 c118
      obtain rfl : k = a 3 := by omega
      refine r_iload_n (pc2 := 3) 2 dX10_isStand_2 rfl rfl rfl ?_
      refine r_aload_n (pc2 := 4) 0 dX10_isStand_3 rfl rfl rfl rfl ?_
      refine r_getf (pc2 := 7) (v := .ref 118) fX10_13 dX10_isStand_4 c117 (by decide) rfl rfl ?_
      refine r_iconst (pc2 := 8) (v := 3) dX10_isStand_7 (by decide) rfl ?_
      refine r_ialdN (pc2 := 9) 3 dX10_isStand_8 c118 (by decide) rfl (by decide) (by decide) rfl ?_
      refine r_cast (nI (a 3)) (congrArg nI (fillN_out (Or.inl (by decide)))) ?_
      refine r_icmp_ge (tgt := 32) (pc2 := 12) dX10_isStand_9 (by decide) rfl (fun b9 => ?_) (fun b9 => ?_)
      · skip
        refine r_aload_n (pc2 := 33) 0 dX10_isStand_32 rfl rfl rfl rfl ?_
        refine r_getf (pc2 := 36) (v := .ref 118) fX10_13 dX10_isStand_33 c117 (by decide) rfl rfl ?_
        refine r_bipush (pc2 := 38) (v := 26) dX10_isStand_36 (by decide) rfl ?_
        refine r_iload_n (pc2 := 39) 1 dX10_isStand_38 rfl rfl rfl ?_
        refine r_callS1 (pc2 := 42) (As := [.int (nI st)]) (st := [.int 26, .ref 118]) kX10_231 dX10_isStand_39 rfl rfl (Nat.le_of_ble_eq_true rfl) (by omega) (c_depthIn (nI st)) rfl (fun h2 hq39 => ?_)
        subst hq39
        refine r_cast (nI (st / 4096)) (depthN hs) ?_
        refine r_iastN (pc2 := 43) 26 dX10_isStand_42 c118 (by decide) rfl (by decide) (by decide) rfl (fun h z42 o42 c118 => ?_)
        rw [upd_nA] at c118
        have c117 := (o42 117 (by decide)).trans c117
        have hx := hx.step (a := 118) (by decide) z42 o42
        exact r_vret rfl dX10_isStand_43 ⟨rfl, hx, c118⟩
      · exact absurd (nI_le (Nat.le_refl _) (by omega)) b9
    | succ m ih =>
      intro k h hk hx c117 c118
      have hlt : k < a 3 := by omega
      refine r_iload_n (pc2 := 3) 2 dX10_isStand_2 rfl rfl rfl ?_
      refine r_aload_n (pc2 := 4) 0 dX10_isStand_3 rfl rfl rfl rfl ?_
      refine r_getf (pc2 := 7) (v := .ref 118) fX10_13 dX10_isStand_4 c117 (by decide) rfl rfl ?_
      refine r_iconst (pc2 := 8) (v := 3) dX10_isStand_7 (by decide) rfl ?_
      refine r_ialdN (pc2 := 9) 3 dX10_isStand_8 c118 (by decide) rfl (by decide) (by decide) rfl ?_
      refine r_cast (nI (a 3)) (congrArg nI (fillN_out (Or.inl (by decide)))) ?_
      refine r_icmp_ge (tgt := 32) (pc2 := 12) dX10_isStand_9 (by decide) rfl (fun b9 => ?_) (fun b9 => ?_)
      · exact absurd b9 (nI_ge hlt (by omega))
      · skip
        refine r_aload_n (pc2 := 13) 0 dX10_isStand_12 rfl rfl rfl rfl ?_
        refine r_getf (pc2 := 16) (v := .ref 118) fX10_13 dX10_isStand_13 c117 (by decide) rfl rfl ?_
        refine r_bipush (pc2 := 18) (v := 22) dX10_isStand_16 (by decide) rfl ?_
        refine r_iload_n (pc2 := 19) 2 dX10_isStand_18 rfl rfl rfl ?_
        refine r_iadd (pc2 := 20) dX10_isStand_19 rfl ?_
        refine r_cast (nI (22 + k)) (nI_add 22 k) ?_
        refine r_iload_n (pc2 := 21) 1 dX10_isStand_20 rfl rfl rfl ?_
        refine r_iload_n (pc2 := 22) 2 dX10_isStand_21 rfl rfl rfl ?_
        refine r_callS1 (pc2 := 25) (As := [.int (nI st), .int (nI k)]) (st := [.int (nI (22 + k)), .ref 118]) kX10_228 dX10_isStand_22 rfl rfl (Nat.le_of_ble_eq_true rfl) (by omega) (c_cellIn (nI st) (nI k)) rfl (fun h2 hq22 => ?_)
        subst hq22
        refine r_cast (nI (st / 8 ^ k % 8)) (cellN hs (by omega)) ?_
        refine r_iastN (pc2 := 26) (22 + k) dX10_isStand_25 c118 (by decide) rfl (by omega) (by decide) rfl (fun h z25 o25 c118 => ?_)
        rw [upd_nA] at c118
        have c117 := (o25 117 (by decide)).trans c117
        have hx := hx.step (a := 118) (by decide) z25 o25
        obtain ⟨x26, e26⟩ : ∃ z : Int32, z = (nI k) + (1) := ⟨_, rfl⟩
        refine r_iinc (pc2 := 29) (ls2 := [.ref 117, .int (nI st), .int x26]) (v := x26) 2 dX10_isStand_26 rfl (by rw [e26]; rfl) rfl rfl rfl ?_
        refine r_goto (pc2 := 2) dX10_isStand_29 (by decide) ?_
        rw [e26, nI_1]
        rw [fillN_s] at c118
        exact ih (k + 1) h (by omega) hx c117 c118
  refine r_iconst (pc2 := 1) (v := 0) dX10_isStand_0 (by decide) rfl ?_
  refine r_istore_n (pc2 := 2) (ls2 := [.ref 117, .int (nI st), .int 0]) 2 dX10_isStand_1 rfl (by decide) rfl rfl rfl ?_
  exact loop (a 3) 0 h (by omega) Ex.rf c117 (by rw [fillN_0]; exact c118)
set_option maxRecDepth 20000 in
set_option maxHeartbeats 1000000 in
theorem c_keeps {E : EnvT} {d : Nat} {h : Hp} {v : Nat → Int32} {a : Nat → Nat} {f : Nat → Int32} (c117 : h.1 117 = some (mO v)) (c118 : h.1 118 = some (aI 3531 (nA a))) (c124 : h.1 124 = some (aI 23 f)) : Cn E mX10_keeps d [.ref 117] h (fun r h2 => r = none ∧ Ex [124] h h2 ∧ h2.1 124 = some (aI 23 (fillN f 0 23 (fun i => nI (a (22 + i)))))) := by
  refine Cn.go (ls := [.ref 117, .float 0]) (by decide +kernel) rfl (Nat.le_of_ble_eq_true rfl) ?_
  have loop : ∀ (m k : Nat) (h1 : Hp), k + m = 23 → Ex [124] h h1 → h1.1 117 = some (mO v) → h1.1 118 = some (aI 3531 (nA a)) → h1.1 124 = some (aI 23 (fillN f 0 k (fun i => nI (a (22 + i))))) → Fr E mX10_keeps d 2 [.ref 117, .int (nI k)] [] h1 (fun r h2 => r = none ∧ Ex [124] h h2 ∧ h2.1 124 = some (aI 23 (fillN f 0 23 (fun i => nI (a (22 + i)))))) := by
    intro m
    induction m with
    | zero =>
      intro k h hk hx c117 c118 c124
      obtain rfl : k = 23 := by omega
      refine r_iload_n (pc2 := 3) 1 dX10_keeps_2 rfl rfl rfl ?_
      refine r_bipush (pc2 := 5) (v := 23) dX10_keeps_3 (by decide) rfl ?_
      refine r_icmp_ge (tgt := 29) (pc2 := 8) dX10_keeps_5 (by decide) rfl (fun b5 => ?_) (fun b5 => ?_)
      · skip
        exact r_vret rfl dX10_keeps_29 ⟨rfl, hx, c124⟩
      · exact absurd (nI_le (a := 23) (b := 23) (Nat.le_refl _) (by decide)) b5
    | succ m ih =>
      intro k h hk hx c117 c118 c124
      have hlt : k < 23 := by omega
      refine r_iload_n (pc2 := 3) 1 dX10_keeps_2 rfl rfl rfl ?_
      refine r_bipush (pc2 := 5) (v := 23) dX10_keeps_3 (by decide) rfl ?_
      refine r_icmp_ge (tgt := 29) (pc2 := 8) dX10_keeps_5 (by decide) rfl (fun b5 => ?_) (fun b5 => ?_)
      · exact absurd b5 (nI_ge (b := 23) hlt (by decide))
      · skip
        refine r_aload_n (pc2 := 9) 0 dX10_keeps_8 rfl rfl rfl rfl ?_
        refine r_getf (pc2 := 12) (v := .ref 124) fX10_36 dX10_keeps_9 c117 (by decide) rfl rfl ?_
        refine r_iload_n (pc2 := 13) 1 dX10_keeps_12 rfl rfl rfl ?_
        refine r_aload_n (pc2 := 14) 0 dX10_keeps_13 rfl rfl rfl rfl ?_
        refine r_getf (pc2 := 17) (v := .ref 118) fX10_13 dX10_keeps_14 c117 (by decide) rfl rfl ?_
        refine r_bipush (pc2 := 19) (v := 22) dX10_keeps_17 (by decide) rfl ?_
        refine r_iload_n (pc2 := 20) 1 dX10_keeps_19 rfl rfl rfl ?_
        refine r_iadd (pc2 := 21) dX10_keeps_20 rfl ?_
        refine r_cast (nI (22 + k)) (nI_add 22 k) ?_
        refine r_ialdN (pc2 := 22) (22 + k) dX10_keeps_21 c118 (by decide) rfl (by omega) (by decide) rfl ?_
        refine r_iastN (pc2 := 23) k dX10_keeps_22 c124 (by decide) rfl (by omega) (by decide) rfl (fun h z22 o22 c124 => ?_)
        have c117 := (o22 117 (by decide)).trans c117
        have c118 := (o22 118 (by decide)).trans c118
        have hx := hx.step (a := 124) (by decide) z22 o22
        obtain ⟨x23, e23⟩ : ∃ z : Int32, z = (nI k) + (1) := ⟨_, rfl⟩
        refine r_iinc (pc2 := 26) (ls2 := [.ref 117, .int x23]) (v := x23) 1 dX10_keeps_23 rfl (by rw [e23]; rfl) rfl rfl rfl ?_
        refine r_goto (pc2 := 2) dX10_keeps_26 (by decide) ?_
        rw [e23, nI_1]
        have c124 : h.1 124 = some (aI 23 (fillN f 0 (k + 1) (fun i => nI (a (22 + i))))) := c124.trans (by rw [← fillN_s0]; rfl)
        exact ih (k + 1) h (by omega) hx c117 c118 c124
  refine r_iconst (pc2 := 1) (v := 0) dX10_keeps_0 (by decide) rfl ?_
  refine r_istore_n (pc2 := 2) (ls2 := [.ref 117, .int 0]) 1 dX10_keeps_1 rfl (by decide) rfl rfl rfl ?_
  exact loop 23 0 h (by omega) Ex.rf c117 c118 (by rw [fillN_0]; exact c124)
set_option maxRecDepth 20000 in
set_option maxHeartbeats 1000000 in
theorem c_isAgain {E : EnvT} {d : Nat} {h : Hp} {v : Nat → Int32} {a : Nat → Nat} {f : Nat → Int32} {w : Nat → Nat} (c117 : h.1 117 = some (mO v)) (c118 : h.1 118 = some (aI 3531 (nA a))) (c124 : h.1 124 = some (aI 23 f)) (hw : ∀ k, k < 23 → f k = nI (w k)) : Cn E mX10_isAgain d [.ref 117] h (fun r h2 => r = none ∧ Ex [118] h h2 ∧ h2.1 118 = some (aI 3531 (nA (fillN a 22 23 w)))) := by
  refine Cn.go (ls := [.ref 117, .float 0]) (by decide +kernel) rfl (Nat.le_of_ble_eq_true rfl) ?_
  have loop : ∀ (m k : Nat) (h1 : Hp), k + m = 23 → Ex [118] h h1 → h1.1 117 = some (mO v) → h1.1 118 = some (aI 3531 (nA (fillN a 22 k w))) → h1.1 124 = some (aI 23 f) → Fr E mX10_isAgain d 2 [.ref 117, .int (nI k)] [] h1 (fun r h2 => r = none ∧ Ex [118] h h2 ∧ h2.1 118 = some (aI 3531 (nA (fillN a 22 23 w)))) := by
    intro m
    induction m with
    | zero =>
      intro k h hk hx c117 c118 c124
      obtain rfl : k = 23 := by omega
      refine r_iload_n (pc2 := 3) 1 dX10_isAgain_2 rfl rfl rfl ?_
      refine r_bipush (pc2 := 5) (v := 23) dX10_isAgain_3 (by decide) rfl ?_
      refine r_icmp_ge (tgt := 29) (pc2 := 8) dX10_isAgain_5 (by decide) rfl (fun b5 => ?_) (fun b5 => ?_)
      · skip
        exact r_vret rfl dX10_isAgain_29 ⟨rfl, hx, c118⟩
      · exact absurd (nI_le (a := 23) (b := 23) (Nat.le_refl _) (by decide)) b5
    | succ m ih =>
      intro k h hk hx c117 c118 c124
      have hlt : k < 23 := by omega
      refine r_iload_n (pc2 := 3) 1 dX10_isAgain_2 rfl rfl rfl ?_
      refine r_bipush (pc2 := 5) (v := 23) dX10_isAgain_3 (by decide) rfl ?_
      refine r_icmp_ge (tgt := 29) (pc2 := 8) dX10_isAgain_5 (by decide) rfl (fun b5 => ?_) (fun b5 => ?_)
      · exact absurd b5 (nI_ge (b := 23) hlt (by decide))
      · skip
        refine r_aload_n (pc2 := 9) 0 dX10_isAgain_8 rfl rfl rfl rfl ?_
        refine r_getf (pc2 := 12) (v := .ref 118) fX10_13 dX10_isAgain_9 c117 (by decide) rfl rfl ?_
        refine r_bipush (pc2 := 14) (v := 22) dX10_isAgain_12 (by decide) rfl ?_
        refine r_iload_n (pc2 := 15) 1 dX10_isAgain_14 rfl rfl rfl ?_
        refine r_iadd (pc2 := 16) dX10_isAgain_15 rfl ?_
        refine r_cast (nI (22 + k)) (nI_add 22 k) ?_
        refine r_aload_n (pc2 := 17) 0 dX10_isAgain_16 rfl rfl rfl rfl ?_
        refine r_getf (pc2 := 20) (v := .ref 124) fX10_36 dX10_isAgain_17 c117 (by decide) rfl rfl ?_
        refine r_iload_n (pc2 := 21) 1 dX10_isAgain_20 rfl rfl rfl ?_
        refine r_ialdN (pc2 := 22) k dX10_isAgain_21 c124 (by decide) rfl (by omega) (by decide) rfl ?_
        refine r_cast (nI (w k)) (hw k (by omega)) ?_
        refine r_iastN (pc2 := 23) (22 + k) dX10_isAgain_22 c118 (by decide) rfl (by omega) (by decide) rfl (fun h z22 o22 c118 => ?_)
        rw [upd_nA] at c118
        have c117 := (o22 117 (by decide)).trans c117
        have c124 := (o22 124 (by decide)).trans c124
        have hx := hx.step (a := 118) (by decide) z22 o22
        obtain ⟨x23, e23⟩ : ∃ z : Int32, z = (nI k) + (1) := ⟨_, rfl⟩
        refine r_iinc (pc2 := 26) (ls2 := [.ref 117, .int x23]) (v := x23) 1 dX10_isAgain_23 rfl (by rw [e23]; rfl) rfl rfl rfl ?_
        refine r_goto (pc2 := 2) dX10_isAgain_26 (by decide) ?_
        rw [e23, nI_1]
        rw [fillN_s] at c118
        exact ih (k + 1) h (by omega) hx c117 c118 c124
  refine r_iconst (pc2 := 1) (v := 0) dX10_isAgain_0 (by decide) rfl ?_
  refine r_istore_n (pc2 := 2) (ls2 := [.ref 117, .int 0]) 1 dX10_isAgain_1 rfl (by decide) rfl rfl rfl ?_
  exact loop 23 0 h (by omega) Ex.rf c117 (by rw [fillN_0]; exact c118) c124
/-- the row with one more kept stand -/
def shiftD (a : Nat → Nat) : Nat → Nat := va_up (fillN a 46 207 (fun j => a (69 + j))) 45 (a 45 - 1)
def notesB (a : Nat → Nat) (w : Nat → Nat) : Nat → Nat := va_up (fillN a (46 + 23 * a 45) 23 w) 45 (a 45 + 1)
def notesN (a : Nat → Nat) (w : Nat → Nat) : Nat → Nat := if a 45 = 10 then notesB (shiftD a) w else notesB a w
set_option maxRecDepth 20000 in
set_option maxHeartbeats 1000000 in
theorem notes_56 {E : EnvT} {d : Nat} {h : Hp} {v : Nat → Int32} {a : Nat → Nat} {f : Nat → Int32} {w : Nat → Nat} {u : Value} (c117 : h.1 117 = some (mO v)) (c118 : h.1 118 = some (aI 3531 (nA a))) (c124 : h.1 124 = some (aI 23 f)) (hw : ∀ k, k < 23 → f k = nI (w k)) (h45 : a 45 < 10) : Fr E mX10_notes d 56 [.ref 117, u] [] h (fun r h2 => r = none ∧ Ex [118] h h2 ∧ h2.1 118 = some (aI 3531 (nA (notesB a w)))) := by
  have loop : ∀ (m k : Nat) (h1 : Hp), k + m = 23 → Ex [118] h h1 → h1.1 117 = some (mO v) → h1.1 118 = some (aI 3531 (nA (fillN a (46 + 23 * a 45) k w))) → h1.1 124 = some (aI 23 f) → Fr E mX10_notes d 58 [.ref 117, .int (nI k)] [] h1 (fun r h2 => r = none ∧ Ex [118] h h2 ∧ h2.1 118 = some (aI 3531 (nA (notesB a w)))) := by
    intro m
    induction m with
    | zero =>
      intro k h hk hx c117 c118 c124
      obtain rfl : k = 23 := by omega
      refine r_iload_n (pc2 := 59) 1 dX10_notes_58 rfl rfl rfl ?_
      refine r_bipush (pc2 := 61) (v := 23) dX10_notes_59 (by decide) rfl ?_
      refine r_icmp_ge (tgt := 96) (pc2 := 64) dX10_notes_61 (by decide) rfl (fun b61 => ?_) (fun b61 => ?_)
      · skip
        refine r_aload_n (pc2 := 97) 0 dX10_notes_96 rfl rfl rfl rfl ?_
        refine r_getf (pc2 := 100) (v := .ref 118) fX10_13 dX10_notes_97 c117 (by decide) rfl rfl ?_
        refine r_bipush (pc2 := 102) (v := 45) dX10_notes_100 (by decide) rfl ?_
        refine r_dup2 (pc2 := 103) dX10_notes_102 rfl rfl rfl ?_
        refine r_ialdN (pc2 := 104) 45 dX10_notes_103 c118 (by decide) rfl (by decide) (by decide) rfl ?_
        refine r_cast (nI (a 45)) (congrArg nI (fillN_out (Or.inl (by omega)))) ?_
        refine r_iconst (pc2 := 105) (v := 1) dX10_notes_104 (by decide) rfl ?_
        refine r_iadd (pc2 := 106) dX10_notes_105 rfl ?_
        refine r_cast (nI (a 45 + 1)) (nI_1 (a 45)) ?_
        refine r_iastN (pc2 := 107) 45 dX10_notes_106 c118 (by decide) rfl (by decide) (by decide) rfl (fun h z106 o106 c118 => ?_)
        rw [upd_nA] at c118
        have c117 := (o106 117 (by decide)).trans c117
        have c124 := (o106 124 (by decide)).trans c124
        have hx := hx.step (a := 118) (by decide) z106 o106
        exact r_vret rfl dX10_notes_107 ⟨rfl, hx, c118⟩
      · exact absurd (nI_le (a := 23) (b := 23) (Nat.le_refl _) (by decide)) b61
    | succ m ih =>
      intro k h hk hx c117 c118 c124
      have hlt : k < 23 := by omega
      refine r_iload_n (pc2 := 59) 1 dX10_notes_58 rfl rfl rfl ?_
      refine r_bipush (pc2 := 61) (v := 23) dX10_notes_59 (by decide) rfl ?_
      refine r_icmp_ge (tgt := 96) (pc2 := 64) dX10_notes_61 (by decide) rfl (fun b61 => ?_) (fun b61 => ?_)
      · exact absurd b61 (nI_ge (b := 23) hlt (by decide))
      · skip
        refine r_aload_n (pc2 := 65) 0 dX10_notes_64 rfl rfl rfl rfl ?_
        refine r_getf (pc2 := 68) (v := .ref 118) fX10_13 dX10_notes_65 c117 (by decide) rfl rfl ?_
        refine r_bipush (pc2 := 70) (v := 46) dX10_notes_68 (by decide) rfl ?_
        refine r_bipush (pc2 := 72) (v := 23) dX10_notes_70 (by decide) rfl ?_
        refine r_aload_n (pc2 := 73) 0 dX10_notes_72 rfl rfl rfl rfl ?_
        refine r_getf (pc2 := 76) (v := .ref 118) fX10_13 dX10_notes_73 c117 (by decide) rfl rfl ?_
        refine r_bipush (pc2 := 78) (v := 45) dX10_notes_76 (by decide) rfl ?_
        refine r_ialdN (pc2 := 79) 45 dX10_notes_78 c118 (by decide) rfl (by decide) (by decide) rfl ?_
        refine r_cast (nI (a 45)) (congrArg nI (fillN_out (Or.inl (by omega)))) ?_
        refine r_imul (pc2 := 80) dX10_notes_79 rfl ?_
        refine r_cast (nI (23 * a 45)) (pk_mul 23 (a 45)) ?_
        refine r_iadd (pc2 := 81) dX10_notes_80 rfl ?_
        refine r_cast (nI (46 + 23 * a 45)) (nI_add 46 (23 * a 45)) ?_
        refine r_iload_n (pc2 := 82) 1 dX10_notes_81 rfl rfl rfl ?_
        refine r_iadd (pc2 := 83) dX10_notes_82 rfl ?_
        refine r_cast (nI (46 + 23 * a 45 + k)) (nI_add (46 + 23 * a 45) k) ?_
        refine r_aload_n (pc2 := 84) 0 dX10_notes_83 rfl rfl rfl rfl ?_
        refine r_getf (pc2 := 87) (v := .ref 124) fX10_36 dX10_notes_84 c117 (by decide) rfl rfl ?_
        refine r_iload_n (pc2 := 88) 1 dX10_notes_87 rfl rfl rfl ?_
        refine r_ialdN (pc2 := 89) k dX10_notes_88 c124 (by decide) rfl (by omega) (by decide) rfl ?_
        refine r_cast (nI (w k)) (hw k (by omega)) ?_
        refine r_iastN (pc2 := 90) (46 + 23 * a 45 + k) dX10_notes_89 c118 (by decide) rfl (by omega) (by decide) rfl (fun h z89 o89 c118 => ?_)
        rw [upd_nA] at c118
        have c117 := (o89 117 (by decide)).trans c117
        have c124 := (o89 124 (by decide)).trans c124
        have hx := hx.step (a := 118) (by decide) z89 o89
        obtain ⟨x90, e90⟩ : ∃ z : Int32, z = (nI k) + (1) := ⟨_, rfl⟩
        refine r_iinc (pc2 := 93) (ls2 := [.ref 117, .int x90]) (v := x90) 1 dX10_notes_90 rfl (by rw [e90]; rfl) rfl rfl rfl ?_
        refine r_goto (pc2 := 58) dX10_notes_93 (by decide) ?_
        rw [e90, nI_1]
        rw [fillN_s] at c118
        exact ih (k + 1) h (by omega) hx c117 c118 c124
  refine r_iconst (pc2 := 57) (v := 0) dX10_notes_56 (by decide) rfl ?_
  refine r_istore_n (pc2 := 58) (ls2 := [.ref 117, .int 0]) 1 dX10_notes_57 rfl (by decide) rfl rfl rfl ?_
  exact loop 23 0 h (by omega) Ex.rf c117 (by rw [fillN_0]; exact c118) c124
set_option maxRecDepth 20000 in
set_option maxHeartbeats 1000000 in
theorem c_notes {E : EnvT} {d : Nat} {h : Hp} {v : Nat → Int32} {a : Nat → Nat} {f : Nat → Int32} {w : Nat → Nat} (c117 : h.1 117 = some (mO v)) (c118 : h.1 118 = some (aI 3531 (nA a))) (c124 : h.1 124 = some (aI 23 f)) (hw : ∀ k, k < 23 → f k = nI (w k)) (h45 : a 45 ≤ 10) : Cn E mX10_notes d [.ref 117] h (fun r h2 => r = none ∧ Ex [118] h h2 ∧ h2.1 118 = some (aI 3531 (nA (notesN a w)))) := by
  refine Cn.go (ls := [.ref 117, .float 0]) (by decide +kernel) rfl (Nat.le_of_ble_eq_true rfl) ?_
  have loop : a 45 = 10 → ∀ (m k : Nat) (h1 : Hp), k + m = 207 → Ex [118] h h1 → h1.1 117 = some (mO v) → h1.1 118 = some (aI 3531 (nA (fillN a 46 k (fun j => a (69 + j))))) → h1.1 124 = some (aI 23 f) → Fr E mX10_notes d 14 [.ref 117, .int (nI k)] [] h1 (fun r h2 => r = none ∧ Ex [118] h h2 ∧ h2.1 118 = some (aI 3531 (nA (notesN a w)))) := by
    intro h10 m
    induction m with
    | zero =>
      intro k h hk hx c117 c118 c124
      obtain rfl : k = 207 := by omega
      refine r_iload_n (pc2 := 15) 1 dX10_notes_14 rfl rfl rfl ?_
      refine r_sipush (pc2 := 18) (v := 207) dX10_notes_15 (by decide) rfl ?_
      refine r_icmp_ge (tgt := 45) (pc2 := 21) dX10_notes_18 (by decide) rfl (fun b18 => ?_) (fun b18 => ?_)
      · skip
        refine r_aload_n (pc2 := 46) 0 dX10_notes_45 rfl rfl rfl rfl ?_
        refine r_getf (pc2 := 49) (v := .ref 118) fX10_13 dX10_notes_46 c117 (by decide) rfl rfl ?_
        refine r_bipush (pc2 := 51) (v := 45) dX10_notes_49 (by decide) rfl ?_
        refine r_dup2 (pc2 := 52) dX10_notes_51 rfl rfl rfl ?_
        refine r_ialdN (pc2 := 53) 45 dX10_notes_52 c118 (by decide) rfl (by decide) (by decide) rfl ?_
        refine r_cast (nI (a 45)) (congrArg nI (fillN_out (Or.inl (by decide)))) ?_
        refine r_iconst (pc2 := 54) (v := 1) dX10_notes_53 (by decide) rfl ?_
        refine r_isub (pc2 := 55) dX10_notes_54 rfl ?_
        refine r_cast (nI (a 45 - 1)) (pm1 (by omega)) ?_
        refine r_iastN (pc2 := 56) 45 dX10_notes_55 c118 (by decide) rfl (by decide) (by decide) rfl (fun h z55 o55 c118 => ?_)
        rw [upd_nA] at c118
        have c117 := (o55 117 (by decide)).trans c117
        have c124 := (o55 124 (by decide)).trans c124
        have hx := hx.step (a := 118) (by decide) z55 o55
        refine (notes_56 (a := shiftD a) c117 c118 c124 hw (by unfold shiftD; rw [va_up_self]; omega)).mono ?_
        rintro r h2 ⟨q1, q2, q3⟩
        refine ⟨q1, hx.trans q2 (by decide), ?_⟩
        rw [q3, notesN, if_pos h10]
      · exact absurd (nI_le (a := 207) (b := 207) (Nat.le_refl _) (by decide)) b18
    | succ m ih =>
      intro k h hk hx c117 c118 c124
      have hlt : k < 207 := by omega
      refine r_iload_n (pc2 := 15) 1 dX10_notes_14 rfl rfl rfl ?_
      refine r_sipush (pc2 := 18) (v := 207) dX10_notes_15 (by decide) rfl ?_
      refine r_icmp_ge (tgt := 45) (pc2 := 21) dX10_notes_18 (by decide) rfl (fun b18 => ?_) (fun b18 => ?_)
      · exact absurd b18 (nI_ge (b := 207) hlt (by decide))
      · skip
        refine r_aload_n (pc2 := 22) 0 dX10_notes_21 rfl rfl rfl rfl ?_
        refine r_getf (pc2 := 25) (v := .ref 118) fX10_13 dX10_notes_22 c117 (by decide) rfl rfl ?_
        refine r_bipush (pc2 := 27) (v := 46) dX10_notes_25 (by decide) rfl ?_
        refine r_iload_n (pc2 := 28) 1 dX10_notes_27 rfl rfl rfl ?_
        refine r_iadd (pc2 := 29) dX10_notes_28 rfl ?_
        refine r_cast (nI (46 + k)) (nI_add 46 k) ?_
        refine r_aload_n (pc2 := 30) 0 dX10_notes_29 rfl rfl rfl rfl ?_
        refine r_getf (pc2 := 33) (v := .ref 118) fX10_13 dX10_notes_30 c117 (by decide) rfl rfl ?_
        refine r_bipush (pc2 := 35) (v := 69) dX10_notes_33 (by decide) rfl ?_
        refine r_iload_n (pc2 := 36) 1 dX10_notes_35 rfl rfl rfl ?_
        refine r_iadd (pc2 := 37) dX10_notes_36 rfl ?_
        refine r_cast (nI (69 + k)) (nI_add 69 k) ?_
        refine r_ialdN (pc2 := 38) (69 + k) dX10_notes_37 c118 (by decide) rfl (by omega) (by decide) rfl ?_
        refine r_cast (nI (a (69 + k))) (congrArg nI (fillN_out (Or.inr (by omega)))) ?_
        refine r_iastN (pc2 := 39) (46 + k) dX10_notes_38 c118 (by decide) rfl (by omega) (by decide) rfl (fun h z38 o38 c118 => ?_)
        rw [upd_nA] at c118
        have c117 := (o38 117 (by decide)).trans c117
        have c124 := (o38 124 (by decide)).trans c124
        have hx := hx.step (a := 118) (by decide) z38 o38
        obtain ⟨x39, e39⟩ : ∃ z : Int32, z = (nI k) + (1) := ⟨_, rfl⟩
        refine r_iinc (pc2 := 42) (ls2 := [.ref 117, .int x39]) (v := x39) 1 dX10_notes_39 rfl (by rw [e39]; rfl) rfl rfl rfl ?_
        refine r_goto (pc2 := 14) dX10_notes_42 (by decide) ?_
        rw [e39, nI_1]
        rw [fillN_s] at c118
        exact ih (k + 1) h (by omega) hx c117 c118 c124
  refine r_aload_n (pc2 := 1) 0 dX10_notes_0 rfl rfl rfl rfl ?_
  refine r_getf (pc2 := 4) (v := .ref 118) fX10_13 dX10_notes_1 c117 (by decide) rfl rfl ?_
  refine r_bipush (pc2 := 6) (v := 45) dX10_notes_4 (by decide) rfl ?_
  refine r_ialdN (pc2 := 7) 45 dX10_notes_6 c118 (by decide) rfl (by decide) (by decide) rfl ?_
  refine r_bipush (pc2 := 9) (v := 10) dX10_notes_7 (by decide) rfl ?_
  refine r_icmp_ne (tgt := 56) (pc2 := 12) dX10_notes_9 (by decide) rfl (fun b9 => ?_) (fun b9 => ?_)
  · skip
    refine (notes_56 c117 c118 c124 hw ?_).mono ?_
    · have : ¬ nI (a 45) = nI 10 := b9
      rw [nI_eq (by omega) (by omega)] at this
      omega
    · rintro r h2 ⟨q1, q2, q3⟩
      refine ⟨q1, q2, ?_⟩
      have : ¬ nI (a 45) = nI 10 := b9
      rw [nI_eq (by omega) (by omega)] at this
      rw [q3, notesN, if_neg this]
  · skip
    refine r_iconst (pc2 := 13) (v := 0) dX10_notes_12 (by decide) rfl ?_
    refine r_istore_n (pc2 := 14) (ls2 := [.ref 117, .int 0]) 1 dX10_notes_13 rfl (by decide) rfl rfl rfl ?_
    have b9 : nI (a 45) = nI 10 := b9
    rw [nI_eq (by omega) (by omega)] at b9
    exact loop b9 207 0 h (by omega) Ex.rf c117 (by rw [fillN_0]; exact c118) c124
