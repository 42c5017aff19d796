/-! the class: its reader: tokens -/
abbrev TkT : Type := Int32 × Int32 × Int32 × Int32 × Int32
def rdL (n : Nat) (ta ne inz pt cl : Int32) (tv : Value) (t : TkT) : List Value := [.int t.1, .int t.2.1, .int ta, .ref 66, .int (nI n), .int t.2.2.1, .int t.2.2.2.1, .int t.2.2.2.2, .int ne, .int inz, .int pt, .ref 67, .int cl, tv]
/-- a byte of the tape as the class sees it -/
def sb (c : Nat) : Int32 := (nI c).toInt8.toInt32
def kO9 (c : Nat) : Nat := if isSm c = true then 1 else if isDg c = true then 2 else if sgF c 12 = 26 then 4 else 3
def ckK (tp : Nat → Nat) (n p : Nat) : Nat := if n ≤ lxS tp n p then 0 else kO9 (tp (lxS tp n p))
abbrev PY : Type := Except (Nat × Nat) Nat
/-- what a place stands for, a token that is none being a fault at once -/
def nrp (tp : Nat → Nat) (n p : Nat) : PY := if lxK tp n p = 26 then .error (1, lxS tp n p) else .ok p
def TK (tp : Nat → Nat) (n : Nat) (y : PY) (t : TkT) : Prop := match y with
  | .ok p => p ≤ n ∧ lxK tp n p ≠ 26 ∧ t = (0, -1, nI (ckK tp n p), nI (lxS tp n p), nI (lxE tp n p))
  | .error (w, a) => ∃ s e, (1 ≤ w ∧ w ≤ 4) ∧ s ≤ 1000 ∧ e ≤ 1000 ∧ t = (nI w, nI a, 0, nI s, nI e)
def advY (tp : Nat → Nat) (n : Nat) (y : PY) : PY := match y with
  | .ok p => nrp tp n (lxE tp n p)
  | .error e => .error e
def TPo (tp : Nat → Nat) (h : Hp) : Prop := ∃ tb, h.1 66 = some (aB 900 tb) ∧ ∀ j, j < 900 → tb j = sb (tp j)
theorem TPo.ex {tp : Nat → Nat} {h h2 : Hp} {S : List Nat} (x : TPo tp h) (e : Ex S h h2) (hS : 66 ∉ S) : TPo tp h2 := by
  obtain ⟨tb, x1, x2⟩ := x
  exact ⟨tb, e.get hS x1, x2⟩
def byA (tp : Nat → Nat) (n j : Nat) : Int32 := if j < n then sb (tp j) else 0
theorem sbb_sm : ∀ c, c < 256 → (isSm c = true → (¬ sb c < 97) ∧ sb c ≤ 122) ∧ (isSm c = false → ¬ ((¬ sb c < 97) ∧ sb c ≤ 122)) := by decide +kernel
theorem sbb_dg : ∀ c, c < 256 → (isDg c = true → (¬ sb c < 48) ∧ sb c ≤ 57) ∧ (isDg c = false → ¬ ((¬ sb c < 48) ∧ sb c ≤ 57)) := by decide +kernel
theorem sb_lsw : ∀ c, c < 256 → Op.lookupswitch.offset [(40, 107), (41, 107), (42, 107), (43, 107), (45, 107), (58, 107), (59, 107), (60, 107), (61, 107), (62, 107), (91, 107), (93, 107)] 109 (sb c).toInt = if sgF c 12 = 26 then 109 else 107 := by decide +kernel
theorem sbb_lit : ∀ c, c < 256 → (sb c = 10 ↔ c = 10) ∧ (sb c = 32 ↔ c = 32) := by decide +kernel
theorem sbb_eq : ∀ c, c < 256 → ∀ k, k < 128 → (sb c = nI k ↔ c = k) := by decide +kernel
set_option maxRecDepth 20000 in
set_option maxHeartbeats 1000000 in
theorem c_byteAt {E : EnvT} {d : Nat} {h0 : Hp} {n : Nat} {ta ne inz pt cl : Int32} {tv : Value} {t : TkT} {tp : Nat → Nat} {j : Nat} (c65 : h0.1 65 = some (.inr (3, rdL n ta ne inz pt cl tv t))) (hP : TPo tp h0) (hn : n ≤ 900) (hj9 : j ≤ 2000) : Cn E mX3_byteAt d [.ref 65, .int (nI j)] h0 (fun r h2 => r = some (.int (byA tp n j)) ∧ h2 = h0) := by
  obtain ⟨tb, c66, hb⟩ := hP
  by_cases hj : j < n
  · skip
    refine Cn.go (ls := [.ref 65, .int (nI j)]) (by decide +kernel) rfl (Nat.le_of_ble_eq_true rfl) ?_
    refine r_iload_n (pc2 := 1) 1 dX3_byteAt_0 rfl rfl rfl ?_
    refine r_if_lt (tgt := 21) (pc2 := 4) dX3_byteAt_1 (by decide) rfl (fun b1 => ?_) (fun b1 => ?_)
    · exact absurd b1 (nI_pos (by omega))
    · skip
      refine r_iload_n (pc2 := 5) 1 dX3_byteAt_4 rfl rfl rfl ?_
      refine r_aload_n (pc2 := 6) 0 dX3_byteAt_5 rfl rfl rfl rfl ?_
      refine r_getf (pc2 := 9) (v := .int (nI n)) fX3_41 dX3_byteAt_6 c65 (by decide) rfl rfl ?_
      refine r_icmp_ge (tgt := 21) (pc2 := 12) dX3_byteAt_9 (by decide) rfl (fun b9 => ?_) (fun b9 => ?_)
      · exact absurd b9 (nI_ge hj (by omega))
      · skip
        refine r_aload_n (pc2 := 13) 0 dX3_byteAt_12 rfl rfl rfl rfl ?_
        refine r_getf (pc2 := 16) (v := .ref 66) fX3_15 dX3_byteAt_13 c65 (by decide) rfl rfl ?_
        refine r_iload_n (pc2 := 17) 1 dX3_byteAt_16 rfl rfl rfl ?_
        refine r_baldN (pc2 := 18) j dX3_byteAt_17 c66 (by decide) rfl (by omega) (by decide) rfl ?_
        refine r_goto (pc2 := 22) dX3_byteAt_18 (by decide) ?_
        exact r_iret rfl dX3_byteAt_22 ⟨by unfold byA; rw [if_pos hj, hb j (by omega)], rfl⟩
  · skip
    refine Cn.go (ls := [.ref 65, .int (nI j)]) (by decide +kernel) rfl (Nat.le_of_ble_eq_true rfl) ?_
    refine r_iload_n (pc2 := 1) 1 dX3_byteAt_0 rfl rfl rfl ?_
    refine r_if_lt (tgt := 21) (pc2 := 4) dX3_byteAt_1 (by decide) rfl (fun b1 => ?_) (fun b1 => ?_)
    · exact absurd b1 (nI_pos (by omega))
    · skip
      refine r_iload_n (pc2 := 5) 1 dX3_byteAt_4 rfl rfl rfl ?_
      refine r_aload_n (pc2 := 6) 0 dX3_byteAt_5 rfl rfl rfl rfl ?_
      refine r_getf (pc2 := 9) (v := .int (nI n)) fX3_41 dX3_byteAt_6 c65 (by decide) rfl rfl ?_
      refine r_icmp_ge (tgt := 21) (pc2 := 12) dX3_byteAt_9 (by decide) rfl (fun b9 => ?_) (fun b9 => ?_)
      · skip
        refine r_iconst (pc2 := 22) (v := 0) dX3_byteAt_21 (by decide) rfl ?_
        exact r_iret rfl dX3_byteAt_22 ⟨by unfold byA; rw [if_neg hj], rfl⟩
      · exact absurd (nI_le (by omega) (by omega)) b9
set_option maxRecDepth 20000 in
set_option maxHeartbeats 1000000 in
theorem c_kindOf {E : EnvT} {d : Nat} {h0 : Hp} {c : Nat} (hc : c < 256) : Cn E mX3_kindOf d [.int (sb c)] h0 (fun r h2 => r = some (.int (nI (kO9 c))) ∧ h2 = h0) := by
  cases h1 : isSm c with
  | true =>
    refine Cn.go (ls := [.int (sb c)]) (by decide +kernel) rfl (Nat.le_of_ble_eq_true rfl) ?_
    refine r_iload_n (pc2 := 1) 0 dX3_kindOf_0 rfl rfl rfl ?_
    refine r_bipush (pc2 := 3) (v := 97) dX3_kindOf_1 (by decide) rfl ?_
    refine r_icmp_lt (tgt := 14) (pc2 := 6) dX3_kindOf_3 (by decide) rfl (fun b3 => ?_) (fun b3 => ?_)
    · exact absurd b3 ((sbb_sm c hc).1 h1).1
    · skip
      refine r_iload_n (pc2 := 7) 0 dX3_kindOf_6 rfl rfl rfl ?_
      refine r_bipush (pc2 := 9) (v := 122) dX3_kindOf_7 (by decide) rfl ?_
      refine r_icmp_gt (tgt := 14) (pc2 := 12) dX3_kindOf_9 (by decide) rfl (fun b9 => ?_) (fun b9 => ?_)
      · exact absurd b9 (Int32.not_lt.mpr ((sbb_sm c hc).1 h1).2)
      · skip
        refine r_iconst (pc2 := 13) (v := 1) dX3_kindOf_12 (by decide) rfl ?_
        exact r_iret rfl dX3_kindOf_13 ⟨by unfold kO9; rw [if_pos h1]; rfl, rfl⟩
  | false =>
    cases h2 : isDg c with
    | true =>
      refine Cn.go (ls := [.int (sb c)]) (by decide +kernel) rfl (Nat.le_of_ble_eq_true rfl) ?_
      refine r_iload_n (pc2 := 1) 0 dX3_kindOf_0 rfl rfl rfl ?_
      refine r_bipush (pc2 := 3) (v := 97) dX3_kindOf_1 (by decide) rfl ?_
      refine r_icmp_lt (tgt := 14) (pc2 := 6) dX3_kindOf_3 (by decide) rfl (fun b3 => ?_) (fun b3 => ?_)
      · skip
        refine r_iload_n (pc2 := 15) 0 dX3_kindOf_14 rfl rfl rfl ?_
        refine r_bipush (pc2 := 17) (v := 48) dX3_kindOf_15 (by decide) rfl ?_
        refine r_icmp_lt (tgt := 28) (pc2 := 20) dX3_kindOf_17 (by decide) rfl (fun b17 => ?_) (fun b17 => ?_)
        · exact absurd b17 ((sbb_dg c hc).1 h2).1
        · skip
          refine r_iload_n (pc2 := 21) 0 dX3_kindOf_20 rfl rfl rfl ?_
          refine r_bipush (pc2 := 23) (v := 57) dX3_kindOf_21 (by decide) rfl ?_
          refine r_icmp_gt (tgt := 28) (pc2 := 26) dX3_kindOf_23 (by decide) rfl (fun b23 => ?_) (fun b23 => ?_)
          · exact absurd b23 (Int32.not_lt.mpr ((sbb_dg c hc).1 h2).2)
          · skip
            refine r_iconst (pc2 := 27) (v := 2) dX3_kindOf_26 (by decide) rfl ?_
            exact r_iret rfl dX3_kindOf_27 ⟨by unfold kO9; rw [if_neg (by rw [h1]; decide), if_pos h2]; rfl, rfl⟩
      · skip
        refine r_iload_n (pc2 := 7) 0 dX3_kindOf_6 rfl rfl rfl ?_
        refine r_bipush (pc2 := 9) (v := 122) dX3_kindOf_7 (by decide) rfl ?_
        refine r_icmp_gt (tgt := 14) (pc2 := 12) dX3_kindOf_9 (by decide) rfl (fun b9 => ?_) (fun b9 => ?_)
        · skip
          refine r_iload_n (pc2 := 15) 0 dX3_kindOf_14 rfl rfl rfl ?_
          refine r_bipush (pc2 := 17) (v := 48) dX3_kindOf_15 (by decide) rfl ?_
          refine r_icmp_lt (tgt := 28) (pc2 := 20) dX3_kindOf_17 (by decide) rfl (fun b17 => ?_) (fun b17 => ?_)
          · exact absurd b17 ((sbb_dg c hc).1 h2).1
          · skip
            refine r_iload_n (pc2 := 21) 0 dX3_kindOf_20 rfl rfl rfl ?_
            refine r_bipush (pc2 := 23) (v := 57) dX3_kindOf_21 (by decide) rfl ?_
            refine r_icmp_gt (tgt := 28) (pc2 := 26) dX3_kindOf_23 (by decide) rfl (fun b23 => ?_) (fun b23 => ?_)
            · exact absurd b23 (Int32.not_lt.mpr ((sbb_dg c hc).1 h2).2)
            · skip
              refine r_iconst (pc2 := 27) (v := 2) dX3_kindOf_26 (by decide) rfl ?_
              exact r_iret rfl dX3_kindOf_27 ⟨by unfold kO9; rw [if_neg (by rw [h1]; decide), if_pos h2]; rfl, rfl⟩
        · exact absurd ⟨b3, Int32.not_lt.mp b9⟩ ((sbb_sm c hc).2 h1)
    | false =>
      by_cases h3 : sgF c 12 = 26
      · skip
        refine Cn.go (ls := [.int (sb c)]) (by decide +kernel) rfl (Nat.le_of_ble_eq_true rfl) ?_
        refine r_iload_n (pc2 := 1) 0 dX3_kindOf_0 rfl rfl rfl ?_
        refine r_bipush (pc2 := 3) (v := 97) dX3_kindOf_1 (by decide) rfl ?_
        refine r_icmp_lt (tgt := 14) (pc2 := 6) dX3_kindOf_3 (by decide) rfl (fun b3 => ?_) (fun b3 => ?_)
        · skip
          refine r_iload_n (pc2 := 15) 0 dX3_kindOf_14 rfl rfl rfl ?_
          refine r_bipush (pc2 := 17) (v := 48) dX3_kindOf_15 (by decide) rfl ?_
          refine r_icmp_lt (tgt := 28) (pc2 := 20) dX3_kindOf_17 (by decide) rfl (fun b17 => ?_) (fun b17 => ?_)
          · skip
            refine r_iload_n (pc2 := 29) 0 dX3_kindOf_28 rfl rfl rfl ?_
            refine r_lsw (pc2 := 0) (tgt := 138) (off := 109) dX3_kindOf_29 (by decide) ((sb_lsw c hc).trans (if_pos h3)) (by decide) ?_
            refine r_iconst (pc2 := 139) (v := 4) dX3_kindOf_138 (by decide) rfl ?_
            exact r_iret rfl dX3_kindOf_139 ⟨by unfold kO9; rw [if_neg (by rw [h1]; decide), if_neg (by rw [h2]; decide), if_pos h3]; rfl, rfl⟩
          · skip
            refine r_iload_n (pc2 := 21) 0 dX3_kindOf_20 rfl rfl rfl ?_
            refine r_bipush (pc2 := 23) (v := 57) dX3_kindOf_21 (by decide) rfl ?_
            refine r_icmp_gt (tgt := 28) (pc2 := 26) dX3_kindOf_23 (by decide) rfl (fun b23 => ?_) (fun b23 => ?_)
            · skip
              refine r_iload_n (pc2 := 29) 0 dX3_kindOf_28 rfl rfl rfl ?_
              refine r_lsw (pc2 := 0) (tgt := 138) (off := 109) dX3_kindOf_29 (by decide) ((sb_lsw c hc).trans (if_pos h3)) (by decide) ?_
              refine r_iconst (pc2 := 139) (v := 4) dX3_kindOf_138 (by decide) rfl ?_
              exact r_iret rfl dX3_kindOf_139 ⟨by unfold kO9; rw [if_neg (by rw [h1]; decide), if_neg (by rw [h2]; decide), if_pos h3]; rfl, rfl⟩
            · exact absurd ⟨b17, Int32.not_lt.mp b23⟩ ((sbb_dg c hc).2 h2)
        · skip
          refine r_iload_n (pc2 := 7) 0 dX3_kindOf_6 rfl rfl rfl ?_
          refine r_bipush (pc2 := 9) (v := 122) dX3_kindOf_7 (by decide) rfl ?_
          refine r_icmp_gt (tgt := 14) (pc2 := 12) dX3_kindOf_9 (by decide) rfl (fun b9 => ?_) (fun b9 => ?_)
          · skip
            refine r_iload_n (pc2 := 15) 0 dX3_kindOf_14 rfl rfl rfl ?_
            refine r_bipush (pc2 := 17) (v := 48) dX3_kindOf_15 (by decide) rfl ?_
            refine r_icmp_lt (tgt := 28) (pc2 := 20) dX3_kindOf_17 (by decide) rfl (fun b17 => ?_) (fun b17 => ?_)
            · skip
              refine r_iload_n (pc2 := 29) 0 dX3_kindOf_28 rfl rfl rfl ?_
              refine r_lsw (pc2 := 0) (tgt := 138) (off := 109) dX3_kindOf_29 (by decide) ((sb_lsw c hc).trans (if_pos h3)) (by decide) ?_
              refine r_iconst (pc2 := 139) (v := 4) dX3_kindOf_138 (by decide) rfl ?_
              exact r_iret rfl dX3_kindOf_139 ⟨by unfold kO9; rw [if_neg (by rw [h1]; decide), if_neg (by rw [h2]; decide), if_pos h3]; rfl, rfl⟩
            · skip
              refine r_iload_n (pc2 := 21) 0 dX3_kindOf_20 rfl rfl rfl ?_
              refine r_bipush (pc2 := 23) (v := 57) dX3_kindOf_21 (by decide) rfl ?_
              refine r_icmp_gt (tgt := 28) (pc2 := 26) dX3_kindOf_23 (by decide) rfl (fun b23 => ?_) (fun b23 => ?_)
              · skip
                refine r_iload_n (pc2 := 29) 0 dX3_kindOf_28 rfl rfl rfl ?_
                refine r_lsw (pc2 := 0) (tgt := 138) (off := 109) dX3_kindOf_29 (by decide) ((sb_lsw c hc).trans (if_pos h3)) (by decide) ?_
                refine r_iconst (pc2 := 139) (v := 4) dX3_kindOf_138 (by decide) rfl ?_
                exact r_iret rfl dX3_kindOf_139 ⟨by unfold kO9; rw [if_neg (by rw [h1]; decide), if_neg (by rw [h2]; decide), if_pos h3]; rfl, rfl⟩
              · exact absurd ⟨b17, Int32.not_lt.mp b23⟩ ((sbb_dg c hc).2 h2)
          · exact absurd ⟨b3, Int32.not_lt.mp b9⟩ ((sbb_sm c hc).2 h1)
      · skip
        refine Cn.go (ls := [.int (sb c)]) (by decide +kernel) rfl (Nat.le_of_ble_eq_true rfl) ?_
        refine r_iload_n (pc2 := 1) 0 dX3_kindOf_0 rfl rfl rfl ?_
        refine r_bipush (pc2 := 3) (v := 97) dX3_kindOf_1 (by decide) rfl ?_
        refine r_icmp_lt (tgt := 14) (pc2 := 6) dX3_kindOf_3 (by decide) rfl (fun b3 => ?_) (fun b3 => ?_)
        · skip
          refine r_iload_n (pc2 := 15) 0 dX3_kindOf_14 rfl rfl rfl ?_
          refine r_bipush (pc2 := 17) (v := 48) dX3_kindOf_15 (by decide) rfl ?_
          refine r_icmp_lt (tgt := 28) (pc2 := 20) dX3_kindOf_17 (by decide) rfl (fun b17 => ?_) (fun b17 => ?_)
          · skip
            refine r_iload_n (pc2 := 29) 0 dX3_kindOf_28 rfl rfl rfl ?_
            refine r_lsw (pc2 := 0) (tgt := 136) (off := 107) dX3_kindOf_29 (by decide) ((sb_lsw c hc).trans (if_neg h3)) (by decide) ?_
            refine r_iconst (pc2 := 137) (v := 3) dX3_kindOf_136 (by decide) rfl ?_
            exact r_iret rfl dX3_kindOf_137 ⟨by unfold kO9; rw [if_neg (by rw [h1]; decide), if_neg (by rw [h2]; decide), if_neg h3]; rfl, rfl⟩
          · skip
            refine r_iload_n (pc2 := 21) 0 dX3_kindOf_20 rfl rfl rfl ?_
            refine r_bipush (pc2 := 23) (v := 57) dX3_kindOf_21 (by decide) rfl ?_
            refine r_icmp_gt (tgt := 28) (pc2 := 26) dX3_kindOf_23 (by decide) rfl (fun b23 => ?_) (fun b23 => ?_)
            · skip
              refine r_iload_n (pc2 := 29) 0 dX3_kindOf_28 rfl rfl rfl ?_
              refine r_lsw (pc2 := 0) (tgt := 136) (off := 107) dX3_kindOf_29 (by decide) ((sb_lsw c hc).trans (if_neg h3)) (by decide) ?_
              refine r_iconst (pc2 := 137) (v := 3) dX3_kindOf_136 (by decide) rfl ?_
              exact r_iret rfl dX3_kindOf_137 ⟨by unfold kO9; rw [if_neg (by rw [h1]; decide), if_neg (by rw [h2]; decide), if_neg h3]; rfl, rfl⟩
            · exact absurd ⟨b17, Int32.not_lt.mp b23⟩ ((sbb_dg c hc).2 h2)
        · skip
          refine r_iload_n (pc2 := 7) 0 dX3_kindOf_6 rfl rfl rfl ?_
          refine r_bipush (pc2 := 9) (v := 122) dX3_kindOf_7 (by decide) rfl ?_
          refine r_icmp_gt (tgt := 14) (pc2 := 12) dX3_kindOf_9 (by decide) rfl (fun b9 => ?_) (fun b9 => ?_)
          · skip
            refine r_iload_n (pc2 := 15) 0 dX3_kindOf_14 rfl rfl rfl ?_
            refine r_bipush (pc2 := 17) (v := 48) dX3_kindOf_15 (by decide) rfl ?_
            refine r_icmp_lt (tgt := 28) (pc2 := 20) dX3_kindOf_17 (by decide) rfl (fun b17 => ?_) (fun b17 => ?_)
            · skip
              refine r_iload_n (pc2 := 29) 0 dX3_kindOf_28 rfl rfl rfl ?_
              refine r_lsw (pc2 := 0) (tgt := 136) (off := 107) dX3_kindOf_29 (by decide) ((sb_lsw c hc).trans (if_neg h3)) (by decide) ?_
              refine r_iconst (pc2 := 137) (v := 3) dX3_kindOf_136 (by decide) rfl ?_
              exact r_iret rfl dX3_kindOf_137 ⟨by unfold kO9; rw [if_neg (by rw [h1]; decide), if_neg (by rw [h2]; decide), if_neg h3]; rfl, rfl⟩
            · skip
              refine r_iload_n (pc2 := 21) 0 dX3_kindOf_20 rfl rfl rfl ?_
              refine r_bipush (pc2 := 23) (v := 57) dX3_kindOf_21 (by decide) rfl ?_
              refine r_icmp_gt (tgt := 28) (pc2 := 26) dX3_kindOf_23 (by decide) rfl (fun b23 => ?_) (fun b23 => ?_)
              · skip
                refine r_iload_n (pc2 := 29) 0 dX3_kindOf_28 rfl rfl rfl ?_
                refine r_lsw (pc2 := 0) (tgt := 136) (off := 107) dX3_kindOf_29 (by decide) ((sb_lsw c hc).trans (if_neg h3)) (by decide) ?_
                refine r_iconst (pc2 := 137) (v := 3) dX3_kindOf_136 (by decide) rfl ?_
                exact r_iret rfl dX3_kindOf_137 ⟨by unfold kO9; rw [if_neg (by rw [h1]; decide), if_neg (by rw [h2]; decide), if_neg h3]; rfl, rfl⟩
              · exact absurd ⟨b17, Int32.not_lt.mp b23⟩ ((sbb_dg c hc).2 h2)
          · exact absurd ⟨b3, Int32.not_lt.mp b9⟩ ((sbb_sm c hc).2 h1)
set_option maxRecDepth 20000 in
set_option maxHeartbeats 1000000 in
theorem c_refuse0 {E : EnvT} {d : Nat} {h0 : Hp} {n : Nat} {ta ne inz pt cl fp ki s9 e9 w9 : Int32} {tv : Value} (c65 : h0.1 65 = some (.inr (3, rdL n ta ne inz pt cl tv (0, fp, ki, s9, e9)))) : Cn E mX3_refuse d [.ref 65, .int w9] h0 (fun r h2 => r = none ∧ Ex [65] h0 h2 ∧ h2.1 65 = some (.inr (3, rdL n ta ne inz pt cl tv (w9, s9, 0, s9, e9)))) := by
  have hx : Ex [65] h0 h0 := Ex.rf
  refine Cn.go (ls := [.ref 65, .int w9]) (by decide +kernel) rfl (Nat.le_of_ble_eq_true rfl) ?_
  refine r_aload_n (pc2 := 1) 0 dX3_refuse_0 rfl rfl rfl rfl ?_
  refine r_getf (pc2 := 4) (v := .int 0) fX3_44 dX3_refuse_1 c65 (by decide) rfl rfl ?_
  refine r_if_ne (tgt := 20) (pc2 := 7) dX3_refuse_4 (by decide) rfl (fun b4 => ?_) (fun b4 => ?_)
  · exact absurd b4 (by decide)
  · skip
    refine r_aload_n (pc2 := 8) 0 dX3_refuse_7 rfl rfl rfl rfl ?_
    refine r_iload_n (pc2 := 9) 1 dX3_refuse_8 rfl rfl rfl ?_
    refine r_putfX (pc2 := 12) [.int w9, .int fp, .int ta, .ref 66, .int (nI n), .int ki, .int s9, .int e9, .int ne, .int inz, .int pt, .ref 67, .int cl, tv] fX3_44 dX3_refuse_9 c65 (by decide) (Nat.le_of_ble_eq_true rfl) rfl rfl rfl (fun h z9 o9 c65 => ?_)
    have hx := hx.step (a := 65) (by simp) z9 o9
    refine r_aload_n (pc2 := 13) 0 dX3_refuse_12 rfl rfl rfl rfl ?_
    refine r_aload_n (pc2 := 14) 0 dX3_refuse_13 rfl rfl rfl rfl ?_
    refine r_getf (pc2 := 17) (v := .int s9) fX3_66 dX3_refuse_14 c65 (by decide) rfl rfl ?_
    refine r_putfX (pc2 := 20) [.int w9, .int s9, .int ta, .ref 66, .int (nI n), .int ki, .int s9, .int e9, .int ne, .int inz, .int pt, .ref 67, .int cl, tv] fX3_9 dX3_refuse_17 c65 (by decide) (Nat.le_of_ble_eq_true rfl) rfl rfl rfl (fun h z17 o17 c65 => ?_)
    have hx := hx.step (a := 65) (by simp) z17 o17
    refine r_aload_n (pc2 := 21) 0 dX3_refuse_20 rfl rfl rfl rfl ?_
    refine r_iconst (pc2 := 22) (v := 0) dX3_refuse_21 (by decide) rfl ?_
    refine r_putfX (pc2 := 25) [.int w9, .int s9, .int ta, .ref 66, .int (nI n), .int 0, .int s9, .int e9, .int ne, .int inz, .int pt, .ref 67, .int cl, tv] fX3_60 dX3_refuse_22 c65 (by decide) (Nat.le_of_ble_eq_true rfl) rfl rfl rfl (fun h z22 o22 c65 => ?_)
    have hx := hx.step (a := 65) (by simp) z22 o22
    exact r_vret rfl dX3_refuse_25 ⟨rfl, hx, c65⟩
set_option maxRecDepth 20000 in
set_option maxHeartbeats 1000000 in
theorem c_refuse1 {E : EnvT} {d : Nat} {h0 : Hp} {n : Nat} {ta ne inz pt cl fk fp ki s9 e9 w9 : Int32} {tv : Value} (c65 : h0.1 65 = some (.inr (3, rdL n ta ne inz pt cl tv (fk, fp, ki, s9, e9)))) (hz : ¬ fk = 0) : Cn E mX3_refuse d [.ref 65, .int w9] h0 (fun r h2 => r = none ∧ Ex [65] h0 h2 ∧ h2.1 65 = some (.inr (3, rdL n ta ne inz pt cl tv (fk, fp, 0, s9, e9)))) := by
  have hx : Ex [65] h0 h0 := Ex.rf
  refine Cn.go (ls := [.ref 65, .int w9]) (by decide +kernel) rfl (Nat.le_of_ble_eq_true rfl) ?_
  refine r_aload_n (pc2 := 1) 0 dX3_refuse_0 rfl rfl rfl rfl ?_
  refine r_getf (pc2 := 4) (v := .int fk) fX3_44 dX3_refuse_1 c65 (by decide) rfl rfl ?_
  refine r_if_ne (tgt := 20) (pc2 := 7) dX3_refuse_4 (by decide) rfl (fun b4 => ?_) (fun b4 => ?_)
  · skip
    refine r_aload_n (pc2 := 21) 0 dX3_refuse_20 rfl rfl rfl rfl ?_
    refine r_iconst (pc2 := 22) (v := 0) dX3_refuse_21 (by decide) rfl ?_
    refine r_putfX (pc2 := 25) [.int fk, .int fp, .int ta, .ref 66, .int (nI n), .int 0, .int s9, .int e9, .int ne, .int inz, .int pt, .ref 67, .int cl, tv] fX3_60 dX3_refuse_22 c65 (by decide) (Nat.le_of_ble_eq_true rfl) rfl rfl rfl (fun h z22 o22 c65 => ?_)
    have hx := hx.step (a := 65) (by simp) z22 o22
    exact r_vret rfl dX3_refuse_25 ⟨rfl, hx, c65⟩
  · exact absurd b4 hz
