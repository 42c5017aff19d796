theorem setB {G : Nat} (h : G ≤ 4) : ((1 : Int32) <<< (nI G &&& 31) - 1).toInt64 = lN (2 ^ G - 1) := by
  match G, h with
  | 0, _ => decide
  | 1, _ => decide
  | 2, _ => decide
  | 3, _ => decide
  | 4, _ => decide
theorem narZ (c : Prop) [Decidable c] : narrow .boolean (.int (if c then (1 : Int32) else 0)) = .int (if c then (1 : Int32) else 0) := by
  split <;> decide
set_option maxRecDepth 20000 in
set_option maxHeartbeats 1000000 in
theorem c_isGoer {E : EnvT} {d : Nat} {h : Hp} {v : Nat → Int32} {a : Nat → Nat} {g : Int32} (c117 : h.1 117 = some (mO v)) (c118 : h.1 118 = some (aI 3531 (nA a))) (hd : 1 ≤ d) : Cn E mX10_isGoer d [.ref 117, .int g] h (fun r h2 => r = some (.int (if (0 : Int64) ≤ g.toInt64 ∧ g.toInt64 ≤ (nI (a 3) - 1).toInt64 then (1 : Int32) else 0)) ∧ h2 = h) := by
  refine Cn.go (ls := [.ref 117, .int g]) (by decide +kernel) rfl (Nat.le_of_ble_eq_true rfl) ?_
  refine r_iload_n (pc2 := 1) 1 dX10_isGoer_0 rfl rfl rfl ?_
  refine r_i2l (pc2 := 2) dX10_isGoer_1 rfl ?_
  refine r_lconst (pc2 := 3) (v := 0) dX10_isGoer_2 (by decide) rfl ?_
  refine r_aload_n (pc2 := 4) 0 dX10_isGoer_3 rfl rfl rfl rfl ?_
  refine r_getf (pc2 := 7) (v := .ref 118) fX10_13 dX10_isGoer_4 c117 (by decide) rfl rfl ?_
  refine r_iconst (pc2 := 8) (v := 3) dX10_isGoer_7 (by decide) rfl ?_
  refine r_ialdN (pc2 := 9) 3 dX10_isGoer_8 c118 (by decide) rfl (by decide) (by decide) rfl ?_
  refine r_iconst (pc2 := 10) (v := 1) dX10_isGoer_9 (by decide) rfl ?_
  refine r_isub (pc2 := 11) dX10_isGoer_10 rfl ?_
  refine r_i2l (pc2 := 12) dX10_isGoer_11 rfl ?_
  refine r_callS1 (pc2 := 15) (As := [.long (Int32.toInt64 g), .long 0, .long (Int32.toInt64 ((nI (a 3)) - 1))]) (st := []) kX10_152 dX10_isGoer_12 rfl rfl (Nat.le_of_ble_eq_true rfl) (by omega) (c_within (Int32.toInt64 g) 0 (Int32.toInt64 ((nI (a 3)) - 1))) rfl (fun h2 hq12 => ?_)
  subst hq12
  exact r_zret (ty := .boolean) rfl (narZ _) dX10_isGoer_15 ⟨rfl, rfl⟩
set_option maxRecDepth 20000 in
set_option maxHeartbeats 1000000 in
theorem c_isSet {E : EnvT} {d : Nat} {h : Hp} {v : Nat → Int32} {a : Nat → Nat} {s : Int64} (c117 : h.1 117 = some (mO v)) (c118 : h.1 118 = some (aI 3531 (nA a))) (hG : a 3 ≤ 4) (hd : 1 ≤ d) : Cn E mX10_isSet d [.ref 117, .long s] h (fun r h2 => r = some (.int (if (0 : Int64) ≤ s ∧ s ≤ lN (2 ^ (a 3) - 1) then (1 : Int32) else 0)) ∧ h2 = h) := by
  refine Cn.go (ls := [.ref 117, .long s, .float 0]) (by decide +kernel) rfl (Nat.le_of_ble_eq_true rfl) ?_
  refine r_lload_n (pc2 := 1) 1 dX10_isSet_0 rfl rfl rfl ?_
  refine r_lconst (pc2 := 2) (v := 0) dX10_isSet_1 (by decide) rfl ?_
  refine r_iconst (pc2 := 3) (v := 1) dX10_isSet_2 (by decide) rfl ?_
  refine r_aload_n (pc2 := 4) 0 dX10_isSet_3 rfl rfl rfl rfl ?_
  refine r_getf (pc2 := 7) (v := .ref 118) fX10_13 dX10_isSet_4 c117 (by decide) rfl rfl ?_
  refine r_iconst (pc2 := 8) (v := 3) dX10_isSet_7 (by decide) rfl ?_
  refine r_ialdN (pc2 := 9) 3 dX10_isSet_8 c118 (by decide) rfl (by decide) (by decide) rfl ?_
  refine r_ishl (pc2 := 10) dX10_isSet_9 rfl ?_
  refine r_iconst (pc2 := 11) (v := 1) dX10_isSet_10 (by decide) rfl ?_
  refine r_isub (pc2 := 12) dX10_isSet_11 rfl ?_
  refine r_i2l (pc2 := 13) dX10_isSet_12 rfl ?_
  refine r_callS1 (pc2 := 16) (As := [.long s, .long 0, .long (Int32.toInt64 ((1 <<< ((nI (a 3)) &&& 31)) - 1))]) (st := []) kX10_152 dX10_isSet_13 rfl rfl (Nat.le_of_ble_eq_true rfl) (by omega) (c_within s 0 (Int32.toInt64 ((1 <<< ((nI (a 3)) &&& 31)) - 1))) rfl (fun h2 hq13 => ?_)
  subst hq13
  exact r_zret (ty := .boolean) rfl (narZ _) dX10_isSet_16 ⟨by rw [← setB hG], rfl⟩
set_option maxRecDepth 20000 in
set_option maxHeartbeats 1000000 in
theorem c_areTwo {E : EnvT} {d : Nat} {h : Hp} {v : Nat → Int32} {a : Nat → Nat} {p q : Int64} (c117 : h.1 117 = some (mO v)) (c118 : h.1 118 = some (aI 3531 (nA a))) (hd : 1 ≤ d) : Cn E mX10_areTwo d [.ref 117, .long p, .long q] h (fun r h2 => r = some (.int (if (0 ≤ p ∧ p ≤ (nI (a 4) - 1).toInt64) ∧ (0 ≤ q ∧ q ≤ (nI (a 4) - 1).toInt64) ∧ p ≠ q then (1 : Int32) else 0)) ∧ h2 = h) := by
  refine Cn.go (ls := [.ref 117, .long p, .float 0, .long q, .float 0]) (by decide +kernel) rfl (Nat.le_of_ble_eq_true rfl) ?_
  refine r_lload_n (pc2 := 1) 1 dX10_areTwo_0 rfl rfl rfl ?_
  refine r_lconst (pc2 := 2) (v := 0) dX10_areTwo_1 (by decide) rfl ?_
  refine r_aload_n (pc2 := 3) 0 dX10_areTwo_2 rfl rfl rfl rfl ?_
  refine r_getf (pc2 := 6) (v := .ref 118) fX10_13 dX10_areTwo_3 c117 (by decide) rfl rfl ?_
  refine r_iconst (pc2 := 7) (v := 4) dX10_areTwo_6 (by decide) rfl ?_
  refine r_ialdN (pc2 := 8) 4 dX10_areTwo_7 c118 (by decide) rfl (by decide) (by decide) rfl ?_
  refine r_iconst (pc2 := 9) (v := 1) dX10_areTwo_8 (by decide) rfl ?_
  refine r_isub (pc2 := 10) dX10_areTwo_9 rfl ?_
  refine r_i2l (pc2 := 11) dX10_areTwo_10 rfl ?_
  refine r_callS1 (pc2 := 14) (As := [.long p, .long 0, .long (Int32.toInt64 ((nI (a 4)) - 1))]) (st := []) kX10_152 dX10_areTwo_11 rfl rfl (Nat.le_of_ble_eq_true rfl) (by omega) (c_within p 0 (Int32.toInt64 ((nI (a 4)) - 1))) rfl (fun h2 hq11 => ?_)
  subst hq11
  refine r_if_eq (tgt := 44) (pc2 := 17) dX10_areTwo_14 (by decide) rfl (fun b14 => ?_) (fun b14 => ?_)
  · skip
    refine r_iconst (pc2 := 45) (v := 0) dX10_areTwo_44 (by decide) rfl ?_
    exact r_zret (ty := .boolean) rfl (by decide) dX10_areTwo_45 ⟨by simp_all [lgc_eq, ← Int64.not_lt], rfl⟩
  · skip
    refine r_lload_n (pc2 := 18) 3 dX10_areTwo_17 rfl rfl rfl ?_
    refine r_lconst (pc2 := 19) (v := 0) dX10_areTwo_18 (by decide) rfl ?_
    refine r_aload_n (pc2 := 20) 0 dX10_areTwo_19 rfl rfl rfl rfl ?_
    refine r_getf (pc2 := 23) (v := .ref 118) fX10_13 dX10_areTwo_20 c117 (by decide) rfl rfl ?_
    refine r_iconst (pc2 := 24) (v := 4) dX10_areTwo_23 (by decide) rfl ?_
    refine r_ialdN (pc2 := 25) 4 dX10_areTwo_24 c118 (by decide) rfl (by decide) (by decide) rfl ?_
    refine r_iconst (pc2 := 26) (v := 1) dX10_areTwo_25 (by decide) rfl ?_
    refine r_isub (pc2 := 27) dX10_areTwo_26 rfl ?_
    refine r_i2l (pc2 := 28) dX10_areTwo_27 rfl ?_
    refine r_callS1 (pc2 := 31) (As := [.long q, .long 0, .long (Int32.toInt64 ((nI (a 4)) - 1))]) (st := []) kX10_152 dX10_areTwo_28 rfl rfl (Nat.le_of_ble_eq_true rfl) (by omega) (c_within q 0 (Int32.toInt64 ((nI (a 4)) - 1))) rfl (fun h2 hq28 => ?_)
    subst hq28
    refine r_if_eq (tgt := 44) (pc2 := 34) dX10_areTwo_31 (by decide) rfl (fun b31 => ?_) (fun b31 => ?_)
    · skip
      refine r_iconst (pc2 := 45) (v := 0) dX10_areTwo_44 (by decide) rfl ?_
      exact r_zret (ty := .boolean) rfl (by decide) dX10_areTwo_45 ⟨by simp_all [lgc_eq, ← Int64.not_lt], rfl⟩
    · skip
      refine r_lload_n (pc2 := 35) 1 dX10_areTwo_34 rfl rfl rfl ?_
      refine r_lload_n (pc2 := 36) 3 dX10_areTwo_35 rfl rfl rfl ?_
      refine r_lcmp (pc2 := 37) dX10_areTwo_36 rfl ?_
      refine r_if_eq (tgt := 44) (pc2 := 40) dX10_areTwo_37 (by decide) rfl (fun b37 => ?_) (fun b37 => ?_)
      · skip
        refine r_iconst (pc2 := 45) (v := 0) dX10_areTwo_44 (by decide) rfl ?_
        exact r_zret (ty := .boolean) rfl (by decide) dX10_areTwo_45 ⟨by simp_all [lgc_eq, ← Int64.not_lt], rfl⟩
      · skip
        refine r_iconst (pc2 := 41) (v := 1) dX10_areTwo_40 (by decide) rfl ?_
        refine r_goto (pc2 := 45) dX10_areTwo_41 (by decide) ?_
        exact r_zret (ty := .boolean) rfl (by decide) dX10_areTwo_45 ⟨by simp_all [lgc_eq, ← Int64.not_lt], rfl⟩
set_option maxRecDepth 20000 in
set_option maxHeartbeats 1000000 in
theorem c_isPerson {E : EnvT} {d : Nat} {h : Hp} {v : Nat → Int32} {a : Nat → Nat} {p : Int32} (c117 : h.1 117 = some (mO v)) (c118 : h.1 118 = some (aI 3531 (nA a))) (hd : 1 ≤ d) : Cn E mX10_isPerson d [.ref 117, .int p] h (fun r h2 => r = some (.int (if (0 : Int64) ≤ p.toInt64 ∧ p.toInt64 ≤ (nI (a 4) - 1).toInt64 then (1 : Int32) else 0)) ∧ h2 = h) := by
  refine Cn.go (ls := [.ref 117, .int p]) (by decide +kernel) rfl (Nat.le_of_ble_eq_true rfl) ?_
  refine r_iload_n (pc2 := 1) 1 dX10_isPerson_0 rfl rfl rfl ?_
  refine r_i2l (pc2 := 2) dX10_isPerson_1 rfl ?_
  refine r_lconst (pc2 := 3) (v := 0) dX10_isPerson_2 (by decide) rfl ?_
  refine r_aload_n (pc2 := 4) 0 dX10_isPerson_3 rfl rfl rfl rfl ?_
  refine r_getf (pc2 := 7) (v := .ref 118) fX10_13 dX10_isPerson_4 c117 (by decide) rfl rfl ?_
  refine r_iconst (pc2 := 8) (v := 4) dX10_isPerson_7 (by decide) rfl ?_
  refine r_ialdN (pc2 := 9) 4 dX10_isPerson_8 c118 (by decide) rfl (by decide) (by decide) rfl ?_
  refine r_iconst (pc2 := 10) (v := 1) dX10_isPerson_9 (by decide) rfl ?_
  refine r_isub (pc2 := 11) dX10_isPerson_10 rfl ?_
  refine r_i2l (pc2 := 12) dX10_isPerson_11 rfl ?_
  refine r_callS1 (pc2 := 15) (As := [.long (Int32.toInt64 p), .long 0, .long (Int32.toInt64 ((nI (a 4)) - 1))]) (st := []) kX10_152 dX10_isPerson_12 rfl rfl (Nat.le_of_ble_eq_true rfl) (by omega) (c_within (Int32.toInt64 p) 0 (Int32.toInt64 ((nI (a 4)) - 1))) rfl (fun h2 hq12 => ?_)
  subst hq12
  exact r_zret (ty := .boolean) rfl (narZ _) dX10_isPerson_15 ⟨rfl, rfl⟩
set_option maxRecDepth 20000 in
set_option maxHeartbeats 1000000 in
theorem c_standNow {E : EnvT} {d : Nat} {h : Hp} {v : Nat → Int32} {a : Nat → Nat} (c117 : h.1 117 = some (mO v)) (c118 : h.1 118 = some (aI 3531 (nA a))) (hG : a 3 ≤ 4) (hC : ∀ g, g < 4 → a (22 + g) ≤ 7) (hD : a 26 ≤ 9) : Cn E mX10_standNow d [.ref 117] h (fun r h2 => r = some (.int (nI (packS a))) ∧ h2 = h) := by
  refine Cn.go (ls := [.ref 117, .float 0, .float 0]) (by decide +kernel) rfl (Nat.le_of_ble_eq_true rfl) ?_
  have loop : ∀ (m k : Nat), k + m = a 3 → Fr E mX10_standNow d 13 [.ref 117, .int (nI (4096 * a 26 + packC a k)), .int (nI k)] [] h (fun r h2 => r = some (.int (nI (packS a))) ∧ h2 = h) := by
    intro m
    induction m with
    | zero =>
      intro k hk
      obtain rfl : k = a 3 := by omega
      refine r_iload_n (pc2 := 14) 2 dX10_standNow_13 rfl rfl rfl ?_
      refine r_aload_n (pc2 := 15) 0 dX10_standNow_14 rfl rfl rfl rfl ?_
      refine r_getf (pc2 := 18) (v := .ref 118) fX10_13 dX10_standNow_15 c117 (by decide) rfl rfl ?_
      refine r_iconst (pc2 := 19) (v := 3) dX10_standNow_18 (by decide) rfl ?_
      refine r_ialdN (pc2 := 20) 3 dX10_standNow_19 c118 (by decide) rfl (by decide) (by decide) rfl ?_
      refine r_icmp_ge (tgt := 45) (pc2 := 23) dX10_standNow_20 (by decide) rfl (fun b20 => ?_) (fun b20 => ?_)
      · skip
        refine r_iload_n (pc2 := 46) 1 dX10_standNow_45 rfl rfl rfl ?_
        exact r_iret rfl dX10_standNow_46 ⟨rfl, rfl⟩
      · exact absurd (Int32.le_refl _) b20
    | succ m ih =>
      intro k hk
      have hlt : k < a 3 := by omega
      have hc := hC k (by omega)
      have hp := packC_lt hC k (by omega)
      have h8 : 8 ^ k * 7 + 8 ^ k ≤ 4096 := by
        have : k < 4 := by omega
        match k, this with
        | 0, _ => decide
        | 1, _ => decide
        | 2, _ => decide
        | 3, _ => decide
      have h9 : 8 ^ k * a (22 + k) ≤ 8 ^ k * 7 := Nat.mul_le_mul_left _ hc
      have eor : nI (4096 * a 26 + packC a k) ||| nI (8 ^ k * a (22 + k)) = nI (4096 * a 26 + packC a (k + 1)) := by
        rw [nI_or]
        have h1 := or_mid (i := 3 * k) (j := 12) (D := a 26) (c := a (22 + k)) (low := packC a k) (by rw [Nat.pow_mul]; exact hp) (by rw [Nat.pow_mul]; show 8 ^ k * _ + _ < 4096; omega)
        rw [Nat.pow_mul] at h1
        exact congrArg nI h1
      refine r_iload_n (pc2 := 14) 2 dX10_standNow_13 rfl rfl rfl ?_
      refine r_aload_n (pc2 := 15) 0 dX10_standNow_14 rfl rfl rfl rfl ?_
      refine r_getf (pc2 := 18) (v := .ref 118) fX10_13 dX10_standNow_15 c117 (by decide) rfl rfl ?_
      refine r_iconst (pc2 := 19) (v := 3) dX10_standNow_18 (by decide) rfl ?_
      refine r_ialdN (pc2 := 20) 3 dX10_standNow_19 c118 (by decide) rfl (by decide) (by decide) rfl ?_
      refine r_icmp_ge (tgt := 45) (pc2 := 23) dX10_standNow_20 (by decide) rfl (fun b20 => ?_) (fun b20 => ?_)
      · exact absurd b20 (nI_ge hlt (by omega))
      · skip
        refine r_iload_n (pc2 := 24) 1 dX10_standNow_23 rfl rfl rfl ?_
        refine r_aload_n (pc2 := 25) 0 dX10_standNow_24 rfl rfl rfl rfl ?_
        refine r_getf (pc2 := 28) (v := .ref 118) fX10_13 dX10_standNow_25 c117 (by decide) rfl rfl ?_
        refine r_bipush (pc2 := 30) (v := 22) dX10_standNow_28 (by decide) rfl ?_
        refine r_iload_n (pc2 := 31) 2 dX10_standNow_30 rfl rfl rfl ?_
        refine r_iadd (pc2 := 32) dX10_standNow_31 rfl ?_
        refine r_cast (nI (22 + k)) (nI_add 22 k) ?_
        refine r_ialdN (pc2 := 33) (22 + k) dX10_standNow_32 c118 (by decide) rfl (by omega) (by decide) rfl ?_
        refine r_iconst (pc2 := 34) (v := 3) dX10_standNow_33 (by decide) rfl ?_
        refine r_iload_n (pc2 := 35) 2 dX10_standNow_34 rfl rfl rfl ?_
        refine r_imul (pc2 := 36) dX10_standNow_35 rfl ?_
        refine r_ishl (pc2 := 37) dX10_standNow_36 rfl ?_
        refine r_cast (nI (8 ^ k * a (22 + k))) (shl3 _ k (by omega) (by omega)) ?_
        refine r_ior (pc2 := 38) dX10_standNow_37 rfl ?_
        refine r_cast (nI (4096 * a 26 + packC a (k + 1))) (eor) ?_
        refine r_istore_n (pc2 := 39) (ls2 := [.ref 117, .int (nI (4096 * a 26 + packC a (k + 1))), .int (nI k)]) 1 dX10_standNow_38 rfl (by decide) rfl rfl rfl ?_
        obtain ⟨x39, e39⟩ : ∃ z : Int32, z = (nI k) + (1) := ⟨_, rfl⟩
        refine r_iinc (pc2 := 42) (ls2 := [.ref 117, .int (nI (4096 * a 26 + packC a (k + 1))), .int x39]) (v := x39) 2 dX10_standNow_39 rfl (by rw [e39]; rfl) rfl rfl rfl ?_
        refine r_goto (pc2 := 13) dX10_standNow_42 (by decide) ?_
        rw [e39, nI_1]
        exact ih (k + 1) (by omega)
  refine r_aload_n (pc2 := 1) 0 dX10_standNow_0 rfl rfl rfl rfl ?_
  refine r_getf (pc2 := 4) (v := .ref 118) fX10_13 dX10_standNow_1 c117 (by decide) rfl rfl ?_
  refine r_bipush (pc2 := 6) (v := 26) dX10_standNow_4 (by decide) rfl ?_
  refine r_ialdN (pc2 := 7) 26 dX10_standNow_6 c118 (by decide) rfl (by decide) (by decide) rfl ?_
  refine r_bipush (pc2 := 9) (v := 12) dX10_standNow_7 (by decide) rfl ?_
  refine r_ishl (pc2 := 10) dX10_standNow_9 rfl ?_
  refine r_cast (nI (4096 * a 26 + packC a 0)) (by rw [pk_shlN _ 12 (by decide) (by omega)]; show nI (a 26 * 4096) = nI (4096 * a 26 + 0); congr 1; omega) ?_
  refine r_istore_n (pc2 := 11) (ls2 := [.ref 117, .int (nI (4096 * a 26 + packC a 0)), .float 0]) 1 dX10_standNow_10 rfl (by decide) rfl rfl rfl ?_
  refine r_iconst (pc2 := 12) (v := 0) dX10_standNow_11 (by decide) rfl ?_
  refine r_istore_n (pc2 := 13) (ls2 := [.ref 117, .int (nI (4096 * a 26 + packC a 0)), .int (nI 0)]) 2 dX10_standNow_12 rfl (by decide) rfl rfl rfl ?_
  exact loop (a 3) 0 (by omega)
def pastN (C st : Nat) : Nat → Nat
  | 0 => 0
  | k + 1 => (if st / 8 ^ k % 8 = C then 2 ^ k else 0) + pastN C st k
theorem pastN_lt (C st : Nat) : ∀ k, pastN C st k < 2 ^ k := by
  intro k
  induction k with
  | zero => show 0 < 1; omega
  | succ k ih =>
    rw [pastN, Nat.pow_succ]
    split <;> omega
theorem pastN_or (C st k : Nat) (b : Nat) (hb : b = if st / 8 ^ k % 8 = C then 2 ^ k else 0) : pastN C st k ||| b = pastN C st (k + 1) := by
  rw [pastN, hb]
  split
  · have := Nat.two_pow_add_eq_or_of_lt (pastN_lt C st k) 1
    rw [Nat.mul_one] at this
    rw [Nat.or_comm, this]
  · rw [Nat.or_zero, Nat.zero_add]
set_option maxRecDepth 20000 in
set_option maxHeartbeats 1000000 in
theorem c_pastIn {E : EnvT} {d : Nat} {h : Hp} {v : Nat → Int32} {a : Nat → Nat} {st : Nat} (c117 : h.1 117 = some (mO v)) (c118 : h.1 118 = some (aI 3531 (nA a))) (hG : a 3 ≤ 4) (hC1 : a 1 ≤ 6) (hs : st < 2 ^ 31) (hd : 1 ≤ d) : Cn E mX10_pastIn d [.ref 117, .int (nI st)] h (fun r h2 => r = some (.int (nI (pastN (a 1) st (a 3)))) ∧ h2 = h) := by
  refine Cn.go (ls := [.ref 117, .int (nI st), .float 0, .float 0]) (by decide +kernel) rfl (Nat.le_of_ble_eq_true rfl) ?_
  have loop : ∀ (m k : Nat), k + m = a 3 → Fr E mX10_pastIn d 4 [.ref 117, .int (nI st), .int (nI (pastN (a 1) st k)), .int (nI k)] [] h (fun r h2 => r = some (.int (nI (pastN (a 1) st (a 3)))) ∧ h2 = h) := by
    intro m
    induction m with
    | zero =>
      intro k hk
      obtain rfl : k = a 3 := by omega
      refine r_iload_n (pc2 := 5) 3 dX10_pastIn_4 rfl rfl rfl ?_
      refine r_aload_n (pc2 := 6) 0 dX10_pastIn_5 rfl rfl rfl rfl ?_
      refine r_getf (pc2 := 9) (v := .ref 118) fX10_13 dX10_pastIn_6 c117 (by decide) rfl rfl ?_
      refine r_iconst (pc2 := 10) (v := 3) dX10_pastIn_9 (by decide) rfl ?_
      refine r_ialdN (pc2 := 11) 3 dX10_pastIn_10 c118 (by decide) rfl (by decide) (by decide) rfl ?_
      refine r_icmp_ge (tgt := 44) (pc2 := 14) dX10_pastIn_11 (by decide) rfl (fun b11 => ?_) (fun b11 => ?_)
      · skip
        refine r_iload_n (pc2 := 45) 2 dX10_pastIn_44 rfl rfl rfl ?_
        exact r_iret rfl dX10_pastIn_45 ⟨rfl, rfl⟩
      · exact absurd (Int32.le_refl _) b11
    | succ m ih =>
      intro k hk
      have hlt : k < a 3 := by omega
      have h8 : st / 8 ^ k % 8 < 8 := Nat.mod_lt _ (by decide)
      have J : ∀ b : Nat, (b = if st / 8 ^ k % 8 = a 1 then 2 ^ k else 0) → Fr E mX10_pastIn d 36 [.ref 117, .int (nI st), .int (nI (pastN (a 1) st k)), .int (nI k)] [.int (nI b), .int (nI (pastN (a 1) st k))] h (fun r h2 => r = some (.int (nI (pastN (a 1) st (a 3)))) ∧ h2 = h) := by
        intro b hb
        refine r_ior (pc2 := 37) dX10_pastIn_36 rfl ?_
        refine r_cast (nI (pastN (a 1) st (k + 1))) (by rw [nI_or, pastN_or _ _ _ b hb]) ?_
        refine r_istore_n (pc2 := 38) (ls2 := [.ref 117, .int (nI st), .int (nI (pastN (a 1) st (k + 1))), .int (nI k)]) 2 dX10_pastIn_37 rfl (by decide) rfl rfl rfl ?_
        obtain ⟨x38, e38⟩ : ∃ z : Int32, z = (nI k) + (1) := ⟨_, rfl⟩
        refine r_iinc (pc2 := 41) (ls2 := [.ref 117, .int (nI st), .int (nI (pastN (a 1) st (k + 1))), .int x38]) (v := x38) 3 dX10_pastIn_38 rfl (by rw [e38]; rfl) rfl rfl rfl ?_
        refine r_goto (pc2 := 4) dX10_pastIn_41 (by decide) ?_
        rw [e38, nI_1]
        exact ih (k + 1) (by omega)
      refine r_iload_n (pc2 := 5) 3 dX10_pastIn_4 rfl rfl rfl ?_
      refine r_aload_n (pc2 := 6) 0 dX10_pastIn_5 rfl rfl rfl rfl ?_
      refine r_getf (pc2 := 9) (v := .ref 118) fX10_13 dX10_pastIn_6 c117 (by decide) rfl rfl ?_
      refine r_iconst (pc2 := 10) (v := 3) dX10_pastIn_9 (by decide) rfl ?_
      refine r_ialdN (pc2 := 11) 3 dX10_pastIn_10 c118 (by decide) rfl (by decide) (by decide) rfl ?_
      refine r_icmp_ge (tgt := 44) (pc2 := 14) dX10_pastIn_11 (by decide) rfl (fun b11 => ?_) (fun b11 => ?_)
      · exact absurd b11 (nI_ge hlt (by omega))
      · skip
        refine r_iload_n (pc2 := 15) 2 dX10_pastIn_14 rfl rfl rfl ?_
        refine r_iload_n (pc2 := 16) 1 dX10_pastIn_15 rfl rfl rfl ?_
        refine r_iload_n (pc2 := 17) 3 dX10_pastIn_16 rfl rfl rfl ?_
        refine r_callS1 (pc2 := 20) (As := [.int (nI st), .int (nI k)]) (st := [.int (nI (pastN (a 1) st k))]) kX10_228 dX10_pastIn_17 rfl rfl (Nat.le_of_ble_eq_true rfl) (by omega) (c_cellIn (nI st) (nI k)) rfl (fun h2 hq17 => ?_)
        subst hq17
        refine r_aload_n (pc2 := 21) 0 dX10_pastIn_20 rfl rfl rfl rfl ?_
        refine r_getf (pc2 := 24) (v := .ref 118) fX10_13 dX10_pastIn_21 c117 (by decide) rfl rfl ?_
        refine r_iconst (pc2 := 25) (v := 1) dX10_pastIn_24 (by decide) rfl ?_
        refine r_ialdN (pc2 := 26) 1 dX10_pastIn_25 c118 (by decide) rfl (by decide) (by decide) rfl ?_
        refine r_icmp_ne (tgt := 35) (pc2 := 29) dX10_pastIn_26 (by decide) rfl (fun b26 => ?_) (fun b26 => ?_)
        · skip
          refine r_iconst (pc2 := 36) (v := 0) dX10_pastIn_35 (by decide) rfl ?_
          exact J 0 (by rw [if_neg (by rw [cellN hs (by omega), nI_eq (by omega) (by omega)] at b26; exact b26)])
        · skip
          refine r_iconst (pc2 := 30) (v := 1) dX10_pastIn_29 (by decide) rfl ?_
          refine r_iload_n (pc2 := 31) 3 dX10_pastIn_30 rfl rfl rfl ?_
          refine r_ishl (pc2 := 32) dX10_pastIn_31 rfl ?_
          refine r_goto (pc2 := 36) dX10_pastIn_32 (by decide) ?_
          refine r_cast (nI (2 ^ k)) (shl1 k (by omega)) ?_
          exact J _ (by rw [if_pos (by rw [cellN hs (by omega), nI_eq (by omega) (by omega)] at b26; exact b26)])
  refine r_iconst (pc2 := 1) (v := 0) dX10_pastIn_0 (by decide) rfl ?_
  refine r_istore_n (pc2 := 2) (ls2 := [.ref 117, .int (nI st), .int 0, .float 0]) 2 dX10_pastIn_1 rfl (by decide) rfl rfl rfl ?_
  refine r_iconst (pc2 := 3) (v := 0) dX10_pastIn_2 (by decide) rfl ?_
  refine r_istore_n (pc2 := 4) (ls2 := [.ref 117, .int (nI st), .int 0, .int 0]) 3 dX10_pastIn_3 rfl (by decide) rfl rfl rfl ?_
  exact loop (a 3) 0 (by omega)
