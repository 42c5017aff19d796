/-! Arrays.copyOf, shorter than what is copied -/
set_option maxRecDepth 20000 in
set_option maxHeartbeats 1000000 in
theorem c_min9 {E : EnvT} {d : Nat} {h0 : Hp} {n0 N : Nat} (h1 : N < n0) (h2 : n0 < 2 ^ 31) : Cn E mJ9_min_7cf53 d [.int (nI n0), .int (nI N)] h0 (fun r h2 => r = some (.int (nI N)) ∧ h2 = h0) := by
  refine Cn.go (ls := [.int (nI n0), .int (nI N)]) (by decide +kernel) rfl (Nat.le_of_ble_eq_true rfl) ?_
  refine r_iload_n (pc2 := 1) 0 dJ9_min_7cf53_0 rfl rfl rfl ?_
  refine r_iload_n (pc2 := 2) 1 dJ9_min_7cf53_1 rfl rfl rfl ?_
  refine r_icmp_gt (tgt := 9) (pc2 := 5) dJ9_min_7cf53_2 (by decide) rfl (fun b2 => ?_) (fun b2 => ?_)
  · skip
    refine r_iload_n (pc2 := 10) 1 dJ9_min_7cf53_9 rfl rfl rfl ?_
    exact r_iret rfl dJ9_min_7cf53_10 ⟨rfl, rfl⟩
  · exact absurd (nI_lt h1 (by omega)) b2
set_option maxRecDepth 20000 in
set_option maxHeartbeats 1000000 in
theorem c_copyOf {E : EnvT} {d : Nat} {h0 : Hp} {a0 n0 N : Nat} {f : Nat → Int32} (ca0 : h0.1 a0 = some (aI n0 f)) (h64 : 64 ≤ a0) (hl : a0 < h0.2.1) (hN : N < n0) (hn : n0 ≤ 900) (hd : 2 ≤ d) : Cn E mJ7_copyOf_59c91 d [.ref a0, .int (nI N)] h0 (fun r h2 => ∃ v, r = some v ∧ ∃ g : Nat → Int32, v = .ref h0.2.1 ∧ h2.2.1 = h0.2.1 + 1 ∧ h2.2.2 = h0.2.2 + N ∧ (∀ b, b ≠ h0.2.1 → h2.1 b = h0.1 b) ∧ h2.1 h0.2.1 = some (aI N g) ∧ ∀ j, j < N → g j = f j) := by
  refine Cn.go (ls := [.ref a0, .int (nI N), .float 0]) (by decide +kernel) rfl (Nat.le_of_ble_eq_true rfl) ?_
  refine r_iload_n (pc2 := 1) 1 dJ7_copyOf_59c91_0 rfl rfl rfl ?_
  refine r_aload_n (pc2 := 2) 0 dJ7_copyOf_59c91_1 rfl rfl rfl rfl ?_
  refine r_alen (pc2 := 3) dJ7_copyOf_59c91_2 ca0 h64 (by decide) rfl ?_
  refine r_icmp_ne (tgt := 14) (pc2 := 6) dJ7_copyOf_59c91_3 (by decide) rfl (fun b3 => ?_) (fun b3 => ?_)
  · skip
    refine r_iload_n (pc2 := 15) 1 dJ7_copyOf_59c91_14 rfl rfl rfl ?_
    refine r_newiX (pc2 := 17) (N := N) aC_int dJ7_copyOf_59c91_15 (nI_pos (by omega)) (nI_clamp (by omega)) (by omega) rfl (by omega) (fun q h eq zc15 zs15 o15 c_q => ?_)
    have ca0 := (o15 a0 (by omega)).trans ca0
    refine r_astore_n (pc2 := 18) (ls2 := [.ref a0, .int (nI N), .ref q]) 2 dJ7_copyOf_59c91_17 rfl (by decide) rfl rfl rfl rfl ?_
    refine r_aload_n (pc2 := 19) 0 dJ7_copyOf_59c91_18 rfl rfl rfl rfl ?_
    refine r_iconst (pc2 := 20) (v := 0) dJ7_copyOf_59c91_19 (by decide) rfl ?_
    refine r_aload_n (pc2 := 21) 2 dJ7_copyOf_59c91_20 rfl rfl rfl rfl ?_
    refine r_iconst (pc2 := 22) (v := 0) dJ7_copyOf_59c91_21 (by decide) rfl ?_
    refine r_aload_n (pc2 := 23) 0 dJ7_copyOf_59c91_22 rfl rfl rfl rfl ?_
    refine r_alen (pc2 := 24) dJ7_copyOf_59c91_23 ca0 h64 (by decide) rfl ?_
    refine r_iload_n (pc2 := 25) 1 dJ7_copyOf_59c91_24 rfl rfl rfl ?_
    refine r_callS1 (pc2 := 28) (As := [.int (nI n0), .int (nI N)]) (st := [.int 0, .ref q, .int 0, .ref a0]) kJ7_304 dJ7_copyOf_59c91_25 rfl rfl (Nat.le_of_ble_eq_true rfl) (by omega) (c_min9 (by omega) (by omega)) rfl (fun h2 hq25 => ?_)
    obtain rfl := hq25.symm
    refine r_copy0 (pc2 := 31) (a0 := a0) (a := q) (n0 := n0) (n1 := N) (N := N) lJ7_150.1 lJ7_150.2.1 lJ7_150.2.2.1 lJ7_150.2.2.2 dJ7_copyOf_59c91_28 ca0 c_q h64 (by omega) (by omega) (Nat.le_refl _) (by omega) rfl (by omega) ?_
    refine r_aload_n (pc2 := 32) 2 dJ7_copyOf_59c91_31 rfl rfl rfl rfl ?_
    exact r_aret rfl (Or.inr ⟨_, rfl⟩) rfl dJ7_copyOf_59c91_32 ⟨_, rfl, va_cpy f (fun _ => 0) 0 0 N, by rw [eq], by rw [← eq]; exact zc15, zs15, fun b hb => (hs_ne h _ (by rw [eq]; exact hb)).trans (o15 b (by rw [eq]; exact hb)), by rw [← eq]; exact hs_same h _ _, fun j hj => (if_pos ⟨Nat.zero_le _, by omega⟩).trans (by rw [Nat.zero_add, Nat.sub_zero])⟩
  · exact absurd ((nI_eq (by omega) (by omega)).mp b3) (by omega)
