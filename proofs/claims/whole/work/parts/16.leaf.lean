/-! numbers -/
theorem lgc_lt (x y : Int64) : lg_cmp x y < 0 ↔ x < y := by
  unfold lg_cmp
  by_cases h : x > y
  · rw [if_pos h]
    exact ⟨fun q => absurd q (by decide), fun q => (Int64.lt_irrefl (Int64.lt_trans q h)).elim⟩
  · rw [if_neg h]
    by_cases h2 : x = y
    · rw [if_pos h2, h2]
      exact ⟨fun q => absurd q (by decide), fun q => (Int64.lt_irrefl q).elim⟩
    · rw [if_neg h2]
      refine ⟨fun _ => ?_, fun _ => by decide⟩
      have h3 : x ≤ y := Int64.not_lt.mp h
      exact Int64.lt_of_le_of_ne h3 h2
theorem lgc_gt (x y : Int64) : 0 < lg_cmp x y ↔ y < x := by
  unfold lg_cmp
  by_cases h : x > y
  · rw [if_pos h]
    exact ⟨fun _ => h, fun _ => by decide⟩
  · rw [if_neg h]
    refine ⟨fun q => ?_, fun q => absurd q h⟩
    by_cases h2 : x = y
    · rw [if_pos h2] at q; exact absurd q (by decide)
    · rw [if_neg h2] at q; exact absurd q (by decide)
theorem lgc_ge (x y : Int64) : 0 ≤ lg_cmp x y ↔ y ≤ x := by
  rw [← Int32.not_lt, lgc_lt, Int64.not_lt]
theorem lgc_le (x y : Int64) : lg_cmp x y ≤ 0 ↔ x ≤ y := by
  rw [← Int32.not_lt, lgc_gt, Int64.not_lt]
theorem lgc_eq (x y : Int64) : lg_cmp x y = 0 ↔ x = y := by
  unfold lg_cmp
  by_cases h : x > y
  · rw [if_pos h]
    exact ⟨fun q => absurd q (by decide), fun q => by rw [q] at h; exact (Int64.lt_irrefl h).elim⟩
  · rw [if_neg h]
    by_cases h2 : x = y
    · rw [if_pos h2]; exact ⟨fun _ => h2, fun _ => rfl⟩
    · rw [if_neg h2]; exact ⟨fun q => absurd q (by decide), fun q => absurd q h2⟩
theorem i2l_le (x y : Int32) : x.toInt64 ≤ y.toInt64 ↔ x ≤ y := by
  rw [Int64.le_iff_toInt_le, Int32.le_iff_toInt_le, Int32.toInt_toInt64, Int32.toInt_toInt64]
theorem i2l_lt (x y : Int32) : x.toInt64 < y.toInt64 ↔ x < y := by
  rw [Int64.lt_iff_toInt_lt, Int32.lt_iff_toInt_lt, Int32.toInt_toInt64, Int32.toInt_toInt64]
set_option maxRecDepth 20000 in
set_option maxHeartbeats 1000000 in
theorem c_max {E : EnvT} {d : Nat} {h : Hp} (x y : Int32) : Cn E mJ9_max_7cf53 d [.int x, .int y] h (fun r h2 => r = some (.int (if x < y then y else x)) ∧ h2 = h) := by
  refine Cn.go (ls := [.int x, .int y]) (by decide +kernel) rfl (Nat.le_of_ble_eq_true rfl) ?_
  refine r_iload_n (pc2 := 1) 0 dJ9_max_7cf53_0 rfl rfl rfl ?_
  refine r_iload_n (pc2 := 2) 1 dJ9_max_7cf53_1 rfl rfl rfl ?_
  refine r_icmp_lt (tgt := 9) (pc2 := 5) dJ9_max_7cf53_2 (by decide) rfl (fun b2 => ?_) (fun b2 => ?_)
  · skip
    refine r_iload_n (pc2 := 10) 1 dJ9_max_7cf53_9 rfl rfl rfl ?_
    exact r_iret rfl dJ9_max_7cf53_10 ⟨by simp_all [lgc_lt, lgc_gt, lgc_le, lgc_ge, lgc_eq, ← Int64.not_lt, ← Int32.not_lt], rfl⟩
  · skip
    refine r_iload_n (pc2 := 6) 0 dJ9_max_7cf53_5 rfl rfl rfl ?_
    refine r_goto (pc2 := 10) dJ9_max_7cf53_6 (by decide) ?_
    exact r_iret rfl dJ9_max_7cf53_10 ⟨by simp_all [lgc_lt, lgc_gt, lgc_le, lgc_ge, lgc_eq, ← Int64.not_lt, ← Int32.not_lt], rfl⟩
set_option maxRecDepth 20000 in
set_option maxHeartbeats 1000000 in
theorem c_min {E : EnvT} {d : Nat} {h : Hp} (x y : Int32) : Cn E mJ9_min_7cf53 d [.int x, .int y] h (fun r h2 => r = some (.int (if x ≤ y then x else y)) ∧ h2 = h) := by
  refine Cn.go (ls := [.int x, .int y]) (by decide +kernel) rfl (Nat.le_of_ble_eq_true rfl) ?_
  refine r_iload_n (pc2 := 1) 0 dJ9_min_7cf53_0 rfl rfl rfl ?_
  refine r_iload_n (pc2 := 2) 1 dJ9_min_7cf53_1 rfl rfl rfl ?_
  refine r_icmp_gt (tgt := 9) (pc2 := 5) dJ9_min_7cf53_2 (by decide) rfl (fun b2 => ?_) (fun b2 => ?_)
  · skip
    refine r_iload_n (pc2 := 10) 1 dJ9_min_7cf53_9 rfl rfl rfl ?_
    exact r_iret rfl dJ9_min_7cf53_10 ⟨by simp_all [lgc_lt, lgc_gt, lgc_le, lgc_ge, lgc_eq, ← Int64.not_lt, ← Int32.not_lt], rfl⟩
  · skip
    refine r_iload_n (pc2 := 6) 0 dJ9_min_7cf53_5 rfl rfl rfl ?_
    refine r_goto (pc2 := 10) dJ9_min_7cf53_6 (by decide) ?_
    exact r_iret rfl dJ9_min_7cf53_10 ⟨by simp_all [lgc_lt, lgc_gt, lgc_le, lgc_ge, lgc_eq, ← Int64.not_lt, ← Int32.not_lt], rfl⟩
set_option maxRecDepth 20000 in
set_option maxHeartbeats 1000000 in
theorem c_abs {E : EnvT} {d : Nat} {h : Hp} (x : Int32) : Cn E mJ9_abs_0f7a4 d [.int x] h (fun r h2 => r = some (.int (if 0 ≤ x then x else -x)) ∧ h2 = h) := by
  refine Cn.go (ls := [.int x]) (by decide +kernel) rfl (Nat.le_of_ble_eq_true rfl) ?_
  refine r_iload_n (pc2 := 1) 0 dJ9_abs_0f7a4_0 rfl rfl rfl ?_
  refine r_if_ge (tgt := 9) (pc2 := 4) dJ9_abs_0f7a4_1 (by decide) rfl (fun b1 => ?_) (fun b1 => ?_)
  · skip
    refine r_iload_n (pc2 := 10) 0 dJ9_abs_0f7a4_9 rfl rfl rfl ?_
    exact r_iret rfl dJ9_abs_0f7a4_10 ⟨by simp_all [lgc_lt, lgc_gt, lgc_le, lgc_ge, lgc_eq, ← Int64.not_lt, ← Int32.not_lt], rfl⟩
  · skip
    refine r_iload_n (pc2 := 5) 0 dJ9_abs_0f7a4_4 rfl rfl rfl ?_
    refine r_ineg (pc2 := 6) dJ9_abs_0f7a4_5 rfl ?_
    refine r_goto (pc2 := 10) dJ9_abs_0f7a4_6 (by decide) ?_
    exact r_iret rfl dJ9_abs_0f7a4_10 ⟨by simp_all [lgc_lt, lgc_gt, lgc_le, lgc_ge, lgc_eq, ← Int64.not_lt, ← Int32.not_lt], rfl⟩
set_option maxRecDepth 20000 in
set_option maxHeartbeats 1000000 in
theorem c_within {E : EnvT} {d : Nat} {h : Hp} (v lo hi : Int64) : Cn E mX10_within d [.long v, .long lo, .long hi] h (fun r h2 => r = some (.int (if lo ≤ v ∧ v ≤ hi then 1 else 0)) ∧ h2 = h) := by
  refine Cn.go (ls := [.long v, .float 0, .long lo, .float 0, .long hi, .float 0]) (by decide +kernel) rfl (Nat.le_of_ble_eq_true rfl) ?_
  refine r_lload_n (pc2 := 1) 0 dX10_within_0 rfl rfl rfl ?_
  refine r_lload_n (pc2 := 2) 2 dX10_within_1 rfl rfl rfl ?_
  refine r_lcmp (pc2 := 3) dX10_within_2 rfl ?_
  refine r_if_lt (tgt := 17) (pc2 := 6) dX10_within_3 (by decide) rfl (fun b3 => ?_) (fun b3 => ?_)
  · skip
    refine r_iconst (pc2 := 18) (v := 0) dX10_within_17 (by decide) rfl ?_
    exact r_zret (ty := .boolean) rfl (by decide) dX10_within_18 ⟨by simp_all [lgc_lt, lgc_gt, lgc_le, lgc_ge, lgc_eq, ← Int64.not_lt, ← Int32.not_lt], rfl⟩
  · skip
    refine r_lload_n (pc2 := 7) 0 dX10_within_6 rfl rfl rfl ?_
    refine r_lload (pc2 := 9) 4 dX10_within_7 rfl rfl ?_
    refine r_lcmp (pc2 := 10) dX10_within_9 rfl ?_
    refine r_if_gt (tgt := 17) (pc2 := 13) dX10_within_10 (by decide) rfl (fun b10 => ?_) (fun b10 => ?_)
    · skip
      refine r_iconst (pc2 := 18) (v := 0) dX10_within_17 (by decide) rfl ?_
      exact r_zret (ty := .boolean) rfl (by decide) dX10_within_18 ⟨by simp_all [lgc_lt, lgc_gt, lgc_le, lgc_ge, lgc_eq, ← Int64.not_lt, ← Int32.not_lt], rfl⟩
    · skip
      refine r_iconst (pc2 := 14) (v := 1) dX10_within_13 (by decide) rfl ?_
      refine r_goto (pc2 := 18) dX10_within_14 (by decide) ?_
      exact r_zret (ty := .boolean) rfl (by decide) dX10_within_18 ⟨by simp_all [lgc_lt, lgc_gt, lgc_le, lgc_ge, lgc_eq, ← Int64.not_lt, ← Int32.not_lt], rfl⟩
set_option maxRecDepth 20000 in
set_option maxHeartbeats 1000000 in
theorem c_isIn {E : EnvT} {d : Nat} {h : Hp} (v : Int64) (k : Int32) : Cn E mX10_isIn d [.long v, .int k] h (fun r h2 => r = some (.int (if (v >>> (k.toInt64 &&& 63)) &&& 1 = 1 then 1 else 0)) ∧ h2 = h) := by
  refine Cn.go (ls := [.long v, .float 0, .int k]) (by decide +kernel) rfl (Nat.le_of_ble_eq_true rfl) ?_
  refine r_lload_n (pc2 := 1) 0 dX10_isIn_0 rfl rfl rfl ?_
  refine r_iload_n (pc2 := 2) 2 dX10_isIn_1 rfl rfl rfl ?_
  refine r_lshr (pc2 := 3) dX10_isIn_2 rfl ?_
  refine r_lconst (pc2 := 4) (v := 1) dX10_isIn_3 (by decide) rfl ?_
  refine r_land (pc2 := 5) dX10_isIn_4 rfl ?_
  refine r_lconst (pc2 := 6) (v := 1) dX10_isIn_5 (by decide) rfl ?_
  refine r_lcmp (pc2 := 7) dX10_isIn_6 rfl ?_
  refine r_if_ne (tgt := 14) (pc2 := 10) dX10_isIn_7 (by decide) rfl (fun b7 => ?_) (fun b7 => ?_)
  · skip
    refine r_iconst (pc2 := 15) (v := 0) dX10_isIn_14 (by decide) rfl ?_
    exact r_zret (ty := .boolean) rfl (by decide) dX10_isIn_15 ⟨by simp_all [lgc_lt, lgc_gt, lgc_le, lgc_ge, lgc_eq, ← Int64.not_lt, ← Int32.not_lt], rfl⟩
  · skip
    refine r_iconst (pc2 := 11) (v := 1) dX10_isIn_10 (by decide) rfl ?_
    refine r_goto (pc2 := 15) dX10_isIn_11 (by decide) ?_
    exact r_zret (ty := .boolean) rfl (by decide) dX10_isIn_15 ⟨by simp_all [lgc_lt, lgc_gt, lgc_le, lgc_ge, lgc_eq, ← Int64.not_lt, ← Int32.not_lt], rfl⟩
set_option maxRecDepth 20000 in
set_option maxHeartbeats 1000000 in
theorem c_cellIn {E : EnvT} {d : Nat} {h : Hp} (s g : Int32) : Cn E mX10_cellIn d [.int s, .int g] h (fun r h2 => r = some (.int ((s >>> ((3 * g) &&& 31)) &&& 7)) ∧ h2 = h) := by
  refine Cn.go (ls := [.int s, .int g]) (by decide +kernel) rfl (Nat.le_of_ble_eq_true rfl) ?_
  refine r_iload_n (pc2 := 1) 0 dX10_cellIn_0 rfl rfl rfl ?_
  refine r_iconst (pc2 := 2) (v := 3) dX10_cellIn_1 (by decide) rfl ?_
  refine r_iload_n (pc2 := 3) 1 dX10_cellIn_2 rfl rfl rfl ?_
  refine r_imul (pc2 := 4) dX10_cellIn_3 rfl ?_
  refine r_ishr (pc2 := 5) dX10_cellIn_4 rfl ?_
  refine r_bipush (pc2 := 7) (v := 7) dX10_cellIn_5 (by decide) rfl ?_
  refine r_iand (pc2 := 8) dX10_cellIn_7 rfl ?_
  exact r_iret rfl dX10_cellIn_8 ⟨rfl, rfl⟩
set_option maxRecDepth 20000 in
set_option maxHeartbeats 1000000 in
theorem c_depthIn {E : EnvT} {d : Nat} {h : Hp} (s : Int32) : Cn E mX10_depthIn d [.int s] h (fun r h2 => r = some (.int (s >>> ((12 : Int32) &&& 31))) ∧ h2 = h) := by
  refine Cn.go (ls := [.int s]) (by decide +kernel) rfl (Nat.le_of_ble_eq_true rfl) ?_
  refine r_iload_n (pc2 := 1) 0 dX10_depthIn_0 rfl rfl rfl ?_
  refine r_bipush (pc2 := 3) (v := 12) dX10_depthIn_1 (by decide) rfl ?_
  refine r_ishr (pc2 := 4) dX10_depthIn_3 rfl ?_
  exact r_iret rfl dX10_depthIn_4 ⟨rfl, rfl⟩
set_option maxRecDepth 20000 in
set_option maxHeartbeats 1000000 in
theorem c_isSmall {E : EnvT} {d : Nat} {h : Hp} (c : Int32) : Cn E mX10_isSmall d [.int c] h (fun r h2 => r = some (.int (if 97 ≤ c ∧ c ≤ 122 then 1 else 0)) ∧ h2 = h) := by
  refine Cn.go (ls := [.int c]) (by decide +kernel) rfl (Nat.le_of_ble_eq_true rfl) ?_
  refine r_iload_n (pc2 := 1) 0 dX10_isSmall_0 rfl rfl rfl ?_
  refine r_bipush (pc2 := 3) (v := 97) dX10_isSmall_1 (by decide) rfl ?_
  refine r_icmp_lt (tgt := 16) (pc2 := 6) dX10_isSmall_3 (by decide) rfl (fun b3 => ?_) (fun b3 => ?_)
  · skip
    refine r_iconst (pc2 := 17) (v := 0) dX10_isSmall_16 (by decide) rfl ?_
    exact r_zret (ty := .boolean) rfl (by decide) dX10_isSmall_17 ⟨by simp_all [lgc_lt, lgc_gt, lgc_le, lgc_ge, lgc_eq, ← Int64.not_lt, ← Int32.not_lt], rfl⟩
  · skip
    refine r_iload_n (pc2 := 7) 0 dX10_isSmall_6 rfl rfl rfl ?_
    refine r_bipush (pc2 := 9) (v := 122) dX10_isSmall_7 (by decide) rfl ?_
    refine r_icmp_gt (tgt := 16) (pc2 := 12) dX10_isSmall_9 (by decide) rfl (fun b9 => ?_) (fun b9 => ?_)
    · skip
      refine r_iconst (pc2 := 17) (v := 0) dX10_isSmall_16 (by decide) rfl ?_
      exact r_zret (ty := .boolean) rfl (by decide) dX10_isSmall_17 ⟨by simp_all [lgc_lt, lgc_gt, lgc_le, lgc_ge, lgc_eq, ← Int64.not_lt, ← Int32.not_lt], rfl⟩
    · skip
      refine r_iconst (pc2 := 13) (v := 1) dX10_isSmall_12 (by decide) rfl ?_
      refine r_goto (pc2 := 17) dX10_isSmall_13 (by decide) ?_
      exact r_zret (ty := .boolean) rfl (by decide) dX10_isSmall_17 ⟨by simp_all [lgc_lt, lgc_gt, lgc_le, lgc_ge, lgc_eq, ← Int64.not_lt, ← Int32.not_lt], rfl⟩
set_option maxRecDepth 20000 in
set_option maxHeartbeats 1000000 in
theorem c_isDigit {E : EnvT} {d : Nat} {h : Hp} (c : Int32) : Cn E mX10_isDigit d [.int c] h (fun r h2 => r = some (.int (if 48 ≤ c ∧ c ≤ 57 then 1 else 0)) ∧ h2 = h) := by
  refine Cn.go (ls := [.int c]) (by decide +kernel) rfl (Nat.le_of_ble_eq_true rfl) ?_
  refine r_iload_n (pc2 := 1) 0 dX10_isDigit_0 rfl rfl rfl ?_
  refine r_bipush (pc2 := 3) (v := 48) dX10_isDigit_1 (by decide) rfl ?_
  refine r_icmp_lt (tgt := 16) (pc2 := 6) dX10_isDigit_3 (by decide) rfl (fun b3 => ?_) (fun b3 => ?_)
  · skip
    refine r_iconst (pc2 := 17) (v := 0) dX10_isDigit_16 (by decide) rfl ?_
    exact r_zret (ty := .boolean) rfl (by decide) dX10_isDigit_17 ⟨by simp_all [lgc_lt, lgc_gt, lgc_le, lgc_ge, lgc_eq, ← Int64.not_lt, ← Int32.not_lt], rfl⟩
  · skip
    refine r_iload_n (pc2 := 7) 0 dX10_isDigit_6 rfl rfl rfl ?_
    refine r_bipush (pc2 := 9) (v := 57) dX10_isDigit_7 (by decide) rfl ?_
    refine r_icmp_gt (tgt := 16) (pc2 := 12) dX10_isDigit_9 (by decide) rfl (fun b9 => ?_) (fun b9 => ?_)
    · skip
      refine r_iconst (pc2 := 17) (v := 0) dX10_isDigit_16 (by decide) rfl ?_
      exact r_zret (ty := .boolean) rfl (by decide) dX10_isDigit_17 ⟨by simp_all [lgc_lt, lgc_gt, lgc_le, lgc_ge, lgc_eq, ← Int64.not_lt, ← Int32.not_lt], rfl⟩
    · skip
      refine r_iconst (pc2 := 13) (v := 1) dX10_isDigit_12 (by decide) rfl ?_
      refine r_goto (pc2 := 17) dX10_isDigit_13 (by decide) ?_
      exact r_zret (ty := .boolean) rfl (by decide) dX10_isDigit_17 ⟨by simp_all [lgc_lt, lgc_gt, lgc_le, lgc_ge, lgc_eq, ← Int64.not_lt, ← Int32.not_lt], rfl⟩
set_option maxRecDepth 20000 in
set_option maxHeartbeats 1000000 in
theorem c_notSelf {E : EnvT} {d : Nat} {h : Hp} (a b : Int32) : Cn E mX10_notSelf d [.int a, .int b] h (fun r h2 => r = some (.int (if a = b then -1 else a)) ∧ h2 = h) := by
  refine Cn.go (ls := [.int a, .int b]) (by decide +kernel) rfl (Nat.le_of_ble_eq_true rfl) ?_
  refine r_iload_n (pc2 := 1) 0 dX10_notSelf_0 rfl rfl rfl ?_
  refine r_iload_n (pc2 := 2) 1 dX10_notSelf_1 rfl rfl rfl ?_
  refine r_icmp_ne (tgt := 9) (pc2 := 5) dX10_notSelf_2 (by decide) rfl (fun b2 => ?_) (fun b2 => ?_)
  · skip
    refine r_iload_n (pc2 := 10) 0 dX10_notSelf_9 rfl rfl rfl ?_
    exact r_iret rfl dX10_notSelf_10 ⟨by simp_all [lgc_lt, lgc_gt, lgc_le, lgc_ge, lgc_eq, ← Int64.not_lt, ← Int32.not_lt], rfl⟩
  · skip
    refine r_iconst (pc2 := 6) (v := -1) dX10_notSelf_5 (by decide) rfl ?_
    refine r_goto (pc2 := 10) dX10_notSelf_6 (by decide) ?_
    exact r_iret rfl dX10_notSelf_10 ⟨by simp_all [lgc_lt, lgc_gt, lgc_le, lgc_ge, lgc_eq, ← Int64.not_lt, ← Int32.not_lt], rfl⟩
set_option maxRecDepth 20000 in
set_option maxHeartbeats 1000000 in
theorem c_xcut {E : EnvT} {d : Nat} {h : Hp} (v : Int64) (s : Int32) : Cn E mX10_cut d [.long v, .int s] h (fun r h2 => r = some (.long (if s = 0 then v.toInt32.toInt8.toInt32.toInt64 else if s = 1 then v.toInt32.toInt16.toInt32.toInt64 else if s = 2 then v.toInt32.toInt64 else v)) ∧ h2 = h) := by
  refine Cn.go (ls := [.long v, .float 0, .int s]) (by decide +kernel) rfl (Nat.le_of_ble_eq_true rfl) ?_
  refine r_iload_n (pc2 := 1) 2 dX10_cut_0 rfl rfl rfl ?_
  refine r_if_ne (tgt := 11) (pc2 := 4) dX10_cut_1 (by decide) rfl (fun b1 => ?_) (fun b1 => ?_)
  · skip
    refine r_iload_n (pc2 := 12) 2 dX10_cut_11 rfl rfl rfl ?_
    refine r_iconst (pc2 := 13) (v := 1) dX10_cut_12 (by decide) rfl ?_
    refine r_icmp_ne (tgt := 23) (pc2 := 16) dX10_cut_13 (by decide) rfl (fun b13 => ?_) (fun b13 => ?_)
    · skip
      refine r_iload_n (pc2 := 24) 2 dX10_cut_23 rfl rfl rfl ?_
      refine r_iconst (pc2 := 25) (v := 2) dX10_cut_24 (by decide) rfl ?_
      refine r_icmp_ne (tgt := 34) (pc2 := 28) dX10_cut_25 (by decide) rfl (fun b25 => ?_) (fun b25 => ?_)
      · skip
        refine r_lload_n (pc2 := 35) 0 dX10_cut_34 rfl rfl rfl ?_
        exact r_lret rfl dX10_cut_35 ⟨by simp_all [lgc_lt, lgc_gt, lgc_le, lgc_ge, lgc_eq, ← Int64.not_lt, ← Int32.not_lt], rfl⟩
      · skip
        refine r_lload_n (pc2 := 29) 0 dX10_cut_28 rfl rfl rfl ?_
        refine r_l2i (pc2 := 30) dX10_cut_29 rfl ?_
        refine r_i2l (pc2 := 31) dX10_cut_30 rfl ?_
        refine r_goto (pc2 := 35) dX10_cut_31 (by decide) ?_
        exact r_lret rfl dX10_cut_35 ⟨by simp_all [lgc_lt, lgc_gt, lgc_le, lgc_ge, lgc_eq, ← Int64.not_lt, ← Int32.not_lt], rfl⟩
    · skip
      refine r_lload_n (pc2 := 17) 0 dX10_cut_16 rfl rfl rfl ?_
      refine r_l2i (pc2 := 18) dX10_cut_17 rfl ?_
      refine r_i2s (pc2 := 19) dX10_cut_18 rfl ?_
      refine r_i2l (pc2 := 20) dX10_cut_19 rfl ?_
      refine r_goto (pc2 := 35) dX10_cut_20 (by decide) ?_
      exact r_lret rfl dX10_cut_35 ⟨by simp_all [lgc_lt, lgc_gt, lgc_le, lgc_ge, lgc_eq, ← Int64.not_lt, ← Int32.not_lt], rfl⟩
  · skip
    refine r_lload_n (pc2 := 5) 0 dX10_cut_4 rfl rfl rfl ?_
    refine r_l2i (pc2 := 6) dX10_cut_5 rfl ?_
    refine r_i2b (pc2 := 7) dX10_cut_6 rfl ?_
    refine r_i2l (pc2 := 8) dX10_cut_7 rfl ?_
    refine r_goto (pc2 := 35) dX10_cut_8 (by decide) ?_
    exact r_lret rfl dX10_cut_35 ⟨by simp_all [lgc_lt, lgc_gt, lgc_le, lgc_ge, lgc_eq, ← Int64.not_lt, ← Int32.not_lt], rfl⟩
def bitsF (s : Int32) : Nat → Int32
  | 0 => 0
  | k + 1 => bitsF s k + ((s >>> (nI k &&& 31)) &&& 1)
set_option maxRecDepth 20000 in
set_option maxHeartbeats 1000000 in
theorem c_bitsOf {E : EnvT} {d : Nat} {h : Hp} (s : Int32) : Cn E mX10_bitsOf d [.int s] h (fun r h2 => r = some (.int (bitsF s 10)) ∧ h2 = h) := by
  refine Cn.go (ls := [.int s, .float 0, .float 0]) (by decide +kernel) rfl (Nat.le_of_ble_eq_true rfl) ?_
  have loop : ∀ (m k : Nat), k + m = 10 → Fr E mX10_bitsOf d 4 [.int s, .int (bitsF s k), .int (nI k)] [] h (fun r h2 => r = some (.int (bitsF s 10)) ∧ h2 = h) := by
    intro m
    induction m with
    | zero =>
      intro k hk
      obtain rfl : k = 10 := by omega
      refine r_iload_n (pc2 := 5) 2 dX10_bitsOf_4 rfl rfl rfl ?_
      refine r_bipush (pc2 := 7) (v := 10) dX10_bitsOf_5 (by decide) rfl ?_
      refine r_icmp_ge (tgt := 24) (pc2 := 10) dX10_bitsOf_7 (by decide) rfl (fun b7 => ?_) (fun b7 => ?_)
      · skip
        refine r_iload_n (pc2 := 25) 1 dX10_bitsOf_24 rfl rfl rfl ?_
        exact r_iret rfl dX10_bitsOf_25 ⟨rfl, rfl⟩
      · exact absurd (nI_le (a := 10) (b := 10) (Nat.le_refl _) (by decide)) b7
    | succ m ih =>
      intro k hk
      have hlt : k < 10 := by omega
      refine r_iload_n (pc2 := 5) 2 dX10_bitsOf_4 rfl rfl rfl ?_
      refine r_bipush (pc2 := 7) (v := 10) dX10_bitsOf_5 (by decide) rfl ?_
      refine r_icmp_ge (tgt := 24) (pc2 := 10) dX10_bitsOf_7 (by decide) rfl (fun b7 => ?_) (fun b7 => ?_)
      · exact absurd b7 (nI_ge (b := 10) hlt (by decide))
      · skip
        refine r_iload_n (pc2 := 11) 1 dX10_bitsOf_10 rfl rfl rfl ?_
        refine r_iload_n (pc2 := 12) 0 dX10_bitsOf_11 rfl rfl rfl ?_
        refine r_iload_n (pc2 := 13) 2 dX10_bitsOf_12 rfl rfl rfl ?_
        refine r_ishr (pc2 := 14) dX10_bitsOf_13 rfl ?_
        refine r_iconst (pc2 := 15) (v := 1) dX10_bitsOf_14 (by decide) rfl ?_
        refine r_iand (pc2 := 16) dX10_bitsOf_15 rfl ?_
        refine r_iadd (pc2 := 17) dX10_bitsOf_16 rfl ?_
        refine r_topi (fun x17 e17 => ?_)
        refine r_istore_n (pc2 := 18) (ls2 := [.int s, .int x17, .int (nI k)]) 1 dX10_bitsOf_17 rfl (by decide) rfl rfl rfl ?_
        obtain ⟨x18, e18⟩ : ∃ z : Int32, z = (nI k) + (1) := ⟨_, rfl⟩
        refine r_iinc (pc2 := 21) (ls2 := [.int s, .int x17, .int x18]) (v := x18) 2 dX10_bitsOf_18 rfl (by rw [e18]; rfl) rfl rfl rfl ?_
        refine r_goto (pc2 := 4) dX10_bitsOf_21 (by decide) ?_
        rw [e17, e18, nI_1]
        exact ih (k + 1) (by omega)
  refine r_iconst (pc2 := 1) (v := 0) dX10_bitsOf_0 (by decide) rfl ?_
  refine r_istore_n (pc2 := 2) (ls2 := [.int s, .int 0, .float 0]) 1 dX10_bitsOf_1 rfl (by decide) rfl rfl rfl ?_
  refine r_iconst (pc2 := 3) (v := 0) dX10_bitsOf_2 (by decide) rfl ?_
  refine r_istore_n (pc2 := 4) (ls2 := [.int s, .int 0, .int 0]) 2 dX10_bitsOf_3 rfl (by decide) rfl rfl rfl ?_
  exact loop 10 0 rfl
