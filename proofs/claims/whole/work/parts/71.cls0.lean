/-! the class: its laws, reckoned -/
def cmI (c : Nat) : Int32 := if c < 1000 then nI c else if c < 1006 then -1 - nI (c - 1000) else if c < 3000 then -3 - nI (c - 1006) else -11 - nI (c - 3000)
def widx (j : Nat) : Nat := if j < 6 then j else j - 4
theorem q_add64 {x y : Int32} (hx : bd x) (hy : bd y) : (x + y).toInt64 = x.toInt64 + y.toInt64 := by
  unfold bd at *
  apply Int64.toInt_inj.mp
  rw [Int32.toInt_toInt64, Int32.toInt_add, q_bm32 (by omega) (by omega), Int64.toInt_add, Int32.toInt_toInt64, Int32.toInt_toInt64, q_bm64 (by omega) (by omega)]
theorem q_sub64 {x y : Int32} (hx : bd x) (hy : bd y) : (x - y).toInt64 = x.toInt64 - y.toInt64 := by
  unfold bd at *
  apply Int64.toInt_inj.mp
  rw [Int32.toInt_toInt64, Int32.toInt_sub, q_bm32 (by omega) (by omega), Int64.toInt_sub, Int32.toInt_toInt64, Int32.toInt_toInt64, q_bm64 (by omega) (by omega)]
set_option maxRecDepth 20000 in
set_option maxHeartbeats 1000000 in
theorem c_join {E : EnvT} {d : Nat} {h : Hp} {c : Nat} {x y : Int32} (hb : isBin c) (hxy : c = 3000 ∨ c = 3001 → bd x ∧ bd y) : Cn E mX2_join d [.int (cmI c), .int x, .int y] h (fun r h2 => r = some (.int (btw c x y)) ∧ h2 = h) := by
  rcases hb with rfl | rfl | rfl | rfl | rfl | rfl | rfl | rfl
  · rw [show cmI 3000 = -11 by decide]
    refine Cn.go (ls := [.int (-11), .int x, .int y, .float 0, .float 0]) (by decide +kernel) rfl (Nat.le_of_ble_eq_true rfl) ?_
    refine r_iload_n (pc2 := 1) 0 dX2_join_0 rfl rfl rfl ?_
    refine r_tsw (pc2 := 0) (tgt := 48) (off := 47) dX2_join_1 (by decide) (by decide) (by decide) (by decide) ?_
    refine r_iload_n (pc2 := 49) 1 dX2_join_48 rfl rfl rfl ?_
    refine r_iload_n (pc2 := 50) 2 dX2_join_49 rfl rfl rfl ?_
    refine r_iadd (pc2 := 51) dX2_join_50 rfl ?_
    refine r_i2l (pc2 := 52) dX2_join_51 rfl ?_
    refine r_castl (x.toInt64 + y.toInt64) (q_add64 (hxy (Or.inl rfl)).1 (hxy (Or.inl rfl)).2) ?_
    refine r_topl (fun x52 e52 => ?_)
    refine r_lstore_n (pc2 := 53) (ls2 := [.int (-11), .int x, .int y, .long x52, .float 0]) 3 dX2_join_52 rfl (by decide) rfl rfl rfl ?_
    refine r_goto (pc2 := 114) dX2_join_53 (by decide) ?_
    refine r_lload_n (pc2 := 115) 3 dX2_join_114 rfl rfl rfl ?_
    refine r_ldc2 (pc2 := 118) (v := 1000000) qX2_97 dX2_join_115 rfl ?_
    refine r_lcmp (pc2 := 119) dX2_join_118 rfl ?_
    refine r_if_le (tgt := 127) (pc2 := 122) dX2_join_119 (by decide) rfl (fun b119 => ?_) (fun b119 => ?_)
    · skip
      refine r_lload_n (pc2 := 128) 3 dX2_join_127 rfl rfl rfl ?_
      refine r_ldc2 (pc2 := 131) (v := -1000000) qX2_100 dX2_join_128 rfl ?_
      refine r_lcmp (pc2 := 132) dX2_join_131 rfl ?_
      refine r_if_ge (tgt := 140) (pc2 := 135) dX2_join_132 (by decide) rfl (fun b132 => ?_) (fun b132 => ?_)
      · skip
        refine r_lload_n (pc2 := 141) 3 dX2_join_140 rfl rfl rfl ?_
        refine r_l2i (pc2 := 142) dX2_join_141 rfl ?_
        exact r_iret rfl dX2_join_142 ⟨by subst e52; show some (Value.int _) = some (Value.int (clampM (x.toInt64 + y.toInt64))); unfold clampM; first | (rw [if_pos ((lgc_gt _ _).mp (Int32.not_le.mp b119))]; rfl) | (rw [if_neg (fun z => absurd ((lgc_gt _ _).mpr z) (Int32.not_lt.mpr b119)), if_pos ((lgc_lt _ _).mp (Int32.not_le.mp b132))]; rfl) | (rw [if_neg (fun z => absurd ((lgc_gt _ _).mpr z) (Int32.not_lt.mpr b119)), if_neg (fun z => absurd ((lgc_lt _ _).mpr z) (Int32.not_lt.mpr b132))]), rfl⟩
      · skip
        refine r_ldc (pc2 := 137) (v := -1000000) qX2_102 dX2_join_135 rfl ?_
        refine r_goto (pc2 := 142) dX2_join_137 (by decide) ?_
        exact r_iret rfl dX2_join_142 ⟨by subst e52; show some (Value.int _) = some (Value.int (clampM (x.toInt64 + y.toInt64))); unfold clampM; first | (rw [if_pos ((lgc_gt _ _).mp (Int32.not_le.mp b119))]; rfl) | (rw [if_neg (fun z => absurd ((lgc_gt _ _).mpr z) (Int32.not_lt.mpr b119)), if_pos ((lgc_lt _ _).mp (Int32.not_le.mp b132))]; rfl) | (rw [if_neg (fun z => absurd ((lgc_gt _ _).mpr z) (Int32.not_lt.mpr b119)), if_neg (fun z => absurd ((lgc_lt _ _).mpr z) (Int32.not_lt.mpr b132))]), rfl⟩
    · skip
      refine r_ldc (pc2 := 124) (v := 1000000) qX2_99 dX2_join_122 rfl ?_
      refine r_goto (pc2 := 142) dX2_join_124 (by decide) ?_
      exact r_iret rfl dX2_join_142 ⟨by subst e52; show some (Value.int _) = some (Value.int (clampM (x.toInt64 + y.toInt64))); unfold clampM; first | (rw [if_pos ((lgc_gt _ _).mp (Int32.not_le.mp b119))]; rfl) | (rw [if_neg (fun z => absurd ((lgc_gt _ _).mpr z) (Int32.not_lt.mpr b119)), if_pos ((lgc_lt _ _).mp (Int32.not_le.mp b132))]; rfl) | (rw [if_neg (fun z => absurd ((lgc_gt _ _).mpr z) (Int32.not_lt.mpr b119)), if_neg (fun z => absurd ((lgc_lt _ _).mpr z) (Int32.not_lt.mpr b132))]), rfl⟩
  · rw [show cmI 3001 = -12 by decide]
    refine Cn.go (ls := [.int (-12), .int x, .int y, .float 0, .float 0]) (by decide +kernel) rfl (Nat.le_of_ble_eq_true rfl) ?_
    refine r_iload_n (pc2 := 1) 0 dX2_join_0 rfl rfl rfl ?_
    refine r_tsw (pc2 := 0) (tgt := 56) (off := 55) dX2_join_1 (by decide) (by decide) (by decide) (by decide) ?_
    refine r_iload_n (pc2 := 57) 1 dX2_join_56 rfl rfl rfl ?_
    refine r_iload_n (pc2 := 58) 2 dX2_join_57 rfl rfl rfl ?_
    refine r_isub (pc2 := 59) dX2_join_58 rfl ?_
    refine r_i2l (pc2 := 60) dX2_join_59 rfl ?_
    refine r_castl (x.toInt64 - y.toInt64) (q_sub64 (hxy (Or.inr rfl)).1 (hxy (Or.inr rfl)).2) ?_
    refine r_topl (fun x60 e60 => ?_)
    refine r_lstore_n (pc2 := 61) (ls2 := [.int (-12), .int x, .int y, .long x60, .float 0]) 3 dX2_join_60 rfl (by decide) rfl rfl rfl ?_
    refine r_goto (pc2 := 114) dX2_join_61 (by decide) ?_
    refine r_lload_n (pc2 := 115) 3 dX2_join_114 rfl rfl rfl ?_
    refine r_ldc2 (pc2 := 118) (v := 1000000) qX2_97 dX2_join_115 rfl ?_
    refine r_lcmp (pc2 := 119) dX2_join_118 rfl ?_
    refine r_if_le (tgt := 127) (pc2 := 122) dX2_join_119 (by decide) rfl (fun b119 => ?_) (fun b119 => ?_)
    · skip
      refine r_lload_n (pc2 := 128) 3 dX2_join_127 rfl rfl rfl ?_
      refine r_ldc2 (pc2 := 131) (v := -1000000) qX2_100 dX2_join_128 rfl ?_
      refine r_lcmp (pc2 := 132) dX2_join_131 rfl ?_
      refine r_if_ge (tgt := 140) (pc2 := 135) dX2_join_132 (by decide) rfl (fun b132 => ?_) (fun b132 => ?_)
      · skip
        refine r_lload_n (pc2 := 141) 3 dX2_join_140 rfl rfl rfl ?_
        refine r_l2i (pc2 := 142) dX2_join_141 rfl ?_
        exact r_iret rfl dX2_join_142 ⟨by subst e60; show some (Value.int _) = some (Value.int (clampM (x.toInt64 - y.toInt64))); unfold clampM; first | (rw [if_pos ((lgc_gt _ _).mp (Int32.not_le.mp b119))]; rfl) | (rw [if_neg (fun z => absurd ((lgc_gt _ _).mpr z) (Int32.not_lt.mpr b119)), if_pos ((lgc_lt _ _).mp (Int32.not_le.mp b132))]; rfl) | (rw [if_neg (fun z => absurd ((lgc_gt _ _).mpr z) (Int32.not_lt.mpr b119)), if_neg (fun z => absurd ((lgc_lt _ _).mpr z) (Int32.not_lt.mpr b132))]), rfl⟩
      · skip
        refine r_ldc (pc2 := 137) (v := -1000000) qX2_102 dX2_join_135 rfl ?_
        refine r_goto (pc2 := 142) dX2_join_137 (by decide) ?_
        exact r_iret rfl dX2_join_142 ⟨by subst e60; show some (Value.int _) = some (Value.int (clampM (x.toInt64 - y.toInt64))); unfold clampM; first | (rw [if_pos ((lgc_gt _ _).mp (Int32.not_le.mp b119))]; rfl) | (rw [if_neg (fun z => absurd ((lgc_gt _ _).mpr z) (Int32.not_lt.mpr b119)), if_pos ((lgc_lt _ _).mp (Int32.not_le.mp b132))]; rfl) | (rw [if_neg (fun z => absurd ((lgc_gt _ _).mpr z) (Int32.not_lt.mpr b119)), if_neg (fun z => absurd ((lgc_lt _ _).mpr z) (Int32.not_lt.mpr b132))]), rfl⟩
    · skip
      refine r_ldc (pc2 := 124) (v := 1000000) qX2_99 dX2_join_122 rfl ?_
      refine r_goto (pc2 := 142) dX2_join_124 (by decide) ?_
      exact r_iret rfl dX2_join_142 ⟨by subst e60; show some (Value.int _) = some (Value.int (clampM (x.toInt64 - y.toInt64))); unfold clampM; first | (rw [if_pos ((lgc_gt _ _).mp (Int32.not_le.mp b119))]; rfl) | (rw [if_neg (fun z => absurd ((lgc_gt _ _).mpr z) (Int32.not_lt.mpr b119)), if_pos ((lgc_lt _ _).mp (Int32.not_le.mp b132))]; rfl) | (rw [if_neg (fun z => absurd ((lgc_gt _ _).mpr z) (Int32.not_lt.mpr b119)), if_neg (fun z => absurd ((lgc_lt _ _).mpr z) (Int32.not_lt.mpr b132))]), rfl⟩
  · rw [show cmI 3002 = -13 by decide]
    refine Cn.go (ls := [.int (-13), .int x, .int y, .float 0, .float 0]) (by decide +kernel) rfl (Nat.le_of_ble_eq_true rfl) ?_
    refine r_iload_n (pc2 := 1) 0 dX2_join_0 rfl rfl rfl ?_
    refine r_tsw (pc2 := 0) (tgt := 64) (off := 63) dX2_join_1 (by decide) (by decide) (by decide) (by decide) ?_
    refine r_iload_n (pc2 := 65) 1 dX2_join_64 rfl rfl rfl ?_
    refine r_i2l (pc2 := 66) dX2_join_65 rfl ?_
    refine r_iload_n (pc2 := 67) 2 dX2_join_66 rfl rfl rfl ?_
    refine r_i2l (pc2 := 68) dX2_join_67 rfl ?_
    refine r_lmul (pc2 := 69) dX2_join_68 rfl ?_
    refine r_topl (fun x69 e69 => ?_)
    refine r_lstore_n (pc2 := 70) (ls2 := [.int (-13), .int x, .int y, .long x69, .float 0]) 3 dX2_join_69 rfl (by decide) rfl rfl rfl ?_
    refine r_goto (pc2 := 114) dX2_join_70 (by decide) ?_
    refine r_lload_n (pc2 := 115) 3 dX2_join_114 rfl rfl rfl ?_
    refine r_ldc2 (pc2 := 118) (v := 1000000) qX2_97 dX2_join_115 rfl ?_
    refine r_lcmp (pc2 := 119) dX2_join_118 rfl ?_
    refine r_if_le (tgt := 127) (pc2 := 122) dX2_join_119 (by decide) rfl (fun b119 => ?_) (fun b119 => ?_)
    · skip
      refine r_lload_n (pc2 := 128) 3 dX2_join_127 rfl rfl rfl ?_
      refine r_ldc2 (pc2 := 131) (v := -1000000) qX2_100 dX2_join_128 rfl ?_
      refine r_lcmp (pc2 := 132) dX2_join_131 rfl ?_
      refine r_if_ge (tgt := 140) (pc2 := 135) dX2_join_132 (by decide) rfl (fun b132 => ?_) (fun b132 => ?_)
      · skip
        refine r_lload_n (pc2 := 141) 3 dX2_join_140 rfl rfl rfl ?_
        refine r_l2i (pc2 := 142) dX2_join_141 rfl ?_
        exact r_iret rfl dX2_join_142 ⟨by subst e69; show some (Value.int _) = some (Value.int (clampM (x.toInt64 * y.toInt64))); unfold clampM; first | (rw [if_pos ((lgc_gt _ _).mp (Int32.not_le.mp b119))]; rfl) | (rw [if_neg (fun z => absurd ((lgc_gt _ _).mpr z) (Int32.not_lt.mpr b119)), if_pos ((lgc_lt _ _).mp (Int32.not_le.mp b132))]; rfl) | (rw [if_neg (fun z => absurd ((lgc_gt _ _).mpr z) (Int32.not_lt.mpr b119)), if_neg (fun z => absurd ((lgc_lt _ _).mpr z) (Int32.not_lt.mpr b132))]), rfl⟩
      · skip
        refine r_ldc (pc2 := 137) (v := -1000000) qX2_102 dX2_join_135 rfl ?_
        refine r_goto (pc2 := 142) dX2_join_137 (by decide) ?_
        exact r_iret rfl dX2_join_142 ⟨by subst e69; show some (Value.int _) = some (Value.int (clampM (x.toInt64 * y.toInt64))); unfold clampM; first | (rw [if_pos ((lgc_gt _ _).mp (Int32.not_le.mp b119))]; rfl) | (rw [if_neg (fun z => absurd ((lgc_gt _ _).mpr z) (Int32.not_lt.mpr b119)), if_pos ((lgc_lt _ _).mp (Int32.not_le.mp b132))]; rfl) | (rw [if_neg (fun z => absurd ((lgc_gt _ _).mpr z) (Int32.not_lt.mpr b119)), if_neg (fun z => absurd ((lgc_lt _ _).mpr z) (Int32.not_lt.mpr b132))]), rfl⟩
    · skip
      refine r_ldc (pc2 := 124) (v := 1000000) qX2_99 dX2_join_122 rfl ?_
      refine r_goto (pc2 := 142) dX2_join_124 (by decide) ?_
      exact r_iret rfl dX2_join_142 ⟨by subst e69; show some (Value.int _) = some (Value.int (clampM (x.toInt64 * y.toInt64))); unfold clampM; first | (rw [if_pos ((lgc_gt _ _).mp (Int32.not_le.mp b119))]; rfl) | (rw [if_neg (fun z => absurd ((lgc_gt _ _).mpr z) (Int32.not_lt.mpr b119)), if_pos ((lgc_lt _ _).mp (Int32.not_le.mp b132))]; rfl) | (rw [if_neg (fun z => absurd ((lgc_gt _ _).mpr z) (Int32.not_lt.mpr b119)), if_neg (fun z => absurd ((lgc_lt _ _).mpr z) (Int32.not_lt.mpr b132))]), rfl⟩
  · rw [show cmI 3003 = -14 by decide]
    refine Cn.go (ls := [.int (-14), .int x, .int y, .float 0, .float 0]) (by decide +kernel) rfl (Nat.le_of_ble_eq_true rfl) ?_
    refine r_iload_n (pc2 := 1) 0 dX2_join_0 rfl rfl rfl ?_
    refine r_tsw (pc2 := 0) (tgt := 73) (off := 72) dX2_join_1 (by decide) (by decide) (by decide) (by decide) ?_
    refine r_iload_n (pc2 := 74) 1 dX2_join_73 rfl rfl rfl ?_
    refine r_iload_n (pc2 := 75) 2 dX2_join_74 rfl rfl rfl ?_
    refine r_icmp_ne (tgt := 82) (pc2 := 78) dX2_join_75 (by decide) rfl (fun b75 => ?_) (fun b75 => ?_)
    · skip
      refine r_iconst (pc2 := 83) (v := 0) dX2_join_82 (by decide) rfl ?_
      exact r_iret rfl dX2_join_83 ⟨by first | (rw [show btw 3003 x y = (if x = y then 1 else 0) from rfl, if_neg b75]) | (rw [show btw 3003 x y = (if x = y then 1 else 0) from rfl, if_pos b75]), rfl⟩
    · skip
      refine r_iconst (pc2 := 79) (v := 1) dX2_join_78 (by decide) rfl ?_
      refine r_goto (pc2 := 83) dX2_join_79 (by decide) ?_
      exact r_iret rfl dX2_join_83 ⟨by first | (rw [show btw 3003 x y = (if x = y then 1 else 0) from rfl, if_neg b75]) | (rw [show btw 3003 x y = (if x = y then 1 else 0) from rfl, if_pos b75]), rfl⟩
  · rw [show cmI 3004 = -15 by decide]
    refine Cn.go (ls := [.int (-15), .int x, .int y, .float 0, .float 0]) (by decide +kernel) rfl (Nat.le_of_ble_eq_true rfl) ?_
    refine r_iload_n (pc2 := 1) 0 dX2_join_0 rfl rfl rfl ?_
    refine r_tsw (pc2 := 0) (tgt := 84) (off := 83) dX2_join_1 (by decide) (by decide) (by decide) (by decide) ?_
    refine r_iload_n (pc2 := 85) 1 dX2_join_84 rfl rfl rfl ?_
    refine r_iload_n (pc2 := 86) 2 dX2_join_85 rfl rfl rfl ?_
    refine r_icmp_ge (tgt := 93) (pc2 := 89) dX2_join_86 (by decide) rfl (fun b86 => ?_) (fun b86 => ?_)
    · skip
      refine r_iconst (pc2 := 94) (v := 0) dX2_join_93 (by decide) rfl ?_
      exact r_iret rfl dX2_join_94 ⟨by first | (rw [show btw 3004 x y = (if x < y then 1 else 0) from rfl, if_neg (Int32.not_lt.mpr b86)]) | (rw [show btw 3004 x y = (if x < y then 1 else 0) from rfl, if_pos (Int32.not_le.mp b86)]), rfl⟩
    · skip
      refine r_iconst (pc2 := 90) (v := 1) dX2_join_89 (by decide) rfl ?_
      refine r_goto (pc2 := 94) dX2_join_90 (by decide) ?_
      exact r_iret rfl dX2_join_94 ⟨by first | (rw [show btw 3004 x y = (if x < y then 1 else 0) from rfl, if_neg (Int32.not_lt.mpr b86)]) | (rw [show btw 3004 x y = (if x < y then 1 else 0) from rfl, if_pos (Int32.not_le.mp b86)]), rfl⟩
  · rw [show cmI 3005 = -16 by decide]
    refine Cn.go (ls := [.int (-16), .int x, .int y, .float 0, .float 0]) (by decide +kernel) rfl (Nat.le_of_ble_eq_true rfl) ?_
    refine r_iload_n (pc2 := 1) 0 dX2_join_0 rfl rfl rfl ?_
    refine r_tsw (pc2 := 0) (tgt := 95) (off := 94) dX2_join_1 (by decide) (by decide) (by decide) (by decide) ?_
    refine r_iload_n (pc2 := 96) 1 dX2_join_95 rfl rfl rfl ?_
    refine r_iload_n (pc2 := 97) 2 dX2_join_96 rfl rfl rfl ?_
    refine r_icmp_le (tgt := 104) (pc2 := 100) dX2_join_97 (by decide) rfl (fun b97 => ?_) (fun b97 => ?_)
    · skip
      refine r_iconst (pc2 := 105) (v := 0) dX2_join_104 (by decide) rfl ?_
      exact r_iret rfl dX2_join_105 ⟨by first | (rw [show btw 3005 x y = (if y < x then 1 else 0) from rfl, if_neg (Int32.not_lt.mpr b97)]) | (rw [show btw 3005 x y = (if y < x then 1 else 0) from rfl, if_pos (Int32.not_le.mp b97)]), rfl⟩
    · skip
      refine r_iconst (pc2 := 101) (v := 1) dX2_join_100 (by decide) rfl ?_
      refine r_goto (pc2 := 105) dX2_join_101 (by decide) ?_
      exact r_iret rfl dX2_join_105 ⟨by first | (rw [show btw 3005 x y = (if y < x then 1 else 0) from rfl, if_neg (Int32.not_lt.mpr b97)]) | (rw [show btw 3005 x y = (if y < x then 1 else 0) from rfl, if_pos (Int32.not_le.mp b97)]), rfl⟩
  · rw [show cmI 3007 = -18 by decide]
    refine Cn.go (ls := [.int (-18), .int x, .int y, .float 0, .float 0]) (by decide +kernel) rfl (Nat.le_of_ble_eq_true rfl) ?_
    refine r_iload_n (pc2 := 1) 0 dX2_join_0 rfl rfl rfl ?_
    refine r_tsw (pc2 := 0) (tgt := 106) (off := 105) dX2_join_1 (by decide) (by decide) (by decide) (by decide) ?_
    refine r_iload_n (pc2 := 107) 1 dX2_join_106 rfl rfl rfl ?_
    refine r_iload_n (pc2 := 108) 2 dX2_join_107 rfl rfl rfl ?_
    refine r_iand (pc2 := 109) dX2_join_108 rfl ?_
    exact r_iret rfl dX2_join_109 ⟨rfl, rfl⟩
  · rw [show cmI 3008 = -19 by decide]
    refine Cn.go (ls := [.int (-19), .int x, .int y, .float 0, .float 0]) (by decide +kernel) rfl (Nat.le_of_ble_eq_true rfl) ?_
    refine r_iload_n (pc2 := 1) 0 dX2_join_0 rfl rfl rfl ?_
    refine r_tswD (pc2 := 0) (tgt := 110) dX2_join_1 (by decide) (by decide) ?_
    refine r_iload_n (pc2 := 111) 1 dX2_join_110 rfl rfl rfl ?_
    refine r_iload_n (pc2 := 112) 2 dX2_join_111 rfl rfl rfl ?_
    refine r_ior (pc2 := 113) dX2_join_112 rfl ?_
    exact r_iret rfl dX2_join_113 ⟨rfl, rfl⟩
theorem dec6a : ∀ j, j < 6 → ¬ ((-1 : Int32) - nI j < -6) := by decide
theorem dec6b : ∀ j, j < 6 → (-1 : Int32) - (-1 - nI j) = nI j := by decide
theorem dec6c : ∀ j, j < 6 → ((-1 : Int32) - nI j < 0) := by decide
theorem cmI_w9 : ∀ j, j < 9 → widx j < 6 ∧ cmI (1000 + j) = -1 - nI (widx j) := by decide
theorem cmI_w (c : Nat) (h1 : 1000 ≤ c) (h2 : c < 1009) : widx (c - 1000) < 6 := (cmI_w9 (c - 1000) (by omega)).1
theorem cmI_w2 (c : Nat) (h1 : 1000 ≤ c) (h2 : c < 1009) : cmI c = -1 - nI (widx (c - 1000)) := by
  have := (cmI_w9 (c - 1000) (by omega)).2
  rw [show 1000 + (c - 1000) = c by omega] at this
  exact this
set_option maxRecDepth 20000 in
set_option maxHeartbeats 1000000 in
theorem c_run {E : EnvT} {d : Nat} {h0 : Hp} {V0 V1 V2 V4 : Value} {f w w2 fc : Nat → Int32} {cf : Nat → Nat} {na n : Nat} (c82 : h0.1 82 = some (.inr (2, [V0, V1, V2, .ref 87, V4, .ref 88, .ref 89]))) (c88 : h0.1 88 = some (aI 6 w2)) (c89 : h0.1 89 = some (aI 64 f)) (c_na : h0.1 na = some (aI n fc)) (hna : 64 ≤ na) (hn89 : na ≠ 89) (hn9 : n ≤ 900) (hwf : LawWF cf n) (hfc : ∀ k, k < n → fc k = cmI (cf k)) (hwd : ∀ k, k < n → 1000 ≤ cf k → cf k < 3000 → w2 (widx (cf k - 1000)) = w (cf k - 1000)) (hsafe : ∀ k, k < n → cf k = 3000 ∨ cf k = 3001 → ∀ y x r, stk w cf k = y :: x :: r → bd x ∧ bd y) (hd : 1 ≤ d) : Cn E mX2_run d [.ref 82, .ref na] h0 (fun r h2 => r = some (.int ((stk w cf n).headD 0)) ∧ Ex [89] h0 h2 ∧ ∃ g, h2.1 89 = some (aI 64 g)) := by
  refine Cn.go (ls := [.ref 82, .ref na, .float 0, .float 0, .float 0]) (by decide +kernel) rfl (Nat.le_of_ble_eq_true rfl) ?_
  have loop : ∀ (m k : Nat) (h1 : Hp) (f : Nat → Int32) (s : List Int32) (u : Value), k + m = n → stk w cf k = s → RepS f s → Ex [89] h0 h1 → h1.1 82 = some (.inr (2, [V0, V1, V2, .ref 87, V4, .ref 88, .ref 89])) → h1.1 88 = some (aI 6 w2) → h1.1 89 = some (aI 64 f) → h1.1 na = some (aI n fc) → Fr E mX2_run d 4 [.ref 82, .ref na, .int (nI s.length), .int (nI k), u] [] h1 (fun r h2 => r = some (.int ((stk w cf n).headD 0)) ∧ Ex [89] h0 h2 ∧ ∃ g, h2.1 89 = some (aI 64 g)) := by
    intro m
    induction m with
    | zero =>
      intro k h f s u hk hs hr hx c82 c88 c89 c_na
      obtain rfl : k = n := by omega
      have hl := stk_len w hwf.1 k (Nat.le_refl _)
      rw [hwf.2.2, hs] at hl
      obtain ⟨x, rfl⟩ : ∃ x, s = [x] := List.length_eq_one_iff.mp hl
      have hx0 : f 0 = x := hr.top
      rw [hs]
      refine r_iload_n (pc2 := 5) 3 dX2_run_4 rfl rfl rfl ?_
      refine r_aload_n (pc2 := 6) 1 dX2_run_5 rfl rfl rfl rfl ?_
      refine r_alen (pc2 := 7) dX2_run_6 c_na (by omega) (by decide) rfl ?_
      refine r_icmp_ge (tgt := 191) (pc2 := 10) dX2_run_7 (by decide) rfl (fun b7 => ?_) (fun b7 => ?_)
      · skip
        refine r_aload_n (pc2 := 192) 0 dX2_run_191 rfl rfl rfl rfl ?_
        refine r_getf (pc2 := 195) (v := .ref 89) fX2_27 dX2_run_192 c82 (by decide) rfl rfl ?_
        refine r_iconst (pc2 := 196) (v := 0) dX2_run_195 (by decide) rfl ?_
        refine r_ialdN (pc2 := 197) 0 dX2_run_196 c89 (by decide) rfl (by decide) (by decide) rfl ?_
        refine r_cast (x) (hx0) ?_
        exact r_iret rfl dX2_run_197 ⟨rfl, hx, f, c89⟩
      · exact absurd (nI_le (Nat.le_refl _) (by omega)) b7
    | succ m ih =>
      intro k h f s u hk hs hr hx c82 c88 c89 c_na
      have hlt : k < n := by omega
      have hok := hwf.1 k hlt
      have hl := stk_len w hwf.1 k (by omega)
      have h64 := hwf.2.1 (k + 1) (by omega)
      have h65 := hwf.2.1 k (by omega)
      have hds : dk cf (k + 1) = dstep (cf k) (dk cf k) := rfl
      rw [hs] at hl
      rw [← hl] at hok hds h65
      obtain ⟨c, hc⟩ : ∃ c, c = cf k := ⟨_, rfl⟩
      rw [← hc] at hok hds
      have hA : c < 3000 → s.length < 64 := fun q => by rw [hds] at h64; unfold dstep at h64; rw [if_pos q] at h64; omega
      have hA2 : c < 1009 → s.length < 64 := fun q => hA (by omega)
      have hstk : stk w cf (k + 1) = ev1 w c s := by rw [stk, hs, hc]
      refine r_iload_n (pc2 := 5) 3 dX2_run_4 rfl rfl rfl ?_
      refine r_aload_n (pc2 := 6) 1 dX2_run_5 rfl rfl rfl rfl ?_
      refine r_alen (pc2 := 7) dX2_run_6 c_na (by omega) (by decide) rfl ?_
      refine r_icmp_ge (tgt := 191) (pc2 := 10) dX2_run_7 (by decide) rfl (fun b7 => ?_) (fun b7 => ?_)
      · exact absurd b7 (nI_ge hlt (by omega))
      · skip
        refine r_aload_n (pc2 := 11) 1 dX2_run_10 rfl rfl rfl rfl ?_
        refine r_iload_n (pc2 := 12) 3 dX2_run_11 rfl rfl rfl ?_
        refine r_ialdN (pc2 := 13) k dX2_run_12 c_na (by omega) rfl (by omega) (by omega) rfl ?_
        refine r_cast (cmI c) (by rw [hc]; exact hfc k hlt) ?_
        refine r_topi (fun op e13 => ?_)
        refine r_istore (pc2 := 15) (ls2 := [.ref 82, .ref na, .int (nI s.length), .int (nI k), .int op]) 4 dX2_run_13 (by decide) rfl rfl rfl ?_
        subst e13
        rcases hok with hok | ⟨hok, hok2⟩ | ⟨hok, hok2⟩ | ⟨hok, hok2⟩ | ⟨hb, hok2⟩
        · have ec : cmI c = nI c := if_pos hok
          rw [ec]
          refine r_iload (pc2 := 17) 4 dX2_run_15 rfl rfl ?_
          refine r_bipush (pc2 := 19) (v := -6) dX2_run_17 (by decide) rfl ?_
          refine r_icmp_lt (tgt := 62) (pc2 := 22) dX2_run_19 (by decide) rfl (fun b19 => ?_) (fun b19 => ?_)
          · exact absurd b19 (fun z => absurd (Int32.lt_trans z (by decide : (-6 : Int32) < 0)) (nI_pos (by omega)))
          · skip
            refine r_iload_n (pc2 := 23) 2 dX2_run_22 rfl rfl rfl ?_
            refine r_aload_n (pc2 := 24) 0 dX2_run_23 rfl rfl rfl rfl ?_
            refine r_getf (pc2 := 27) (v := .ref 89) fX2_27 dX2_run_24 c82 (by decide) rfl rfl ?_
            refine r_alen (pc2 := 28) dX2_run_27 c89 (by decide) (by decide) rfl ?_
            refine r_icmp_ge (tgt := 62) (pc2 := 31) dX2_run_28 (by decide) rfl (fun b28 => ?_) (fun b28 => ?_)
            · exact absurd b28 (nI_ge (b := 64) (by omega) (by decide))
            · skip
              refine r_aload_n (pc2 := 32) 0 dX2_run_31 rfl rfl rfl rfl ?_
              refine r_getf (pc2 := 35) (v := .ref 89) fX2_27 dX2_run_32 c82 (by decide) rfl rfl ?_
              refine r_iload_n (pc2 := 36) 2 dX2_run_35 rfl rfl rfl ?_
              refine r_iload (pc2 := 38) 4 dX2_run_36 rfl rfl ?_
              refine r_if_lt (tgt := 46) (pc2 := 41) dX2_run_38 (by decide) rfl (fun b38 => ?_) (fun b38 => ?_)
              · exact absurd b38 (nI_pos (by omega))
              · skip
                refine r_iload (pc2 := 43) 4 dX2_run_41 rfl rfl ?_
                refine r_goto (pc2 := 55) dX2_run_43 (by decide) ?_
                refine r_iastN (pc2 := 56) s.length dX2_run_55 c89 (by decide) rfl (by omega) (by decide) rfl (fun h z55 o55 c89 => ?_)
                have c82 := (o55 82 (by decide)).trans c82
                have c88 := (o55 88 (by decide)).trans c88
                have c_na := (o55 na (by omega)).trans c_na
                have hx := hx.step (a := 89) (by decide) z55 o55
                obtain ⟨x56, e56⟩ : ∃ z : Int32, z = (nI s.length) + (1) := ⟨_, rfl⟩
                refine r_iinc (pc2 := 59) (ls2 := [.ref 82, .ref na, .int x56, .int (nI k), .int (nI c)]) (v := x56) 2 dX2_run_56 rfl (by rw [e56]; rfl) rfl rfl rfl ?_
                refine r_goto (pc2 := 185) dX2_run_59 (by decide) ?_
                obtain ⟨x185, e185⟩ : ∃ z : Int32, z = (nI k) + (1) := ⟨_, rfl⟩
                refine r_iinc (pc2 := 188) (ls2 := [.ref 82, .ref na, .int x56, .int x185, .int (nI c)]) (v := x185) 3 dX2_run_185 rfl (by rw [e185]; rfl) rfl rfl rfl ?_
                refine r_goto (pc2 := 4) dX2_run_188 (by decide) ?_
                rw [e56, nI_1]
                rw [e185, nI_1]
                exact ih (k + 1) h _ (nI c :: s) _ (by omega) (by rw [hstk]; exact ev1_A hok) (hr.push _) hx c82 c88 c89 c_na
        · obtain ⟨j, hj, ec, hwj⟩ : ∃ j, j < 6 ∧ cmI c = -1 - nI j ∧ w2 j = w (c - 1000) := ⟨widx (c - 1000), cmI_w c hok hok2, cmI_w2 c hok hok2, by have := hwd k hlt (by rw [← hc]; exact hok) (by rw [← hc]; omega); rw [← hc] at this; exact this⟩
          rw [ec]
          refine r_iload (pc2 := 17) 4 dX2_run_15 rfl rfl ?_
          refine r_bipush (pc2 := 19) (v := -6) dX2_run_17 (by decide) rfl ?_
          refine r_icmp_lt (tgt := 62) (pc2 := 22) dX2_run_19 (by decide) rfl (fun b19 => ?_) (fun b19 => ?_)
          · exact absurd b19 (dec6a j hj)
          · skip
            refine r_iload_n (pc2 := 23) 2 dX2_run_22 rfl rfl rfl ?_
            refine r_aload_n (pc2 := 24) 0 dX2_run_23 rfl rfl rfl rfl ?_
            refine r_getf (pc2 := 27) (v := .ref 89) fX2_27 dX2_run_24 c82 (by decide) rfl rfl ?_
            refine r_alen (pc2 := 28) dX2_run_27 c89 (by decide) (by decide) rfl ?_
            refine r_icmp_ge (tgt := 62) (pc2 := 31) dX2_run_28 (by decide) rfl (fun b28 => ?_) (fun b28 => ?_)
            · exact absurd b28 (nI_ge (b := 64) (by omega) (by decide))
            · skip
              refine r_aload_n (pc2 := 32) 0 dX2_run_31 rfl rfl rfl rfl ?_
              refine r_getf (pc2 := 35) (v := .ref 89) fX2_27 dX2_run_32 c82 (by decide) rfl rfl ?_
              refine r_iload_n (pc2 := 36) 2 dX2_run_35 rfl rfl rfl ?_
              refine r_iload (pc2 := 38) 4 dX2_run_36 rfl rfl ?_
              refine r_if_lt (tgt := 46) (pc2 := 41) dX2_run_38 (by decide) rfl (fun b38 => ?_) (fun b38 => ?_)
              · skip
                refine r_aload_n (pc2 := 47) 0 dX2_run_46 rfl rfl rfl rfl ?_
                refine r_getf (pc2 := 50) (v := .ref 88) fX2_24 dX2_run_47 c82 (by decide) rfl rfl ?_
                refine r_iconst (pc2 := 51) (v := -1) dX2_run_50 (by decide) rfl ?_
                refine r_iload (pc2 := 53) 4 dX2_run_51 rfl rfl ?_
                refine r_isub (pc2 := 54) dX2_run_53 rfl ?_
                refine r_cast (nI j) (dec6b j hj) ?_
                refine r_ialdN (pc2 := 55) j dX2_run_54 c88 (by decide) rfl (by omega) (by decide) rfl ?_
                refine r_topi (fun y55 ey55 => ?_)
                refine r_iastN (pc2 := 56) s.length dX2_run_55 c89 (by decide) rfl (by omega) (by decide) rfl (fun h z55 o55 c89 => ?_)
                have c82 := (o55 82 (by decide)).trans c82
                have c88 := (o55 88 (by decide)).trans c88
                have c_na := (o55 na (by omega)).trans c_na
                have hx := hx.step (a := 89) (by decide) z55 o55
                obtain ⟨x56, e56⟩ : ∃ z : Int32, z = (nI s.length) + (1) := ⟨_, rfl⟩
                refine r_iinc (pc2 := 59) (ls2 := [.ref 82, .ref na, .int x56, .int (nI k), .int (-1 - nI j)]) (v := x56) 2 dX2_run_56 rfl (by rw [e56]; rfl) rfl rfl rfl ?_
                refine r_goto (pc2 := 185) dX2_run_59 (by decide) ?_
                obtain ⟨x185, e185⟩ : ∃ z : Int32, z = (nI k) + (1) := ⟨_, rfl⟩
                refine r_iinc (pc2 := 188) (ls2 := [.ref 82, .ref na, .int x56, .int x185, .int (-1 - nI j)]) (v := x185) 3 dX2_run_185 rfl (by rw [e185]; rfl) rfl rfl rfl ?_
                refine r_goto (pc2 := 4) dX2_run_188 (by decide) ?_
                rw [e56, nI_1]
                rw [ey55, hwj] at c89
                rw [e185, nI_1]
                exact ih (k + 1) h _ (w (c - 1000) :: s) _ (by omega) (by rw [hstk]; exact ev1_B hok (by omega)) (hr.push _) hx c82 c88 c89 c_na
              · exact absurd (dec6c j hj) b38
        · subst hok
          obtain ⟨y, t, rfl⟩ : ∃ y t, s = y :: t := by
            match s, hok2 with
            | y :: t, _ => exact ⟨y, t, rfl⟩
          have ht : f t.length = y := hr.top
          simp only [List.length_cons] at hl h65
          rw [show cmI 3006 = -17 by decide]
          refine r_iload (pc2 := 17) 4 dX2_run_15 rfl rfl ?_
          refine r_bipush (pc2 := 19) (v := -6) dX2_run_17 (by decide) rfl ?_
          refine r_icmp_lt (tgt := 62) (pc2 := 22) dX2_run_19 (by decide) rfl (fun b19 => ?_) (fun b19 => ?_)
          · skip
            refine r_iload (pc2 := 64) 4 dX2_run_62 rfl rfl ?_
            refine r_bipush (pc2 := 66) (v := -17) dX2_run_64 (by decide) rfl ?_
            refine r_icmp_ne (tgt := 95) (pc2 := 69) dX2_run_66 (by decide) rfl (fun b66 => ?_) (fun b66 => ?_)
            · exact absurd b66 (by decide)
            · skip
              refine r_iload_n (pc2 := 70) 2 dX2_run_69 rfl rfl rfl ?_
              refine r_iconst (pc2 := 71) (v := 1) dX2_run_70 (by decide) rfl ?_
              refine r_icmp_lt (tgt := 95) (pc2 := 74) dX2_run_71 (by decide) rfl (fun b71 => ?_) (fun b71 => ?_)
              · exact absurd b71 (nI_nlt (a := t.length + 1) (b := 1) (by omega) (by omega))
              · skip
                refine r_aload_n (pc2 := 75) 0 dX2_run_74 rfl rfl rfl rfl ?_
                refine r_getf (pc2 := 78) (v := .ref 89) fX2_27 dX2_run_75 c82 (by decide) rfl rfl ?_
                refine r_iload_n (pc2 := 79) 2 dX2_run_78 rfl rfl rfl ?_
                refine r_iconst (pc2 := 80) (v := 1) dX2_run_79 (by decide) rfl ?_
                refine r_isub (pc2 := 81) dX2_run_80 rfl ?_
                refine r_cast (nI t.length) (nI_pred t.length) ?_
                refine r_iconst (pc2 := 82) (v := 1) dX2_run_81 (by decide) rfl ?_
                refine r_aload_n (pc2 := 83) 0 dX2_run_82 rfl rfl rfl rfl ?_
                refine r_getf (pc2 := 86) (v := .ref 89) fX2_27 dX2_run_83 c82 (by decide) rfl rfl ?_
                refine r_iload_n (pc2 := 87) 2 dX2_run_86 rfl rfl rfl ?_
                refine r_iconst (pc2 := 88) (v := 1) dX2_run_87 (by decide) rfl ?_
                refine r_isub (pc2 := 89) dX2_run_88 rfl ?_
                refine r_cast (nI t.length) (nI_pred t.length) ?_
                refine r_ialdN (pc2 := 90) t.length dX2_run_89 c89 (by decide) rfl (by omega) (by decide) rfl ?_
                refine r_cast (y) (ht) ?_
                refine r_isub (pc2 := 91) dX2_run_90 rfl ?_
                refine r_topi (fun y91 ey91 => ?_)
                refine r_iastN (pc2 := 92) t.length dX2_run_91 c89 (by decide) rfl (by omega) (by decide) rfl (fun h z91 o91 c89 => ?_)
                have c82 := (o91 82 (by decide)).trans c82
                have c88 := (o91 88 (by decide)).trans c88
                have c_na := (o91 na (by omega)).trans c_na
                have hx := hx.step (a := 89) (by decide) z91 o91
                refine r_goto (pc2 := 185) dX2_run_92 (by decide) ?_
                obtain ⟨x185, e185⟩ : ∃ z : Int32, z = (nI k) + (1) := ⟨_, rfl⟩
                refine r_iinc (pc2 := 188) (ls2 := [.ref 82, .ref na, .int (nI (t.length + 1)), .int x185, .int (-17)]) (v := x185) 3 dX2_run_185 rfl (by rw [e185]; rfl) rfl rfl rfl ?_
                refine r_goto (pc2 := 4) dX2_run_188 (by decide) ?_
                rw [e185, nI_1]
                exact ih (k + 1) h _ ((1 - y) :: t) _ (by omega) (by rw [hstk]; simp [ev1]) (⟨pk_us.trans ey91, hr.pop.far (Nat.le_refl _)⟩) hx c82 c88 c89 c_na
          · exact absurd b19 (by decide)
        · subst hok
          obtain ⟨z, y, b, r, rfl⟩ : ∃ z y b r, s = z :: y :: b :: r := by
            match s, hok2 with
            | z :: y :: b :: r, _ => exact ⟨z, y, b, r, rfl⟩
          simp only [List.length_cons] at hl h65
          have hb0 : f r.length = b := hr.pop.pop.top
          have hy0 : f (r.length + 1) = y := hr.pop.top
          have hz0 : f (r.length + 2) = z := hr.top
          rw [show cmI 3009 = -20 by decide]
          have J : ∀ z2 : Int32, (z2 = if b = 1 then y else z) → Fr E mX2_run d 146 [.ref 82, .ref na, .int (nI (r.length + 1)), .int (nI k), .int (-20)] [.int z2, .int (nI r.length), .ref 89] h (fun r h2 => r = some (.int ((stk w cf n).headD 0)) ∧ Ex [89] h0 h2 ∧ ∃ g, h2.1 89 = some (aI 64 g)) := by
            intro z2 hz2
            refine r_iastN (pc2 := 147) r.length dX2_run_146 c89 (by decide) rfl (by omega) (by decide) rfl (fun h z146 o146 c89 => ?_)
            have c82 := (o146 82 (by decide)).trans c82
            have c88 := (o146 88 (by decide)).trans c88
            have c_na := (o146 na (by omega)).trans c_na
            have hx := hx.step (a := 89) (by decide) z146 o146
            refine r_goto (pc2 := 185) dX2_run_147 (by decide) ?_
            obtain ⟨x185, e185⟩ : ∃ z : Int32, z = (nI k) + (1) := ⟨_, rfl⟩
            refine r_iinc (pc2 := 188) (ls2 := [.ref 82, .ref na, .int (nI (r.length + 1)), .int x185, .int (-20)]) (v := x185) 3 dX2_run_185 rfl (by rw [e185]; rfl) rfl rfl rfl ?_
            refine r_goto (pc2 := 4) dX2_run_188 (by decide) ?_
            rw [e185, nI_1]
            exact ih (k + 1) h _ (z2 :: r) _ (by omega) (by rw [hstk]; simp [ev1, hz2]) (⟨pk_us, hr.pop.pop.pop.far (Nat.le_refl _)⟩) hx c82 c88 c89 c_na
          refine r_iload (pc2 := 17) 4 dX2_run_15 rfl rfl ?_
          refine r_bipush (pc2 := 19) (v := -6) dX2_run_17 (by decide) rfl ?_
          refine r_icmp_lt (tgt := 62) (pc2 := 22) dX2_run_19 (by decide) rfl (fun b19 => ?_) (fun b19 => ?_)
          · skip
            refine r_iload (pc2 := 64) 4 dX2_run_62 rfl rfl ?_
            refine r_bipush (pc2 := 66) (v := -17) dX2_run_64 (by decide) rfl ?_
            refine r_icmp_ne (tgt := 95) (pc2 := 69) dX2_run_66 (by decide) rfl (fun b66 => ?_) (fun b66 => ?_)
            · skip
              refine r_iload (pc2 := 97) 4 dX2_run_95 rfl rfl ?_
              refine r_bipush (pc2 := 99) (v := -20) dX2_run_97 (by decide) rfl ?_
              refine r_icmp_ne (tgt := 150) (pc2 := 102) dX2_run_99 (by decide) rfl (fun b99 => ?_) (fun b99 => ?_)
              · exact absurd b99 (by decide)
              · skip
                refine r_iload_n (pc2 := 103) 2 dX2_run_102 rfl rfl rfl ?_
                refine r_iconst (pc2 := 104) (v := 3) dX2_run_103 (by decide) rfl ?_
                refine r_icmp_lt (tgt := 150) (pc2 := 107) dX2_run_104 (by decide) rfl (fun b104 => ?_) (fun b104 => ?_)
                · exact absurd b104 (nI_nlt (a := r.length + 3) (b := 3) (by omega) (by omega))
                · skip
                  obtain ⟨x107, e107⟩ : ∃ z : Int32, z = (nI (r.length + 3)) + (-2) := ⟨_, rfl⟩
                  refine r_iinc (pc2 := 110) (ls2 := [.ref 82, .ref na, .int x107, .int (nI k), .int (-20)]) (v := x107) 2 dX2_run_107 rfl (by rw [e107]; rfl) rfl rfl rfl ?_
                  rw [nI_m2] at e107
                  subst e107
                  refine r_aload_n (pc2 := 111) 0 dX2_run_110 rfl rfl rfl rfl ?_
                  refine r_getf (pc2 := 114) (v := .ref 89) fX2_27 dX2_run_111 c82 (by decide) rfl rfl ?_
                  refine r_iload_n (pc2 := 115) 2 dX2_run_114 rfl rfl rfl ?_
                  refine r_iconst (pc2 := 116) (v := 1) dX2_run_115 (by decide) rfl ?_
                  refine r_isub (pc2 := 117) dX2_run_116 rfl ?_
                  refine r_cast (nI r.length) (nI_pred r.length) ?_
                  refine r_aload_n (pc2 := 118) 0 dX2_run_117 rfl rfl rfl rfl ?_
                  refine r_getf (pc2 := 121) (v := .ref 89) fX2_27 dX2_run_118 c82 (by decide) rfl rfl ?_
                  refine r_iload_n (pc2 := 122) 2 dX2_run_121 rfl rfl rfl ?_
                  refine r_iconst (pc2 := 123) (v := 1) dX2_run_122 (by decide) rfl ?_
                  refine r_isub (pc2 := 124) dX2_run_123 rfl ?_
                  refine r_cast (nI r.length) (nI_pred r.length) ?_
                  refine r_ialdN (pc2 := 125) r.length dX2_run_124 c89 (by decide) rfl (by omega) (by decide) rfl ?_
                  refine r_cast (b) (hb0) ?_
                  refine r_iconst (pc2 := 126) (v := 1) dX2_run_125 (by decide) rfl ?_
                  refine r_icmp_ne (tgt := 138) (pc2 := 129) dX2_run_126 (by decide) rfl (fun b126 => ?_) (fun b126 => ?_)
                  · skip
                    refine r_aload_n (pc2 := 139) 0 dX2_run_138 rfl rfl rfl rfl ?_
                    refine r_getf (pc2 := 142) (v := .ref 89) fX2_27 dX2_run_139 c82 (by decide) rfl rfl ?_
                    refine r_iload_n (pc2 := 143) 2 dX2_run_142 rfl rfl rfl ?_
                    refine r_iconst (pc2 := 144) (v := 1) dX2_run_143 (by decide) rfl ?_
                    refine r_iadd (pc2 := 145) dX2_run_144 rfl ?_
                    refine r_cast (nI (r.length + 2)) (nI_1 (r.length + 1)) ?_
                    refine r_ialdN (pc2 := 146) (r.length + 2) dX2_run_145 c89 (by decide) rfl (by omega) (by decide) rfl ?_
                    exact J _ (by rw [if_neg b126]; exact hz0)
                  · skip
                    refine r_aload_n (pc2 := 130) 0 dX2_run_129 rfl rfl rfl rfl ?_
                    refine r_getf (pc2 := 133) (v := .ref 89) fX2_27 dX2_run_130 c82 (by decide) rfl rfl ?_
                    refine r_iload_n (pc2 := 134) 2 dX2_run_133 rfl rfl rfl ?_
                    refine r_ialdN (pc2 := 135) (r.length + 1) dX2_run_134 c89 (by decide) rfl (by omega) (by decide) rfl ?_
                    refine r_goto (pc2 := 146) dX2_run_135 (by decide) ?_
                    exact J _ (by rw [if_pos b126]; exact hy0)
            · exact absurd b66 (by decide)
          · exact absurd b19 (by decide)
        · obtain ⟨y, x, r, rfl⟩ : ∃ y x r, s = y :: x :: r := by
            match s, hok2 with
            | y :: x :: r, _ => exact ⟨y, x, r, rfl⟩
          simp only [List.length_cons] at hl h65
          have hx0 : f r.length = x := hr.pop.top
          have hy0 : f (r.length + 1) = y := hr.top
          have hsf : c = 3000 ∨ c = 3001 → bd x ∧ bd y := fun q => hsafe k hlt (by rw [← hc]; exact q) y x r hs
          have hE : cmI c < -6 ∧ ¬ cmI c = -17 ∧ ¬ cmI c = -20 := by rcases hb with rfl | rfl | rfl | rfl | rfl | rfl | rfl | rfl <;> decide
          refine r_iload (pc2 := 17) 4 dX2_run_15 rfl rfl ?_
          refine r_bipush (pc2 := 19) (v := -6) dX2_run_17 (by decide) rfl ?_
          refine r_icmp_lt (tgt := 62) (pc2 := 22) dX2_run_19 (by decide) rfl (fun b19 => ?_) (fun b19 => ?_)
          · skip
            refine r_iload (pc2 := 64) 4 dX2_run_62 rfl rfl ?_
            refine r_bipush (pc2 := 66) (v := -17) dX2_run_64 (by decide) rfl ?_
            refine r_icmp_ne (tgt := 95) (pc2 := 69) dX2_run_66 (by decide) rfl (fun b66 => ?_) (fun b66 => ?_)
            · skip
              refine r_iload (pc2 := 97) 4 dX2_run_95 rfl rfl ?_
              refine r_bipush (pc2 := 99) (v := -20) dX2_run_97 (by decide) rfl ?_
              refine r_icmp_ne (tgt := 150) (pc2 := 102) dX2_run_99 (by decide) rfl (fun b99 => ?_) (fun b99 => ?_)
              · skip
                refine r_iload_n (pc2 := 151) 2 dX2_run_150 rfl rfl rfl ?_
                refine r_iconst (pc2 := 152) (v := 2) dX2_run_151 (by decide) rfl ?_
                refine r_icmp_lt (tgt := 185) (pc2 := 155) dX2_run_152 (by decide) rfl (fun b152 => ?_) (fun b152 => ?_)
                · exact absurd b152 (nI_nlt (a := r.length + 2) (b := 2) (by omega) (by omega))
                · skip
                  obtain ⟨x155, e155⟩ : ∃ z : Int32, z = (nI (r.length + 2)) + (-1) := ⟨_, rfl⟩
                  refine r_iinc (pc2 := 158) (ls2 := [.ref 82, .ref na, .int x155, .int (nI k), .int (cmI c)]) (v := x155) 2 dX2_run_155 rfl (by rw [e155]; rfl) rfl rfl rfl ?_
                  rw [pk_m1] at e155
                  subst e155
                  refine r_aload_n (pc2 := 159) 0 dX2_run_158 rfl rfl rfl rfl ?_
                  refine r_getf (pc2 := 162) (v := .ref 89) fX2_27 dX2_run_159 c82 (by decide) rfl rfl ?_
                  refine r_iload_n (pc2 := 163) 2 dX2_run_162 rfl rfl rfl ?_
                  refine r_iconst (pc2 := 164) (v := 1) dX2_run_163 (by decide) rfl ?_
                  refine r_isub (pc2 := 165) dX2_run_164 rfl ?_
                  refine r_cast (nI r.length) (nI_pred r.length) ?_
                  refine r_iload (pc2 := 167) 4 dX2_run_165 rfl rfl ?_
                  refine r_aload_n (pc2 := 168) 0 dX2_run_167 rfl rfl rfl rfl ?_
                  refine r_getf (pc2 := 171) (v := .ref 89) fX2_27 dX2_run_168 c82 (by decide) rfl rfl ?_
                  refine r_iload_n (pc2 := 172) 2 dX2_run_171 rfl rfl rfl ?_
                  refine r_iconst (pc2 := 173) (v := 1) dX2_run_172 (by decide) rfl ?_
                  refine r_isub (pc2 := 174) dX2_run_173 rfl ?_
                  refine r_cast (nI r.length) (nI_pred r.length) ?_
                  refine r_ialdN (pc2 := 175) r.length dX2_run_174 c89 (by decide) rfl (by omega) (by decide) rfl ?_
                  refine r_cast (x) (hx0) ?_
                  refine r_aload_n (pc2 := 176) 0 dX2_run_175 rfl rfl rfl rfl ?_
                  refine r_getf (pc2 := 179) (v := .ref 89) fX2_27 dX2_run_176 c82 (by decide) rfl rfl ?_
                  refine r_iload_n (pc2 := 180) 2 dX2_run_179 rfl rfl rfl ?_
                  refine r_ialdN (pc2 := 181) (r.length + 1) dX2_run_180 c89 (by decide) rfl (by omega) (by decide) rfl ?_
                  refine r_cast (y) (hy0) ?_
                  refine r_callS1 (pc2 := 184) (As := [.int (cmI c), .int x, .int y]) (st := [.int (nI r.length), .ref 89]) kX2_94 dX2_run_181 rfl rfl (Nat.le_of_ble_eq_true rfl) (by omega) (c_join (c := c) hb hsf) rfl (fun h2 hq181 => ?_)
                  subst hq181
                  refine r_topi (fun y184 ey184 => ?_)
                  refine r_iastN (pc2 := 185) r.length dX2_run_184 c89 (by decide) rfl (by omega) (by decide) rfl (fun h z184 o184 c89 => ?_)
                  have c82 := (o184 82 (by decide)).trans c82
                  have c88 := (o184 88 (by decide)).trans c88
                  have c_na := (o184 na (by omega)).trans c_na
                  have hx := hx.step (a := 89) (by decide) z184 o184
                  obtain ⟨x185, e185⟩ : ∃ z : Int32, z = (nI k) + (1) := ⟨_, rfl⟩
                  refine r_iinc (pc2 := 188) (ls2 := [.ref 82, .ref na, .int (nI (r.length + 1)), .int x185, .int (cmI c)]) (v := x185) 3 dX2_run_185 rfl (by rw [e185]; rfl) rfl rfl rfl ?_
                  refine r_goto (pc2 := 4) dX2_run_188 (by decide) ?_
                  rw [ey184] at c89
                  rw [e185, nI_1]
                  exact ih (k + 1) h _ (btw c x y :: r) _ (by omega) (by rw [hstk]; exact ev1_bin hb) (⟨pk_us, hr.pop.pop.far (Nat.le_refl _)⟩) hx c82 c88 c89 c_na
              · exact absurd b99 hE.2.2
            · exact absurd b66 hE.2.1
          · exact absurd hE.1 b19
  refine r_iconst (pc2 := 1) (v := 0) dX2_run_0 (by decide) rfl ?_
  refine r_istore_n (pc2 := 2) (ls2 := [.ref 82, .ref na, .int 0, .float 0, .float 0]) 2 dX2_run_1 rfl (by decide) rfl rfl rfl ?_
  refine r_iconst (pc2 := 3) (v := 0) dX2_run_2 (by decide) rfl ?_
  refine r_istore_n (pc2 := 4) (ls2 := [.ref 82, .ref na, .int 0, .int 0, .float 0]) 3 dX2_run_3 rfl (by decide) rfl rfl rfl ?_
  exact loop n 0 h0 f [] _ (by omega) rfl trivial Ex.rf c82 c88 c89 c_na
