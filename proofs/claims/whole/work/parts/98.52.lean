/-! new objects of the class -/
theorem Gx.tr {S S2 : List Nat} {h h1 h2 : Hp} (x : Gx S h h1) (y : Gx S2 h1 h2) (hs : ∀ a ∈ S2, a ∈ S ∨ h.2.1 ≤ a) : Gx S h h2 := ⟨Nat.le_trans x.1 y.1, fun q a b => (y.2 q (Nat.lt_of_lt_of_le a x.1) (fun z => (hs q z).elim b (fun w => absurd a (Nat.not_lt.mpr w)))).trans (x.2 q a b)⟩
set_option maxRecDepth 20000 in
set_option maxHeartbeats 1000000 in
theorem c_reader0 {E : EnvT} {d : Nat} {h0 : Hp} (c65 : h0.1 65 = some (.inr (3, [.int 0, .int 0, .int 0, .null, .int 0, .int 0, .int 0, .int 0, .int 0, .int 0, .int 0, .null, .int 0, .null]))) (hn : h0.2.1 = 66) (hd : 3 ≤ d) : Cn E mX3_init d [.ref 65] h0 (fun r h2 => r = none ∧ h2.2.1 = 72 ∧ h2.2.2 ≤ h0.2.2 + 1900 ∧ Gx [65] h0 h2 ∧ h2.1 65 = some (.inr (3, [.int 0, .int (-1), .int 0, .ref 66, .int 0, .int 0, .int 0, .int 0, .int 0, .int 0, .int 0, .ref 67, .int 0, .ref 68])) ∧ h2.1 66 = some (aB 900 (fun _ => 0)) ∧ h2.1 67 = some (aI 900 (fun _ => 0))) := by
  have hgx : Gx [65] h0 h0 := Gx.rf
  refine Cn.go (ls := [.ref 65]) (by decide +kernel) rfl (Nat.le_of_ble_eq_true rfl) ?_
  refine r_aload_n (pc2 := 1) 0 dX3_init_0 rfl rfl rfl rfl ?_
  refine r_objInit (pc2 := 4) oX3_3 dX3_init_1 (by decide) (Nat.le_of_ble_eq_true rfl) (by omega) rfl ?_
  refine r_aload_n (pc2 := 5) 0 dX3_init_4 rfl rfl rfl rfl ?_
  refine r_iconst (pc2 := 6) (v := -1) dX3_init_5 (by decide) rfl ?_
  refine r_putfX (pc2 := 9) [.int 0, .int (-1), .int 0, .null, .int 0, .int 0, .int 0, .int 0, .int 0, .int 0, .int 0, .null, .int 0, .null] fX3_9 dX3_init_6 c65 (by decide) (Nat.le_of_ble_eq_true rfl) rfl rfl rfl (fun h z6 o6 c65 => ?_)
  have hgx := hgx.step (a := 65) (by simp) o6 z6
  have y1z6 := congrArg Prod.fst z6
  have y2z6 := congrArg Prod.snd z6
  refine r_aload_n (pc2 := 10) 0 dX3_init_9 rfl rfl rfl rfl ?_
  refine r_sipush (pc2 := 13) (v := 900) dX3_init_10 (by decide) rfl ?_
  refine r_newbX (pc2 := 15) (N := 900) aC_byte dX3_init_13 (by decide) (by decide) (by decide) rfl (by omega) (fun q13 h eq13 zc13 zs13 o13 c_q13 => ?_)
  have c65 := (o13 65 (by omega)).trans c65
  have hgx := hgx.fresh (a := q13) (by have := hgx.1; omega) o13 (by omega)
  obtain rfl : q13 = 66 := by omega
  have c66 := c_q13
  refine r_putFX (pc2 := 18) [.int 0, .int (-1), .int 0, .ref 66, .int 0, .int 0, .int 0, .int 0, .int 0, .int 0, .int 0, .null, .int 0, .null] FX3_15 rfl dX3_init_15 c65 (by decide) (Nat.le_of_ble_eq_true rfl) (okA (by decide)) rfl rfl (fun h z15 o15 c65 => ?_)
  have c66 := (o15 66 (by decide)).trans c66
  have hgx := hgx.step (a := 65) (by simp) o15 z15
  have y1z15 := congrArg Prod.fst z15
  have y2z15 := congrArg Prod.snd z15
  refine r_aload_n (pc2 := 19) 0 dX3_init_18 rfl rfl rfl rfl ?_
  refine r_sipush (pc2 := 22) (v := 900) dX3_init_19 (by decide) rfl ?_
  refine r_newiX (pc2 := 24) (N := 900) aC_int dX3_init_22 (by decide) (by decide) (by decide) rfl (by omega) (fun q22 h eq22 zc22 zs22 o22 c_q22 => ?_)
  have c65 := (o22 65 (by omega)).trans c65
  have c66 := (o22 66 (by omega)).trans c66
  have hgx := hgx.fresh (a := q22) (by have := hgx.1; omega) o22 (by omega)
  obtain rfl : q22 = 67 := by omega
  have c67 := c_q22
  refine r_putFX (pc2 := 27) [.int 0, .int (-1), .int 0, .ref 66, .int 0, .int 0, .int 0, .int 0, .int 0, .int 0, .int 0, .ref 67, .int 0, .null] FX3_19 rfl dX3_init_24 c65 (by decide) (Nat.le_of_ble_eq_true rfl) (okA (by decide)) rfl rfl (fun h z24 o24 c65 => ?_)
  have c66 := (o24 66 (by decide)).trans c66
  have c67 := (o24 67 (by decide)).trans c67
  have hgx := hgx.step (a := 65) (by simp) o24 z24
  have y1z24 := congrArg Prod.fst z24
  have y2z24 := congrArg Prod.snd z24
  refine r_aload_n (pc2 := 28) 0 dX3_init_27 rfl rfl rfl rfl ?_
  refine r_newX (pc2 := 31) nX3_23 dX3_init_28 rfl (by omega) (fun q28 h eq28 zc28 zs28 o28 c_q28 => ?_)
  have c65 := (o28 65 (by omega)).trans c65
  have c66 := (o28 66 (by omega)).trans c66
  have c67 := (o28 67 (by omega)).trans c67
  have hgx := hgx.fresh (a := q28) (by have := hgx.1; omega) o28 (by omega)
  obtain rfl : q28 = 68 := by omega
  have c68 := c_q28
  refine r_dup (pc2 := 32) dX3_init_31 rfl rfl ?_
  refine r_iconst (pc2 := 33) (v := 0) dX3_init_32 (by decide) rfl ?_
  refine r_callI0 (pc2 := 36) (As := [.int 0]) (st := [.ref 68, .ref 65]) kX3_25 dX3_init_33 (by decide) rfl rfl (Nat.le_of_ble_eq_true rfl) (by omega) (c_street0 c68 (by omega) (by omega) (by omega)) rfl (fun h hq33 => ?_)
  obtain ⟨w1_33, w2_33, hg33, c68, c69, c70, c71⟩ := hq33
  have c65 := hg33.get (by simp) (by omega) c65
  have c66 := hg33.get (by simp) (by omega) c66
  have c67 := hg33.get (by simp) (by omega) c67
  have hgx := hgx.tr hg33 (by simp; omega)
  refine r_putfX (pc2 := 39) [.int 0, .int (-1), .int 0, .ref 66, .int 0, .int 0, .int 0, .int 0, .int 0, .int 0, .int 0, .ref 67, .int 0, .ref 68] fX3_28 dX3_init_36 c65 (by decide) (Nat.le_of_ble_eq_true rfl) (okO (by decide)) rfl rfl (fun h z36 o36 c65 => ?_)
  have c66 := (o36 66 (by decide)).trans c66
  have c67 := (o36 67 (by decide)).trans c67
  have hgx := hgx.step (a := 65) (by simp) o36 z36
  have y1z36 := congrArg Prod.fst z36
  have y2z36 := congrArg Prod.snd z36
  exact r_vret rfl dX3_init_39 ⟨rfl, by omega, by omega, hgx, c65, c66, c67⟩
set_option maxRecDepth 20000 in
set_option maxHeartbeats 1000000 in
theorem c_laws0 {E : EnvT} {d : Nat} {h0 : Hp} (c82 : h0.1 82 = some (.inr (2, [.null, .int 0, .int 0, .null, .null, .null, .null]))) (hn : h0.2.1 = 83) (hd : 3 ≤ d) : Cn E mX2_init d [.ref 82] h0 (fun r h2 => r = none ∧ h2.2.1 = 90 ∧ h2.2.2 ≤ h0.2.2 + 400 ∧ Gx [82] h0 h2 ∧ h2.1 82 = some (.inr (2, [.ref 83, .int 0, .int 0, .ref 87, .null, .ref 88, .ref 89])) ∧ h2.1 87 = some (aI 280 (fun _ => 0)) ∧ h2.1 88 = some (aI 6 (fun _ => 0)) ∧ h2.1 89 = some (aI 64 (fun _ => 0))) := by
  have hgx : Gx [82] h0 h0 := Gx.rf
  refine Cn.go (ls := [.ref 82]) (by decide +kernel) rfl (Nat.le_of_ble_eq_true rfl) ?_
  refine r_aload_n (pc2 := 1) 0 dX2_init_0 rfl rfl rfl rfl ?_
  refine r_objInit (pc2 := 4) oX2_3 dX2_init_1 (by decide) (Nat.le_of_ble_eq_true rfl) (by omega) rfl ?_
  refine r_aload_n (pc2 := 5) 0 dX2_init_4 rfl rfl rfl rfl ?_
  refine r_newX (pc2 := 8) nX2_9 dX2_init_5 rfl (by omega) (fun q5 h eq5 zc5 zs5 o5 c_q5 => ?_)
  have c82 := (o5 82 (by omega)).trans c82
  have hgx := hgx.fresh (a := q5) (by have := hgx.1; omega) o5 (by omega)
  obtain rfl : q5 = 83 := by omega
  have c83 := c_q5
  refine r_dup (pc2 := 9) dX2_init_8 rfl rfl ?_
  refine r_iconst (pc2 := 10) (v := 0) dX2_init_9 (by decide) rfl ?_
  refine r_callI0 (pc2 := 13) (As := [.int 0]) (st := [.ref 83, .ref 82]) kX2_11 dX2_init_10 (by decide) rfl rfl (Nat.le_of_ble_eq_true rfl) (by omega) (c_street0 c83 (by omega) (by omega) (by omega)) rfl (fun h hq10 => ?_)
  obtain ⟨w1_10, w2_10, hg10, c83, c84, c85, c86⟩ := hq10
  have c82 := hg10.get (by simp) (by omega) c82
  have hgx := hgx.tr hg10 (by simp; omega)
  refine r_putfX (pc2 := 16) [.ref 83, .int 0, .int 0, .null, .null, .null, .null] fX2_14 dX2_init_13 c82 (by decide) (Nat.le_of_ble_eq_true rfl) (okO (by decide)) rfl rfl (fun h z13 o13 c82 => ?_)
  have hgx := hgx.step (a := 82) (by simp) o13 z13
  have y1z13 := congrArg Prod.fst z13
  have y2z13 := congrArg Prod.snd z13
  refine r_aload_n (pc2 := 17) 0 dX2_init_16 rfl rfl rfl rfl ?_
  refine r_sipush (pc2 := 20) (v := 280) dX2_init_17 (by decide) rfl ?_
  refine r_newiX (pc2 := 22) (N := 280) aC_int dX2_init_20 (by decide) (by decide) (by decide) rfl (by omega) (fun q20 h eq20 zc20 zs20 o20 c_q20 => ?_)
  have c82 := (o20 82 (by omega)).trans c82
  have hgx := hgx.fresh (a := q20) (by have := hgx.1; omega) o20 (by omega)
  obtain rfl : q20 = 87 := by omega
  have c87 := c_q20
  refine r_putFX (pc2 := 25) [.ref 83, .int 0, .int 0, .ref 87, .null, .null, .null] FX2_20 rfl dX2_init_22 c82 (by decide) (Nat.le_of_ble_eq_true rfl) (okA (by decide)) rfl rfl (fun h z22 o22 c82 => ?_)
  have c87 := (o22 87 (by decide)).trans c87
  have hgx := hgx.step (a := 82) (by simp) o22 z22
  have y1z22 := congrArg Prod.fst z22
  have y2z22 := congrArg Prod.snd z22
  refine r_aload_n (pc2 := 26) 0 dX2_init_25 rfl rfl rfl rfl ?_
  refine r_bipush (pc2 := 28) (v := 6) dX2_init_26 (by decide) rfl ?_
  refine r_newiX (pc2 := 30) (N := 6) aC_int dX2_init_28 (by decide) (by decide) (by decide) rfl (by omega) (fun q28 h eq28 zc28 zs28 o28 c_q28 => ?_)
  have c82 := (o28 82 (by omega)).trans c82
  have c87 := (o28 87 (by omega)).trans c87
  have hgx := hgx.fresh (a := q28) (by have := hgx.1; omega) o28 (by omega)
  obtain rfl : q28 = 88 := by omega
  have c88 := c_q28
  refine r_putFX (pc2 := 33) [.ref 83, .int 0, .int 0, .ref 87, .null, .ref 88, .null] FX2_24 rfl dX2_init_30 c82 (by decide) (Nat.le_of_ble_eq_true rfl) (okA (by decide)) rfl rfl (fun h z30 o30 c82 => ?_)
  have c87 := (o30 87 (by decide)).trans c87
  have c88 := (o30 88 (by decide)).trans c88
  have hgx := hgx.step (a := 82) (by simp) o30 z30
  have y1z30 := congrArg Prod.fst z30
  have y2z30 := congrArg Prod.snd z30
  refine r_aload_n (pc2 := 34) 0 dX2_init_33 rfl rfl rfl rfl ?_
  refine r_bipush (pc2 := 36) (v := 64) dX2_init_34 (by decide) rfl ?_
  refine r_newiX (pc2 := 38) (N := 64) aC_int dX2_init_36 (by decide) (by decide) (by decide) rfl (by omega) (fun q36 h eq36 zc36 zs36 o36 c_q36 => ?_)
  have c82 := (o36 82 (by omega)).trans c82
  have c87 := (o36 87 (by omega)).trans c87
  have c88 := (o36 88 (by omega)).trans c88
  have hgx := hgx.fresh (a := q36) (by have := hgx.1; omega) o36 (by omega)
  obtain rfl : q36 = 89 := by omega
  have c89 := c_q36
  refine r_putFX (pc2 := 41) [.ref 83, .int 0, .int 0, .ref 87, .null, .ref 88, .ref 89] FX2_27 rfl dX2_init_38 c82 (by decide) (Nat.le_of_ble_eq_true rfl) (okA (by decide)) rfl rfl (fun h z38 o38 c82 => ?_)
  have c87 := (o38 87 (by decide)).trans c87
  have c88 := (o38 88 (by decide)).trans c88
  have c89 := (o38 89 (by decide)).trans c89
  have hgx := hgx.step (a := 82) (by simp) o38 z38
  have y1z38 := congrArg Prod.fst z38
  have y2z38 := congrArg Prod.snd z38
  exact r_vret rfl dX2_init_41 ⟨rfl, by omega, by omega, hgx, c82, c87, c88, c89⟩
set_option maxRecDepth 20000 in
set_option maxHeartbeats 1000000 in
theorem c_says0 {E : EnvT} {d : Nat} {h0 : Hp} (c90 : h0.1 90 = some (.inr (4, [.int 0, .null, .int 0, .long 0, .long 0, .null, .null]))) (hn : h0.2.1 = 91) (hd : 3 ≤ d) : Cn E mX4_init d [.ref 90] h0 (fun r h2 => r = none ∧ h2.2.1 = 94 ∧ h2.2.2 ≤ h0.2.2 + 100 ∧ Gx [90] h0 h2 ∧ h2.1 90 = some (.inr (4, [.int 0, .ref 91, .int (-1), .long 0, .long 0, .ref 92, .ref 93])) ∧ h2.1 91 = some (aI 8 (fun _ => 0)) ∧ h2.1 92 = some (aI 8 (fun _ => 0)) ∧ h2.1 93 = some (aI 64 (fun _ => 0))) := by
  have hgx : Gx [90] h0 h0 := Gx.rf
  refine Cn.go (ls := [.ref 90]) (by decide +kernel) rfl (Nat.le_of_ble_eq_true rfl) ?_
  refine r_aload_n (pc2 := 1) 0 dX4_init_0 rfl rfl rfl rfl ?_
  refine r_objInit (pc2 := 4) oX4_3 dX4_init_1 (by decide) (Nat.le_of_ble_eq_true rfl) (by omega) rfl ?_
  refine r_aload_n (pc2 := 5) 0 dX4_init_4 rfl rfl rfl rfl ?_
  refine r_bipush (pc2 := 7) (v := 8) dX4_init_5 (by decide) rfl ?_
  refine r_newiX (pc2 := 9) (N := 8) aC_int dX4_init_7 (by decide) (by decide) (by decide) rfl (by omega) (fun q7 h eq7 zc7 zs7 o7 c_q7 => ?_)
  have c90 := (o7 90 (by omega)).trans c90
  have hgx := hgx.fresh (a := q7) (by have := hgx.1; omega) o7 (by omega)
  obtain rfl : q7 = 91 := by omega
  have c91 := c_q7
  refine r_putFX (pc2 := 12) [.int 0, .ref 91, .int 0, .long 0, .long 0, .null, .null] FX4_9 rfl dX4_init_9 c90 (by decide) (Nat.le_of_ble_eq_true rfl) (okA (by decide)) rfl rfl (fun h z9 o9 c90 => ?_)
  have c91 := (o9 91 (by decide)).trans c91
  have hgx := hgx.step (a := 90) (by simp) o9 z9
  have y1z9 := congrArg Prod.fst z9
  have y2z9 := congrArg Prod.snd z9
  refine r_aload_n (pc2 := 13) 0 dX4_init_12 rfl rfl rfl rfl ?_
  refine r_iconst (pc2 := 14) (v := -1) dX4_init_13 (by decide) rfl ?_
  refine r_putfX (pc2 := 17) [.int 0, .ref 91, .int (-1), .long 0, .long 0, .null, .null] fX4_15 dX4_init_14 c90 (by decide) (Nat.le_of_ble_eq_true rfl) rfl rfl rfl (fun h z14 o14 c90 => ?_)
  have c91 := (o14 91 (by decide)).trans c91
  have hgx := hgx.step (a := 90) (by simp) o14 z14
  have y1z14 := congrArg Prod.fst z14
  have y2z14 := congrArg Prod.snd z14
  refine r_aload_n (pc2 := 18) 0 dX4_init_17 rfl rfl rfl rfl ?_
  refine r_bipush (pc2 := 20) (v := 8) dX4_init_18 (by decide) rfl ?_
  refine r_newiX (pc2 := 22) (N := 8) aC_int dX4_init_20 (by decide) (by decide) (by decide) rfl (by omega) (fun q20 h eq20 zc20 zs20 o20 c_q20 => ?_)
  have c90 := (o20 90 (by omega)).trans c90
  have c91 := (o20 91 (by omega)).trans c91
  have hgx := hgx.fresh (a := q20) (by have := hgx.1; omega) o20 (by omega)
  obtain rfl : q20 = 92 := by omega
  have c92 := c_q20
  refine r_putFX (pc2 := 25) [.int 0, .ref 91, .int (-1), .long 0, .long 0, .ref 92, .null] FX4_19 rfl dX4_init_22 c90 (by decide) (Nat.le_of_ble_eq_true rfl) (okA (by decide)) rfl rfl (fun h z22 o22 c90 => ?_)
  have c91 := (o22 91 (by decide)).trans c91
  have c92 := (o22 92 (by decide)).trans c92
  have hgx := hgx.step (a := 90) (by simp) o22 z22
  have y1z22 := congrArg Prod.fst z22
  have y2z22 := congrArg Prod.snd z22
  refine r_aload_n (pc2 := 26) 0 dX4_init_25 rfl rfl rfl rfl ?_
  refine r_bipush (pc2 := 28) (v := 64) dX4_init_26 (by decide) rfl ?_
  refine r_newiX (pc2 := 30) (N := 64) aC_int dX4_init_28 (by decide) (by decide) (by decide) rfl (by omega) (fun q28 h eq28 zc28 zs28 o28 c_q28 => ?_)
  have c90 := (o28 90 (by omega)).trans c90
  have c91 := (o28 91 (by omega)).trans c91
  have c92 := (o28 92 (by omega)).trans c92
  have hgx := hgx.fresh (a := q28) (by have := hgx.1; omega) o28 (by omega)
  obtain rfl : q28 = 93 := by omega
  have c93 := c_q28
  refine r_putFX (pc2 := 33) [.int 0, .ref 91, .int (-1), .long 0, .long 0, .ref 92, .ref 93] FX4_22 rfl dX4_init_30 c90 (by decide) (Nat.le_of_ble_eq_true rfl) (okA (by decide)) rfl rfl (fun h z30 o30 c90 => ?_)
  have c91 := (o30 91 (by decide)).trans c91
  have c92 := (o30 92 (by decide)).trans c92
  have c93 := (o30 93 (by decide)).trans c93
  have hgx := hgx.step (a := 90) (by simp) o30 z30
  have y1z30 := congrArg Prod.fst z30
  have y2z30 := congrArg Prod.snd z30
  exact r_vret rfl dX4_init_33 ⟨rfl, by omega, by omega, hgx, c90, c91, c92, c93⟩
set_option maxRecDepth 20000 in
set_option maxHeartbeats 1000000 in
theorem c_tray0 {E : EnvT} {d : Nat} {h0 : Hp} {p : Nat} (cp : h0.1 p = some (.inr (7, [.int 0, .int 0, .int 0, .null]))) (hp : 64 ≤ p) (hn : h0.2.1 = p + 1) (hd : 3 ≤ d) : Cn E mX7_init d [.ref p] h0 (fun r h2 => r = none ∧ h2.2.1 = p + 2 ∧ h2.2.2 ≤ h0.2.2 + 40 ∧ Gx [p] h0 h2 ∧ h2.1 p = some (.inr (7, [.int 1, .int 0, .int 0, .ref (p + 1)])) ∧ h2.1 (p + 1) = some (aL 40 (fun _ => 0))) := by
  have hgx : Gx [p] h0 h0 := Gx.rf
  refine Cn.go (ls := [.ref p]) (by decide +kernel) rfl (Nat.le_of_ble_eq_true rfl) ?_
  refine r_aload_n (pc2 := 1) 0 dX7_init_0 rfl rfl rfl rfl ?_
  refine r_objInit (pc2 := 4) oX7_3 dX7_init_1 (by omega) (Nat.le_of_ble_eq_true rfl) (by omega) rfl ?_
  refine r_aload_n (pc2 := 5) 0 dX7_init_4 rfl rfl rfl rfl ?_
  refine r_iconst (pc2 := 6) (v := 1) dX7_init_5 (by decide) rfl ?_
  refine r_putfX (pc2 := 9) [.int 1, .int 0, .int 0, .null] fX7_9 dX7_init_6 cp (by omega) (Nat.le_of_ble_eq_true rfl) rfl rfl rfl (fun h z6 o6 cp => ?_)
  have hgx := hgx.step (a := p) (by simp) o6 z6
  have y1z6 := congrArg Prod.fst z6
  have y2z6 := congrArg Prod.snd z6
  refine r_aload_n (pc2 := 10) 0 dX7_init_9 rfl rfl rfl rfl ?_
  refine r_bipush (pc2 := 12) (v := 40) dX7_init_10 (by decide) rfl ?_
  refine r_newlX (pc2 := 14) (N := 40) aC_long dX7_init_12 (by decide) (by decide) (by decide) rfl (by omega) (fun q h eq zc12 zs12 o12 c_q => ?_)
  have cp := (o12 p (by omega)).trans cp
  have hgx := hgx.fresh (a := q) (by have := hgx.1; omega) o12 (by omega)
  refine r_putFX (pc2 := 17) [.int 1, .int 0, .int 0, .ref q] FX7_15 rfl dX7_init_14 cp (by omega) (Nat.le_of_ble_eq_true rfl) (okA (by omega)) rfl rfl (fun h z14 o14 cp => ?_)
  have c_q := (o14 q (by omega)).trans c_q
  have hgx := hgx.step (a := p) (by simp) o14 z14
  have y1z14 := congrArg Prod.fst z14
  have y2z14 := congrArg Prod.snd z14
  obtain rfl : q = p + 1 := by omega
  exact r_vret rfl dX7_init_17 ⟨rfl, by omega, by omega, hgx, cp, c_q⟩
