/-! a new object of the reference -/
set_option maxRecDepth 20000 in
set_option maxHeartbeats 1000000 in
theorem c_plain118 {E : EnvT} {d : Nat} {h0 : Hp} {f : Nat → Int32} (c118 : h0.1 118 = some (aI 3531 f)) : Cn E mX10_plain d [.ref 118] h0 (fun r h2 => r = none ∧ Ex [118] h0 h2 ∧ h2.1 118 = some (aI 3531 (nA (plainX f)))) := by
  have hx : Ex [118] h0 h0 := Ex.rf
  have loop : ∀ (m k : Nat) (h1 : Hp), k + m = 1177 → Ex [118] h0 h1 → h1.1 118 = some (aI 3531 (fillN f 0 k (fun _ => (0 : Int32)))) → Fr E mX10_plain d 2 [.ref 118, .int (nI k)] [] h1 (fun r h2 => r = none ∧ Ex [118] h0 h2 ∧ h2.1 118 = some (aI 3531 (nA (plainX f)))) := by
    intro m
    induction m with
    | zero =>
      intro k h hk hx c118
      obtain rfl : k = 1177 := by omega
      refine r_iload_n (pc2 := 3) 1 dX10_plain_2 rfl rfl rfl ?_
      refine r_sipush (pc2 := 6) (v := 1177) dX10_plain_3 (by decide) rfl ?_
      refine r_icmp_ge (tgt := 19) (pc2 := 9) dX10_plain_6 (by decide) rfl (fun b6 => ?_) (fun b6 => ?_)
      · skip
        refine r_aload_n (pc2 := 20) 0 dX10_plain_19 rfl rfl rfl rfl ?_
        refine r_iconst (pc2 := 21) (v := 1) dX10_plain_20 (by decide) rfl ?_
        refine r_iconst (pc2 := 22) (v := 1) dX10_plain_21 (by decide) rfl ?_
        refine r_iastN (pc2 := 23) 1 dX10_plain_22 c118 (by decide) rfl (by decide) (by decide) rfl (fun h z22 o22 c118 => ?_)
        have hx := hx.step (a := 118) (by decide) z22 o22
        refine r_aload_n (pc2 := 24) 0 dX10_plain_23 rfl rfl rfl rfl ?_
        refine r_bipush (pc2 := 26) (v := 26) dX10_plain_24 (by decide) rfl ?_
        refine r_bipush (pc2 := 28) (v := 9) dX10_plain_26 (by decide) rfl ?_
        refine r_iastN (pc2 := 29) 26 dX10_plain_28 c118 (by decide) rfl (by decide) (by decide) rfl (fun h z28 o28 c118 => ?_)
        have hx := hx.step (a := 118) (by decide) z28 o28
        exact r_vret rfl dX10_plain_29 ⟨rfl, hx, by rw [plainX_eq] at c118; exact c118⟩
      · exact absurd (nI_le (a := 1177) (b := 1177) (Nat.le_refl _) (by decide)) b6
    | succ m ih =>
      intro k h hk hx c118
      have hlt : k < 1177 := by omega
      refine r_iload_n (pc2 := 3) 1 dX10_plain_2 rfl rfl rfl ?_
      refine r_sipush (pc2 := 6) (v := 1177) dX10_plain_3 (by decide) rfl ?_
      refine r_icmp_ge (tgt := 19) (pc2 := 9) dX10_plain_6 (by decide) rfl (fun b6 => ?_) (fun b6 => ?_)
      · exact absurd b6 (nI_ge (b := 1177) hlt (by decide))
      · skip
        refine r_aload_n (pc2 := 10) 0 dX10_plain_9 rfl rfl rfl rfl ?_
        refine r_iload_n (pc2 := 11) 1 dX10_plain_10 rfl rfl rfl ?_
        refine r_iconst (pc2 := 12) (v := 0) dX10_plain_11 (by decide) rfl ?_
        refine r_iastN (pc2 := 13) k dX10_plain_12 c118 (by decide) rfl (by omega) (by decide) rfl (fun h z12 o12 c118 => ?_)
        have hx := hx.step (a := 118) (by decide) z12 o12
        obtain ⟨x13, e13⟩ : ∃ z : Int32, z = (nI k) + (1) := ⟨_, rfl⟩
        refine r_iinc (pc2 := 16) (ls2 := [.ref 118, .int x13]) (v := x13) 1 dX10_plain_13 rfl (by rw [e13]; rfl) rfl rfl rfl ?_
        refine r_goto (pc2 := 2) dX10_plain_16 (by decide) ?_
        rw [e13, nI_1]
        rw [fillN_1177] at c118
        exact ih (k + 1) h (by omega) hx c118
  refine Cn.go (ls := [.ref 118, .float 0]) (by decide +kernel) rfl (Nat.le_of_ble_eq_true rfl) ?_
  refine r_iconst (pc2 := 1) (v := 0) dX10_plain_0 (by decide) rfl ?_
  refine r_istore_n (pc2 := 2) (ls2 := [.ref 118, .int 0]) 1 dX10_plain_1 rfl (by decide) rfl rfl rfl ?_
  rw [← fillN_0 f 0 (fun _ => (0 : Int32))] at c118
  exact loop 1177 0 _ (by omega) hx c118
theorem plainX_0 : plainX (fun _ => 0) = plainF := by
  funext k
  unfold plainX
  by_cases h : k < 1177
  · rw [if_pos h]
  · rw [if_neg h]
    unfold plainF
    rw [if_neg (by omega), if_neg (by omega)]
    rfl
theorem rs_0 : (upd (upd (upd (upd (fun _ => (0 : Int32)) 0 (-1)) 1 (-1)) 2 (-1)) 3 (-1)) = fun k => if k < 4 then -1 else 0 := by
  funext k
  unfold upd
  by_cases h : k < 4
  · rw [if_pos h]
    rcases (by omega : k = 0 ∨ k = 1 ∨ k = 2 ∨ k = 3) with rfl | rfl | rfl | rfl <;> rfl
  · rw [if_neg h, if_neg (by omega), if_neg (by omega), if_neg (by omega), if_neg (by omega)]
set_option maxRecDepth 20000 in
set_option maxHeartbeats 1000000 in
theorem c_model {E : EnvT} {d : Nat} {h0 : Hp} (c117 : h0.1 117 = some (.inr (10, [.int 0, .null, .null, .null, .null, .int 0, .int 0, .int 0, .int 0, .int 0, .int 0, .int 0, .int 0, .int 0, .int 0, .int 0, .null, .null, .null, .int 0, .int 0, .null, .null, .null, .null, .int 0, .null, .null, .null, .null, .null, .int 0, .int 0, .int 0, .int 0, .null, .null, .int 0, .int 0, .null, .null, .null]))) (hn : h0.2.1 = 118) (hd : 2 ≤ d) : Cn E mX10_init d [.ref 117] h0 (fun r h2 => r = none ∧ h2.2.1 = 139 ∧ h2.2.2 ≤ h0.2.2 + 1000000 ∧ Gx [117] h0 h2 ∧ RS h2 (fun k => if k = 14 then -1 else 0) plainF (fun _ => 0) (fun _ => 0) (fun k => if k < 4 then -1 else 0) (fun _ => 0) (fun _ => 0)) := by
  have hgx : Gx [117] h0 h0 := Gx.rf
  refine Cn.go (ls := [.ref 117]) (by decide +kernel) rfl (Nat.le_of_ble_eq_true rfl) ?_
  refine r_aload_n (pc2 := 1) 0 dX10_init_0 rfl rfl rfl rfl ?_
  refine r_objInit (pc2 := 4) oX10_7 dX10_init_1 (by decide) (Nat.le_of_ble_eq_true rfl) (by omega) rfl ?_
  refine r_aload_n (pc2 := 5) 0 dX10_init_4 rfl rfl rfl rfl ?_
  refine r_sipush (pc2 := 8) (v := 3531) dX10_init_5 (by decide) rfl ?_
  refine r_newiX (pc2 := 10) (N := 3531) aC_int dX10_init_8 (by decide) (by decide) (by decide) rfl (by omega) (fun q8 h eq8 zc8 zs8 o8 c_q8 => ?_)
  have c117 := (o8 117 (by omega)).trans c117
  have hgx := hgx.fresh (a := q8) (by have := hgx.1; omega) o8 (by omega)
  obtain rfl : q8 = 118 := by omega
  have c118 := c_q8
  refine r_putFX (pc2 := 13) [.int 0, .ref 118, .null, .null, .null, .int 0, .int 0, .int 0, .int 0, .int 0, .int 0, .int 0, .int 0, .int 0, .int 0, .int 0, .null, .null, .null, .int 0, .int 0, .null, .null, .null, .null, .int 0, .null, .null, .null, .null, .null, .int 0, .int 0, .int 0, .int 0, .null, .null, .int 0, .int 0, .null, .null, .null] FX10_13 rfl dX10_init_10 c117 (by decide) (Nat.le_of_ble_eq_true rfl) (okA (by decide)) rfl rfl (fun h z10 o10 c117 => ?_)
  have c118 := (o10 118 (by decide)).trans c118
  have hgx := hgx.step (a := 117) (by simp) o10 z10
  have y1z10 := congrArg Prod.fst z10
  have y2z10 := congrArg Prod.snd z10
  refine r_aload_n (pc2 := 14) 0 dX10_init_13 rfl rfl rfl rfl ?_
  refine r_iconst (pc2 := 15) (v := 2) dX10_init_14 (by decide) rfl ?_
  refine r_newzX (pc2 := 17) (N := 2) aC_boolean dX10_init_15 (by decide) (by decide) (by decide) rfl (by omega) (fun q15 h eq15 zc15 zs15 o15 c_q15 => ?_)
  have c117 := (o15 117 (by omega)).trans c117
  have c118 := (o15 118 (by omega)).trans c118
  have hgx := hgx.fresh (a := q15) (by have := hgx.1; omega) o15 (by omega)
  obtain rfl : q15 = 119 := by omega
  have c119 := c_q15
  refine r_putFX (pc2 := 20) [.int 0, .ref 118, .ref 119, .null, .null, .int 0, .int 0, .int 0, .int 0, .int 0, .int 0, .int 0, .int 0, .int 0, .int 0, .int 0, .null, .null, .null, .int 0, .int 0, .null, .null, .null, .null, .int 0, .null, .null, .null, .null, .null, .int 0, .int 0, .int 0, .int 0, .null, .null, .int 0, .int 0, .null, .null, .null] FX10_17 rfl dX10_init_17 c117 (by decide) (Nat.le_of_ble_eq_true rfl) (okA (by decide)) rfl rfl (fun h z17 o17 c117 => ?_)
  have c118 := (o17 118 (by decide)).trans c118
  have c119 := (o17 119 (by decide)).trans c119
  have hgx := hgx.step (a := 117) (by simp) o17 z17
  have y1z17 := congrArg Prod.fst z17
  have y2z17 := congrArg Prod.snd z17
  refine r_aload_n (pc2 := 21) 0 dX10_init_20 rfl rfl rfl rfl ?_
  refine r_sipush (pc2 := 24) (v := 900) dX10_init_21 (by decide) rfl ?_
  refine r_newiX (pc2 := 26) (N := 900) aC_int dX10_init_24 (by decide) (by decide) (by decide) rfl (by omega) (fun q24 h eq24 zc24 zs24 o24 c_q24 => ?_)
  have c117 := (o24 117 (by omega)).trans c117
  have c118 := (o24 118 (by omega)).trans c118
  have c119 := (o24 119 (by omega)).trans c119
  have hgx := hgx.fresh (a := q24) (by have := hgx.1; omega) o24 (by omega)
  obtain rfl : q24 = 120 := by omega
  have c120 := c_q24
  refine r_putFX (pc2 := 29) [.int 0, .ref 118, .ref 119, .ref 120, .null, .int 0, .int 0, .int 0, .int 0, .int 0, .int 0, .int 0, .int 0, .int 0, .int 0, .int 0, .null, .null, .null, .int 0, .int 0, .null, .null, .null, .null, .int 0, .null, .null, .null, .null, .null, .int 0, .int 0, .int 0, .int 0, .null, .null, .int 0, .int 0, .null, .null, .null] FX10_21 rfl dX10_init_26 c117 (by decide) (Nat.le_of_ble_eq_true rfl) (okA (by decide)) rfl rfl (fun h z26 o26 c117 => ?_)
  have c118 := (o26 118 (by decide)).trans c118
  have c119 := (o26 119 (by decide)).trans c119
  have c120 := (o26 120 (by decide)).trans c120
  have hgx := hgx.step (a := 117) (by simp) o26 z26
  have y1z26 := congrArg Prod.fst z26
  have y2z26 := congrArg Prod.snd z26
  refine r_aload_n (pc2 := 30) 0 dX10_init_29 rfl rfl rfl rfl ?_
  refine r_sipush (pc2 := 33) (v := 1177) dX10_init_30 (by decide) rfl ?_
  refine r_newiX (pc2 := 35) (N := 1177) aC_int dX10_init_33 (by decide) (by decide) (by decide) rfl (by omega) (fun q33 h eq33 zc33 zs33 o33 c_q33 => ?_)
  have c117 := (o33 117 (by omega)).trans c117
  have c118 := (o33 118 (by omega)).trans c118
  have c119 := (o33 119 (by omega)).trans c119
  have c120 := (o33 120 (by omega)).trans c120
  have hgx := hgx.fresh (a := q33) (by have := hgx.1; omega) o33 (by omega)
  obtain rfl : q33 = 121 := by omega
  have c121 := c_q33
  refine r_putFX (pc2 := 38) [.int 0, .ref 118, .ref 119, .ref 120, .ref 121, .int 0, .int 0, .int 0, .int 0, .int 0, .int 0, .int 0, .int 0, .int 0, .int 0, .int 0, .null, .null, .null, .int 0, .int 0, .null, .null, .null, .null, .int 0, .null, .null, .null, .null, .null, .int 0, .int 0, .int 0, .int 0, .null, .null, .int 0, .int 0, .null, .null, .null] FX10_24 rfl dX10_init_35 c117 (by decide) (Nat.le_of_ble_eq_true rfl) (okA (by decide)) rfl rfl (fun h z35 o35 c117 => ?_)
  have c118 := (o35 118 (by decide)).trans c118
  have c119 := (o35 119 (by decide)).trans c119
  have c120 := (o35 120 (by decide)).trans c120
  have c121 := (o35 121 (by decide)).trans c121
  have hgx := hgx.step (a := 117) (by simp) o35 z35
  have y1z35 := congrArg Prod.fst z35
  have y2z35 := congrArg Prod.snd z35
  refine r_aload_n (pc2 := 39) 0 dX10_init_38 rfl rfl rfl rfl ?_
  refine r_iconst (pc2 := 40) (v := -1) dX10_init_39 (by decide) rfl ?_
  refine r_putfX (pc2 := 43) [.int 0, .ref 118, .ref 119, .ref 120, .ref 121, .int 0, .int 0, .int 0, .int 0, .int 0, .int 0, .int 0, .int 0, .int 0, .int (-1), .int 0, .null, .null, .null, .int 0, .int 0, .null, .null, .null, .null, .int 0, .null, .null, .null, .null, .null, .int 0, .int 0, .int 0, .int 0, .null, .null, .int 0, .int 0, .null, .null, .null] fX10_27 dX10_init_40 c117 (by decide) (Nat.le_of_ble_eq_true rfl) rfl rfl rfl (fun h z40 o40 c117 => ?_)
  have c118 := (o40 118 (by decide)).trans c118
  have c119 := (o40 119 (by decide)).trans c119
  have c120 := (o40 120 (by decide)).trans c120
  have c121 := (o40 121 (by decide)).trans c121
  have hgx := hgx.step (a := 117) (by simp) o40 z40
  have y1z40 := congrArg Prod.fst z40
  have y2z40 := congrArg Prod.snd z40
  refine r_aload_n (pc2 := 44) 0 dX10_init_43 rfl rfl rfl rfl ?_
  refine r_sipush (pc2 := 47) (v := 900) dX10_init_44 (by decide) rfl ?_
  refine r_newiX (pc2 := 49) (N := 900) aC_int dX10_init_47 (by decide) (by decide) (by decide) rfl (by omega) (fun q47 h eq47 zc47 zs47 o47 c_q47 => ?_)
  have c117 := (o47 117 (by omega)).trans c117
  have c118 := (o47 118 (by omega)).trans c118
  have c119 := (o47 119 (by omega)).trans c119
  have c120 := (o47 120 (by omega)).trans c120
  have c121 := (o47 121 (by omega)).trans c121
  have hgx := hgx.fresh (a := q47) (by have := hgx.1; omega) o47 (by omega)
  obtain rfl : q47 = 122 := by omega
  have c122 := c_q47
  refine r_putFX (pc2 := 52) [.int 0, .ref 118, .ref 119, .ref 120, .ref 121, .int 0, .int 0, .int 0, .int 0, .int 0, .int 0, .int 0, .int 0, .int 0, .int (-1), .int 0, .ref 122, .null, .null, .int 0, .int 0, .null, .null, .null, .null, .int 0, .null, .null, .null, .null, .null, .int 0, .int 0, .int 0, .int 0, .null, .null, .int 0, .int 0, .null, .null, .null] FX10_30 rfl dX10_init_49 c117 (by decide) (Nat.le_of_ble_eq_true rfl) (okA (by decide)) rfl rfl (fun h z49 o49 c117 => ?_)
  have c118 := (o49 118 (by decide)).trans c118
  have c119 := (o49 119 (by decide)).trans c119
  have c120 := (o49 120 (by decide)).trans c120
  have c121 := (o49 121 (by decide)).trans c121
  have c122 := (o49 122 (by decide)).trans c122
  have hgx := hgx.step (a := 117) (by simp) o49 z49
  have y1z49 := congrArg Prod.fst z49
  have y2z49 := congrArg Prod.snd z49
  refine r_aload_n (pc2 := 53) 0 dX10_init_52 rfl rfl rfl rfl ?_
  refine r_bipush (pc2 := 55) (v := 9) dX10_init_53 (by decide) rfl ?_
  refine r_newiX (pc2 := 57) (N := 9) aC_int dX10_init_55 (by decide) (by decide) (by decide) rfl (by omega) (fun q55 h eq55 zc55 zs55 o55 c_q55 => ?_)
  have c117 := (o55 117 (by omega)).trans c117
  have c118 := (o55 118 (by omega)).trans c118
  have c119 := (o55 119 (by omega)).trans c119
  have c120 := (o55 120 (by omega)).trans c120
  have c121 := (o55 121 (by omega)).trans c121
  have c122 := (o55 122 (by omega)).trans c122
  have hgx := hgx.fresh (a := q55) (by have := hgx.1; omega) o55 (by omega)
  obtain rfl : q55 = 123 := by omega
  have c123 := c_q55
  refine r_putFX (pc2 := 60) [.int 0, .ref 118, .ref 119, .ref 120, .ref 121, .int 0, .int 0, .int 0, .int 0, .int 0, .int 0, .int 0, .int 0, .int 0, .int (-1), .int 0, .ref 122, .ref 123, .null, .int 0, .int 0, .null, .null, .null, .null, .int 0, .null, .null, .null, .null, .null, .int 0, .int 0, .int 0, .int 0, .null, .null, .int 0, .int 0, .null, .null, .null] FX10_33 rfl dX10_init_57 c117 (by decide) (Nat.le_of_ble_eq_true rfl) (okA (by decide)) rfl rfl (fun h z57 o57 c117 => ?_)
  have c118 := (o57 118 (by decide)).trans c118
  have c119 := (o57 119 (by decide)).trans c119
  have c120 := (o57 120 (by decide)).trans c120
  have c121 := (o57 121 (by decide)).trans c121
  have c122 := (o57 122 (by decide)).trans c122
  have c123 := (o57 123 (by decide)).trans c123
  have hgx := hgx.step (a := 117) (by simp) o57 z57
  have y1z57 := congrArg Prod.fst z57
  have y2z57 := congrArg Prod.snd z57
  refine r_aload_n (pc2 := 61) 0 dX10_init_60 rfl rfl rfl rfl ?_
  refine r_bipush (pc2 := 63) (v := 23) dX10_init_61 (by decide) rfl ?_
  refine r_newiX (pc2 := 65) (N := 23) aC_int dX10_init_63 (by decide) (by decide) (by decide) rfl (by omega) (fun q63 h eq63 zc63 zs63 o63 c_q63 => ?_)
  have c117 := (o63 117 (by omega)).trans c117
  have c118 := (o63 118 (by omega)).trans c118
  have c119 := (o63 119 (by omega)).trans c119
  have c120 := (o63 120 (by omega)).trans c120
  have c121 := (o63 121 (by omega)).trans c121
  have c122 := (o63 122 (by omega)).trans c122
  have c123 := (o63 123 (by omega)).trans c123
  have hgx := hgx.fresh (a := q63) (by have := hgx.1; omega) o63 (by omega)
  obtain rfl : q63 = 124 := by omega
  have c124 := c_q63
  refine r_putFX (pc2 := 68) [.int 0, .ref 118, .ref 119, .ref 120, .ref 121, .int 0, .int 0, .int 0, .int 0, .int 0, .int 0, .int 0, .int 0, .int 0, .int (-1), .int 0, .ref 122, .ref 123, .ref 124, .int 0, .int 0, .null, .null, .null, .null, .int 0, .null, .null, .null, .null, .null, .int 0, .int 0, .int 0, .int 0, .null, .null, .int 0, .int 0, .null, .null, .null] FX10_36 rfl dX10_init_65 c117 (by decide) (Nat.le_of_ble_eq_true rfl) (okA (by decide)) rfl rfl (fun h z65 o65 c117 => ?_)
  have c118 := (o65 118 (by decide)).trans c118
  have c119 := (o65 119 (by decide)).trans c119
  have c120 := (o65 120 (by decide)).trans c120
  have c121 := (o65 121 (by decide)).trans c121
  have c122 := (o65 122 (by decide)).trans c122
  have c123 := (o65 123 (by decide)).trans c123
  have c124 := (o65 124 (by decide)).trans c124
  have hgx := hgx.step (a := 117) (by simp) o65 z65
  have y1z65 := congrArg Prod.fst z65
  have y2z65 := congrArg Prod.snd z65
  refine r_aload_n (pc2 := 69) 0 dX10_init_68 rfl rfl rfl rfl ?_
  refine r_ldc (pc2 := 71) (v := 40960) qX10_39 dX10_init_69 rfl ?_
  refine r_newiX (pc2 := 73) (N := 40960) aC_int dX10_init_71 (by decide) (by decide) (by decide) rfl (by omega) (fun q71 h eq71 zc71 zs71 o71 c_q71 => ?_)
  have c117 := (o71 117 (by omega)).trans c117
  have c118 := (o71 118 (by omega)).trans c118
  have c119 := (o71 119 (by omega)).trans c119
  have c120 := (o71 120 (by omega)).trans c120
  have c121 := (o71 121 (by omega)).trans c121
  have c122 := (o71 122 (by omega)).trans c122
  have c123 := (o71 123 (by omega)).trans c123
  have c124 := (o71 124 (by omega)).trans c124
  have hgx := hgx.fresh (a := q71) (by have := hgx.1; omega) o71 (by omega)
  obtain rfl : q71 = 125 := by omega
  have c125 := c_q71
  refine r_putFX (pc2 := 76) [.int 0, .ref 118, .ref 119, .ref 120, .ref 121, .int 0, .int 0, .int 0, .int 0, .int 0, .int 0, .int 0, .int 0, .int 0, .int (-1), .int 0, .ref 122, .ref 123, .ref 124, .int 0, .int 0, .ref 125, .null, .null, .null, .int 0, .null, .null, .null, .null, .null, .int 0, .int 0, .int 0, .int 0, .null, .null, .int 0, .int 0, .null, .null, .null] FX10_40 rfl dX10_init_73 c117 (by decide) (Nat.le_of_ble_eq_true rfl) (okA (by decide)) rfl rfl (fun h z73 o73 c117 => ?_)
  have c118 := (o73 118 (by decide)).trans c118
  have c119 := (o73 119 (by decide)).trans c119
  have c120 := (o73 120 (by decide)).trans c120
  have c121 := (o73 121 (by decide)).trans c121
  have c122 := (o73 122 (by decide)).trans c122
  have c123 := (o73 123 (by decide)).trans c123
  have c124 := (o73 124 (by decide)).trans c124
  have c125 := (o73 125 (by decide)).trans c125
  have hgx := hgx.step (a := 117) (by simp) o73 z73
  have y1z73 := congrArg Prod.fst z73
  have y2z73 := congrArg Prod.snd z73
  refine r_aload_n (pc2 := 77) 0 dX10_init_76 rfl rfl rfl rfl ?_
  refine r_ldc (pc2 := 79) (v := 655360) qX10_43 dX10_init_77 rfl ?_
  refine r_newiX (pc2 := 81) (N := 655360) aC_int dX10_init_79 (by decide) (by decide) (by decide) rfl (by omega) (fun q79 h eq79 zc79 zs79 o79 c_q79 => ?_)
  have c117 := (o79 117 (by omega)).trans c117
  have c118 := (o79 118 (by omega)).trans c118
  have c119 := (o79 119 (by omega)).trans c119
  have c120 := (o79 120 (by omega)).trans c120
  have c121 := (o79 121 (by omega)).trans c121
  have c122 := (o79 122 (by omega)).trans c122
  have c123 := (o79 123 (by omega)).trans c123
  have c124 := (o79 124 (by omega)).trans c124
  have c125 := (o79 125 (by omega)).trans c125
  have hgx := hgx.fresh (a := q79) (by have := hgx.1; omega) o79 (by omega)
  obtain rfl : q79 = 126 := by omega
  have c126 := c_q79
  refine r_putFX (pc2 := 84) [.int 0, .ref 118, .ref 119, .ref 120, .ref 121, .int 0, .int 0, .int 0, .int 0, .int 0, .int 0, .int 0, .int 0, .int 0, .int (-1), .int 0, .ref 122, .ref 123, .ref 124, .int 0, .int 0, .ref 125, .ref 126, .null, .null, .int 0, .null, .null, .null, .null, .null, .int 0, .int 0, .int 0, .int 0, .null, .null, .int 0, .int 0, .null, .null, .null] FX10_44 rfl dX10_init_81 c117 (by decide) (Nat.le_of_ble_eq_true rfl) (okA (by decide)) rfl rfl (fun h z81 o81 c117 => ?_)
  have c118 := (o81 118 (by decide)).trans c118
  have c119 := (o81 119 (by decide)).trans c119
  have c120 := (o81 120 (by decide)).trans c120
  have c121 := (o81 121 (by decide)).trans c121
  have c122 := (o81 122 (by decide)).trans c122
  have c123 := (o81 123 (by decide)).trans c123
  have c124 := (o81 124 (by decide)).trans c124
  have c125 := (o81 125 (by decide)).trans c125
  have c126 := (o81 126 (by decide)).trans c126
  have hgx := hgx.step (a := 117) (by simp) o81 z81
  have y1z81 := congrArg Prod.fst z81
  have y2z81 := congrArg Prod.snd z81
  refine r_aload_n (pc2 := 85) 0 dX10_init_84 rfl rfl rfl rfl ?_
  refine r_ldc (pc2 := 87) (v := 40960) qX10_39 dX10_init_85 rfl ?_
  refine r_newiX (pc2 := 89) (N := 40960) aC_int dX10_init_87 (by decide) (by decide) (by decide) rfl (by omega) (fun q87 h eq87 zc87 zs87 o87 c_q87 => ?_)
  have c117 := (o87 117 (by omega)).trans c117
  have c118 := (o87 118 (by omega)).trans c118
  have c119 := (o87 119 (by omega)).trans c119
  have c120 := (o87 120 (by omega)).trans c120
  have c121 := (o87 121 (by omega)).trans c121
  have c122 := (o87 122 (by omega)).trans c122
  have c123 := (o87 123 (by omega)).trans c123
  have c124 := (o87 124 (by omega)).trans c124
  have c125 := (o87 125 (by omega)).trans c125
  have c126 := (o87 126 (by omega)).trans c126
  have hgx := hgx.fresh (a := q87) (by have := hgx.1; omega) o87 (by omega)
  obtain rfl : q87 = 127 := by omega
  have c127 := c_q87
  refine r_putFX (pc2 := 92) [.int 0, .ref 118, .ref 119, .ref 120, .ref 121, .int 0, .int 0, .int 0, .int 0, .int 0, .int 0, .int 0, .int 0, .int 0, .int (-1), .int 0, .ref 122, .ref 123, .ref 124, .int 0, .int 0, .ref 125, .ref 126, .ref 127, .null, .int 0, .null, .null, .null, .null, .null, .int 0, .int 0, .int 0, .int 0, .null, .null, .int 0, .int 0, .null, .null, .null] FX10_47 rfl dX10_init_89 c117 (by decide) (Nat.le_of_ble_eq_true rfl) (okA (by decide)) rfl rfl (fun h z89 o89 c117 => ?_)
  have c118 := (o89 118 (by decide)).trans c118
  have c119 := (o89 119 (by decide)).trans c119
  have c120 := (o89 120 (by decide)).trans c120
  have c121 := (o89 121 (by decide)).trans c121
  have c122 := (o89 122 (by decide)).trans c122
  have c123 := (o89 123 (by decide)).trans c123
  have c124 := (o89 124 (by decide)).trans c124
  have c125 := (o89 125 (by decide)).trans c125
  have c126 := (o89 126 (by decide)).trans c126
  have c127 := (o89 127 (by decide)).trans c127
  have hgx := hgx.step (a := 117) (by simp) o89 z89
  have y1z89 := congrArg Prod.fst z89
  have y2z89 := congrArg Prod.snd z89
  refine r_aload_n (pc2 := 93) 0 dX10_init_92 rfl rfl rfl rfl ?_
  refine r_ldc (pc2 := 95) (v := 40960) qX10_39 dX10_init_93 rfl ?_
  refine r_newzX (pc2 := 97) (N := 40960) aC_boolean dX10_init_95 (by decide) (by decide) (by decide) rfl (by omega) (fun q95 h eq95 zc95 zs95 o95 c_q95 => ?_)
  have c117 := (o95 117 (by omega)).trans c117
  have c118 := (o95 118 (by omega)).trans c118
  have c119 := (o95 119 (by omega)).trans c119
  have c120 := (o95 120 (by omega)).trans c120
  have c121 := (o95 121 (by omega)).trans c121
  have c122 := (o95 122 (by omega)).trans c122
  have c123 := (o95 123 (by omega)).trans c123
  have c124 := (o95 124 (by omega)).trans c124
  have c125 := (o95 125 (by omega)).trans c125
  have c126 := (o95 126 (by omega)).trans c126
  have c127 := (o95 127 (by omega)).trans c127
  have hgx := hgx.fresh (a := q95) (by have := hgx.1; omega) o95 (by omega)
  obtain rfl : q95 = 128 := by omega
  have c128 := c_q95
  refine r_putFX (pc2 := 100) [.int 0, .ref 118, .ref 119, .ref 120, .ref 121, .int 0, .int 0, .int 0, .int 0, .int 0, .int 0, .int 0, .int 0, .int 0, .int (-1), .int 0, .ref 122, .ref 123, .ref 124, .int 0, .int 0, .ref 125, .ref 126, .ref 127, .ref 128, .int 0, .null, .null, .null, .null, .null, .int 0, .int 0, .int 0, .int 0, .null, .null, .int 0, .int 0, .null, .null, .null] FX10_50 rfl dX10_init_97 c117 (by decide) (Nat.le_of_ble_eq_true rfl) (okA (by decide)) rfl rfl (fun h z97 o97 c117 => ?_)
  have c118 := (o97 118 (by decide)).trans c118
  have c119 := (o97 119 (by decide)).trans c119
  have c120 := (o97 120 (by decide)).trans c120
  have c121 := (o97 121 (by decide)).trans c121
  have c122 := (o97 122 (by decide)).trans c122
  have c123 := (o97 123 (by decide)).trans c123
  have c124 := (o97 124 (by decide)).trans c124
  have c125 := (o97 125 (by decide)).trans c125
  have c126 := (o97 126 (by decide)).trans c126
  have c127 := (o97 127 (by decide)).trans c127
  have c128 := (o97 128 (by decide)).trans c128
  have hgx := hgx.step (a := 117) (by simp) o97 z97
  have y1z97 := congrArg Prod.fst z97
  have y2z97 := congrArg Prod.snd z97
  refine r_aload_n (pc2 := 101) 0 dX10_init_100 rfl rfl rfl rfl ?_
  refine r_ldc (pc2 := 103) (v := 40960) qX10_39 dX10_init_101 rfl ?_
  refine r_newlX (pc2 := 105) (N := 40960) aC_long dX10_init_103 (by decide) (by decide) (by decide) rfl (by omega) (fun q103 h eq103 zc103 zs103 o103 c_q103 => ?_)
  have c117 := (o103 117 (by omega)).trans c117
  have c118 := (o103 118 (by omega)).trans c118
  have c119 := (o103 119 (by omega)).trans c119
  have c120 := (o103 120 (by omega)).trans c120
  have c121 := (o103 121 (by omega)).trans c121
  have c122 := (o103 122 (by omega)).trans c122
  have c123 := (o103 123 (by omega)).trans c123
  have c124 := (o103 124 (by omega)).trans c124
  have c125 := (o103 125 (by omega)).trans c125
  have c126 := (o103 126 (by omega)).trans c126
  have c127 := (o103 127 (by omega)).trans c127
  have c128 := (o103 128 (by omega)).trans c128
  have hgx := hgx.fresh (a := q103) (by have := hgx.1; omega) o103 (by omega)
  obtain rfl : q103 = 129 := by omega
  have c129 := c_q103
  refine r_putFX (pc2 := 108) [.int 0, .ref 118, .ref 119, .ref 120, .ref 121, .int 0, .int 0, .int 0, .int 0, .int 0, .int 0, .int 0, .int 0, .int 0, .int (-1), .int 0, .ref 122, .ref 123, .ref 124, .int 0, .int 0, .ref 125, .ref 126, .ref 127, .ref 128, .int 0, .ref 129, .null, .null, .null, .null, .int 0, .int 0, .int 0, .int 0, .null, .null, .int 0, .int 0, .null, .null, .null] FX10_53 rfl dX10_init_105 c117 (by decide) (Nat.le_of_ble_eq_true rfl) (okA (by decide)) rfl rfl (fun h z105 o105 c117 => ?_)
  have c118 := (o105 118 (by decide)).trans c118
  have c119 := (o105 119 (by decide)).trans c119
  have c120 := (o105 120 (by decide)).trans c120
  have c121 := (o105 121 (by decide)).trans c121
  have c122 := (o105 122 (by decide)).trans c122
  have c123 := (o105 123 (by decide)).trans c123
  have c124 := (o105 124 (by decide)).trans c124
  have c125 := (o105 125 (by decide)).trans c125
  have c126 := (o105 126 (by decide)).trans c126
  have c127 := (o105 127 (by decide)).trans c127
  have c128 := (o105 128 (by decide)).trans c128
  have c129 := (o105 129 (by decide)).trans c129
  have hgx := hgx.step (a := 117) (by simp) o105 z105
  have y1z105 := congrArg Prod.fst z105
  have y2z105 := congrArg Prod.snd z105
  refine r_aload_n (pc2 := 109) 0 dX10_init_108 rfl rfl rfl rfl ?_
  refine r_ldc (pc2 := 111) (v := 40960) qX10_39 dX10_init_109 rfl ?_
  refine r_newlX (pc2 := 113) (N := 40960) aC_long dX10_init_111 (by decide) (by decide) (by decide) rfl (by omega) (fun q111 h eq111 zc111 zs111 o111 c_q111 => ?_)
  have c117 := (o111 117 (by omega)).trans c117
  have c118 := (o111 118 (by omega)).trans c118
  have c119 := (o111 119 (by omega)).trans c119
  have c120 := (o111 120 (by omega)).trans c120
  have c121 := (o111 121 (by omega)).trans c121
  have c122 := (o111 122 (by omega)).trans c122
  have c123 := (o111 123 (by omega)).trans c123
  have c124 := (o111 124 (by omega)).trans c124
  have c125 := (o111 125 (by omega)).trans c125
  have c126 := (o111 126 (by omega)).trans c126
  have c127 := (o111 127 (by omega)).trans c127
  have c128 := (o111 128 (by omega)).trans c128
  have c129 := (o111 129 (by omega)).trans c129
  have hgx := hgx.fresh (a := q111) (by have := hgx.1; omega) o111 (by omega)
  obtain rfl : q111 = 130 := by omega
  have c130 := c_q111
  refine r_putFX (pc2 := 116) [.int 0, .ref 118, .ref 119, .ref 120, .ref 121, .int 0, .int 0, .int 0, .int 0, .int 0, .int 0, .int 0, .int 0, .int 0, .int (-1), .int 0, .ref 122, .ref 123, .ref 124, .int 0, .int 0, .ref 125, .ref 126, .ref 127, .ref 128, .int 0, .ref 129, .ref 130, .null, .null, .null, .int 0, .int 0, .int 0, .int 0, .null, .null, .int 0, .int 0, .null, .null, .null] FX10_57 rfl dX10_init_113 c117 (by decide) (Nat.le_of_ble_eq_true rfl) (okA (by decide)) rfl rfl (fun h z113 o113 c117 => ?_)
  have c118 := (o113 118 (by decide)).trans c118
  have c119 := (o113 119 (by decide)).trans c119
  have c120 := (o113 120 (by decide)).trans c120
  have c121 := (o113 121 (by decide)).trans c121
  have c122 := (o113 122 (by decide)).trans c122
  have c123 := (o113 123 (by decide)).trans c123
  have c124 := (o113 124 (by decide)).trans c124
  have c125 := (o113 125 (by decide)).trans c125
  have c126 := (o113 126 (by decide)).trans c126
  have c127 := (o113 127 (by decide)).trans c127
  have c128 := (o113 128 (by decide)).trans c128
  have c129 := (o113 129 (by decide)).trans c129
  have c130 := (o113 130 (by decide)).trans c130
  have hgx := hgx.step (a := 117) (by simp) o113 z113
  have y1z113 := congrArg Prod.fst z113
  have y2z113 := congrArg Prod.snd z113
  refine r_aload_n (pc2 := 117) 0 dX10_init_116 rfl rfl rfl rfl ?_
  refine r_bipush (pc2 := 119) (v := 8) dX10_init_117 (by decide) rfl ?_
  refine r_newiX (pc2 := 121) (N := 8) aC_int dX10_init_119 (by decide) (by decide) (by decide) rfl (by omega) (fun q119 h eq119 zc119 zs119 o119 c_q119 => ?_)
  have c117 := (o119 117 (by omega)).trans c117
  have c118 := (o119 118 (by omega)).trans c118
  have c119 := (o119 119 (by omega)).trans c119
  have c120 := (o119 120 (by omega)).trans c120
  have c121 := (o119 121 (by omega)).trans c121
  have c122 := (o119 122 (by omega)).trans c122
  have c123 := (o119 123 (by omega)).trans c123
  have c124 := (o119 124 (by omega)).trans c124
  have c125 := (o119 125 (by omega)).trans c125
  have c126 := (o119 126 (by omega)).trans c126
  have c127 := (o119 127 (by omega)).trans c127
  have c128 := (o119 128 (by omega)).trans c128
  have c129 := (o119 129 (by omega)).trans c129
  have c130 := (o119 130 (by omega)).trans c130
  have hgx := hgx.fresh (a := q119) (by have := hgx.1; omega) o119 (by omega)
  obtain rfl : q119 = 131 := by omega
  have c131 := c_q119
  refine r_putFX (pc2 := 124) [.int 0, .ref 118, .ref 119, .ref 120, .ref 121, .int 0, .int 0, .int 0, .int 0, .int 0, .int 0, .int 0, .int 0, .int 0, .int (-1), .int 0, .ref 122, .ref 123, .ref 124, .int 0, .int 0, .ref 125, .ref 126, .ref 127, .ref 128, .int 0, .ref 129, .ref 130, .ref 131, .null, .null, .int 0, .int 0, .int 0, .int 0, .null, .null, .int 0, .int 0, .null, .null, .null] FX10_60 rfl dX10_init_121 c117 (by decide) (Nat.le_of_ble_eq_true rfl) (okA (by decide)) rfl rfl (fun h z121 o121 c117 => ?_)
  have c118 := (o121 118 (by decide)).trans c118
  have c119 := (o121 119 (by decide)).trans c119
  have c120 := (o121 120 (by decide)).trans c120
  have c121 := (o121 121 (by decide)).trans c121
  have c122 := (o121 122 (by decide)).trans c122
  have c123 := (o121 123 (by decide)).trans c123
  have c124 := (o121 124 (by decide)).trans c124
  have c125 := (o121 125 (by decide)).trans c125
  have c126 := (o121 126 (by decide)).trans c126
  have c127 := (o121 127 (by decide)).trans c127
  have c128 := (o121 128 (by decide)).trans c128
  have c129 := (o121 129 (by decide)).trans c129
  have c130 := (o121 130 (by decide)).trans c130
  have c131 := (o121 131 (by decide)).trans c131
  have hgx := hgx.step (a := 117) (by simp) o121 z121
  have y1z121 := congrArg Prod.fst z121
  have y2z121 := congrArg Prod.snd z121
  refine r_aload_n (pc2 := 125) 0 dX10_init_124 rfl rfl rfl rfl ?_
  refine r_bipush (pc2 := 127) (v := 8) dX10_init_125 (by decide) rfl ?_
  refine r_newiX (pc2 := 129) (N := 8) aC_int dX10_init_127 (by decide) (by decide) (by decide) rfl (by omega) (fun q127 h eq127 zc127 zs127 o127 c_q127 => ?_)
  have c117 := (o127 117 (by omega)).trans c117
  have c118 := (o127 118 (by omega)).trans c118
  have c119 := (o127 119 (by omega)).trans c119
  have c120 := (o127 120 (by omega)).trans c120
  have c121 := (o127 121 (by omega)).trans c121
  have c122 := (o127 122 (by omega)).trans c122
  have c123 := (o127 123 (by omega)).trans c123
  have c124 := (o127 124 (by omega)).trans c124
  have c125 := (o127 125 (by omega)).trans c125
  have c126 := (o127 126 (by omega)).trans c126
  have c127 := (o127 127 (by omega)).trans c127
  have c128 := (o127 128 (by omega)).trans c128
  have c129 := (o127 129 (by omega)).trans c129
  have c130 := (o127 130 (by omega)).trans c130
  have c131 := (o127 131 (by omega)).trans c131
  have hgx := hgx.fresh (a := q127) (by have := hgx.1; omega) o127 (by omega)
  obtain rfl : q127 = 132 := by omega
  have c132 := c_q127
  refine r_putFX (pc2 := 132) [.int 0, .ref 118, .ref 119, .ref 120, .ref 121, .int 0, .int 0, .int 0, .int 0, .int 0, .int 0, .int 0, .int 0, .int 0, .int (-1), .int 0, .ref 122, .ref 123, .ref 124, .int 0, .int 0, .ref 125, .ref 126, .ref 127, .ref 128, .int 0, .ref 129, .ref 130, .ref 131, .ref 132, .null, .int 0, .int 0, .int 0, .int 0, .null, .null, .int 0, .int 0, .null, .null, .null] FX10_63 rfl dX10_init_129 c117 (by decide) (Nat.le_of_ble_eq_true rfl) (okA (by decide)) rfl rfl (fun h z129 o129 c117 => ?_)
  have c118 := (o129 118 (by decide)).trans c118
  have c119 := (o129 119 (by decide)).trans c119
  have c120 := (o129 120 (by decide)).trans c120
  have c121 := (o129 121 (by decide)).trans c121
  have c122 := (o129 122 (by decide)).trans c122
  have c123 := (o129 123 (by decide)).trans c123
  have c124 := (o129 124 (by decide)).trans c124
  have c125 := (o129 125 (by decide)).trans c125
  have c126 := (o129 126 (by decide)).trans c126
  have c127 := (o129 127 (by decide)).trans c127
  have c128 := (o129 128 (by decide)).trans c128
  have c129 := (o129 129 (by decide)).trans c129
  have c130 := (o129 130 (by decide)).trans c130
  have c131 := (o129 131 (by decide)).trans c131
  have c132 := (o129 132 (by decide)).trans c132
  have hgx := hgx.step (a := 117) (by simp) o129 z129
  have y1z129 := congrArg Prod.fst z129
  have y2z129 := congrArg Prod.snd z129
  refine r_aload_n (pc2 := 133) 0 dX10_init_132 rfl rfl rfl rfl ?_
  refine r_bipush (pc2 := 135) (v := 8) dX10_init_133 (by decide) rfl ?_
  refine r_newiX (pc2 := 137) (N := 8) aC_int dX10_init_135 (by decide) (by decide) (by decide) rfl (by omega) (fun q135 h eq135 zc135 zs135 o135 c_q135 => ?_)
  have c117 := (o135 117 (by omega)).trans c117
  have c118 := (o135 118 (by omega)).trans c118
  have c119 := (o135 119 (by omega)).trans c119
  have c120 := (o135 120 (by omega)).trans c120
  have c121 := (o135 121 (by omega)).trans c121
  have c122 := (o135 122 (by omega)).trans c122
  have c123 := (o135 123 (by omega)).trans c123
  have c124 := (o135 124 (by omega)).trans c124
  have c125 := (o135 125 (by omega)).trans c125
  have c126 := (o135 126 (by omega)).trans c126
  have c127 := (o135 127 (by omega)).trans c127
  have c128 := (o135 128 (by omega)).trans c128
  have c129 := (o135 129 (by omega)).trans c129
  have c130 := (o135 130 (by omega)).trans c130
  have c131 := (o135 131 (by omega)).trans c131
  have c132 := (o135 132 (by omega)).trans c132
  have hgx := hgx.fresh (a := q135) (by have := hgx.1; omega) o135 (by omega)
  obtain rfl : q135 = 133 := by omega
  have c133 := c_q135
  refine r_putFX (pc2 := 140) [.int 0, .ref 118, .ref 119, .ref 120, .ref 121, .int 0, .int 0, .int 0, .int 0, .int 0, .int 0, .int 0, .int 0, .int 0, .int (-1), .int 0, .ref 122, .ref 123, .ref 124, .int 0, .int 0, .ref 125, .ref 126, .ref 127, .ref 128, .int 0, .ref 129, .ref 130, .ref 131, .ref 132, .ref 133, .int 0, .int 0, .int 0, .int 0, .null, .null, .int 0, .int 0, .null, .null, .null] FX10_66 rfl dX10_init_137 c117 (by decide) (Nat.le_of_ble_eq_true rfl) (okA (by decide)) rfl rfl (fun h z137 o137 c117 => ?_)
  have c118 := (o137 118 (by decide)).trans c118
  have c119 := (o137 119 (by decide)).trans c119
  have c120 := (o137 120 (by decide)).trans c120
  have c121 := (o137 121 (by decide)).trans c121
  have c122 := (o137 122 (by decide)).trans c122
  have c123 := (o137 123 (by decide)).trans c123
  have c124 := (o137 124 (by decide)).trans c124
  have c125 := (o137 125 (by decide)).trans c125
  have c126 := (o137 126 (by decide)).trans c126
  have c127 := (o137 127 (by decide)).trans c127
  have c128 := (o137 128 (by decide)).trans c128
  have c129 := (o137 129 (by decide)).trans c129
  have c130 := (o137 130 (by decide)).trans c130
  have c131 := (o137 131 (by decide)).trans c131
  have c132 := (o137 132 (by decide)).trans c132
  have c133 := (o137 133 (by decide)).trans c133
  have hgx := hgx.step (a := 117) (by simp) o137 z137
  have y1z137 := congrArg Prod.fst z137
  have y2z137 := congrArg Prod.snd z137
  refine r_aload_n (pc2 := 141) 0 dX10_init_140 rfl rfl rfl rfl ?_
  refine r_bipush (pc2 := 143) (v := 10) dX10_init_141 (by decide) rfl ?_
  refine r_newiX (pc2 := 145) (N := 10) aC_int dX10_init_143 (by decide) (by decide) (by decide) rfl (by omega) (fun q143 h eq143 zc143 zs143 o143 c_q143 => ?_)
  have c117 := (o143 117 (by omega)).trans c117
  have c118 := (o143 118 (by omega)).trans c118
  have c119 := (o143 119 (by omega)).trans c119
  have c120 := (o143 120 (by omega)).trans c120
  have c121 := (o143 121 (by omega)).trans c121
  have c122 := (o143 122 (by omega)).trans c122
  have c123 := (o143 123 (by omega)).trans c123
  have c124 := (o143 124 (by omega)).trans c124
  have c125 := (o143 125 (by omega)).trans c125
  have c126 := (o143 126 (by omega)).trans c126
  have c127 := (o143 127 (by omega)).trans c127
  have c128 := (o143 128 (by omega)).trans c128
  have c129 := (o143 129 (by omega)).trans c129
  have c130 := (o143 130 (by omega)).trans c130
  have c131 := (o143 131 (by omega)).trans c131
  have c132 := (o143 132 (by omega)).trans c132
  have c133 := (o143 133 (by omega)).trans c133
  have hgx := hgx.fresh (a := q143) (by have := hgx.1; omega) o143 (by omega)
  obtain rfl : q143 = 134 := by omega
  have c134 := c_q143
  refine r_putFX (pc2 := 148) [.int 0, .ref 118, .ref 119, .ref 120, .ref 121, .int 0, .int 0, .int 0, .int 0, .int 0, .int 0, .int 0, .int 0, .int 0, .int (-1), .int 0, .ref 122, .ref 123, .ref 124, .int 0, .int 0, .ref 125, .ref 126, .ref 127, .ref 128, .int 0, .ref 129, .ref 130, .ref 131, .ref 132, .ref 133, .int 0, .int 0, .int 0, .int 0, .ref 134, .null, .int 0, .int 0, .null, .null, .null] FX10_69 rfl dX10_init_145 c117 (by decide) (Nat.le_of_ble_eq_true rfl) (okA (by decide)) rfl rfl (fun h z145 o145 c117 => ?_)
  have c118 := (o145 118 (by decide)).trans c118
  have c119 := (o145 119 (by decide)).trans c119
  have c120 := (o145 120 (by decide)).trans c120
  have c121 := (o145 121 (by decide)).trans c121
  have c122 := (o145 122 (by decide)).trans c122
  have c123 := (o145 123 (by decide)).trans c123
  have c124 := (o145 124 (by decide)).trans c124
  have c125 := (o145 125 (by decide)).trans c125
  have c126 := (o145 126 (by decide)).trans c126
  have c127 := (o145 127 (by decide)).trans c127
  have c128 := (o145 128 (by decide)).trans c128
  have c129 := (o145 129 (by decide)).trans c129
  have c130 := (o145 130 (by decide)).trans c130
  have c131 := (o145 131 (by decide)).trans c131
  have c132 := (o145 132 (by decide)).trans c132
  have c133 := (o145 133 (by decide)).trans c133
  have c134 := (o145 134 (by decide)).trans c134
  have hgx := hgx.step (a := 117) (by simp) o145 z145
  have y1z145 := congrArg Prod.fst z145
  have y2z145 := congrArg Prod.snd z145
  refine r_aload_n (pc2 := 149) 0 dX10_init_148 rfl rfl rfl rfl ?_
  refine r_ldc (pc2 := 151) (v := 81920) qX10_72 dX10_init_149 rfl ?_
  refine r_newbX (pc2 := 153) (N := 81920) aC_byte dX10_init_151 (by decide) (by decide) (by decide) rfl (by omega) (fun q151 h eq151 zc151 zs151 o151 c_q151 => ?_)
  have c117 := (o151 117 (by omega)).trans c117
  have c118 := (o151 118 (by omega)).trans c118
  have c119 := (o151 119 (by omega)).trans c119
  have c120 := (o151 120 (by omega)).trans c120
  have c121 := (o151 121 (by omega)).trans c121
  have c122 := (o151 122 (by omega)).trans c122
  have c123 := (o151 123 (by omega)).trans c123
  have c124 := (o151 124 (by omega)).trans c124
  have c125 := (o151 125 (by omega)).trans c125
  have c126 := (o151 126 (by omega)).trans c126
  have c127 := (o151 127 (by omega)).trans c127
  have c128 := (o151 128 (by omega)).trans c128
  have c129 := (o151 129 (by omega)).trans c129
  have c130 := (o151 130 (by omega)).trans c130
  have c131 := (o151 131 (by omega)).trans c131
  have c132 := (o151 132 (by omega)).trans c132
  have c133 := (o151 133 (by omega)).trans c133
  have c134 := (o151 134 (by omega)).trans c134
  have hgx := hgx.fresh (a := q151) (by have := hgx.1; omega) o151 (by omega)
  obtain rfl : q151 = 135 := by omega
  have c135 := c_q151
  refine r_putFX (pc2 := 156) [.int 0, .ref 118, .ref 119, .ref 120, .ref 121, .int 0, .int 0, .int 0, .int 0, .int 0, .int 0, .int 0, .int 0, .int 0, .int (-1), .int 0, .ref 122, .ref 123, .ref 124, .int 0, .int 0, .ref 125, .ref 126, .ref 127, .ref 128, .int 0, .ref 129, .ref 130, .ref 131, .ref 132, .ref 133, .int 0, .int 0, .int 0, .int 0, .ref 134, .ref 135, .int 0, .int 0, .null, .null, .null] FX10_73 rfl dX10_init_153 c117 (by decide) (Nat.le_of_ble_eq_true rfl) (okA (by decide)) rfl rfl (fun h z153 o153 c117 => ?_)
  have c118 := (o153 118 (by decide)).trans c118
  have c119 := (o153 119 (by decide)).trans c119
  have c120 := (o153 120 (by decide)).trans c120
  have c121 := (o153 121 (by decide)).trans c121
  have c122 := (o153 122 (by decide)).trans c122
  have c123 := (o153 123 (by decide)).trans c123
  have c124 := (o153 124 (by decide)).trans c124
  have c125 := (o153 125 (by decide)).trans c125
  have c126 := (o153 126 (by decide)).trans c126
  have c127 := (o153 127 (by decide)).trans c127
  have c128 := (o153 128 (by decide)).trans c128
  have c129 := (o153 129 (by decide)).trans c129
  have c130 := (o153 130 (by decide)).trans c130
  have c131 := (o153 131 (by decide)).trans c131
  have c132 := (o153 132 (by decide)).trans c132
  have c133 := (o153 133 (by decide)).trans c133
  have c134 := (o153 134 (by decide)).trans c134
  have c135 := (o153 135 (by decide)).trans c135
  have hgx := hgx.step (a := 117) (by simp) o153 z153
  have y1z153 := congrArg Prod.fst z153
  have y2z153 := congrArg Prod.snd z153
  refine r_aload_n (pc2 := 157) 0 dX10_init_156 rfl rfl rfl rfl ?_
  refine r_iconst (pc2 := 158) (v := 4) dX10_init_157 (by decide) rfl ?_
  refine r_newiX (pc2 := 160) (N := 4) aC_int dX10_init_158 (by decide) (by decide) (by decide) rfl (by omega) (fun q158 h eq158 zc158 zs158 o158 c_q158 => ?_)
  have c117 := (o158 117 (by omega)).trans c117
  have c118 := (o158 118 (by omega)).trans c118
  have c119 := (o158 119 (by omega)).trans c119
  have c120 := (o158 120 (by omega)).trans c120
  have c121 := (o158 121 (by omega)).trans c121
  have c122 := (o158 122 (by omega)).trans c122
  have c123 := (o158 123 (by omega)).trans c123
  have c124 := (o158 124 (by omega)).trans c124
  have c125 := (o158 125 (by omega)).trans c125
  have c126 := (o158 126 (by omega)).trans c126
  have c127 := (o158 127 (by omega)).trans c127
  have c128 := (o158 128 (by omega)).trans c128
  have c129 := (o158 129 (by omega)).trans c129
  have c130 := (o158 130 (by omega)).trans c130
  have c131 := (o158 131 (by omega)).trans c131
  have c132 := (o158 132 (by omega)).trans c132
  have c133 := (o158 133 (by omega)).trans c133
  have c134 := (o158 134 (by omega)).trans c134
  have c135 := (o158 135 (by omega)).trans c135
  have hgx := hgx.fresh (a := q158) (by have := hgx.1; omega) o158 (by omega)
  obtain rfl : q158 = 136 := by omega
  have c136 := c_q158
  refine r_dup (pc2 := 161) dX10_init_160 rfl rfl ?_
  refine r_iconst (pc2 := 162) (v := 0) dX10_init_161 (by decide) rfl ?_
  refine r_iconst (pc2 := 163) (v := -1) dX10_init_162 (by decide) rfl ?_
  have hgx9 := hgx
  have hgx : Gx [117, 136] h0 h := hgx.mono (by simp)
  refine r_iastN (pc2 := 164) 0 dX10_init_163 c136 (by decide) rfl (by decide) (by decide) rfl (fun h z163 o163 c136 => ?_)
  have c117 := (o163 117 (by decide)).trans c117
  have c118 := (o163 118 (by decide)).trans c118
  have c119 := (o163 119 (by decide)).trans c119
  have c120 := (o163 120 (by decide)).trans c120
  have c121 := (o163 121 (by decide)).trans c121
  have c122 := (o163 122 (by decide)).trans c122
  have c123 := (o163 123 (by decide)).trans c123
  have c124 := (o163 124 (by decide)).trans c124
  have c125 := (o163 125 (by decide)).trans c125
  have c126 := (o163 126 (by decide)).trans c126
  have c127 := (o163 127 (by decide)).trans c127
  have c128 := (o163 128 (by decide)).trans c128
  have c129 := (o163 129 (by decide)).trans c129
  have c130 := (o163 130 (by decide)).trans c130
  have c131 := (o163 131 (by decide)).trans c131
  have c132 := (o163 132 (by decide)).trans c132
  have c133 := (o163 133 (by decide)).trans c133
  have c134 := (o163 134 (by decide)).trans c134
  have c135 := (o163 135 (by decide)).trans c135
  have hgx := hgx.step (a := 136) (by simp) o163 z163
  have y1z163 := congrArg Prod.fst z163
  have y2z163 := congrArg Prod.snd z163
  refine r_dup (pc2 := 165) dX10_init_164 rfl rfl ?_
  refine r_iconst (pc2 := 166) (v := 1) dX10_init_165 (by decide) rfl ?_
  refine r_iconst (pc2 := 167) (v := -1) dX10_init_166 (by decide) rfl ?_
  refine r_iastN (pc2 := 168) 1 dX10_init_167 c136 (by decide) rfl (by decide) (by decide) rfl (fun h z167 o167 c136 => ?_)
  have c117 := (o167 117 (by decide)).trans c117
  have c118 := (o167 118 (by decide)).trans c118
  have c119 := (o167 119 (by decide)).trans c119
  have c120 := (o167 120 (by decide)).trans c120
  have c121 := (o167 121 (by decide)).trans c121
  have c122 := (o167 122 (by decide)).trans c122
  have c123 := (o167 123 (by decide)).trans c123
  have c124 := (o167 124 (by decide)).trans c124
  have c125 := (o167 125 (by decide)).trans c125
  have c126 := (o167 126 (by decide)).trans c126
  have c127 := (o167 127 (by decide)).trans c127
  have c128 := (o167 128 (by decide)).trans c128
  have c129 := (o167 129 (by decide)).trans c129
  have c130 := (o167 130 (by decide)).trans c130
  have c131 := (o167 131 (by decide)).trans c131
  have c132 := (o167 132 (by decide)).trans c132
  have c133 := (o167 133 (by decide)).trans c133
  have c134 := (o167 134 (by decide)).trans c134
  have c135 := (o167 135 (by decide)).trans c135
  have hgx := hgx.step (a := 136) (by simp) o167 z167
  have y1z167 := congrArg Prod.fst z167
  have y2z167 := congrArg Prod.snd z167
  refine r_dup (pc2 := 169) dX10_init_168 rfl rfl ?_
  refine r_iconst (pc2 := 170) (v := 2) dX10_init_169 (by decide) rfl ?_
  refine r_iconst (pc2 := 171) (v := -1) dX10_init_170 (by decide) rfl ?_
  refine r_iastN (pc2 := 172) 2 dX10_init_171 c136 (by decide) rfl (by decide) (by decide) rfl (fun h z171 o171 c136 => ?_)
  have c117 := (o171 117 (by decide)).trans c117
  have c118 := (o171 118 (by decide)).trans c118
  have c119 := (o171 119 (by decide)).trans c119
  have c120 := (o171 120 (by decide)).trans c120
  have c121 := (o171 121 (by decide)).trans c121
  have c122 := (o171 122 (by decide)).trans c122
  have c123 := (o171 123 (by decide)).trans c123
  have c124 := (o171 124 (by decide)).trans c124
  have c125 := (o171 125 (by decide)).trans c125
  have c126 := (o171 126 (by decide)).trans c126
  have c127 := (o171 127 (by decide)).trans c127
  have c128 := (o171 128 (by decide)).trans c128
  have c129 := (o171 129 (by decide)).trans c129
  have c130 := (o171 130 (by decide)).trans c130
  have c131 := (o171 131 (by decide)).trans c131
  have c132 := (o171 132 (by decide)).trans c132
  have c133 := (o171 133 (by decide)).trans c133
  have c134 := (o171 134 (by decide)).trans c134
  have c135 := (o171 135 (by decide)).trans c135
  have hgx := hgx.step (a := 136) (by simp) o171 z171
  have y1z171 := congrArg Prod.fst z171
  have y2z171 := congrArg Prod.snd z171
  refine r_dup (pc2 := 173) dX10_init_172 rfl rfl ?_
  refine r_iconst (pc2 := 174) (v := 3) dX10_init_173 (by decide) rfl ?_
  refine r_iconst (pc2 := 175) (v := -1) dX10_init_174 (by decide) rfl ?_
  refine r_iastN (pc2 := 176) 3 dX10_init_175 c136 (by decide) rfl (by decide) (by decide) rfl (fun h z175 o175 c136 => ?_)
  have c117 := (o175 117 (by decide)).trans c117
  have c118 := (o175 118 (by decide)).trans c118
  have c119 := (o175 119 (by decide)).trans c119
  have c120 := (o175 120 (by decide)).trans c120
  have c121 := (o175 121 (by decide)).trans c121
  have c122 := (o175 122 (by decide)).trans c122
  have c123 := (o175 123 (by decide)).trans c123
  have c124 := (o175 124 (by decide)).trans c124
  have c125 := (o175 125 (by decide)).trans c125
  have c126 := (o175 126 (by decide)).trans c126
  have c127 := (o175 127 (by decide)).trans c127
  have c128 := (o175 128 (by decide)).trans c128
  have c129 := (o175 129 (by decide)).trans c129
  have c130 := (o175 130 (by decide)).trans c130
  have c131 := (o175 131 (by decide)).trans c131
  have c132 := (o175 132 (by decide)).trans c132
  have c133 := (o175 133 (by decide)).trans c133
  have c134 := (o175 134 (by decide)).trans c134
  have c135 := (o175 135 (by decide)).trans c135
  have hgx := hgx.step (a := 136) (by simp) o175 z175
  have y1z175 := congrArg Prod.fst z175
  have y2z175 := congrArg Prod.snd z175
  have hgx : Gx [117] h0 h := ⟨hgx.1, fun y hy hn => hgx.2 y hy (by simp at hn ⊢; omega)⟩
  refine r_putFX (pc2 := 179) [.int 0, .ref 118, .ref 119, .ref 120, .ref 121, .int 0, .int 0, .int 0, .int 0, .int 0, .int 0, .int 0, .int 0, .int 0, .int (-1), .int 0, .ref 122, .ref 123, .ref 124, .int 0, .int 0, .ref 125, .ref 126, .ref 127, .ref 128, .int 0, .ref 129, .ref 130, .ref 131, .ref 132, .ref 133, .int 0, .int 0, .int 0, .int 0, .ref 134, .ref 135, .int 0, .int 0, .ref 136, .null, .null] FX10_77 rfl dX10_init_176 c117 (by decide) (Nat.le_of_ble_eq_true rfl) (okA (by decide)) rfl rfl (fun h z176 o176 c117 => ?_)
  have c118 := (o176 118 (by decide)).trans c118
  have c119 := (o176 119 (by decide)).trans c119
  have c120 := (o176 120 (by decide)).trans c120
  have c121 := (o176 121 (by decide)).trans c121
  have c122 := (o176 122 (by decide)).trans c122
  have c123 := (o176 123 (by decide)).trans c123
  have c124 := (o176 124 (by decide)).trans c124
  have c125 := (o176 125 (by decide)).trans c125
  have c126 := (o176 126 (by decide)).trans c126
  have c127 := (o176 127 (by decide)).trans c127
  have c128 := (o176 128 (by decide)).trans c128
  have c129 := (o176 129 (by decide)).trans c129
  have c130 := (o176 130 (by decide)).trans c130
  have c131 := (o176 131 (by decide)).trans c131
  have c132 := (o176 132 (by decide)).trans c132
  have c133 := (o176 133 (by decide)).trans c133
  have c134 := (o176 134 (by decide)).trans c134
  have c135 := (o176 135 (by decide)).trans c135
  have c136 := (o176 136 (by decide)).trans c136
  have hgx := hgx.step (a := 117) (by simp) o176 z176
  have y1z176 := congrArg Prod.fst z176
  have y2z176 := congrArg Prod.snd z176
  refine r_aload_n (pc2 := 180) 0 dX10_init_179 rfl rfl rfl rfl ?_
  refine r_iconst (pc2 := 181) (v := 4) dX10_init_180 (by decide) rfl ?_
  refine r_newiX (pc2 := 183) (N := 4) aC_int dX10_init_181 (by decide) (by decide) (by decide) rfl (by omega) (fun q181 h eq181 zc181 zs181 o181 c_q181 => ?_)
  have c117 := (o181 117 (by omega)).trans c117
  have c118 := (o181 118 (by omega)).trans c118
  have c119 := (o181 119 (by omega)).trans c119
  have c120 := (o181 120 (by omega)).trans c120
  have c121 := (o181 121 (by omega)).trans c121
  have c122 := (o181 122 (by omega)).trans c122
  have c123 := (o181 123 (by omega)).trans c123
  have c124 := (o181 124 (by omega)).trans c124
  have c125 := (o181 125 (by omega)).trans c125
  have c126 := (o181 126 (by omega)).trans c126
  have c127 := (o181 127 (by omega)).trans c127
  have c128 := (o181 128 (by omega)).trans c128
  have c129 := (o181 129 (by omega)).trans c129
  have c130 := (o181 130 (by omega)).trans c130
  have c131 := (o181 131 (by omega)).trans c131
  have c132 := (o181 132 (by omega)).trans c132
  have c133 := (o181 133 (by omega)).trans c133
  have c134 := (o181 134 (by omega)).trans c134
  have c135 := (o181 135 (by omega)).trans c135
  have c136 := (o181 136 (by omega)).trans c136
  have hgx := hgx.fresh (a := q181) (by have := hgx.1; omega) o181 (by omega)
  obtain rfl : q181 = 137 := by omega
  have c137 := c_q181
  refine r_putFX (pc2 := 186) [.int 0, .ref 118, .ref 119, .ref 120, .ref 121, .int 0, .int 0, .int 0, .int 0, .int 0, .int 0, .int 0, .int 0, .int 0, .int (-1), .int 0, .ref 122, .ref 123, .ref 124, .int 0, .int 0, .ref 125, .ref 126, .ref 127, .ref 128, .int 0, .ref 129, .ref 130, .ref 131, .ref 132, .ref 133, .int 0, .int 0, .int 0, .int 0, .ref 134, .ref 135, .int 0, .int 0, .ref 136, .ref 137, .null] FX10_80 rfl dX10_init_183 c117 (by decide) (Nat.le_of_ble_eq_true rfl) (okA (by decide)) rfl rfl (fun h z183 o183 c117 => ?_)
  have c118 := (o183 118 (by decide)).trans c118
  have c119 := (o183 119 (by decide)).trans c119
  have c120 := (o183 120 (by decide)).trans c120
  have c121 := (o183 121 (by decide)).trans c121
  have c122 := (o183 122 (by decide)).trans c122
  have c123 := (o183 123 (by decide)).trans c123
  have c124 := (o183 124 (by decide)).trans c124
  have c125 := (o183 125 (by decide)).trans c125
  have c126 := (o183 126 (by decide)).trans c126
  have c127 := (o183 127 (by decide)).trans c127
  have c128 := (o183 128 (by decide)).trans c128
  have c129 := (o183 129 (by decide)).trans c129
  have c130 := (o183 130 (by decide)).trans c130
  have c131 := (o183 131 (by decide)).trans c131
  have c132 := (o183 132 (by decide)).trans c132
  have c133 := (o183 133 (by decide)).trans c133
  have c134 := (o183 134 (by decide)).trans c134
  have c135 := (o183 135 (by decide)).trans c135
  have c136 := (o183 136 (by decide)).trans c136
  have c137 := (o183 137 (by decide)).trans c137
  have hgx := hgx.step (a := 117) (by simp) o183 z183
  have y1z183 := congrArg Prod.fst z183
  have y2z183 := congrArg Prod.snd z183
  refine r_aload_n (pc2 := 187) 0 dX10_init_186 rfl rfl rfl rfl ?_
  refine r_sipush (pc2 := 190) (v := 160) dX10_init_187 (by decide) rfl ?_
  refine r_newlX (pc2 := 192) (N := 160) aC_long dX10_init_190 (by decide) (by decide) (by decide) rfl (by omega) (fun q190 h eq190 zc190 zs190 o190 c_q190 => ?_)
  have c117 := (o190 117 (by omega)).trans c117
  have c118 := (o190 118 (by omega)).trans c118
  have c119 := (o190 119 (by omega)).trans c119
  have c120 := (o190 120 (by omega)).trans c120
  have c121 := (o190 121 (by omega)).trans c121
  have c122 := (o190 122 (by omega)).trans c122
  have c123 := (o190 123 (by omega)).trans c123
  have c124 := (o190 124 (by omega)).trans c124
  have c125 := (o190 125 (by omega)).trans c125
  have c126 := (o190 126 (by omega)).trans c126
  have c127 := (o190 127 (by omega)).trans c127
  have c128 := (o190 128 (by omega)).trans c128
  have c129 := (o190 129 (by omega)).trans c129
  have c130 := (o190 130 (by omega)).trans c130
  have c131 := (o190 131 (by omega)).trans c131
  have c132 := (o190 132 (by omega)).trans c132
  have c133 := (o190 133 (by omega)).trans c133
  have c134 := (o190 134 (by omega)).trans c134
  have c135 := (o190 135 (by omega)).trans c135
  have c136 := (o190 136 (by omega)).trans c136
  have c137 := (o190 137 (by omega)).trans c137
  have hgx := hgx.fresh (a := q190) (by have := hgx.1; omega) o190 (by omega)
  obtain rfl : q190 = 138 := by omega
  have c138 := c_q190
  refine r_putFX (pc2 := 195) [.int 0, .ref 118, .ref 119, .ref 120, .ref 121, .int 0, .int 0, .int 0, .int 0, .int 0, .int 0, .int 0, .int 0, .int 0, .int (-1), .int 0, .ref 122, .ref 123, .ref 124, .int 0, .int 0, .ref 125, .ref 126, .ref 127, .ref 128, .int 0, .ref 129, .ref 130, .ref 131, .ref 132, .ref 133, .int 0, .int 0, .int 0, .int 0, .ref 134, .ref 135, .int 0, .int 0, .ref 136, .ref 137, .ref 138] FX10_83 rfl dX10_init_192 c117 (by decide) (Nat.le_of_ble_eq_true rfl) (okA (by decide)) rfl rfl (fun h z192 o192 c117 => ?_)
  have c118 := (o192 118 (by decide)).trans c118
  have c119 := (o192 119 (by decide)).trans c119
  have c120 := (o192 120 (by decide)).trans c120
  have c121 := (o192 121 (by decide)).trans c121
  have c122 := (o192 122 (by decide)).trans c122
  have c123 := (o192 123 (by decide)).trans c123
  have c124 := (o192 124 (by decide)).trans c124
  have c125 := (o192 125 (by decide)).trans c125
  have c126 := (o192 126 (by decide)).trans c126
  have c127 := (o192 127 (by decide)).trans c127
  have c128 := (o192 128 (by decide)).trans c128
  have c129 := (o192 129 (by decide)).trans c129
  have c130 := (o192 130 (by decide)).trans c130
  have c131 := (o192 131 (by decide)).trans c131
  have c132 := (o192 132 (by decide)).trans c132
  have c133 := (o192 133 (by decide)).trans c133
  have c134 := (o192 134 (by decide)).trans c134
  have c135 := (o192 135 (by decide)).trans c135
  have c136 := (o192 136 (by decide)).trans c136
  have c137 := (o192 137 (by decide)).trans c137
  have c138 := (o192 138 (by decide)).trans c138
  have hgx := hgx.step (a := 117) (by simp) o192 z192
  have y1z192 := congrArg Prod.fst z192
  have y2z192 := congrArg Prod.snd z192
  refine r_aload_n (pc2 := 196) 0 dX10_init_195 rfl rfl rfl rfl ?_
  refine r_getf (pc2 := 199) (v := .ref 118) fX10_13 dX10_init_196 c117 (by decide) rfl rfl ?_
  refine r_callS0 (pc2 := 202) (As := [.ref 118]) (st := []) kX10_86 dX10_init_199 rfl rfl (Nat.le_of_ble_eq_true rfl) (by omega) (c_plain118 c118) rfl (fun h hq199 => ?_)
  obtain ⟨hxp, c118⟩ := hq199
  have c117 := hxp.get (by decide) c117
  have c119 := hxp.get (by decide) c119
  have c120 := hxp.get (by decide) c120
  have c121 := hxp.get (by decide) c121
  have c122 := hxp.get (by decide) c122
  have c123 := hxp.get (by decide) c123
  have c124 := hxp.get (by decide) c124
  have c125 := hxp.get (by decide) c125
  have c126 := hxp.get (by decide) c126
  have c127 := hxp.get (by decide) c127
  have c128 := hxp.get (by decide) c128
  have c129 := hxp.get (by decide) c129
  have c130 := hxp.get (by decide) c130
  have c131 := hxp.get (by decide) c131
  have c132 := hxp.get (by decide) c132
  have c133 := hxp.get (by decide) c133
  have c134 := hxp.get (by decide) c134
  have c135 := hxp.get (by decide) c135
  have c136 := hxp.get (by decide) c136
  have c137 := hxp.get (by decide) c137
  have c138 := hxp.get (by decide) c138
  have hgx := hgx.tr hxp.gx (by simp <;> omega)
  exact r_vret rfl dX10_init_202 ⟨rfl, by rw [hxp.1]; omega, by rw [hxp.1]; omega, hgx, c117, by rw [plainX_0] at c118; exact c118, c119, c120, ⟨_, c121⟩, ⟨_, c122⟩, ⟨_, c123⟩, ⟨_, c124⟩, ⟨_, c125⟩, ⟨_, c126⟩, ⟨_, c127⟩, ⟨_, c128⟩, ⟨_, c129⟩, ⟨_, c130⟩, ⟨_, c131⟩, ⟨_, c132⟩, ⟨_, c133⟩, ⟨_, c134⟩, ⟨_, c135⟩, by rw [rs_0] at c136; exact c136, c137, c138⟩
