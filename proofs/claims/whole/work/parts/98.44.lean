/-! a new street, a new stand -/
/-- a street's fields: k = lines, cells, house, goers, people, odds and noise of the cart -/
def uwL (sg : Int32) (k : Nat → Int32) (q : Nat) (nl sl : Value) : List Value := [.int sg, .int (k 0), .int (k 1), .int (k 2), .int (k 3), .ref (q + 1), .ref (q + 2), .int (k 4), .int (k 5), .int (k 6), .ref (q + 3), nl, sl]
set_option maxRecDepth 20000 in
set_option maxHeartbeats 1000000 in
theorem c_stand0 {E : EnvT} {d : Nat} {h0 : Hp} {p : Nat} {fs : List Value} (cp : h0.1 p = some (.inr (5, fs))) (hp : 64 ≤ p) (hd : 1 ≤ d) : Cn E mX5_init d [.ref p] h0 (fun r h2 => r = none ∧ h2 = h0) := by
  refine Cn.go (ls := [.ref p]) (by decide +kernel) rfl (Nat.le_of_ble_eq_true rfl) ?_
  refine r_aload_n (pc2 := 1) 0 dX5_init_0 rfl rfl rfl rfl ?_
  refine r_objInit (pc2 := 4) oX5_1 dX5_init_1 hp (Nat.le_of_ble_eq_true rfl) (by omega) rfl ?_
  exact r_vret rfl dX5_init_4 ⟨rfl, rfl⟩
set_option maxRecDepth 20000 in
set_option maxHeartbeats 1000000 in
theorem c_street0 {E : EnvT} {d : Nat} {h0 : Hp} {q : Nat} {sg : Int32} (cq : h0.1 q = some (.inr (6, [.int 0, .int 0, .int 0, .int 0, .int 0, .null, .null, .int 0, .int 0, .int 0, .null, .null, .null]))) (hq : 64 ≤ q) (hn : h0.2.1 = q + 1) (hd : 2 ≤ d) : Cn E mX6_init d [.ref q, .int sg] h0 (fun r h2 => r = none ∧ h2.2.1 = q + 4 ∧ h2.2.2 = h0.2.2 + 14 ∧ Gx [q] h0 h2 ∧ h2.1 q = some (.inr (6, uwL sg (fun j => if j = 1 then 1 else 0) q .null .null)) ∧ h2.1 (q + 1) = some (aI 4 (fun _ => 0)) ∧ h2.1 (q + 2) = some (aI 4 (fun _ => 0)) ∧ h2.1 (q + 3) = some (.inr (5, [.int 0, .int 9, .long 0, .long 0, .int 0, .int 0]))) := by
  have hgx : Gx [q] h0 h0 := Gx.rf
  refine Cn.go (ls := [.ref q, .int sg]) (by decide +kernel) rfl (Nat.le_of_ble_eq_true rfl) ?_
  refine r_aload_n (pc2 := 1) 0 dX6_init_0 rfl rfl rfl rfl ?_
  refine r_objInit (pc2 := 4) oX6_3 dX6_init_1 (by omega) (Nat.le_of_ble_eq_true rfl) (by omega) rfl ?_
  refine r_aload_n (pc2 := 5) 0 dX6_init_4 rfl rfl rfl rfl ?_
  refine r_iconst (pc2 := 6) (v := 1) dX6_init_5 (by decide) rfl ?_
  refine r_putfX (pc2 := 9) [.int 0, .int 0, .int 1, .int 0, .int 0, .null, .null, .int 0, .int 0, .int 0, .null, .null, .null] fX6_9 dX6_init_6 cq (by omega) (Nat.le_of_ble_eq_true rfl) rfl rfl rfl (fun h z6 o6 cq => ?_)
  have hgx := hgx.step (a := q) (by simp) o6 z6
  have y1z6 := congrArg Prod.fst z6
  have y2z6 := congrArg Prod.snd z6
  refine r_aload_n (pc2 := 10) 0 dX6_init_9 rfl rfl rfl rfl ?_
  refine r_iconst (pc2 := 11) (v := 4) dX6_init_10 (by decide) rfl ?_
  refine r_newiX (pc2 := 13) (N := 4) aC_int dX6_init_11 (by decide) (by decide) (by decide) rfl (by omega) (fun n1 h en1 zc11 zs11 o11 c_n1 => ?_)
  have cq := (o11 q (by omega)).trans cq
  have hgx := hgx.fresh (a := n1) (by have := hgx.1; omega) o11 (by omega)
  refine r_putFX (pc2 := 16) [.int 0, .int 0, .int 1, .int 0, .int 0, .ref n1, .null, .int 0, .int 0, .int 0, .null, .null, .null] FX6_15 rfl dX6_init_13 cq (by omega) (Nat.le_of_ble_eq_true rfl) (okA (by omega)) rfl rfl (fun h z13 o13 cq => ?_)
  have c_n1 := (o13 n1 (by omega)).trans c_n1
  have hgx := hgx.step (a := q) (by simp) o13 z13
  have y1z13 := congrArg Prod.fst z13
  have y2z13 := congrArg Prod.snd z13
  refine r_aload_n (pc2 := 17) 0 dX6_init_16 rfl rfl rfl rfl ?_
  refine r_iconst (pc2 := 18) (v := 4) dX6_init_17 (by decide) rfl ?_
  refine r_newiX (pc2 := 20) (N := 4) aC_int dX6_init_18 (by decide) (by decide) (by decide) rfl (by omega) (fun n2 h en2 zc18 zs18 o18 c_n2 => ?_)
  have cq := (o18 q (by omega)).trans cq
  have c_n1 := (o18 n1 (by omega)).trans c_n1
  have hgx := hgx.fresh (a := n2) (by have := hgx.1; omega) o18 (by omega)
  refine r_putFX (pc2 := 23) [.int 0, .int 0, .int 1, .int 0, .int 0, .ref n1, .ref n2, .int 0, .int 0, .int 0, .null, .null, .null] FX6_19 rfl dX6_init_20 cq (by omega) (Nat.le_of_ble_eq_true rfl) (okA (by omega)) rfl rfl (fun h z20 o20 cq => ?_)
  have c_n1 := (o20 n1 (by omega)).trans c_n1
  have c_n2 := (o20 n2 (by omega)).trans c_n2
  have hgx := hgx.step (a := q) (by simp) o20 z20
  have y1z20 := congrArg Prod.fst z20
  have y2z20 := congrArg Prod.snd z20
  refine r_aload_n (pc2 := 24) 0 dX6_init_23 rfl rfl rfl rfl ?_
  refine r_newX (pc2 := 27) nX6_22 dX6_init_24 rfl (by omega) (fun n3 h en3 zc24 zs24 o24 c_n3 => ?_)
  have cq := (o24 q (by omega)).trans cq
  have c_n1 := (o24 n1 (by omega)).trans c_n1
  have c_n2 := (o24 n2 (by omega)).trans c_n2
  have hgx := hgx.fresh (a := n3) (by have := hgx.1; omega) o24 (by omega)
  refine r_dup (pc2 := 28) dX6_init_27 rfl rfl ?_
  refine r_callI0 (pc2 := 31) (As := []) (st := [.ref n3, .ref q]) kX6_24 dX6_init_28 (by omega) rfl rfl (Nat.le_of_ble_eq_true rfl) (by omega) (c_stand0 c_n3 (by omega) (by omega)) rfl (fun h2 hq28 => ?_)
  obtain rfl := hq28.symm
  refine r_putFX (pc2 := 34) [.int 0, .int 0, .int 1, .int 0, .int 0, .ref n1, .ref n2, .int 0, .int 0, .int 0, .ref n3, .null, .null] FX6_25 rfl dX6_init_31 cq (by omega) (Nat.le_of_ble_eq_true rfl) (okO (by omega)) rfl rfl (fun h z31 o31 cq => ?_)
  have c_n1 := (o31 n1 (by omega)).trans c_n1
  have c_n2 := (o31 n2 (by omega)).trans c_n2
  have c_n3 := (o31 n3 (by omega)).trans c_n3
  have hgx := hgx.step (a := q) (by simp) o31 z31
  have y1z31 := congrArg Prod.fst z31
  have y2z31 := congrArg Prod.snd z31
  refine r_aload_n (pc2 := 35) 0 dX6_init_34 rfl rfl rfl rfl ?_
  refine r_iload_n (pc2 := 36) 1 dX6_init_35 rfl rfl rfl ?_
  refine r_putFX (pc2 := 39) [.int sg, .int 0, .int 1, .int 0, .int 0, .ref n1, .ref n2, .int 0, .int 0, .int 0, .ref n3, .null, .null] FX6_29 rfl dX6_init_36 cq (by omega) (Nat.le_of_ble_eq_true rfl) rfl rfl rfl (fun h z36 o36 cq => ?_)
  have c_n1 := (o36 n1 (by omega)).trans c_n1
  have c_n2 := (o36 n2 (by omega)).trans c_n2
  have c_n3 := (o36 n3 (by omega)).trans c_n3
  have hgx := hgx.step (a := q) (by simp) o36 z36
  have y1z36 := congrArg Prod.fst z36
  have y2z36 := congrArg Prod.snd z36
  refine r_aload_n (pc2 := 40) 0 dX6_init_39 rfl rfl rfl rfl ?_
  refine r_getf (pc2 := 43) (v := .ref n3) fX6_25 dX6_init_40 cq (by omega) rfl rfl ?_
  have hgx9 := hgx
  have hgx : Gx [q, n3] h0 h := hgx.mono (by simp)
  refine r_bipush (pc2 := 45) (v := 9) dX6_init_43 (by decide) rfl ?_
  refine r_putfX (pc2 := 48) [.int 0, .int 9, .long 0, .long 0, .int 0, .int 0] fX6_32 dX6_init_45 c_n3 (by omega) (Nat.le_of_ble_eq_true rfl) rfl rfl rfl (fun h z45 o45 c_n3 => ?_)
  have cq := (o45 q (by omega)).trans cq
  have c_n1 := (o45 n1 (by omega)).trans c_n1
  have c_n2 := (o45 n2 (by omega)).trans c_n2
  have hgx := hgx.step (a := n3) (by simp) o45 z45
  have y1z45 := congrArg Prod.fst z45
  have y2z45 := congrArg Prod.snd z45
  obtain rfl : n1 = q + 1 := by omega
  obtain rfl : n2 = q + 2 := by omega
  obtain rfl : n3 = q + 3 := by omega
  exact r_vret rfl dX6_init_48 ⟨rfl, by omega, by omega, ⟨by omega, fun y hy hn => (o45 y (by omega)).trans (hgx9.2 y hy hn)⟩, cq, c_n1, c_n2, c_n3⟩
