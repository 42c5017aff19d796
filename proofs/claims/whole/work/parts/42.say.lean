/-! ways, first, surely, hint, odds, clause -/
def waysF (a : Nat → Nat) : Int32 := nI (WL a).length
def nself (x : Int32) (p : Int32) : Int32 := if x = p then -1 else x
def firstF (a : Nat → Nat) (x : Int32) : Int32 := if inP (a 4) x then (if WL a = [] then -1 else nself (headL (WL a) x.toNatClampNeg) x) else -2
def surelyF (a : Nat → Nat) (x : Int32) : Int32 := if inP (a 4) x then (if WL a = [] then -1 else nself (sureL (WL a) x.toNatClampNeg) x) else -2
theorem len0 {α : Type} {L : List α} (h : L.length = 0) : L = [] := List.length_eq_zero_iff.mp h
abbrev hintC (a : Nat → Nat) (x y z : Int32) : Prop := ((0 ≤ x.toInt64 ∧ x.toInt64 ≤ (nI (a 4) - 1).toInt64) ∧ (0 ≤ y.toInt64 ∧ y.toInt64 ≤ (nI (a 4) - 1).toInt64) ∧ x.toInt64 ≠ y.toInt64) ∧ inR 0 1 z
def hintR (a : Nat → Nat) (x y z : Int32) : Nat → Nat := if hintC a x y z then notesN (hintN a x.toNatClampNeg y.toNatClampNeg z.toNatClampNeg) (keepV a) else a
def hintF (a : Nat → Nat) (x y z : Int32) : Int32 := if hintC a x y z then waysF (hintR a x y z) else -11
set_option maxRecDepth 20000 in
set_option maxHeartbeats 1000000 in
theorem ref_ways {E : EnvT} {d : Nat} {h0 : Hp} {v : Nat → Int32} {a : Nat → Nat} {hi : Nat → Int32} {tp : Nat → Nat} {rs rm : Nat → Int32} {nu : Nat → Int64} (hR : RS h0 v a hi tp rs rm nu) (hA : AIN a) (hd : 20 ≤ d) : Cn E mX10_ways d [.ref 117] h0 (RP (.int (waysF a)) h0 v a hi tp rs rm nu) := by
  obtain ⟨k117, k118, k119, k120, ⟨f121, k121⟩, ⟨f122, k122⟩, ⟨f123, k123⟩, ⟨f124, k124⟩, ⟨f125, k125⟩, ⟨f126, k126⟩, ⟨f127, k127⟩, ⟨f128, k128⟩, ⟨f129, k129⟩, ⟨f130, k130⟩, ⟨f131, k131⟩, ⟨f132, k132⟩, ⟨f133, k133⟩, ⟨f134, k134⟩, ⟨f135, k135⟩, k136, k137, k138⟩ := hR
  have c117 := k117
  have c118 := k118
  have c131 := k131
  have c132 := k132
  have c133 := k133
  have hx : Ex [117, 118, 131, 132, 133] h0 h0 := Ex.rf
  refine Cn.go (ls := [.ref 117]) (by decide +kernel) rfl (Nat.le_of_ble_eq_true rfl) ?_
  refine r_aload_n (pc2 := 1) 0 dX10_ways_0 rfl rfl rfl rfl ?_
  refine r_iconst (pc2 := 2) (v := 0) dX10_ways_1 (by decide) rfl ?_
  refine r_putfX (pc2 := 5) (moL (upd v 0 0)) fX10_1 dX10_ways_2 c117 (by decide) (Nat.le_of_ble_eq_true rfl) rfl rfl rfl (fun h z2 o2 c117 => ?_)
  have c118 := (o2 118 (by decide)).trans c118
  have c131 := (o2 131 (by decide)).trans c131
  have c132 := (o2 132 (by decide)).trans c132
  have c133 := (o2 133 (by decide)).trans c133
  have hx := hx.step (a := 117) (by decide) z2 o2
  refine r_aload_n (pc2 := 6) 0 dX10_ways_5 rfl rfl rfl rfl ?_
  refine r_iconst (pc2 := 7) (v := -1) dX10_ways_6 (by decide) rfl ?_
  refine r_iconst (pc2 := 8) (v := -1) dX10_ways_7 (by decide) rfl ?_
  refine r_callV1 (pc2 := 11) (As := [.int (-1), .int (-1)]) (st := []) kX10_294 rfl rfl dX10_ways_8 c117 (by decide) rfl rfl (Nat.le_of_ble_eq_true rfl) (by omega) (c_laysWays c117 c118 c131 c132 c133 (Or.inl rfl) hA.P hA.bd hA.ub (by omega)) rfl (fun h hq8 => ?_)
  obtain ⟨hxl, c117, ⟨f1, c131⟩, ⟨f2, c132, hf2⟩, f3, c133, hf3⟩ := hq8
  have c118 := hxl.get (by decide) c118
  have hx := hx.trans hxl (by decide)
  exact r_iret rfl dX10_ways_11 ⟨rfl, (wvv (upd v 0 0) a (-1) (-1)), ⟨rfl, rfl, rfl⟩, ⟨c117, c118, hx.get (by decide) k119, hx.get (by decide) k120, ⟨_, hx.get (by decide) k121⟩, ⟨_, hx.get (by decide) k122⟩, ⟨_, hx.get (by decide) k123⟩, ⟨_, hx.get (by decide) k124⟩, ⟨_, hx.get (by decide) k125⟩, ⟨_, hx.get (by decide) k126⟩, ⟨_, hx.get (by decide) k127⟩, ⟨_, hx.get (by decide) k128⟩, ⟨_, hx.get (by decide) k129⟩, ⟨_, hx.get (by decide) k130⟩, ⟨_, c131⟩, ⟨_, c132⟩, ⟨_, c133⟩, ⟨_, hx.get (by decide) k134⟩, ⟨_, hx.get (by decide) k135⟩, hx.get (by decide) k136, hx.get (by decide) k137, hx.get (by decide) k138⟩, hx.mono (by decide)⟩
set_option maxRecDepth 20000 in
set_option maxHeartbeats 1000000 in
theorem ref_first {E : EnvT} {d : Nat} {h0 : Hp} {v : Nat → Int32} {a : Nat → Nat} {hi : Nat → Int32} {tp : Nat → Nat} {rs rm : Nat → Int32} {nu : Nat → Int64} {x : Int32} (hR : RS h0 v a hi tp rs rm nu) (hA : AIN a) (hd : 20 ≤ d) : Cn E mX10_first d [.ref 117, .int x] h0 (RP (.int (firstF a x)) h0 v a hi tp rs rm nu) := by
  obtain ⟨k117, k118, k119, k120, ⟨f121, k121⟩, ⟨f122, k122⟩, ⟨f123, k123⟩, ⟨f124, k124⟩, ⟨f125, k125⟩, ⟨f126, k126⟩, ⟨f127, k127⟩, ⟨f128, k128⟩, ⟨f129, k129⟩, ⟨f130, k130⟩, ⟨f131, k131⟩, ⟨f132, k132⟩, ⟨f133, k133⟩, ⟨f134, k134⟩, ⟨f135, k135⟩, k136, k137, k138⟩ := hR
  have c117 := k117
  have c118 := k118
  have c131 := k131
  have c132 := k132
  have c133 := k133
  have hx : Ex [117, 118, 131, 132, 133] h0 h0 := Ex.rf
  have hP := hA.P
  have hln := WL_len hP
  by_cases hv : inP (a 4) x
  · obtain ⟨k, hk, rfl⟩ := inP_of (by omega) hv
    by_cases hL : WL a = []
    · skip
      refine Cn.go (ls := [.ref 117, .int (nI k)]) (by decide +kernel) rfl (Nat.le_of_ble_eq_true rfl) ?_
      refine r_aload_n (pc2 := 1) 0 dX10_first_0 rfl rfl rfl rfl ?_
      refine r_iconst (pc2 := 2) (v := 0) dX10_first_1 (by decide) rfl ?_
      refine r_putfX (pc2 := 5) (moL (upd v 0 0)) fX10_1 dX10_first_2 c117 (by decide) (Nat.le_of_ble_eq_true rfl) rfl rfl rfl (fun h z2 o2 c117 => ?_)
      have c118 := (o2 118 (by decide)).trans c118
      have c131 := (o2 131 (by decide)).trans c131
      have c132 := (o2 132 (by decide)).trans c132
      have c133 := (o2 133 (by decide)).trans c133
      have hx := hx.step (a := 117) (by decide) z2 o2
      refine r_aload_n (pc2 := 6) 0 dX10_first_5 rfl rfl rfl rfl ?_
      refine r_iload_n (pc2 := 7) 1 dX10_first_6 rfl rfl rfl ?_
      refine r_callV1 (pc2 := 10) (As := [.int (nI k)]) (st := []) kX10_396 rfl rfl dX10_first_7 c117 (by decide) rfl rfl (Nat.le_of_ble_eq_true rfl) (by omega) (c_isPerson c117 c118 (by omega)) rfl (fun h2 hq7 => ?_)
      subst hq7
      refine r_if_ne (tgt := 16) (pc2 := 13) dX10_first_10 (by decide) rfl (fun b10 => ?_) (fun b10 => ?_)
      · skip
        refine r_aload_n (pc2 := 17) 0 dX10_first_16 rfl rfl rfl rfl ?_
        refine r_iconst (pc2 := 18) (v := -1) dX10_first_17 (by decide) rfl ?_
        refine r_iconst (pc2 := 19) (v := -1) dX10_first_18 (by decide) rfl ?_
        refine r_callV1 (pc2 := 22) (As := [.int (-1), .int (-1)]) (st := []) kX10_294 rfl rfl dX10_first_19 c117 (by decide) rfl rfl (Nat.le_of_ble_eq_true rfl) (by omega) (c_laysWays c117 c118 c131 c132 c133 (Or.inl rfl) hA.P hA.bd hA.ub (by omega)) rfl (fun h hq19 => ?_)
        obtain ⟨hxl, c117, ⟨f1, c131⟩, ⟨f2, c132, hf2⟩, f3, c133, hf3⟩ := hq19
        have c118 := hxl.get (by decide) c118
        have hx := hx.trans hxl (by decide)
        refine r_if_ne (tgt := 29) (pc2 := 25) dX10_first_22 (by decide) rfl (fun b22 => ?_) (fun b22 => ?_)
        · exact absurd (by rw [hL]; rfl) b22
        · skip
          refine r_iconst (pc2 := 26) (v := -1) dX10_first_25 (by decide) rfl ?_
          refine r_goto (pc2 := 39) dX10_first_26 (by decide) ?_
          exact r_iret rfl dX10_first_39 ⟨by rw [firstF, if_pos hv, if_pos hL], (wvv (upd v 0 0) a (-1) (-1)), ⟨rfl, rfl, rfl⟩, ⟨c117, c118, hx.get (by decide) k119, hx.get (by decide) k120, ⟨_, hx.get (by decide) k121⟩, ⟨_, hx.get (by decide) k122⟩, ⟨_, hx.get (by decide) k123⟩, ⟨_, hx.get (by decide) k124⟩, ⟨_, hx.get (by decide) k125⟩, ⟨_, hx.get (by decide) k126⟩, ⟨_, hx.get (by decide) k127⟩, ⟨_, hx.get (by decide) k128⟩, ⟨_, hx.get (by decide) k129⟩, ⟨_, hx.get (by decide) k130⟩, ⟨_, c131⟩, ⟨_, c132⟩, ⟨_, c133⟩, ⟨_, hx.get (by decide) k134⟩, ⟨_, hx.get (by decide) k135⟩, hx.get (by decide) k136, hx.get (by decide) k137, hx.get (by decide) k138⟩, hx.mono (by decide)⟩
      · exact absurd b10 (if1 hv)
    · skip
      refine Cn.go (ls := [.ref 117, .int (nI k)]) (by decide +kernel) rfl (Nat.le_of_ble_eq_true rfl) ?_
      refine r_aload_n (pc2 := 1) 0 dX10_first_0 rfl rfl rfl rfl ?_
      refine r_iconst (pc2 := 2) (v := 0) dX10_first_1 (by decide) rfl ?_
      refine r_putfX (pc2 := 5) (moL (upd v 0 0)) fX10_1 dX10_first_2 c117 (by decide) (Nat.le_of_ble_eq_true rfl) rfl rfl rfl (fun h z2 o2 c117 => ?_)
      have c118 := (o2 118 (by decide)).trans c118
      have c131 := (o2 131 (by decide)).trans c131
      have c132 := (o2 132 (by decide)).trans c132
      have c133 := (o2 133 (by decide)).trans c133
      have hx := hx.step (a := 117) (by decide) z2 o2
      refine r_aload_n (pc2 := 6) 0 dX10_first_5 rfl rfl rfl rfl ?_
      refine r_iload_n (pc2 := 7) 1 dX10_first_6 rfl rfl rfl ?_
      refine r_callV1 (pc2 := 10) (As := [.int (nI k)]) (st := []) kX10_396 rfl rfl dX10_first_7 c117 (by decide) rfl rfl (Nat.le_of_ble_eq_true rfl) (by omega) (c_isPerson c117 c118 (by omega)) rfl (fun h2 hq7 => ?_)
      subst hq7
      refine r_if_ne (tgt := 16) (pc2 := 13) dX10_first_10 (by decide) rfl (fun b10 => ?_) (fun b10 => ?_)
      · skip
        refine r_aload_n (pc2 := 17) 0 dX10_first_16 rfl rfl rfl rfl ?_
        refine r_iconst (pc2 := 18) (v := -1) dX10_first_17 (by decide) rfl ?_
        refine r_iconst (pc2 := 19) (v := -1) dX10_first_18 (by decide) rfl ?_
        refine r_callV1 (pc2 := 22) (As := [.int (-1), .int (-1)]) (st := []) kX10_294 rfl rfl dX10_first_19 c117 (by decide) rfl rfl (Nat.le_of_ble_eq_true rfl) (by omega) (c_laysWays c117 c118 c131 c132 c133 (Or.inl rfl) hA.P hA.bd hA.ub (by omega)) rfl (fun h hq19 => ?_)
        obtain ⟨hxl, c117, ⟨f1, c131⟩, ⟨f2, c132, hf2⟩, f3, c133, hf3⟩ := hq19
        have c118 := hxl.get (by decide) c118
        have hx := hx.trans hxl (by decide)
        refine r_if_ne (tgt := 29) (pc2 := 25) dX10_first_22 (by decide) rfl (fun b22 => ?_) (fun b22 => ?_)
        · skip
          refine r_aload_n (pc2 := 30) 0 dX10_first_29 rfl rfl rfl rfl ?_
          refine r_getf (pc2 := 33) (v := .ref 132) fX10_63 dX10_first_30 c117 (by decide) rfl rfl ?_
          refine r_iload_n (pc2 := 34) 1 dX10_first_33 rfl rfl rfl ?_
          refine r_ialdN (pc2 := 35) k dX10_first_34 c132 (by decide) rfl (by omega) (by decide) rfl ?_
          refine r_iload_n (pc2 := 36) 1 dX10_first_35 rfl rfl rfl ?_
          refine r_callS1 (pc2 := 39) (As := [.int (f2 k), .int (nI k)]) (st := []) kX10_399 dX10_first_36 rfl rfl (Nat.le_of_ble_eq_true rfl) (by omega) (c_notSelf (f2 k) (nI k)) rfl (fun h2 hq36 => ?_)
          subst hq36
          exact r_iret rfl dX10_first_39 ⟨by rw [firstF, if_pos hv, if_neg hL, hf2 hL k (by omega), nI_clamp (by omega)]; rfl, (wvv (upd v 0 0) a (-1) (-1)), ⟨rfl, rfl, rfl⟩, ⟨c117, c118, hx.get (by decide) k119, hx.get (by decide) k120, ⟨_, hx.get (by decide) k121⟩, ⟨_, hx.get (by decide) k122⟩, ⟨_, hx.get (by decide) k123⟩, ⟨_, hx.get (by decide) k124⟩, ⟨_, hx.get (by decide) k125⟩, ⟨_, hx.get (by decide) k126⟩, ⟨_, hx.get (by decide) k127⟩, ⟨_, hx.get (by decide) k128⟩, ⟨_, hx.get (by decide) k129⟩, ⟨_, hx.get (by decide) k130⟩, ⟨_, c131⟩, ⟨_, c132⟩, ⟨_, c133⟩, ⟨_, hx.get (by decide) k134⟩, ⟨_, hx.get (by decide) k135⟩, hx.get (by decide) k136, hx.get (by decide) k137, hx.get (by decide) k138⟩, hx.mono (by decide)⟩
        · exact absurd (len0 (nI_z0 (by omega) b22)) hL
      · exact absurd b10 (if1 hv)
  · skip
    refine Cn.go (ls := [.ref 117, .int x]) (by decide +kernel) rfl (Nat.le_of_ble_eq_true rfl) ?_
    refine r_aload_n (pc2 := 1) 0 dX10_first_0 rfl rfl rfl rfl ?_
    refine r_iconst (pc2 := 2) (v := 0) dX10_first_1 (by decide) rfl ?_
    refine r_putfX (pc2 := 5) (moL (upd v 0 0)) fX10_1 dX10_first_2 c117 (by decide) (Nat.le_of_ble_eq_true rfl) rfl rfl rfl (fun h z2 o2 c117 => ?_)
    have c118 := (o2 118 (by decide)).trans c118
    have c131 := (o2 131 (by decide)).trans c131
    have c132 := (o2 132 (by decide)).trans c132
    have c133 := (o2 133 (by decide)).trans c133
    have hx := hx.step (a := 117) (by decide) z2 o2
    refine r_aload_n (pc2 := 6) 0 dX10_first_5 rfl rfl rfl rfl ?_
    refine r_iload_n (pc2 := 7) 1 dX10_first_6 rfl rfl rfl ?_
    refine r_callV1 (pc2 := 10) (As := [.int x]) (st := []) kX10_396 rfl rfl dX10_first_7 c117 (by decide) rfl rfl (Nat.le_of_ble_eq_true rfl) (by omega) (c_isPerson c117 c118 (by omega)) rfl (fun h2 hq7 => ?_)
    subst hq7
    refine r_if_ne (tgt := 16) (pc2 := 13) dX10_first_10 (by decide) rfl (fun b10 => ?_) (fun b10 => ?_)
    · exact absurd (if0 hv) b10
    · skip
      refine r_bipush (pc2 := 15) (v := -2) dX10_first_13 (by decide) rfl ?_
      exact r_iret rfl dX10_first_15 ⟨by rw [firstF, if_neg hv], (upd v 0 0), ⟨rfl, rfl, rfl⟩, ⟨c117, c118, hx.get (by decide) k119, hx.get (by decide) k120, ⟨_, hx.get (by decide) k121⟩, ⟨_, hx.get (by decide) k122⟩, ⟨_, hx.get (by decide) k123⟩, ⟨_, hx.get (by decide) k124⟩, ⟨_, hx.get (by decide) k125⟩, ⟨_, hx.get (by decide) k126⟩, ⟨_, hx.get (by decide) k127⟩, ⟨_, hx.get (by decide) k128⟩, ⟨_, hx.get (by decide) k129⟩, ⟨_, hx.get (by decide) k130⟩, ⟨_, c131⟩, ⟨_, c132⟩, ⟨_, c133⟩, ⟨_, hx.get (by decide) k134⟩, ⟨_, hx.get (by decide) k135⟩, hx.get (by decide) k136, hx.get (by decide) k137, hx.get (by decide) k138⟩, hx.mono (by decide)⟩
set_option maxRecDepth 20000 in
set_option maxHeartbeats 1000000 in
theorem ref_surely {E : EnvT} {d : Nat} {h0 : Hp} {v : Nat → Int32} {a : Nat → Nat} {hi : Nat → Int32} {tp : Nat → Nat} {rs rm : Nat → Int32} {nu : Nat → Int64} {x : Int32} (hR : RS h0 v a hi tp rs rm nu) (hA : AIN a) (hd : 20 ≤ d) : Cn E mX10_surely d [.ref 117, .int x] h0 (RP (.int (surelyF a x)) h0 v a hi tp rs rm nu) := by
  obtain ⟨k117, k118, k119, k120, ⟨f121, k121⟩, ⟨f122, k122⟩, ⟨f123, k123⟩, ⟨f124, k124⟩, ⟨f125, k125⟩, ⟨f126, k126⟩, ⟨f127, k127⟩, ⟨f128, k128⟩, ⟨f129, k129⟩, ⟨f130, k130⟩, ⟨f131, k131⟩, ⟨f132, k132⟩, ⟨f133, k133⟩, ⟨f134, k134⟩, ⟨f135, k135⟩, k136, k137, k138⟩ := hR
  have c117 := k117
  have c118 := k118
  have c131 := k131
  have c132 := k132
  have c133 := k133
  have hx : Ex [117, 118, 131, 132, 133] h0 h0 := Ex.rf
  have hP := hA.P
  have hln := WL_len hP
  by_cases hv : inP (a 4) x
  · obtain ⟨k, hk, rfl⟩ := inP_of (by omega) hv
    by_cases hL : WL a = []
    · skip
      refine Cn.go (ls := [.ref 117, .int (nI k)]) (by decide +kernel) rfl (Nat.le_of_ble_eq_true rfl) ?_
      refine r_aload_n (pc2 := 1) 0 dX10_surely_0 rfl rfl rfl rfl ?_
      refine r_iconst (pc2 := 2) (v := 0) dX10_surely_1 (by decide) rfl ?_
      refine r_putfX (pc2 := 5) (moL (upd v 0 0)) fX10_1 dX10_surely_2 c117 (by decide) (Nat.le_of_ble_eq_true rfl) rfl rfl rfl (fun h z2 o2 c117 => ?_)
      have c118 := (o2 118 (by decide)).trans c118
      have c131 := (o2 131 (by decide)).trans c131
      have c132 := (o2 132 (by decide)).trans c132
      have c133 := (o2 133 (by decide)).trans c133
      have hx := hx.step (a := 117) (by decide) z2 o2
      refine r_aload_n (pc2 := 6) 0 dX10_surely_5 rfl rfl rfl rfl ?_
      refine r_iload_n (pc2 := 7) 1 dX10_surely_6 rfl rfl rfl ?_
      refine r_callV1 (pc2 := 10) (As := [.int (nI k)]) (st := []) kX10_396 rfl rfl dX10_surely_7 c117 (by decide) rfl rfl (Nat.le_of_ble_eq_true rfl) (by omega) (c_isPerson c117 c118 (by omega)) rfl (fun h2 hq7 => ?_)
      subst hq7
      refine r_if_ne (tgt := 16) (pc2 := 13) dX10_surely_10 (by decide) rfl (fun b10 => ?_) (fun b10 => ?_)
      · skip
        refine r_aload_n (pc2 := 17) 0 dX10_surely_16 rfl rfl rfl rfl ?_
        refine r_iconst (pc2 := 18) (v := -1) dX10_surely_17 (by decide) rfl ?_
        refine r_iconst (pc2 := 19) (v := -1) dX10_surely_18 (by decide) rfl ?_
        refine r_callV1 (pc2 := 22) (As := [.int (-1), .int (-1)]) (st := []) kX10_294 rfl rfl dX10_surely_19 c117 (by decide) rfl rfl (Nat.le_of_ble_eq_true rfl) (by omega) (c_laysWays c117 c118 c131 c132 c133 (Or.inl rfl) hA.P hA.bd hA.ub (by omega)) rfl (fun h hq19 => ?_)
        obtain ⟨hxl, c117, ⟨f1, c131⟩, ⟨f2, c132, hf2⟩, f3, c133, hf3⟩ := hq19
        have c118 := hxl.get (by decide) c118
        have hx := hx.trans hxl (by decide)
        refine r_if_ne (tgt := 29) (pc2 := 25) dX10_surely_22 (by decide) rfl (fun b22 => ?_) (fun b22 => ?_)
        · exact absurd (by rw [hL]; rfl) b22
        · skip
          refine r_iconst (pc2 := 26) (v := -1) dX10_surely_25 (by decide) rfl ?_
          refine r_goto (pc2 := 39) dX10_surely_26 (by decide) ?_
          exact r_iret rfl dX10_surely_39 ⟨by rw [surelyF, if_pos hv, if_pos hL], (wvv (upd v 0 0) a (-1) (-1)), ⟨rfl, rfl, rfl⟩, ⟨c117, c118, hx.get (by decide) k119, hx.get (by decide) k120, ⟨_, hx.get (by decide) k121⟩, ⟨_, hx.get (by decide) k122⟩, ⟨_, hx.get (by decide) k123⟩, ⟨_, hx.get (by decide) k124⟩, ⟨_, hx.get (by decide) k125⟩, ⟨_, hx.get (by decide) k126⟩, ⟨_, hx.get (by decide) k127⟩, ⟨_, hx.get (by decide) k128⟩, ⟨_, hx.get (by decide) k129⟩, ⟨_, hx.get (by decide) k130⟩, ⟨_, c131⟩, ⟨_, c132⟩, ⟨_, c133⟩, ⟨_, hx.get (by decide) k134⟩, ⟨_, hx.get (by decide) k135⟩, hx.get (by decide) k136, hx.get (by decide) k137, hx.get (by decide) k138⟩, hx.mono (by decide)⟩
      · exact absurd b10 (if1 hv)
    · skip
      refine Cn.go (ls := [.ref 117, .int (nI k)]) (by decide +kernel) rfl (Nat.le_of_ble_eq_true rfl) ?_
      refine r_aload_n (pc2 := 1) 0 dX10_surely_0 rfl rfl rfl rfl ?_
      refine r_iconst (pc2 := 2) (v := 0) dX10_surely_1 (by decide) rfl ?_
      refine r_putfX (pc2 := 5) (moL (upd v 0 0)) fX10_1 dX10_surely_2 c117 (by decide) (Nat.le_of_ble_eq_true rfl) rfl rfl rfl (fun h z2 o2 c117 => ?_)
      have c118 := (o2 118 (by decide)).trans c118
      have c131 := (o2 131 (by decide)).trans c131
      have c132 := (o2 132 (by decide)).trans c132
      have c133 := (o2 133 (by decide)).trans c133
      have hx := hx.step (a := 117) (by decide) z2 o2
      refine r_aload_n (pc2 := 6) 0 dX10_surely_5 rfl rfl rfl rfl ?_
      refine r_iload_n (pc2 := 7) 1 dX10_surely_6 rfl rfl rfl ?_
      refine r_callV1 (pc2 := 10) (As := [.int (nI k)]) (st := []) kX10_396 rfl rfl dX10_surely_7 c117 (by decide) rfl rfl (Nat.le_of_ble_eq_true rfl) (by omega) (c_isPerson c117 c118 (by omega)) rfl (fun h2 hq7 => ?_)
      subst hq7
      refine r_if_ne (tgt := 16) (pc2 := 13) dX10_surely_10 (by decide) rfl (fun b10 => ?_) (fun b10 => ?_)
      · skip
        refine r_aload_n (pc2 := 17) 0 dX10_surely_16 rfl rfl rfl rfl ?_
        refine r_iconst (pc2 := 18) (v := -1) dX10_surely_17 (by decide) rfl ?_
        refine r_iconst (pc2 := 19) (v := -1) dX10_surely_18 (by decide) rfl ?_
        refine r_callV1 (pc2 := 22) (As := [.int (-1), .int (-1)]) (st := []) kX10_294 rfl rfl dX10_surely_19 c117 (by decide) rfl rfl (Nat.le_of_ble_eq_true rfl) (by omega) (c_laysWays c117 c118 c131 c132 c133 (Or.inl rfl) hA.P hA.bd hA.ub (by omega)) rfl (fun h hq19 => ?_)
        obtain ⟨hxl, c117, ⟨f1, c131⟩, ⟨f2, c132, hf2⟩, f3, c133, hf3⟩ := hq19
        have c118 := hxl.get (by decide) c118
        have hx := hx.trans hxl (by decide)
        refine r_if_ne (tgt := 29) (pc2 := 25) dX10_surely_22 (by decide) rfl (fun b22 => ?_) (fun b22 => ?_)
        · skip
          refine r_aload_n (pc2 := 30) 0 dX10_surely_29 rfl rfl rfl rfl ?_
          refine r_getf (pc2 := 33) (v := .ref 133) fX10_66 dX10_surely_30 c117 (by decide) rfl rfl ?_
          refine r_iload_n (pc2 := 34) 1 dX10_surely_33 rfl rfl rfl ?_
          refine r_ialdN (pc2 := 35) k dX10_surely_34 c133 (by decide) rfl (by omega) (by decide) rfl ?_
          refine r_iload_n (pc2 := 36) 1 dX10_surely_35 rfl rfl rfl ?_
          refine r_callS1 (pc2 := 39) (As := [.int (f3 k), .int (nI k)]) (st := []) kX10_399 dX10_surely_36 rfl rfl (Nat.le_of_ble_eq_true rfl) (by omega) (c_notSelf (f3 k) (nI k)) rfl (fun h2 hq36 => ?_)
          subst hq36
          exact r_iret rfl dX10_surely_39 ⟨by rw [surelyF, if_pos hv, if_neg hL, hf3 hL k (by omega), nI_clamp (by omega)]; rfl, (wvv (upd v 0 0) a (-1) (-1)), ⟨rfl, rfl, rfl⟩, ⟨c117, c118, hx.get (by decide) k119, hx.get (by decide) k120, ⟨_, hx.get (by decide) k121⟩, ⟨_, hx.get (by decide) k122⟩, ⟨_, hx.get (by decide) k123⟩, ⟨_, hx.get (by decide) k124⟩, ⟨_, hx.get (by decide) k125⟩, ⟨_, hx.get (by decide) k126⟩, ⟨_, hx.get (by decide) k127⟩, ⟨_, hx.get (by decide) k128⟩, ⟨_, hx.get (by decide) k129⟩, ⟨_, hx.get (by decide) k130⟩, ⟨_, c131⟩, ⟨_, c132⟩, ⟨_, c133⟩, ⟨_, hx.get (by decide) k134⟩, ⟨_, hx.get (by decide) k135⟩, hx.get (by decide) k136, hx.get (by decide) k137, hx.get (by decide) k138⟩, hx.mono (by decide)⟩
        · exact absurd (len0 (nI_z0 (by omega) b22)) hL
      · exact absurd b10 (if1 hv)
  · skip
    refine Cn.go (ls := [.ref 117, .int x]) (by decide +kernel) rfl (Nat.le_of_ble_eq_true rfl) ?_
    refine r_aload_n (pc2 := 1) 0 dX10_surely_0 rfl rfl rfl rfl ?_
    refine r_iconst (pc2 := 2) (v := 0) dX10_surely_1 (by decide) rfl ?_
    refine r_putfX (pc2 := 5) (moL (upd v 0 0)) fX10_1 dX10_surely_2 c117 (by decide) (Nat.le_of_ble_eq_true rfl) rfl rfl rfl (fun h z2 o2 c117 => ?_)
    have c118 := (o2 118 (by decide)).trans c118
    have c131 := (o2 131 (by decide)).trans c131
    have c132 := (o2 132 (by decide)).trans c132
    have c133 := (o2 133 (by decide)).trans c133
    have hx := hx.step (a := 117) (by decide) z2 o2
    refine r_aload_n (pc2 := 6) 0 dX10_surely_5 rfl rfl rfl rfl ?_
    refine r_iload_n (pc2 := 7) 1 dX10_surely_6 rfl rfl rfl ?_
    refine r_callV1 (pc2 := 10) (As := [.int x]) (st := []) kX10_396 rfl rfl dX10_surely_7 c117 (by decide) rfl rfl (Nat.le_of_ble_eq_true rfl) (by omega) (c_isPerson c117 c118 (by omega)) rfl (fun h2 hq7 => ?_)
    subst hq7
    refine r_if_ne (tgt := 16) (pc2 := 13) dX10_surely_10 (by decide) rfl (fun b10 => ?_) (fun b10 => ?_)
    · exact absurd (if0 hv) b10
    · skip
      refine r_bipush (pc2 := 15) (v := -2) dX10_surely_13 (by decide) rfl ?_
      exact r_iret rfl dX10_surely_15 ⟨by rw [surelyF, if_neg hv], (upd v 0 0), ⟨rfl, rfl, rfl⟩, ⟨c117, c118, hx.get (by decide) k119, hx.get (by decide) k120, ⟨_, hx.get (by decide) k121⟩, ⟨_, hx.get (by decide) k122⟩, ⟨_, hx.get (by decide) k123⟩, ⟨_, hx.get (by decide) k124⟩, ⟨_, hx.get (by decide) k125⟩, ⟨_, hx.get (by decide) k126⟩, ⟨_, hx.get (by decide) k127⟩, ⟨_, hx.get (by decide) k128⟩, ⟨_, hx.get (by decide) k129⟩, ⟨_, hx.get (by decide) k130⟩, ⟨_, c131⟩, ⟨_, c132⟩, ⟨_, c133⟩, ⟨_, hx.get (by decide) k134⟩, ⟨_, hx.get (by decide) k135⟩, hx.get (by decide) k136, hx.get (by decide) k137, hx.get (by decide) k138⟩, hx.mono (by decide)⟩
set_option maxRecDepth 20000 in
set_option maxHeartbeats 1000000 in
theorem c_common {E : EnvT} : ∀ (k x y d : Nat) (h0 : Hp), y < 2 ^ k → x < 2 ^ 31 → y < 2 ^ 31 → 2 * k ≤ d → Cn E mX10_common d [.int (nI x), .int (nI y)] h0 (fun r h2 => r = some (.int (nI (Nat.gcd x y))) ∧ h2 = h0) := by
  intro k
  induction k with
  | zero =>
    intro x y d h0 hy hx hy1 hd
    obtain rfl : y = 0 := by omega
    refine Cn.go (ls := [.int (nI x), .int (nI 0)]) (by decide +kernel) rfl (Nat.le_of_ble_eq_true rfl) ?_
    refine r_iload_n (pc2 := 1) 1 dX10_common_0 rfl rfl rfl ?_
    refine r_if_ne (tgt := 8) (pc2 := 4) dX10_common_1 (by decide) rfl (fun b1 => ?_) (fun b1 => ?_)
    · exact absurd rfl b1
    · skip
      refine r_iload_n (pc2 := 5) 0 dX10_common_4 rfl rfl rfl ?_
      refine r_goto (pc2 := 15) dX10_common_5 (by decide) ?_
      exact r_iret rfl dX10_common_15 ⟨by rw [Nat.gcd_zero_right], rfl⟩
  | succ k ih =>
    intro x y d h0 hy hx hy1 hd
    by_cases y0 : y = 0
    · subst y0
      refine Cn.go (ls := [.int (nI x), .int (nI 0)]) (by decide +kernel) rfl (Nat.le_of_ble_eq_true rfl) ?_
      refine r_iload_n (pc2 := 1) 1 dX10_common_0 rfl rfl rfl ?_
      refine r_if_ne (tgt := 8) (pc2 := 4) dX10_common_1 (by decide) rfl (fun b1 => ?_) (fun b1 => ?_)
      · exact absurd rfl b1
      · skip
        refine r_iload_n (pc2 := 5) 0 dX10_common_4 rfl rfl rfl ?_
        refine r_goto (pc2 := 15) dX10_common_5 (by decide) ?_
        exact r_iret rfl dX10_common_15 ⟨by rw [Nat.gcd_zero_right], rfl⟩
    · have hr : x % y < y := Nat.mod_lt _ (by omega)
      have inner : ∀ (d : Nat) (h0 : Hp), 2 * k + 1 ≤ d → Cn E mX10_common d [.int (nI y), .int (nI (x % y))] h0 (fun r h2 => r = some (.int (nI (Nat.gcd x y))) ∧ h2 = h0) := by
        intro d h0 hd
        have eg : Nat.gcd x y = Nat.gcd y (x % y) := by rw [Nat.gcd_comm x y, Nat.gcd_rec y x, Nat.gcd_comm]
        by_cases r0 : x % y = 0
        · rw [eg, r0]
          refine Cn.go (ls := [.int (nI y), .int (nI 0)]) (by decide +kernel) rfl (Nat.le_of_ble_eq_true rfl) ?_
          refine r_iload_n (pc2 := 1) 1 dX10_common_0 rfl rfl rfl ?_
          refine r_if_ne (tgt := 8) (pc2 := 4) dX10_common_1 (by decide) rfl (fun b1 => ?_) (fun b1 => ?_)
          · exact absurd rfl b1
          · skip
            refine r_iload_n (pc2 := 5) 0 dX10_common_4 rfl rfl rfl ?_
            refine r_goto (pc2 := 15) dX10_common_5 (by decide) ?_
            exact r_iret rfl dX10_common_15 ⟨by rw [Nat.gcd_zero_right], rfl⟩
        · have hr2 : y % (x % y) < x % y := Nat.mod_lt _ (by omega)
          have hhalf : y % (x % y) < 2 ^ k := by
            have e1 : 2 ^ (k + 1) = 2 ^ k * 2 := Nat.pow_succ _ _
            have e2 := Nat.div_add_mod y (x % y)
            have e3 : 1 ≤ y / (x % y) := (Nat.le_div_iff_mul_le (by omega)).mpr (by omega)
            have e4 : x % y ≤ (x % y) * (y / (x % y)) := Nat.le_mul_of_pos_right _ e3
            omega
          have eg2 : Nat.gcd y (x % y) = Nat.gcd (x % y) (y % (x % y)) := by rw [Nat.gcd_comm y (x % y), Nat.gcd_rec (x % y) y, Nat.gcd_comm]
          rw [eg, eg2]
          refine Cn.go (ls := [.int (nI y), .int (nI (x % y))]) (by decide +kernel) rfl (Nat.le_of_ble_eq_true rfl) ?_
          refine r_iload_n (pc2 := 1) 1 dX10_common_0 rfl rfl rfl ?_
          refine r_if_ne (tgt := 8) (pc2 := 4) dX10_common_1 (by decide) rfl (fun b1 => ?_) (fun b1 => ?_)
          · skip
            refine r_iload_n (pc2 := 9) 1 dX10_common_8 rfl rfl rfl ?_
            refine r_iload_n (pc2 := 10) 0 dX10_common_9 rfl rfl rfl ?_
            refine r_iload_n (pc2 := 11) 1 dX10_common_10 rfl rfl rfl ?_
            refine r_irem (pc2 := 12) dX10_common_11 (nI_ne0 (by omega) (by omega)) rfl ?_
            refine r_cast (nI (y % (x % y))) (pk_rem (by omega) (by omega) (by omega)) ?_
            refine r_callS1 (pc2 := 15) (As := [.int (nI (x % y)), .int (nI (y % (x % y)))]) (st := []) kX10_402 dX10_common_12 rfl rfl (Nat.le_of_ble_eq_true rfl) (by omega) (ih (x % y) (y % (x % y)) (d - 1) _ hhalf (by omega) (by omega) (by omega)) rfl (fun h2 hq12 => ?_)
            subst hq12
            exact r_iret rfl dX10_common_15 ⟨rfl, rfl⟩
          · exact absurd b1 (nI_ne0 (by omega) (by omega))
      refine Cn.go (ls := [.int (nI x), .int (nI y)]) (by decide +kernel) rfl (Nat.le_of_ble_eq_true rfl) ?_
      refine r_iload_n (pc2 := 1) 1 dX10_common_0 rfl rfl rfl ?_
      refine r_if_ne (tgt := 8) (pc2 := 4) dX10_common_1 (by decide) rfl (fun b1 => ?_) (fun b1 => ?_)
      · skip
        refine r_iload_n (pc2 := 9) 1 dX10_common_8 rfl rfl rfl ?_
        refine r_iload_n (pc2 := 10) 0 dX10_common_9 rfl rfl rfl ?_
        refine r_iload_n (pc2 := 11) 1 dX10_common_10 rfl rfl rfl ?_
        refine r_irem (pc2 := 12) dX10_common_11 (nI_ne0 (by omega) (by omega)) rfl ?_
        refine r_cast (nI (x % y)) (pk_rem (by omega) (by omega) (by omega)) ?_
        refine r_callS1 (pc2 := 15) (As := [.int (nI y), .int (nI (x % y))]) (st := []) kX10_402 dX10_common_12 rfl rfl (Nat.le_of_ble_eq_true rfl) (by omega) (inner (d - 1) _ (by omega)) rfl (fun h2 hq12 => ?_)
        subst hq12
        exact r_iret rfl dX10_common_15 ⟨rfl, rfl⟩
      · exact absurd b1 (nI_ne0 (by omega) (by omega))
def partN (x y : Nat) (w : Int32) : Nat := (if w = 0 then x else y) / Nat.gcd x y
set_option maxRecDepth 20000 in
set_option maxHeartbeats 1000000 in
theorem c_part {E : EnvT} {x y d : Nat} {w : Int32} {h0 : Hp} (hx : x < 2 ^ 31) (hy : y < 2 ^ 31) (hy0 : 0 < y) (hd : 63 ≤ d) : Cn E mX10_part d [.int (nI x), .int (nI y), .int w] h0 (fun r h2 => r = some (.int (nI (partN x y w))) ∧ h2 = h0) := by
  have hg : 0 < Nat.gcd x y := Nat.gcd_pos_of_pos_right _ hy0
  have hgy : Nat.gcd x y ≤ y := Nat.gcd_le_right _ hy0
  by_cases hw : w = 0
  · skip
    refine Cn.go (ls := [.int (nI x), .int (nI y), .int w]) (by decide +kernel) rfl (Nat.le_of_ble_eq_true rfl) ?_
    refine r_iload_n (pc2 := 1) 2 dX10_part_0 rfl rfl rfl ?_
    refine r_if_ne (tgt := 8) (pc2 := 4) dX10_part_1 (by decide) rfl (fun b1 => ?_) (fun b1 => ?_)
    · exact absurd hw b1
    · skip
      refine r_iload_n (pc2 := 5) 0 dX10_part_4 rfl rfl rfl ?_
      refine r_goto (pc2 := 9) dX10_part_5 (by decide) ?_
      refine r_iload_n (pc2 := 10) 0 dX10_part_9 rfl rfl rfl ?_
      refine r_iload_n (pc2 := 11) 1 dX10_part_10 rfl rfl rfl ?_
      refine r_callS1 (pc2 := 14) (As := [.int (nI x), .int (nI y)]) (st := [.int (nI x)]) kX10_402 dX10_part_11 rfl rfl (Nat.le_of_ble_eq_true rfl) (by omega) (c_common 31 x y (d - 1) _ (by omega) (by omega) (by omega) (by omega)) rfl (fun h2 hq11 => ?_)
      subst hq11
      refine r_idiv (pc2 := 15) dX10_part_14 (nI_ne0 (by omega) (by omega)) rfl ?_
      refine r_cast (nI (x / Nat.gcd x y)) (pk_div (by omega) (by omega) (by omega)) ?_
      exact r_iret rfl dX10_part_15 ⟨by rw [partN, if_pos hw], rfl⟩
  · skip
    refine Cn.go (ls := [.int (nI x), .int (nI y), .int w]) (by decide +kernel) rfl (Nat.le_of_ble_eq_true rfl) ?_
    refine r_iload_n (pc2 := 1) 2 dX10_part_0 rfl rfl rfl ?_
    refine r_if_ne (tgt := 8) (pc2 := 4) dX10_part_1 (by decide) rfl (fun b1 => ?_) (fun b1 => ?_)
    · skip
      refine r_iload_n (pc2 := 9) 1 dX10_part_8 rfl rfl rfl ?_
      refine r_iload_n (pc2 := 10) 0 dX10_part_9 rfl rfl rfl ?_
      refine r_iload_n (pc2 := 11) 1 dX10_part_10 rfl rfl rfl ?_
      refine r_callS1 (pc2 := 14) (As := [.int (nI x), .int (nI y)]) (st := [.int (nI y)]) kX10_402 dX10_part_11 rfl rfl (Nat.le_of_ble_eq_true rfl) (by omega) (c_common 31 x y (d - 1) _ (by omega) (by omega) (by omega) (by omega)) rfl (fun h2 hq11 => ?_)
      subst hq11
      refine r_idiv (pc2 := 15) dX10_part_14 (nI_ne0 (by omega) (by omega)) rfl ?_
      refine r_cast (nI (y / Nat.gcd x y)) (pk_div (by omega) (by omega) (by omega)) ?_
      exact r_iret rfl dX10_part_15 ⟨by rw [partN, if_neg hw], rfl⟩
    · exact absurd b1 hw
def oddsF (a : Nat → Nat) (x y w : Int32) : Int32 := if hintC a x y w then (if WL a = [] then -1 else nI (partN (cntW a x y) (WL a).length w)) else -2
set_option maxRecDepth 20000 in
set_option maxHeartbeats 1000000 in
theorem ref_odds {E : EnvT} {d : Nat} {h0 : Hp} {v : Nat → Int32} {a : Nat → Nat} {hi : Nat → Int32} {tp : Nat → Nat} {rs rm : Nat → Int32} {nu : Nat → Int64} {x y w : Int32} (hR : RS h0 v a hi tp rs rm nu) (hA : AIN a) (hd : 70 ≤ d) : Cn E mX10_odds d [.ref 117, .int x, .int y, .int w] h0 (RP (.int (oddsF a x y w)) h0 v a hi tp rs rm nu) := by
  obtain ⟨k117, k118, k119, k120, ⟨f121, k121⟩, ⟨f122, k122⟩, ⟨f123, k123⟩, ⟨f124, k124⟩, ⟨f125, k125⟩, ⟨f126, k126⟩, ⟨f127, k127⟩, ⟨f128, k128⟩, ⟨f129, k129⟩, ⟨f130, k130⟩, ⟨f131, k131⟩, ⟨f132, k132⟩, ⟨f133, k133⟩, ⟨f134, k134⟩, ⟨f135, k135⟩, k136, k137, k138⟩ := hR
  have c117 := k117
  have c118 := k118
  have c131 := k131
  have c132 := k132
  have c133 := k133
  have hx : Ex [117, 118, 131, 132, 133] h0 h0 := Ex.rf
  have hP := hA.P
  have hln := WL_len hP
  have hcl : cntW a x y ≤ (WL a).length := cntW_le
  by_cases h1 : (0 ≤ x.toInt64 ∧ x.toInt64 ≤ (nI (a 4) - 1).toInt64) ∧ (0 ≤ y.toInt64 ∧ y.toInt64 ≤ (nI (a 4) - 1).toInt64) ∧ x.toInt64 ≠ y.toInt64
  · have hor : x = -1 ∨ ∃ k, k < 8 ∧ x = nI k := by
      obtain ⟨k, hk, e⟩ := inP_of (by omega) h1.1
      exact Or.inr ⟨k, by omega, e⟩
    by_cases hw : inR 0 1 w
    · by_cases hL : WL a = []
      · skip
        refine Cn.go (ls := [.ref 117, .int x, .int y, .int w]) (by decide +kernel) rfl (Nat.le_of_ble_eq_true rfl) ?_
        refine r_aload_n (pc2 := 1) 0 dX10_odds_0 rfl rfl rfl rfl ?_
        refine r_iconst (pc2 := 2) (v := 0) dX10_odds_1 (by decide) rfl ?_
        refine r_putfX (pc2 := 5) (moL (upd v 0 0)) fX10_1 dX10_odds_2 c117 (by decide) (Nat.le_of_ble_eq_true rfl) rfl rfl rfl (fun h z2 o2 c117 => ?_)
        have c118 := (o2 118 (by decide)).trans c118
        have c131 := (o2 131 (by decide)).trans c131
        have c132 := (o2 132 (by decide)).trans c132
        have c133 := (o2 133 (by decide)).trans c133
        have hx := hx.step (a := 117) (by decide) z2 o2
        refine r_aload_n (pc2 := 6) 0 dX10_odds_5 rfl rfl rfl rfl ?_
        refine r_iload_n (pc2 := 7) 1 dX10_odds_6 rfl rfl rfl ?_
        refine r_i2l (pc2 := 8) dX10_odds_7 rfl ?_
        refine r_iload_n (pc2 := 9) 2 dX10_odds_8 rfl rfl rfl ?_
        refine r_i2l (pc2 := 10) dX10_odds_9 rfl ?_
        refine r_callV1 (pc2 := 13) (As := [.long (Int32.toInt64 x), .long (Int32.toInt64 y)]) (st := []) kX10_290 rfl rfl dX10_odds_10 c117 (by decide) rfl rfl (Nat.le_of_ble_eq_true rfl) (by omega) (c_areTwo c117 c118 (by omega)) rfl (fun h2 hq10 => ?_)
        subst hq10
        refine r_if_eq (tgt := 26) (pc2 := 16) dX10_odds_13 (by decide) rfl (fun b13 => ?_) (fun b13 => ?_)
        · exact absurd b13 (if1 h1)
        · skip
          refine r_iload_n (pc2 := 17) 3 dX10_odds_16 rfl rfl rfl ?_
          refine r_i2l (pc2 := 18) dX10_odds_17 rfl ?_
          refine r_lconst (pc2 := 19) (v := 0) dX10_odds_18 (by decide) rfl ?_
          refine r_lconst (pc2 := 20) (v := 1) dX10_odds_19 (by decide) rfl ?_
          refine r_callS1 (pc2 := 23) (As := [.long (Int32.toInt64 w), .long 0, .long 1]) (st := []) kX10_152 dX10_odds_20 rfl rfl (Nat.le_of_ble_eq_true rfl) (by omega) (c_within (Int32.toInt64 w) 0 1) rfl (fun h2 hq20 => ?_)
          subst hq20
          refine r_if_ne (tgt := 29) (pc2 := 26) dX10_odds_23 (by decide) rfl (fun b23 => ?_) (fun b23 => ?_)
          · skip
            refine r_aload_n (pc2 := 30) 0 dX10_odds_29 rfl rfl rfl rfl ?_
            refine r_iload_n (pc2 := 31) 1 dX10_odds_30 rfl rfl rfl ?_
            refine r_iload_n (pc2 := 32) 2 dX10_odds_31 rfl rfl rfl ?_
            refine r_callV1 (pc2 := 35) (As := [.int x, .int y]) (st := []) kX10_294 rfl rfl dX10_odds_32 c117 (by decide) rfl rfl (Nat.le_of_ble_eq_true rfl) (by omega) (c_laysWays c117 c118 c131 c132 c133 hor hA.P hA.bd hA.ub (by omega)) rfl (fun h hq32 => ?_)
            obtain ⟨hxl, c117, ⟨f1, c131⟩, ⟨f2, c132, hf2⟩, f3, c133, hf3⟩ := hq32
            have c118 := hxl.get (by decide) c118
            have hx := hx.trans hxl (by decide)
            refine r_if_ne (tgt := 42) (pc2 := 38) dX10_odds_35 (by decide) rfl (fun b35 => ?_) (fun b35 => ?_)
            · exact absurd (by rw [hL]; rfl) b35
            · skip
              refine r_iconst (pc2 := 39) (v := -1) dX10_odds_38 (by decide) rfl ?_
              refine r_goto (pc2 := 54) dX10_odds_39 (by decide) ?_
              exact r_iret rfl dX10_odds_54 ⟨by rw [oddsF, if_pos ⟨h1, hw⟩, if_pos hL], (wvv (upd v 0 0) a x y), ⟨rfl, rfl, rfl⟩, ⟨c117, c118, hx.get (by decide) k119, hx.get (by decide) k120, ⟨_, hx.get (by decide) k121⟩, ⟨_, hx.get (by decide) k122⟩, ⟨_, hx.get (by decide) k123⟩, ⟨_, hx.get (by decide) k124⟩, ⟨_, hx.get (by decide) k125⟩, ⟨_, hx.get (by decide) k126⟩, ⟨_, hx.get (by decide) k127⟩, ⟨_, hx.get (by decide) k128⟩, ⟨_, hx.get (by decide) k129⟩, ⟨_, hx.get (by decide) k130⟩, ⟨_, c131⟩, ⟨_, c132⟩, ⟨_, c133⟩, ⟨_, hx.get (by decide) k134⟩, ⟨_, hx.get (by decide) k135⟩, hx.get (by decide) k136, hx.get (by decide) k137, hx.get (by decide) k138⟩, hx.mono (by decide)⟩
          · exact absurd b23 (if1 hw)
      · have hL0 : 0 < (WL a).length := Nat.pos_of_ne_zero (fun z => hL (len0 z))
        refine Cn.go (ls := [.ref 117, .int x, .int y, .int w]) (by decide +kernel) rfl (Nat.le_of_ble_eq_true rfl) ?_
        refine r_aload_n (pc2 := 1) 0 dX10_odds_0 rfl rfl rfl rfl ?_
        refine r_iconst (pc2 := 2) (v := 0) dX10_odds_1 (by decide) rfl ?_
        refine r_putfX (pc2 := 5) (moL (upd v 0 0)) fX10_1 dX10_odds_2 c117 (by decide) (Nat.le_of_ble_eq_true rfl) rfl rfl rfl (fun h z2 o2 c117 => ?_)
        have c118 := (o2 118 (by decide)).trans c118
        have c131 := (o2 131 (by decide)).trans c131
        have c132 := (o2 132 (by decide)).trans c132
        have c133 := (o2 133 (by decide)).trans c133
        have hx := hx.step (a := 117) (by decide) z2 o2
        refine r_aload_n (pc2 := 6) 0 dX10_odds_5 rfl rfl rfl rfl ?_
        refine r_iload_n (pc2 := 7) 1 dX10_odds_6 rfl rfl rfl ?_
        refine r_i2l (pc2 := 8) dX10_odds_7 rfl ?_
        refine r_iload_n (pc2 := 9) 2 dX10_odds_8 rfl rfl rfl ?_
        refine r_i2l (pc2 := 10) dX10_odds_9 rfl ?_
        refine r_callV1 (pc2 := 13) (As := [.long (Int32.toInt64 x), .long (Int32.toInt64 y)]) (st := []) kX10_290 rfl rfl dX10_odds_10 c117 (by decide) rfl rfl (Nat.le_of_ble_eq_true rfl) (by omega) (c_areTwo c117 c118 (by omega)) rfl (fun h2 hq10 => ?_)
        subst hq10
        refine r_if_eq (tgt := 26) (pc2 := 16) dX10_odds_13 (by decide) rfl (fun b13 => ?_) (fun b13 => ?_)
        · exact absurd b13 (if1 h1)
        · skip
          refine r_iload_n (pc2 := 17) 3 dX10_odds_16 rfl rfl rfl ?_
          refine r_i2l (pc2 := 18) dX10_odds_17 rfl ?_
          refine r_lconst (pc2 := 19) (v := 0) dX10_odds_18 (by decide) rfl ?_
          refine r_lconst (pc2 := 20) (v := 1) dX10_odds_19 (by decide) rfl ?_
          refine r_callS1 (pc2 := 23) (As := [.long (Int32.toInt64 w), .long 0, .long 1]) (st := []) kX10_152 dX10_odds_20 rfl rfl (Nat.le_of_ble_eq_true rfl) (by omega) (c_within (Int32.toInt64 w) 0 1) rfl (fun h2 hq20 => ?_)
          subst hq20
          refine r_if_ne (tgt := 29) (pc2 := 26) dX10_odds_23 (by decide) rfl (fun b23 => ?_) (fun b23 => ?_)
          · skip
            refine r_aload_n (pc2 := 30) 0 dX10_odds_29 rfl rfl rfl rfl ?_
            refine r_iload_n (pc2 := 31) 1 dX10_odds_30 rfl rfl rfl ?_
            refine r_iload_n (pc2 := 32) 2 dX10_odds_31 rfl rfl rfl ?_
            refine r_callV1 (pc2 := 35) (As := [.int x, .int y]) (st := []) kX10_294 rfl rfl dX10_odds_32 c117 (by decide) rfl rfl (Nat.le_of_ble_eq_true rfl) (by omega) (c_laysWays c117 c118 c131 c132 c133 hor hA.P hA.bd hA.ub (by omega)) rfl (fun h hq32 => ?_)
            obtain ⟨hxl, c117, ⟨f1, c131⟩, ⟨f2, c132, hf2⟩, f3, c133, hf3⟩ := hq32
            have c118 := hxl.get (by decide) c118
            have hx := hx.trans hxl (by decide)
            refine r_if_ne (tgt := 42) (pc2 := 38) dX10_odds_35 (by decide) rfl (fun b35 => ?_) (fun b35 => ?_)
            · skip
              refine r_aload_n (pc2 := 43) 0 dX10_odds_42 rfl rfl rfl rfl ?_
              refine r_getf (pc2 := 46) (v := .int (nI (cntW a x y))) fX10_380 dX10_odds_43 c117 (by decide) rfl rfl ?_
              refine r_aload_n (pc2 := 47) 0 dX10_odds_46 rfl rfl rfl rfl ?_
              refine r_getf (pc2 := 50) (v := .int (nI (WL a).length)) fX10_371 dX10_odds_47 c117 (by decide) rfl rfl ?_
              refine r_iload_n (pc2 := 51) 3 dX10_odds_50 rfl rfl rfl ?_
              refine r_callS1 (pc2 := 54) (As := [.int (nI (cntW a x y)), .int (nI (WL a).length), .int w]) (st := []) kX10_405 dX10_odds_51 rfl rfl (Nat.le_of_ble_eq_true rfl) (by omega) (c_part (x := cntW a x y) (y := (WL a).length) (by omega) (by omega) (by omega) (by omega)) rfl (fun h2 hq51 => ?_)
              subst hq51
              exact r_iret rfl dX10_odds_54 ⟨by rw [oddsF, if_pos ⟨h1, hw⟩, if_neg hL], (wvv (upd v 0 0) a x y), ⟨rfl, rfl, rfl⟩, ⟨c117, c118, hx.get (by decide) k119, hx.get (by decide) k120, ⟨_, hx.get (by decide) k121⟩, ⟨_, hx.get (by decide) k122⟩, ⟨_, hx.get (by decide) k123⟩, ⟨_, hx.get (by decide) k124⟩, ⟨_, hx.get (by decide) k125⟩, ⟨_, hx.get (by decide) k126⟩, ⟨_, hx.get (by decide) k127⟩, ⟨_, hx.get (by decide) k128⟩, ⟨_, hx.get (by decide) k129⟩, ⟨_, hx.get (by decide) k130⟩, ⟨_, c131⟩, ⟨_, c132⟩, ⟨_, c133⟩, ⟨_, hx.get (by decide) k134⟩, ⟨_, hx.get (by decide) k135⟩, hx.get (by decide) k136, hx.get (by decide) k137, hx.get (by decide) k138⟩, hx.mono (by decide)⟩
            · exact absurd (len0 (nI_z0 (by omega) b35)) hL
          · exact absurd b23 (if1 hw)
    · skip
      refine Cn.go (ls := [.ref 117, .int x, .int y, .int w]) (by decide +kernel) rfl (Nat.le_of_ble_eq_true rfl) ?_
      refine r_aload_n (pc2 := 1) 0 dX10_odds_0 rfl rfl rfl rfl ?_
      refine r_iconst (pc2 := 2) (v := 0) dX10_odds_1 (by decide) rfl ?_
      refine r_putfX (pc2 := 5) (moL (upd v 0 0)) fX10_1 dX10_odds_2 c117 (by decide) (Nat.le_of_ble_eq_true rfl) rfl rfl rfl (fun h z2 o2 c117 => ?_)
      have c118 := (o2 118 (by decide)).trans c118
      have c131 := (o2 131 (by decide)).trans c131
      have c132 := (o2 132 (by decide)).trans c132
      have c133 := (o2 133 (by decide)).trans c133
      have hx := hx.step (a := 117) (by decide) z2 o2
      refine r_aload_n (pc2 := 6) 0 dX10_odds_5 rfl rfl rfl rfl ?_
      refine r_iload_n (pc2 := 7) 1 dX10_odds_6 rfl rfl rfl ?_
      refine r_i2l (pc2 := 8) dX10_odds_7 rfl ?_
      refine r_iload_n (pc2 := 9) 2 dX10_odds_8 rfl rfl rfl ?_
      refine r_i2l (pc2 := 10) dX10_odds_9 rfl ?_
      refine r_callV1 (pc2 := 13) (As := [.long (Int32.toInt64 x), .long (Int32.toInt64 y)]) (st := []) kX10_290 rfl rfl dX10_odds_10 c117 (by decide) rfl rfl (Nat.le_of_ble_eq_true rfl) (by omega) (c_areTwo c117 c118 (by omega)) rfl (fun h2 hq10 => ?_)
      subst hq10
      refine r_if_eq (tgt := 26) (pc2 := 16) dX10_odds_13 (by decide) rfl (fun b13 => ?_) (fun b13 => ?_)
      · exact absurd b13 (if1 h1)
      · skip
        refine r_iload_n (pc2 := 17) 3 dX10_odds_16 rfl rfl rfl ?_
        refine r_i2l (pc2 := 18) dX10_odds_17 rfl ?_
        refine r_lconst (pc2 := 19) (v := 0) dX10_odds_18 (by decide) rfl ?_
        refine r_lconst (pc2 := 20) (v := 1) dX10_odds_19 (by decide) rfl ?_
        refine r_callS1 (pc2 := 23) (As := [.long (Int32.toInt64 w), .long 0, .long 1]) (st := []) kX10_152 dX10_odds_20 rfl rfl (Nat.le_of_ble_eq_true rfl) (by omega) (c_within (Int32.toInt64 w) 0 1) rfl (fun h2 hq20 => ?_)
        subst hq20
        refine r_if_ne (tgt := 29) (pc2 := 26) dX10_odds_23 (by decide) rfl (fun b23 => ?_) (fun b23 => ?_)
        · exact absurd (if0 hw) b23
        · skip
          refine r_bipush (pc2 := 28) (v := -2) dX10_odds_26 (by decide) rfl ?_
          exact r_iret rfl dX10_odds_28 ⟨by rw [oddsF, if_neg (fun z => hw z.2)], (upd v 0 0), ⟨rfl, rfl, rfl⟩, ⟨c117, c118, hx.get (by decide) k119, hx.get (by decide) k120, ⟨_, hx.get (by decide) k121⟩, ⟨_, hx.get (by decide) k122⟩, ⟨_, hx.get (by decide) k123⟩, ⟨_, hx.get (by decide) k124⟩, ⟨_, hx.get (by decide) k125⟩, ⟨_, hx.get (by decide) k126⟩, ⟨_, hx.get (by decide) k127⟩, ⟨_, hx.get (by decide) k128⟩, ⟨_, hx.get (by decide) k129⟩, ⟨_, hx.get (by decide) k130⟩, ⟨_, c131⟩, ⟨_, c132⟩, ⟨_, c133⟩, ⟨_, hx.get (by decide) k134⟩, ⟨_, hx.get (by decide) k135⟩, hx.get (by decide) k136, hx.get (by decide) k137, hx.get (by decide) k138⟩, hx.mono (by decide)⟩
  · skip
    refine Cn.go (ls := [.ref 117, .int x, .int y, .int w]) (by decide +kernel) rfl (Nat.le_of_ble_eq_true rfl) ?_
    refine r_aload_n (pc2 := 1) 0 dX10_odds_0 rfl rfl rfl rfl ?_
    refine r_iconst (pc2 := 2) (v := 0) dX10_odds_1 (by decide) rfl ?_
    refine r_putfX (pc2 := 5) (moL (upd v 0 0)) fX10_1 dX10_odds_2 c117 (by decide) (Nat.le_of_ble_eq_true rfl) rfl rfl rfl (fun h z2 o2 c117 => ?_)
    have c118 := (o2 118 (by decide)).trans c118
    have c131 := (o2 131 (by decide)).trans c131
    have c132 := (o2 132 (by decide)).trans c132
    have c133 := (o2 133 (by decide)).trans c133
    have hx := hx.step (a := 117) (by decide) z2 o2
    refine r_aload_n (pc2 := 6) 0 dX10_odds_5 rfl rfl rfl rfl ?_
    refine r_iload_n (pc2 := 7) 1 dX10_odds_6 rfl rfl rfl ?_
    refine r_i2l (pc2 := 8) dX10_odds_7 rfl ?_
    refine r_iload_n (pc2 := 9) 2 dX10_odds_8 rfl rfl rfl ?_
    refine r_i2l (pc2 := 10) dX10_odds_9 rfl ?_
    refine r_callV1 (pc2 := 13) (As := [.long (Int32.toInt64 x), .long (Int32.toInt64 y)]) (st := []) kX10_290 rfl rfl dX10_odds_10 c117 (by decide) rfl rfl (Nat.le_of_ble_eq_true rfl) (by omega) (c_areTwo c117 c118 (by omega)) rfl (fun h2 hq10 => ?_)
    subst hq10
    refine r_if_eq (tgt := 26) (pc2 := 16) dX10_odds_13 (by decide) rfl (fun b13 => ?_) (fun b13 => ?_)
    · skip
      refine r_bipush (pc2 := 28) (v := -2) dX10_odds_26 (by decide) rfl ?_
      exact r_iret rfl dX10_odds_28 ⟨by rw [oddsF, if_neg (fun z => h1 z.1)], (upd v 0 0), ⟨rfl, rfl, rfl⟩, ⟨c117, c118, hx.get (by decide) k119, hx.get (by decide) k120, ⟨_, hx.get (by decide) k121⟩, ⟨_, hx.get (by decide) k122⟩, ⟨_, hx.get (by decide) k123⟩, ⟨_, hx.get (by decide) k124⟩, ⟨_, hx.get (by decide) k125⟩, ⟨_, hx.get (by decide) k126⟩, ⟨_, hx.get (by decide) k127⟩, ⟨_, hx.get (by decide) k128⟩, ⟨_, hx.get (by decide) k129⟩, ⟨_, hx.get (by decide) k130⟩, ⟨_, c131⟩, ⟨_, c132⟩, ⟨_, c133⟩, ⟨_, hx.get (by decide) k134⟩, ⟨_, hx.get (by decide) k135⟩, hx.get (by decide) k136, hx.get (by decide) k137, hx.get (by decide) k138⟩, hx.mono (by decide)⟩
    · exact absurd (if0 h1) b13
set_option maxRecDepth 20000 in
set_option maxHeartbeats 1000000 in
theorem ref_hint {E : EnvT} {d : Nat} {h0 : Hp} {v : Nat → Int32} {a : Nat → Nat} {hi : Nat → Int32} {tp : Nat → Nat} {rs rm : Nat → Int32} {nu : Nat → Int64} {x y w : Int32} (hR : RS h0 v a hi tp rs rm nu) (hA : AIN a) (hd : 20 ≤ d) : Cn E mX10_hint d [.ref 117, .int x, .int y, .int w] h0 (RP (.int (hintF a x y w)) h0 v (hintR a x y w) hi tp rs rm nu) := by
  obtain ⟨k117, k118, k119, k120, ⟨f121, k121⟩, ⟨f122, k122⟩, ⟨f123, k123⟩, ⟨f124, k124⟩, ⟨f125, k125⟩, ⟨f126, k126⟩, ⟨f127, k127⟩, ⟨f128, k128⟩, ⟨f129, k129⟩, ⟨f130, k130⟩, ⟨f131, k131⟩, ⟨f132, k132⟩, ⟨f133, k133⟩, ⟨f134, k134⟩, ⟨f135, k135⟩, k136, k137, k138⟩ := hR
  have c117 := k117
  have c118 := k118
  have c124 := k124
  have c131 := k131
  have c132 := k132
  have c133 := k133
  have hx : Ex [117, 118, 124, 131, 132, 133] h0 h0 := Ex.rf
  have hP := hA.P
  by_cases h1 : (0 ≤ x.toInt64 ∧ x.toInt64 ≤ (nI (a 4) - 1).toInt64) ∧ (0 ≤ y.toInt64 ∧ y.toInt64 ≤ (nI (a 4) - 1).toInt64) ∧ x.toInt64 ≠ y.toInt64
  · by_cases hw : inR 0 1 w
    · have hc : hintC a x y w := ⟨h1, hw⟩
      have eF : hintF a x y w = waysF (hintR a x y w) := by rw [hintF, if_pos hc]
      rw [eF, hintR, if_pos hc]
      obtain ⟨p, hp, rfl⟩ := inP_of (by omega) h1.1
      obtain ⟨q, hq, rfl⟩ := inP_of (by omega) h1.2.1
      have hpq : p ≠ q := fun z => h1.2.2 (by rw [z])
      obtain ⟨i, i0, i1, rfl⟩ := inR_of (by decide) (by decide) hw
      rw [nI_clamp (by omega), nI_clamp (by omega), nI_clamp (by omega)]
      have hB : AIN (hintN a p q i) := hA.hint (by omega) (by omega)
      have hK : SOK (hintN a p q i) (keepV a) := SOK.of hA.2.1 (hintN_out (by omega) (by omega) (Or.inl (by decide))) (hintN_out (by omega) (by omega) (Or.inl (by decide)))
      have hD : AIN (notesN (hintN a p q i) (keepV a)) := hB.notes hK
      rcases (show i = 0 ∨ i = 1 by omega) with rfl | rfl
      · skip
        refine Cn.go (ls := [.ref 117, .int (nI p), .int (nI q), .int 0]) (by decide +kernel) rfl (Nat.le_of_ble_eq_true rfl) ?_
        refine r_aload_n (pc2 := 1) 0 dX10_hint_0 rfl rfl rfl rfl ?_
        refine r_iconst (pc2 := 2) (v := 0) dX10_hint_1 (by decide) rfl ?_
        refine r_putfX (pc2 := 5) (moL (upd v 0 0)) fX10_1 dX10_hint_2 c117 (by decide) (Nat.le_of_ble_eq_true rfl) rfl rfl rfl (fun h z2 o2 c117 => ?_)
        have c118 := (o2 118 (by decide)).trans c118
        have c124 := (o2 124 (by decide)).trans c124
        have c131 := (o2 131 (by decide)).trans c131
        have c132 := (o2 132 (by decide)).trans c132
        have c133 := (o2 133 (by decide)).trans c133
        have hx := hx.step (a := 117) (by decide) z2 o2
        refine r_aload_n (pc2 := 6) 0 dX10_hint_5 rfl rfl rfl rfl ?_
        refine r_iload_n (pc2 := 7) 1 dX10_hint_6 rfl rfl rfl ?_
        refine r_i2l (pc2 := 8) dX10_hint_7 rfl ?_
        refine r_iload_n (pc2 := 9) 2 dX10_hint_8 rfl rfl rfl ?_
        refine r_i2l (pc2 := 10) dX10_hint_9 rfl ?_
        refine r_callV1 (pc2 := 13) (As := [.long (Int32.toInt64 (nI p)), .long (Int32.toInt64 (nI q))]) (st := []) kX10_290 rfl rfl dX10_hint_10 c117 (by decide) rfl rfl (Nat.le_of_ble_eq_true rfl) (by omega) (c_areTwo c117 c118 (by omega)) rfl (fun h2 hq10 => ?_)
        subst hq10
        refine r_if_eq (tgt := 26) (pc2 := 16) dX10_hint_13 (by decide) rfl (fun b13 => ?_) (fun b13 => ?_)
        · exact absurd b13 (if1 h1)
        · skip
          refine r_iload_n (pc2 := 17) 3 dX10_hint_16 rfl rfl rfl ?_
          refine r_i2l (pc2 := 18) dX10_hint_17 rfl ?_
          refine r_lconst (pc2 := 19) (v := 0) dX10_hint_18 (by decide) rfl ?_
          refine r_lconst (pc2 := 20) (v := 1) dX10_hint_19 (by decide) rfl ?_
          refine r_callS1 (pc2 := 23) (As := [.long (Int32.toInt64 0), .long 0, .long 1]) (st := []) kX10_152 dX10_hint_20 rfl rfl (Nat.le_of_ble_eq_true rfl) (by omega) (c_within (Int32.toInt64 0) 0 1) rfl (fun h2 hq20 => ?_)
          subst hq20
          refine r_if_ne (tgt := 29) (pc2 := 26) dX10_hint_23 (by decide) rfl (fun b23 => ?_) (fun b23 => ?_)
          · skip
            refine r_aload_n (pc2 := 30) 0 dX10_hint_29 rfl rfl rfl rfl ?_
            refine r_callV0 (pc2 := 33) (As := []) (st := []) kX10_279 rfl rfl dX10_hint_30 c117 (by decide) rfl rfl (Nat.le_of_ble_eq_true rfl) (by omega) (c_keeps c117 c118 c124) rfl (fun h hq30 => ?_)
            obtain ⟨hxk, c124⟩ := hq30
            have c117 := hxk.get (by decide) c117
            have c118 := hxk.get (by decide) c118
            have c131 := hxk.get (by decide) c131
            have c132 := hxk.get (by decide) c132
            have c133 := hxk.get (by decide) c133
            have hx := hx.trans hxk (by decide)
            refine r_aload_n (pc2 := 34) 0 dX10_hint_33 rfl rfl rfl rfl ?_
            refine r_getf (pc2 := 37) (v := .ref 118) fX10_13 dX10_hint_34 c117 (by decide) rfl rfl ?_
            refine r_iload_n (pc2 := 38) 1 dX10_hint_37 rfl rfl rfl ?_
            refine r_iload_n (pc2 := 39) 2 dX10_hint_38 rfl rfl rfl ?_
            refine r_iload_n (pc2 := 40) 3 dX10_hint_39 rfl rfl rfl ?_
            refine r_iconst (pc2 := 41) (v := 1) dX10_hint_40 (by decide) rfl ?_
            refine r_icmp_ne (tgt := 48) (pc2 := 44) dX10_hint_41 (by decide) rfl (fun b41 => ?_) (fun b41 => ?_)
            · skip
              refine r_iconst (pc2 := 49) (v := 0) dX10_hint_48 (by decide) rfl ?_
              refine r_callS0 (pc2 := 52) (As := [.ref 118, .int (nI p), .int (nI q), .int 0]) (st := []) kX10_199 dX10_hint_49 rfl rfl (Nat.le_of_ble_eq_true rfl) (by omega) (c_hint118_0 (p := p) (q := q) c118 (by omega) (by omega) hpq hA.bd hA.ub) rfl (fun h hq49 => ?_)
              obtain ⟨hx3, c118⟩ := hq49
              have c117 := hx3.get (by decide) c117
              have c124 := hx3.get (by decide) c124
              have c131 := hx3.get (by decide) c131
              have c132 := hx3.get (by decide) c132
              have c133 := hx3.get (by decide) c133
              have hx := hx.trans hx3 (by decide)
              refine r_aload_n (pc2 := 53) 0 dX10_hint_52 rfl rfl rfl rfl ?_
              refine r_callV0 (pc2 := 56) (As := []) (st := []) kX10_285 rfl rfl dX10_hint_53 c117 (by decide) rfl rfl (Nat.le_of_ble_eq_true rfl) (by omega) (c_notes (w := keepV a) c117 c118 c124 keepV_hw hB.nd) rfl (fun h hq53 => ?_)
              obtain ⟨hxn, c118⟩ := hq53
              have c117 := hxn.get (by decide) c117
              have c124 := hxn.get (by decide) c124
              have c131 := hxn.get (by decide) c131
              have c132 := hxn.get (by decide) c132
              have c133 := hxn.get (by decide) c133
              have hx := hx.trans hxn (by decide)
              refine r_aload_n (pc2 := 57) 0 dX10_hint_56 rfl rfl rfl rfl ?_
              refine r_iconst (pc2 := 58) (v := -1) dX10_hint_57 (by decide) rfl ?_
              refine r_iconst (pc2 := 59) (v := -1) dX10_hint_58 (by decide) rfl ?_
              refine r_callV1 (pc2 := 62) (As := [.int (-1), .int (-1)]) (st := []) kX10_294 rfl rfl dX10_hint_59 c117 (by decide) rfl rfl (Nat.le_of_ble_eq_true rfl) (by omega) (c_laysWays c117 c118 c131 c132 c133 (Or.inl rfl) hD.P hD.bd hD.ub (by omega)) rfl (fun h hq59 => ?_)
              obtain ⟨hxl, c117, ⟨f1, c131⟩, ⟨f2, c132, hf2⟩, f3, c133, hf3⟩ := hq59
              have c118 := hxl.get (by decide) c118
              have c124 := hxl.get (by decide) c124
              have hx := hx.trans hxl (by decide)
              exact r_iret rfl dX10_hint_62 ⟨rfl, (wvv (upd v 0 0) (notesN (hintN a p q 0) (keepV a)) (-1) (-1)), ⟨rfl, rfl, rfl⟩, ⟨c117, c118, hx.get (by decide) k119, hx.get (by decide) k120, ⟨_, hx.get (by decide) k121⟩, ⟨_, hx.get (by decide) k122⟩, ⟨_, hx.get (by decide) k123⟩, ⟨_, c124⟩, ⟨_, hx.get (by decide) k125⟩, ⟨_, hx.get (by decide) k126⟩, ⟨_, hx.get (by decide) k127⟩, ⟨_, hx.get (by decide) k128⟩, ⟨_, hx.get (by decide) k129⟩, ⟨_, hx.get (by decide) k130⟩, ⟨_, c131⟩, ⟨_, c132⟩, ⟨_, c133⟩, ⟨_, hx.get (by decide) k134⟩, ⟨_, hx.get (by decide) k135⟩, hx.get (by decide) k136, hx.get (by decide) k137, hx.get (by decide) k138⟩, hx.mono (by decide)⟩
            · exact absurd b41 (by decide)
          · exact absurd b23 (if1 hw)
      · skip
        refine Cn.go (ls := [.ref 117, .int (nI p), .int (nI q), .int 1]) (by decide +kernel) rfl (Nat.le_of_ble_eq_true rfl) ?_
        refine r_aload_n (pc2 := 1) 0 dX10_hint_0 rfl rfl rfl rfl ?_
        refine r_iconst (pc2 := 2) (v := 0) dX10_hint_1 (by decide) rfl ?_
        refine r_putfX (pc2 := 5) (moL (upd v 0 0)) fX10_1 dX10_hint_2 c117 (by decide) (Nat.le_of_ble_eq_true rfl) rfl rfl rfl (fun h z2 o2 c117 => ?_)
        have c118 := (o2 118 (by decide)).trans c118
        have c124 := (o2 124 (by decide)).trans c124
        have c131 := (o2 131 (by decide)).trans c131
        have c132 := (o2 132 (by decide)).trans c132
        have c133 := (o2 133 (by decide)).trans c133
        have hx := hx.step (a := 117) (by decide) z2 o2
        refine r_aload_n (pc2 := 6) 0 dX10_hint_5 rfl rfl rfl rfl ?_
        refine r_iload_n (pc2 := 7) 1 dX10_hint_6 rfl rfl rfl ?_
        refine r_i2l (pc2 := 8) dX10_hint_7 rfl ?_
        refine r_iload_n (pc2 := 9) 2 dX10_hint_8 rfl rfl rfl ?_
        refine r_i2l (pc2 := 10) dX10_hint_9 rfl ?_
        refine r_callV1 (pc2 := 13) (As := [.long (Int32.toInt64 (nI p)), .long (Int32.toInt64 (nI q))]) (st := []) kX10_290 rfl rfl dX10_hint_10 c117 (by decide) rfl rfl (Nat.le_of_ble_eq_true rfl) (by omega) (c_areTwo c117 c118 (by omega)) rfl (fun h2 hq10 => ?_)
        subst hq10
        refine r_if_eq (tgt := 26) (pc2 := 16) dX10_hint_13 (by decide) rfl (fun b13 => ?_) (fun b13 => ?_)
        · exact absurd b13 (if1 h1)
        · skip
          refine r_iload_n (pc2 := 17) 3 dX10_hint_16 rfl rfl rfl ?_
          refine r_i2l (pc2 := 18) dX10_hint_17 rfl ?_
          refine r_lconst (pc2 := 19) (v := 0) dX10_hint_18 (by decide) rfl ?_
          refine r_lconst (pc2 := 20) (v := 1) dX10_hint_19 (by decide) rfl ?_
          refine r_callS1 (pc2 := 23) (As := [.long (Int32.toInt64 1), .long 0, .long 1]) (st := []) kX10_152 dX10_hint_20 rfl rfl (Nat.le_of_ble_eq_true rfl) (by omega) (c_within (Int32.toInt64 1) 0 1) rfl (fun h2 hq20 => ?_)
          subst hq20
          refine r_if_ne (tgt := 29) (pc2 := 26) dX10_hint_23 (by decide) rfl (fun b23 => ?_) (fun b23 => ?_)
          · skip
            refine r_aload_n (pc2 := 30) 0 dX10_hint_29 rfl rfl rfl rfl ?_
            refine r_callV0 (pc2 := 33) (As := []) (st := []) kX10_279 rfl rfl dX10_hint_30 c117 (by decide) rfl rfl (Nat.le_of_ble_eq_true rfl) (by omega) (c_keeps c117 c118 c124) rfl (fun h hq30 => ?_)
            obtain ⟨hxk, c124⟩ := hq30
            have c117 := hxk.get (by decide) c117
            have c118 := hxk.get (by decide) c118
            have c131 := hxk.get (by decide) c131
            have c132 := hxk.get (by decide) c132
            have c133 := hxk.get (by decide) c133
            have hx := hx.trans hxk (by decide)
            refine r_aload_n (pc2 := 34) 0 dX10_hint_33 rfl rfl rfl rfl ?_
            refine r_getf (pc2 := 37) (v := .ref 118) fX10_13 dX10_hint_34 c117 (by decide) rfl rfl ?_
            refine r_iload_n (pc2 := 38) 1 dX10_hint_37 rfl rfl rfl ?_
            refine r_iload_n (pc2 := 39) 2 dX10_hint_38 rfl rfl rfl ?_
            refine r_iload_n (pc2 := 40) 3 dX10_hint_39 rfl rfl rfl ?_
            refine r_iconst (pc2 := 41) (v := 1) dX10_hint_40 (by decide) rfl ?_
            refine r_icmp_ne (tgt := 48) (pc2 := 44) dX10_hint_41 (by decide) rfl (fun b41 => ?_) (fun b41 => ?_)
            · exact absurd b41 (by decide)
            · skip
              refine r_iconst (pc2 := 45) (v := 1) dX10_hint_44 (by decide) rfl ?_
              refine r_goto (pc2 := 49) dX10_hint_45 (by decide) ?_
              refine r_callS0 (pc2 := 52) (As := [.ref 118, .int (nI p), .int (nI q), .int 1]) (st := []) kX10_199 dX10_hint_49 rfl rfl (Nat.le_of_ble_eq_true rfl) (by omega) (c_hint118_1 (p := p) (q := q) c118 (by omega) (by omega) hpq hA.bd hA.ub) rfl (fun h hq49 => ?_)
              obtain ⟨hx3, c118⟩ := hq49
              have c117 := hx3.get (by decide) c117
              have c124 := hx3.get (by decide) c124
              have c131 := hx3.get (by decide) c131
              have c132 := hx3.get (by decide) c132
              have c133 := hx3.get (by decide) c133
              have hx := hx.trans hx3 (by decide)
              refine r_aload_n (pc2 := 53) 0 dX10_hint_52 rfl rfl rfl rfl ?_
              refine r_callV0 (pc2 := 56) (As := []) (st := []) kX10_285 rfl rfl dX10_hint_53 c117 (by decide) rfl rfl (Nat.le_of_ble_eq_true rfl) (by omega) (c_notes (w := keepV a) c117 c118 c124 keepV_hw hB.nd) rfl (fun h hq53 => ?_)
              obtain ⟨hxn, c118⟩ := hq53
              have c117 := hxn.get (by decide) c117
              have c124 := hxn.get (by decide) c124
              have c131 := hxn.get (by decide) c131
              have c132 := hxn.get (by decide) c132
              have c133 := hxn.get (by decide) c133
              have hx := hx.trans hxn (by decide)
              refine r_aload_n (pc2 := 57) 0 dX10_hint_56 rfl rfl rfl rfl ?_
              refine r_iconst (pc2 := 58) (v := -1) dX10_hint_57 (by decide) rfl ?_
              refine r_iconst (pc2 := 59) (v := -1) dX10_hint_58 (by decide) rfl ?_
              refine r_callV1 (pc2 := 62) (As := [.int (-1), .int (-1)]) (st := []) kX10_294 rfl rfl dX10_hint_59 c117 (by decide) rfl rfl (Nat.le_of_ble_eq_true rfl) (by omega) (c_laysWays c117 c118 c131 c132 c133 (Or.inl rfl) hD.P hD.bd hD.ub (by omega)) rfl (fun h hq59 => ?_)
              obtain ⟨hxl, c117, ⟨f1, c131⟩, ⟨f2, c132, hf2⟩, f3, c133, hf3⟩ := hq59
              have c118 := hxl.get (by decide) c118
              have c124 := hxl.get (by decide) c124
              have hx := hx.trans hxl (by decide)
              exact r_iret rfl dX10_hint_62 ⟨rfl, (wvv (upd v 0 0) (notesN (hintN a p q 1) (keepV a)) (-1) (-1)), ⟨rfl, rfl, rfl⟩, ⟨c117, c118, hx.get (by decide) k119, hx.get (by decide) k120, ⟨_, hx.get (by decide) k121⟩, ⟨_, hx.get (by decide) k122⟩, ⟨_, hx.get (by decide) k123⟩, ⟨_, c124⟩, ⟨_, hx.get (by decide) k125⟩, ⟨_, hx.get (by decide) k126⟩, ⟨_, hx.get (by decide) k127⟩, ⟨_, hx.get (by decide) k128⟩, ⟨_, hx.get (by decide) k129⟩, ⟨_, hx.get (by decide) k130⟩, ⟨_, c131⟩, ⟨_, c132⟩, ⟨_, c133⟩, ⟨_, hx.get (by decide) k134⟩, ⟨_, hx.get (by decide) k135⟩, hx.get (by decide) k136, hx.get (by decide) k137, hx.get (by decide) k138⟩, hx.mono (by decide)⟩
          · exact absurd b23 (if1 hw)
    · rw [hintR, if_neg (fun z => hw z.2)]
      refine Cn.go (ls := [.ref 117, .int x, .int y, .int w]) (by decide +kernel) rfl (Nat.le_of_ble_eq_true rfl) ?_
      refine r_aload_n (pc2 := 1) 0 dX10_hint_0 rfl rfl rfl rfl ?_
      refine r_iconst (pc2 := 2) (v := 0) dX10_hint_1 (by decide) rfl ?_
      refine r_putfX (pc2 := 5) (moL (upd v 0 0)) fX10_1 dX10_hint_2 c117 (by decide) (Nat.le_of_ble_eq_true rfl) rfl rfl rfl (fun h z2 o2 c117 => ?_)
      have c118 := (o2 118 (by decide)).trans c118
      have c124 := (o2 124 (by decide)).trans c124
      have c131 := (o2 131 (by decide)).trans c131
      have c132 := (o2 132 (by decide)).trans c132
      have c133 := (o2 133 (by decide)).trans c133
      have hx := hx.step (a := 117) (by decide) z2 o2
      refine r_aload_n (pc2 := 6) 0 dX10_hint_5 rfl rfl rfl rfl ?_
      refine r_iload_n (pc2 := 7) 1 dX10_hint_6 rfl rfl rfl ?_
      refine r_i2l (pc2 := 8) dX10_hint_7 rfl ?_
      refine r_iload_n (pc2 := 9) 2 dX10_hint_8 rfl rfl rfl ?_
      refine r_i2l (pc2 := 10) dX10_hint_9 rfl ?_
      refine r_callV1 (pc2 := 13) (As := [.long (Int32.toInt64 x), .long (Int32.toInt64 y)]) (st := []) kX10_290 rfl rfl dX10_hint_10 c117 (by decide) rfl rfl (Nat.le_of_ble_eq_true rfl) (by omega) (c_areTwo c117 c118 (by omega)) rfl (fun h2 hq10 => ?_)
      subst hq10
      refine r_if_eq (tgt := 26) (pc2 := 16) dX10_hint_13 (by decide) rfl (fun b13 => ?_) (fun b13 => ?_)
      · exact absurd b13 (if1 h1)
      · skip
        refine r_iload_n (pc2 := 17) 3 dX10_hint_16 rfl rfl rfl ?_
        refine r_i2l (pc2 := 18) dX10_hint_17 rfl ?_
        refine r_lconst (pc2 := 19) (v := 0) dX10_hint_18 (by decide) rfl ?_
        refine r_lconst (pc2 := 20) (v := 1) dX10_hint_19 (by decide) rfl ?_
        refine r_callS1 (pc2 := 23) (As := [.long (Int32.toInt64 w), .long 0, .long 1]) (st := []) kX10_152 dX10_hint_20 rfl rfl (Nat.le_of_ble_eq_true rfl) (by omega) (c_within (Int32.toInt64 w) 0 1) rfl (fun h2 hq20 => ?_)
        subst hq20
        refine r_if_ne (tgt := 29) (pc2 := 26) dX10_hint_23 (by decide) rfl (fun b23 => ?_) (fun b23 => ?_)
        · exact absurd (if0 hw) b23
        · skip
          refine r_bipush (pc2 := 28) (v := -11) dX10_hint_26 (by decide) rfl ?_
          exact r_iret rfl dX10_hint_28 ⟨by rw [hintF, if_neg (fun z => hw z.2)], (upd v 0 0), ⟨rfl, rfl, rfl⟩, ⟨c117, c118, hx.get (by decide) k119, hx.get (by decide) k120, ⟨_, hx.get (by decide) k121⟩, ⟨_, hx.get (by decide) k122⟩, ⟨_, hx.get (by decide) k123⟩, ⟨_, c124⟩, ⟨_, hx.get (by decide) k125⟩, ⟨_, hx.get (by decide) k126⟩, ⟨_, hx.get (by decide) k127⟩, ⟨_, hx.get (by decide) k128⟩, ⟨_, hx.get (by decide) k129⟩, ⟨_, hx.get (by decide) k130⟩, ⟨_, c131⟩, ⟨_, c132⟩, ⟨_, c133⟩, ⟨_, hx.get (by decide) k134⟩, ⟨_, hx.get (by decide) k135⟩, hx.get (by decide) k136, hx.get (by decide) k137, hx.get (by decide) k138⟩, hx.mono (by decide)⟩
  · rw [hintR, if_neg (fun z => h1 z.1)]
    refine Cn.go (ls := [.ref 117, .int x, .int y, .int w]) (by decide +kernel) rfl (Nat.le_of_ble_eq_true rfl) ?_
    refine r_aload_n (pc2 := 1) 0 dX10_hint_0 rfl rfl rfl rfl ?_
    refine r_iconst (pc2 := 2) (v := 0) dX10_hint_1 (by decide) rfl ?_
    refine r_putfX (pc2 := 5) (moL (upd v 0 0)) fX10_1 dX10_hint_2 c117 (by decide) (Nat.le_of_ble_eq_true rfl) rfl rfl rfl (fun h z2 o2 c117 => ?_)
    have c118 := (o2 118 (by decide)).trans c118
    have c124 := (o2 124 (by decide)).trans c124
    have c131 := (o2 131 (by decide)).trans c131
    have c132 := (o2 132 (by decide)).trans c132
    have c133 := (o2 133 (by decide)).trans c133
    have hx := hx.step (a := 117) (by decide) z2 o2
    refine r_aload_n (pc2 := 6) 0 dX10_hint_5 rfl rfl rfl rfl ?_
    refine r_iload_n (pc2 := 7) 1 dX10_hint_6 rfl rfl rfl ?_
    refine r_i2l (pc2 := 8) dX10_hint_7 rfl ?_
    refine r_iload_n (pc2 := 9) 2 dX10_hint_8 rfl rfl rfl ?_
    refine r_i2l (pc2 := 10) dX10_hint_9 rfl ?_
    refine r_callV1 (pc2 := 13) (As := [.long (Int32.toInt64 x), .long (Int32.toInt64 y)]) (st := []) kX10_290 rfl rfl dX10_hint_10 c117 (by decide) rfl rfl (Nat.le_of_ble_eq_true rfl) (by omega) (c_areTwo c117 c118 (by omega)) rfl (fun h2 hq10 => ?_)
    subst hq10
    refine r_if_eq (tgt := 26) (pc2 := 16) dX10_hint_13 (by decide) rfl (fun b13 => ?_) (fun b13 => ?_)
    · skip
      refine r_bipush (pc2 := 28) (v := -11) dX10_hint_26 (by decide) rfl ?_
      exact r_iret rfl dX10_hint_28 ⟨by rw [hintF, if_neg (fun z => h1 z.1)], (upd v 0 0), ⟨rfl, rfl, rfl⟩, ⟨c117, c118, hx.get (by decide) k119, hx.get (by decide) k120, ⟨_, hx.get (by decide) k121⟩, ⟨_, hx.get (by decide) k122⟩, ⟨_, hx.get (by decide) k123⟩, ⟨_, c124⟩, ⟨_, hx.get (by decide) k125⟩, ⟨_, hx.get (by decide) k126⟩, ⟨_, hx.get (by decide) k127⟩, ⟨_, hx.get (by decide) k128⟩, ⟨_, hx.get (by decide) k129⟩, ⟨_, hx.get (by decide) k130⟩, ⟨_, c131⟩, ⟨_, c132⟩, ⟨_, c133⟩, ⟨_, hx.get (by decide) k134⟩, ⟨_, hx.get (by decide) k135⟩, hx.get (by decide) k136, hx.get (by decide) k137, hx.get (by decide) k138⟩, hx.mono (by decide)⟩
    · exact absurd (if0 h1) b13
