/-! soonest, way, lists -/
def soonF (a dx : Nat → Nat) (y : Int32) : Int32 := if vS (a 3) y.toInt64 then (if dx y.toNatClampNeg = 268435456 then -1 else nI (dx y.toNatClampNeg)) else -3
def wayF (a dx : Nat → Nat) (gl : Nat → List Nat) (y i : Int32) : Int32 := if vS (a 3) y.toInt64 ∧ 0 ≤ i then stI (dx y.toNatClampNeg) (gl y.toNatClampNeg) i.toNatClampNeg else -3
abbrev lisC (a dx : Nat → Nat) (rs : Nat → Int32) (t y : Int32) : Prop := (noTrayF rs t = 0 ∧ vS (a 3) y.toInt64) ∧ dx y.toNatClampNeg < 268435456
def lisN (dx : Nat → Nat) (rm : Nat → Int32) (t y : Int32) : Nat := min (dx y.toNatClampNeg) (rowN rm t.toNatClampNeg)
def lisF (a dx : Nat → Nat) (rs rm : Nat → Int32) (t y : Int32) : Int32 := if noTrayF rs t ≠ 0 then noTrayF rs t else if vS (a 3) y.toInt64 then (if dx y.toNatClampNeg < 268435456 then nI (lisN dx rm t y) else -5) else -3
def lisV (a dx : Nat → Nat) (gl : Nat → List Nat) (rs rm : Nat → Int32) (nu : Nat → Int64) (t y : Int32) : Nat → Int64 := if lisC a dx rs t y then fillN nu (40 * t.toNatClampNeg) (lisN dx rm t y) (fun k => lN ((gl y.toNatClampNeg).getD k 0)) else nu
set_option maxRecDepth 20000 in
set_option maxHeartbeats 1000000 in
theorem ref_soonest {E : EnvT} {d : Nat} {h0 : Hp} {v : Nat → Int32} {a : Nat → Nat} {hi : Nat → Int32} {tp : Nat → Nat} {rs rm : Nat → Int32} {nu : Nat → Int64} {dx : Nat → Nat} {gl : Nat → List Nat} {y : Int32} (hR : RS h0 v a hi tp rs rm nu) (hA : AIN a) (hX : DX a dx gl) (hd : 6 ≤ d) : Cn E mX10_soonest d [.ref 117, .int y] h0 (RP (.int (soonF a dx y)) h0 v a hi tp rs rm nu) := by
  obtain ⟨k117, k118, k119, k120, ⟨f121, k121⟩, ⟨f122, k122⟩, ⟨f123, k123⟩, ⟨f124, k124⟩, ⟨f125, k125⟩, ⟨f126, k126⟩, ⟨f127, k127⟩, ⟨f128, k128⟩, ⟨f129, k129⟩, ⟨f130, k130⟩, ⟨f131, k131⟩, ⟨f132, k132⟩, ⟨f133, k133⟩, ⟨f134, k134⟩, ⟨f135, k135⟩, k136, k137, k138⟩ := hR
  obtain ⟨fx0, e127⟩ : ∃ z, f127 = nA z := ⟨_, nA_of f127⟩
  rw [e127] at k127
  have c117 := k117
  have c118 := k118
  have c122 := k122
  have c123 := k123
  have c125 := k125
  have c126 := k126
  have c127 := k127
  have c128 := k128
  have hx : Ex [117, 118, 122, 123, 125, 126, 127, 128] h0 h0 := Ex.rf
  by_cases hv : vS (a 3) y.toInt64
  · obtain ⟨n, hn, hn16, rfl⟩ := vS_i hA.G hv
    have en : (nI n).toNatClampNeg = n := nI_clamp (by omega)
    have hdl := (hX n).1.le
    by_cases hz : dx n = 268435456
    · skip
      refine Cn.go (ls := [.ref 117, .int (nI n), .float 0]) (by decide +kernel) rfl (Nat.le_of_ble_eq_true rfl) ?_
      refine r_aload_n (pc2 := 1) 0 dX10_soonest_0 rfl rfl rfl rfl ?_
      refine r_iconst (pc2 := 2) (v := 0) dX10_soonest_1 (by decide) rfl ?_
      refine r_putfX (pc2 := 5) (moL (upd v 0 0)) fX10_1 dX10_soonest_2 c117 (by decide) (Nat.le_of_ble_eq_true rfl) rfl rfl rfl (fun h z2 o2 c117 => ?_)
      have c118 := (o2 118 (by decide)).trans c118
      have c122 := (o2 122 (by decide)).trans c122
      have c123 := (o2 123 (by decide)).trans c123
      have c125 := (o2 125 (by decide)).trans c125
      have c126 := (o2 126 (by decide)).trans c126
      have c127 := (o2 127 (by decide)).trans c127
      have c128 := (o2 128 (by decide)).trans c128
      have hx := hx.step (a := 117) (by decide) z2 o2
      refine r_aload_n (pc2 := 6) 0 dX10_soonest_5 rfl rfl rfl rfl ?_
      refine r_iload_n (pc2 := 7) 1 dX10_soonest_6 rfl rfl rfl ?_
      refine r_i2l (pc2 := 8) dX10_soonest_7 rfl ?_
      refine r_callV1 (pc2 := 11) (As := [.long (Int32.toInt64 (nI n))]) (st := []) kX10_259 rfl rfl dX10_soonest_8 c117 (by decide) rfl rfl (Nat.le_of_ble_eq_true rfl) (by omega) (c_isSet c117 c118 hA.G (by omega)) rfl (fun h2 hq8 => ?_)
      subst hq8
      refine r_if_ne (tgt := 17) (pc2 := 14) dX10_soonest_11 (by decide) rfl (fun b11 => ?_) (fun b11 => ?_)
      · skip
        refine r_aload_n (pc2 := 18) 0 dX10_soonest_17 rfl rfl rfl rfl ?_
        refine r_iload_n (pc2 := 19) 1 dX10_soonest_18 rfl rfl rfl ?_
        refine r_callV1 (pc2 := 22) (As := [.int (nI n)]) (st := []) kX10_361 rfl rfl dX10_soonest_19 c117 (by decide) rfl rfl (Nat.le_of_ble_eq_true rfl) (by omega) (c_laysFar (st := n) (x := dx n) c117 c118 c122 c123 c125 c126 c127 c128 hA hn16 (hX n).1 (by omega)) rfl (fun h hq19 => ?_)
        obtain ⟨hxf, Q, g2, fx, ⟨c117, ⟨f3, c125, hfQ⟩, c126, ⟨kn3, c128⟩, ⟨f4, c122⟩, ⟨w4, c123⟩, hnd, hmem, hgc, hq0⟩, c127, hFD⟩ := hq19
        have c118 := hxf.get (by decide) c118
        have hx := hx.trans hxf (by decide)
        refine r_istore_n (pc2 := 23) (ls2 := [.ref 117, .int (nI n), .int (nI (dx n))]) 2 dX10_soonest_22 rfl (by decide) rfl rfl rfl ?_
        refine r_iload_n (pc2 := 24) 2 dX10_soonest_23 rfl rfl rfl ?_
        refine r_ldcw (pc2 := 27) (v := 268435456) qX10_350 dX10_soonest_24 rfl ?_
        refine r_icmp_ne (tgt := 34) (pc2 := 30) dX10_soonest_27 (by decide) rfl (fun b27 => ?_) (fun b27 => ?_)
        · exact absurd (by rw [hz]; rfl) b27
        · skip
          refine r_iconst (pc2 := 31) (v := -1) dX10_soonest_30 (by decide) rfl ?_
          refine r_goto (pc2 := 35) dX10_soonest_31 (by decide) ?_
          exact r_iret rfl dX10_soonest_35 ⟨by rw [soonF, if_pos hv, en, if_pos hz], (upd (upd v 0 0) 25 (nI Q.length)), ⟨rfl, rfl, rfl⟩, ⟨c117, c118, hx.get (by decide) k119, hx.get (by decide) k120, ⟨_, hx.get (by decide) k121⟩, ⟨_, c122⟩, ⟨_, c123⟩, ⟨_, hx.get (by decide) k124⟩, ⟨_, c125⟩, ⟨_, c126⟩, ⟨_, c127⟩, ⟨_, c128⟩, ⟨_, hx.get (by decide) k129⟩, ⟨_, hx.get (by decide) k130⟩, ⟨_, hx.get (by decide) k131⟩, ⟨_, hx.get (by decide) k132⟩, ⟨_, hx.get (by decide) k133⟩, ⟨_, hx.get (by decide) k134⟩, ⟨_, hx.get (by decide) k135⟩, hx.get (by decide) k136, hx.get (by decide) k137, hx.get (by decide) k138⟩, hx.mono (by decide)⟩
      · exact absurd b11 (if1 hv)
    · skip
      refine Cn.go (ls := [.ref 117, .int (nI n), .float 0]) (by decide +kernel) rfl (Nat.le_of_ble_eq_true rfl) ?_
      refine r_aload_n (pc2 := 1) 0 dX10_soonest_0 rfl rfl rfl rfl ?_
      refine r_iconst (pc2 := 2) (v := 0) dX10_soonest_1 (by decide) rfl ?_
      refine r_putfX (pc2 := 5) (moL (upd v 0 0)) fX10_1 dX10_soonest_2 c117 (by decide) (Nat.le_of_ble_eq_true rfl) rfl rfl rfl (fun h z2 o2 c117 => ?_)
      have c118 := (o2 118 (by decide)).trans c118
      have c122 := (o2 122 (by decide)).trans c122
      have c123 := (o2 123 (by decide)).trans c123
      have c125 := (o2 125 (by decide)).trans c125
      have c126 := (o2 126 (by decide)).trans c126
      have c127 := (o2 127 (by decide)).trans c127
      have c128 := (o2 128 (by decide)).trans c128
      have hx := hx.step (a := 117) (by decide) z2 o2
      refine r_aload_n (pc2 := 6) 0 dX10_soonest_5 rfl rfl rfl rfl ?_
      refine r_iload_n (pc2 := 7) 1 dX10_soonest_6 rfl rfl rfl ?_
      refine r_i2l (pc2 := 8) dX10_soonest_7 rfl ?_
      refine r_callV1 (pc2 := 11) (As := [.long (Int32.toInt64 (nI n))]) (st := []) kX10_259 rfl rfl dX10_soonest_8 c117 (by decide) rfl rfl (Nat.le_of_ble_eq_true rfl) (by omega) (c_isSet c117 c118 hA.G (by omega)) rfl (fun h2 hq8 => ?_)
      subst hq8
      refine r_if_ne (tgt := 17) (pc2 := 14) dX10_soonest_11 (by decide) rfl (fun b11 => ?_) (fun b11 => ?_)
      · skip
        refine r_aload_n (pc2 := 18) 0 dX10_soonest_17 rfl rfl rfl rfl ?_
        refine r_iload_n (pc2 := 19) 1 dX10_soonest_18 rfl rfl rfl ?_
        refine r_callV1 (pc2 := 22) (As := [.int (nI n)]) (st := []) kX10_361 rfl rfl dX10_soonest_19 c117 (by decide) rfl rfl (Nat.le_of_ble_eq_true rfl) (by omega) (c_laysFar (st := n) (x := dx n) c117 c118 c122 c123 c125 c126 c127 c128 hA hn16 (hX n).1 (by omega)) rfl (fun h hq19 => ?_)
        obtain ⟨hxf, Q, g2, fx, ⟨c117, ⟨f3, c125, hfQ⟩, c126, ⟨kn3, c128⟩, ⟨f4, c122⟩, ⟨w4, c123⟩, hnd, hmem, hgc, hq0⟩, c127, hFD⟩ := hq19
        have c118 := hxf.get (by decide) c118
        have hx := hx.trans hxf (by decide)
        refine r_istore_n (pc2 := 23) (ls2 := [.ref 117, .int (nI n), .int (nI (dx n))]) 2 dX10_soonest_22 rfl (by decide) rfl rfl rfl ?_
        refine r_iload_n (pc2 := 24) 2 dX10_soonest_23 rfl rfl rfl ?_
        refine r_ldcw (pc2 := 27) (v := 268435456) qX10_350 dX10_soonest_24 rfl ?_
        refine r_icmp_ne (tgt := 34) (pc2 := 30) dX10_soonest_27 (by decide) rfl (fun b27 => ?_) (fun b27 => ?_)
        · skip
          refine r_iload_n (pc2 := 35) 2 dX10_soonest_34 rfl rfl rfl ?_
          exact r_iret rfl dX10_soonest_35 ⟨by rw [soonF, if_pos hv, en, if_neg hz], (upd (upd v 0 0) 25 (nI Q.length)), ⟨rfl, rfl, rfl⟩, ⟨c117, c118, hx.get (by decide) k119, hx.get (by decide) k120, ⟨_, hx.get (by decide) k121⟩, ⟨_, c122⟩, ⟨_, c123⟩, ⟨_, hx.get (by decide) k124⟩, ⟨_, c125⟩, ⟨_, c126⟩, ⟨_, c127⟩, ⟨_, c128⟩, ⟨_, hx.get (by decide) k129⟩, ⟨_, hx.get (by decide) k130⟩, ⟨_, hx.get (by decide) k131⟩, ⟨_, hx.get (by decide) k132⟩, ⟨_, hx.get (by decide) k133⟩, ⟨_, hx.get (by decide) k134⟩, ⟨_, hx.get (by decide) k135⟩, hx.get (by decide) k136, hx.get (by decide) k137, hx.get (by decide) k138⟩, hx.mono (by decide)⟩
        · exact absurd ((nI_eq (b := 268435456) (by omega) (by decide)).mp b27) hz
      · exact absurd b11 (if1 hv)
  · skip
    refine Cn.go (ls := [.ref 117, .int y, .float 0]) (by decide +kernel) rfl (Nat.le_of_ble_eq_true rfl) ?_
    refine r_aload_n (pc2 := 1) 0 dX10_soonest_0 rfl rfl rfl rfl ?_
    refine r_iconst (pc2 := 2) (v := 0) dX10_soonest_1 (by decide) rfl ?_
    refine r_putfX (pc2 := 5) (moL (upd v 0 0)) fX10_1 dX10_soonest_2 c117 (by decide) (Nat.le_of_ble_eq_true rfl) rfl rfl rfl (fun h z2 o2 c117 => ?_)
    have c118 := (o2 118 (by decide)).trans c118
    have c122 := (o2 122 (by decide)).trans c122
    have c123 := (o2 123 (by decide)).trans c123
    have c125 := (o2 125 (by decide)).trans c125
    have c126 := (o2 126 (by decide)).trans c126
    have c127 := (o2 127 (by decide)).trans c127
    have c128 := (o2 128 (by decide)).trans c128
    have hx := hx.step (a := 117) (by decide) z2 o2
    refine r_aload_n (pc2 := 6) 0 dX10_soonest_5 rfl rfl rfl rfl ?_
    refine r_iload_n (pc2 := 7) 1 dX10_soonest_6 rfl rfl rfl ?_
    refine r_i2l (pc2 := 8) dX10_soonest_7 rfl ?_
    refine r_callV1 (pc2 := 11) (As := [.long (Int32.toInt64 y)]) (st := []) kX10_259 rfl rfl dX10_soonest_8 c117 (by decide) rfl rfl (Nat.le_of_ble_eq_true rfl) (by omega) (c_isSet c117 c118 hA.G (by omega)) rfl (fun h2 hq8 => ?_)
    subst hq8
    refine r_if_ne (tgt := 17) (pc2 := 14) dX10_soonest_11 (by decide) rfl (fun b11 => ?_) (fun b11 => ?_)
    · exact absurd (if0 hv) b11
    · skip
      refine r_bipush (pc2 := 16) (v := -3) dX10_soonest_14 (by decide) rfl ?_
      exact r_iret rfl dX10_soonest_16 ⟨by rw [soonF, if_neg hv], (upd v 0 0), ⟨rfl, rfl, rfl⟩, ⟨c117, c118, hx.get (by decide) k119, hx.get (by decide) k120, ⟨_, hx.get (by decide) k121⟩, ⟨_, c122⟩, ⟨_, c123⟩, ⟨_, hx.get (by decide) k124⟩, ⟨_, c125⟩, ⟨_, c126⟩, ⟨_, c127⟩, ⟨_, c128⟩, ⟨_, hx.get (by decide) k129⟩, ⟨_, hx.get (by decide) k130⟩, ⟨_, hx.get (by decide) k131⟩, ⟨_, hx.get (by decide) k132⟩, ⟨_, hx.get (by decide) k133⟩, ⟨_, hx.get (by decide) k134⟩, ⟨_, hx.get (by decide) k135⟩, hx.get (by decide) k136, hx.get (by decide) k137, hx.get (by decide) k138⟩, hx.mono (by decide)⟩
set_option maxRecDepth 20000 in
set_option maxHeartbeats 1000000 in
theorem ref_way {E : EnvT} {d : Nat} {h0 : Hp} {v : Nat → Int32} {a : Nat → Nat} {hi : Nat → Int32} {tp : Nat → Nat} {rs rm : Nat → Int32} {nu : Nat → Int64} {dx : Nat → Nat} {gl : Nat → List Nat} {y i : Int32} (hR : RS h0 v a hi tp rs rm nu) (hA : AIN a) (hX : DX a dx gl) (hd : 6 ≤ d) : Cn E mX10_way d [.ref 117, .int y, .int i] h0 (RP (.int (wayF a dx gl y i)) h0 v a hi tp rs rm nu) := by
  obtain ⟨k117, k118, k119, k120, ⟨f121, k121⟩, ⟨f122, k122⟩, ⟨f123, k123⟩, ⟨f124, k124⟩, ⟨f125, k125⟩, ⟨f126, k126⟩, ⟨f127, k127⟩, ⟨f128, k128⟩, ⟨f129, k129⟩, ⟨f130, k130⟩, ⟨f131, k131⟩, ⟨f132, k132⟩, ⟨f133, k133⟩, ⟨f134, k134⟩, ⟨f135, k135⟩, k136, k137, k138⟩ := hR
  obtain ⟨fx0, e127⟩ : ∃ z, f127 = nA z := ⟨_, nA_of f127⟩
  rw [e127] at k127
  have c117 := k117
  have c118 := k118
  have c122 := k122
  have c123 := k123
  have c125 := k125
  have c126 := k126
  have c127 := k127
  have c128 := k128
  have hx : Ex [117, 118, 122, 123, 125, 126, 127, 128] h0 h0 := Ex.rf
  by_cases hv : vS (a 3) y.toInt64
  · obtain ⟨n, hn, hn16, rfl⟩ := vS_i hA.G hv
    have en : (nI n).toNatClampNeg = n := nI_clamp (by omega)
    have hdl := (hX n).1.le
    by_cases hi0 : 0 ≤ i
    · obtain ⟨k, hk, rfl⟩ := nI_of (x := i) (by rw [Int32.lt_iff_toInt_lt]; rw [Int32.le_iff_toInt_le] at hi0; omega)
      refine Cn.go (ls := [.ref 117, .int (nI n), .int (nI k)]) (by decide +kernel) rfl (Nat.le_of_ble_eq_true rfl) ?_
      refine r_aload_n (pc2 := 1) 0 dX10_way_0 rfl rfl rfl rfl ?_
      refine r_iconst (pc2 := 2) (v := 0) dX10_way_1 (by decide) rfl ?_
      refine r_putfX (pc2 := 5) (moL (upd v 0 0)) fX10_1 dX10_way_2 c117 (by decide) (Nat.le_of_ble_eq_true rfl) rfl rfl rfl (fun h z2 o2 c117 => ?_)
      have c118 := (o2 118 (by decide)).trans c118
      have c122 := (o2 122 (by decide)).trans c122
      have c123 := (o2 123 (by decide)).trans c123
      have c125 := (o2 125 (by decide)).trans c125
      have c126 := (o2 126 (by decide)).trans c126
      have c127 := (o2 127 (by decide)).trans c127
      have c128 := (o2 128 (by decide)).trans c128
      have hx := hx.step (a := 117) (by decide) z2 o2
      refine r_aload_n (pc2 := 6) 0 dX10_way_5 rfl rfl rfl rfl ?_
      refine r_iload_n (pc2 := 7) 1 dX10_way_6 rfl rfl rfl ?_
      refine r_i2l (pc2 := 8) dX10_way_7 rfl ?_
      refine r_callV1 (pc2 := 11) (As := [.long (Int32.toInt64 (nI n))]) (st := []) kX10_259 rfl rfl dX10_way_8 c117 (by decide) rfl rfl (Nat.le_of_ble_eq_true rfl) (by omega) (c_isSet c117 c118 hA.G (by omega)) rfl (fun h2 hq8 => ?_)
      subst hq8
      refine r_if_eq (tgt := 18) (pc2 := 14) dX10_way_11 (by decide) rfl (fun b11 => ?_) (fun b11 => ?_)
      · exact absurd b11 (if1 hv)
      · skip
        refine r_iload_n (pc2 := 15) 2 dX10_way_14 rfl rfl rfl ?_
        refine r_if_ge (tgt := 21) (pc2 := 18) dX10_way_15 (by decide) rfl (fun b15 => ?_) (fun b15 => ?_)
        · skip
          refine r_aload_n (pc2 := 22) 0 dX10_way_21 rfl rfl rfl rfl ?_
          refine r_iload_n (pc2 := 23) 1 dX10_way_22 rfl rfl rfl ?_
          refine r_callV1 (pc2 := 26) (As := [.int (nI n)]) (st := []) kX10_361 rfl rfl dX10_way_23 c117 (by decide) rfl rfl (Nat.le_of_ble_eq_true rfl) (by omega) (c_laysFar (st := n) (x := dx n) c117 c118 c122 c123 c125 c126 c127 c128 hA hn16 (hX n).1 (by omega)) rfl (fun h hq23 => ?_)
          obtain ⟨hxf, Q, g2, fx, ⟨c117, ⟨f3, c125, hfQ⟩, c126, ⟨kn3, c128⟩, ⟨f4, c122⟩, ⟨w4, c123⟩, hnd, hmem, hgc, hq0⟩, c127, hFD⟩ := hq23
          have c118 := hxf.get (by decide) c118
          have hx := hx.trans hxf (by decide)
          refine r_pop (pc2 := 27) dX10_way_26 rfl rfl ?_
          refine r_aload_n (pc2 := 28) 0 dX10_way_27 rfl rfl rfl rfl ?_
          refine r_iload_n (pc2 := 29) 2 dX10_way_28 rfl rfl rfl ?_
          refine r_callV1 (pc2 := 32) (As := [.int (nI k)]) (st := []) kX10_364 rfl rfl dX10_way_29 c117 (by decide) rfl rfl (Nat.le_of_ble_eq_true rfl) (by omega) (c_stepAt (i := k) (x := dx n) (l := gl n) (st := n) c117 c118 c126 c127 hA hmem hgc hFD ((hFD _ ((hmem _).mpr Rch.now)).un (hX n).1) hdl (hX n).2 (by omega) rfl (by omega)) rfl (fun h2 hq29 => ?_)
          subst hq29
          exact r_iret rfl dX10_way_32 ⟨by rw [wayF, if_pos ⟨hv, hi0⟩, en, nI_clamp hk], (upd (upd v 0 0) 25 (nI Q.length)), ⟨rfl, rfl, rfl⟩, ⟨c117, c118, hx.get (by decide) k119, hx.get (by decide) k120, ⟨_, hx.get (by decide) k121⟩, ⟨_, c122⟩, ⟨_, c123⟩, ⟨_, hx.get (by decide) k124⟩, ⟨_, c125⟩, ⟨_, c126⟩, ⟨_, c127⟩, ⟨_, c128⟩, ⟨_, hx.get (by decide) k129⟩, ⟨_, hx.get (by decide) k130⟩, ⟨_, hx.get (by decide) k131⟩, ⟨_, hx.get (by decide) k132⟩, ⟨_, hx.get (by decide) k133⟩, ⟨_, hx.get (by decide) k134⟩, ⟨_, hx.get (by decide) k135⟩, hx.get (by decide) k136, hx.get (by decide) k137, hx.get (by decide) k138⟩, hx.mono (by decide)⟩
        · exact absurd hi0 b15
    · skip
      refine Cn.go (ls := [.ref 117, .int (nI n), .int i]) (by decide +kernel) rfl (Nat.le_of_ble_eq_true rfl) ?_
      refine r_aload_n (pc2 := 1) 0 dX10_way_0 rfl rfl rfl rfl ?_
      refine r_iconst (pc2 := 2) (v := 0) dX10_way_1 (by decide) rfl ?_
      refine r_putfX (pc2 := 5) (moL (upd v 0 0)) fX10_1 dX10_way_2 c117 (by decide) (Nat.le_of_ble_eq_true rfl) rfl rfl rfl (fun h z2 o2 c117 => ?_)
      have c118 := (o2 118 (by decide)).trans c118
      have c122 := (o2 122 (by decide)).trans c122
      have c123 := (o2 123 (by decide)).trans c123
      have c125 := (o2 125 (by decide)).trans c125
      have c126 := (o2 126 (by decide)).trans c126
      have c127 := (o2 127 (by decide)).trans c127
      have c128 := (o2 128 (by decide)).trans c128
      have hx := hx.step (a := 117) (by decide) z2 o2
      refine r_aload_n (pc2 := 6) 0 dX10_way_5 rfl rfl rfl rfl ?_
      refine r_iload_n (pc2 := 7) 1 dX10_way_6 rfl rfl rfl ?_
      refine r_i2l (pc2 := 8) dX10_way_7 rfl ?_
      refine r_callV1 (pc2 := 11) (As := [.long (Int32.toInt64 (nI n))]) (st := []) kX10_259 rfl rfl dX10_way_8 c117 (by decide) rfl rfl (Nat.le_of_ble_eq_true rfl) (by omega) (c_isSet c117 c118 hA.G (by omega)) rfl (fun h2 hq8 => ?_)
      subst hq8
      refine r_if_eq (tgt := 18) (pc2 := 14) dX10_way_11 (by decide) rfl (fun b11 => ?_) (fun b11 => ?_)
      · exact absurd b11 (if1 hv)
      · skip
        refine r_iload_n (pc2 := 15) 2 dX10_way_14 rfl rfl rfl ?_
        refine r_if_ge (tgt := 21) (pc2 := 18) dX10_way_15 (by decide) rfl (fun b15 => ?_) (fun b15 => ?_)
        · exact absurd b15 hi0
        · skip
          refine r_bipush (pc2 := 20) (v := -3) dX10_way_18 (by decide) rfl ?_
          exact r_iret rfl dX10_way_20 ⟨by rw [wayF, if_neg (fun z => hi0 z.2)], (upd v 0 0), ⟨rfl, rfl, rfl⟩, ⟨c117, c118, hx.get (by decide) k119, hx.get (by decide) k120, ⟨_, hx.get (by decide) k121⟩, ⟨_, c122⟩, ⟨_, c123⟩, ⟨_, hx.get (by decide) k124⟩, ⟨_, c125⟩, ⟨_, c126⟩, ⟨_, c127⟩, ⟨_, c128⟩, ⟨_, hx.get (by decide) k129⟩, ⟨_, hx.get (by decide) k130⟩, ⟨_, hx.get (by decide) k131⟩, ⟨_, hx.get (by decide) k132⟩, ⟨_, hx.get (by decide) k133⟩, ⟨_, hx.get (by decide) k134⟩, ⟨_, hx.get (by decide) k135⟩, hx.get (by decide) k136, hx.get (by decide) k137, hx.get (by decide) k138⟩, hx.mono (by decide)⟩
  · skip
    refine Cn.go (ls := [.ref 117, .int y, .int i]) (by decide +kernel) rfl (Nat.le_of_ble_eq_true rfl) ?_
    refine r_aload_n (pc2 := 1) 0 dX10_way_0 rfl rfl rfl rfl ?_
    refine r_iconst (pc2 := 2) (v := 0) dX10_way_1 (by decide) rfl ?_
    refine r_putfX (pc2 := 5) (moL (upd v 0 0)) fX10_1 dX10_way_2 c117 (by decide) (Nat.le_of_ble_eq_true rfl) rfl rfl rfl (fun h z2 o2 c117 => ?_)
    have c118 := (o2 118 (by decide)).trans c118
    have c122 := (o2 122 (by decide)).trans c122
    have c123 := (o2 123 (by decide)).trans c123
    have c125 := (o2 125 (by decide)).trans c125
    have c126 := (o2 126 (by decide)).trans c126
    have c127 := (o2 127 (by decide)).trans c127
    have c128 := (o2 128 (by decide)).trans c128
    have hx := hx.step (a := 117) (by decide) z2 o2
    refine r_aload_n (pc2 := 6) 0 dX10_way_5 rfl rfl rfl rfl ?_
    refine r_iload_n (pc2 := 7) 1 dX10_way_6 rfl rfl rfl ?_
    refine r_i2l (pc2 := 8) dX10_way_7 rfl ?_
    refine r_callV1 (pc2 := 11) (As := [.long (Int32.toInt64 y)]) (st := []) kX10_259 rfl rfl dX10_way_8 c117 (by decide) rfl rfl (Nat.le_of_ble_eq_true rfl) (by omega) (c_isSet c117 c118 hA.G (by omega)) rfl (fun h2 hq8 => ?_)
    subst hq8
    refine r_if_eq (tgt := 18) (pc2 := 14) dX10_way_11 (by decide) rfl (fun b11 => ?_) (fun b11 => ?_)
    · skip
      refine r_bipush (pc2 := 20) (v := -3) dX10_way_18 (by decide) rfl ?_
      exact r_iret rfl dX10_way_20 ⟨by rw [wayF, if_neg (fun z => hv z.1)], (upd v 0 0), ⟨rfl, rfl, rfl⟩, ⟨c117, c118, hx.get (by decide) k119, hx.get (by decide) k120, ⟨_, hx.get (by decide) k121⟩, ⟨_, c122⟩, ⟨_, c123⟩, ⟨_, hx.get (by decide) k124⟩, ⟨_, c125⟩, ⟨_, c126⟩, ⟨_, c127⟩, ⟨_, c128⟩, ⟨_, hx.get (by decide) k129⟩, ⟨_, hx.get (by decide) k130⟩, ⟨_, hx.get (by decide) k131⟩, ⟨_, hx.get (by decide) k132⟩, ⟨_, hx.get (by decide) k133⟩, ⟨_, hx.get (by decide) k134⟩, ⟨_, hx.get (by decide) k135⟩, hx.get (by decide) k136, hx.get (by decide) k137, hx.get (by decide) k138⟩, hx.mono (by decide)⟩
    · exact absurd (if0 hv) b11
set_option maxRecDepth 20000 in
set_option maxHeartbeats 1000000 in
theorem ref_lists {E : EnvT} {d : Nat} {h0 : Hp} {v : Nat → Int32} {a : Nat → Nat} {hi : Nat → Int32} {tp : Nat → Nat} {rs rm : Nat → Int32} {nu : Nat → Int64} {dx : Nat → Nat} {gl : Nat → List Nat} {t y : Int32} (hR : RS h0 v a hi tp rs rm nu) (hA : AIN a) (hX : DX a dx gl) (hT : TOK rs rm) (hd : 6 ≤ d) : Cn E mX10_lists d [.ref 117, .int t, .int y] h0 (RP (.int (lisF a dx rs rm t y)) h0 v a hi tp rs rm (lisV a dx gl rs rm nu t y)) := by
  obtain ⟨k117, k118, k119, k120, ⟨f121, k121⟩, ⟨f122, k122⟩, ⟨f123, k123⟩, ⟨f124, k124⟩, ⟨f125, k125⟩, ⟨f126, k126⟩, ⟨f127, k127⟩, ⟨f128, k128⟩, ⟨f129, k129⟩, ⟨f130, k130⟩, ⟨f131, k131⟩, ⟨f132, k132⟩, ⟨f133, k133⟩, ⟨f134, k134⟩, ⟨f135, k135⟩, k136, k137, k138⟩ := hR
  obtain ⟨fx0, e127⟩ : ∃ z, f127 = nA z := ⟨_, nA_of f127⟩
  rw [e127] at k127
  have c117 := k117
  have c118 := k118
  have c122 := k122
  have c123 := k123
  have c125 := k125
  have c126 := k126
  have c127 := k127
  have c128 := k128
  have c136 := k136
  have c137 := k137
  have c138 := k138
  have hx : Ex [117, 118, 122, 123, 125, 126, 127, 128, 136, 137, 138] h0 h0 := Ex.rf
  by_cases ht : noTrayF rs t = 0
  · obtain ⟨t, ht4, rfl, hrs⟩ := noTray_0 ht
    obtain ⟨hrm, hr40⟩ := hT t ht4
    have et : (nI t).toNatClampNeg = t := nI_clamp (by omega)
    by_cases hv : vS (a 3) y.toInt64
    · obtain ⟨n, hn, hn16, rfl⟩ := vS_i hA.G hv
      have en : (nI n).toNatClampNeg = n := nI_clamp (by omega)
      have hdl := (hX n).1.le
      by_cases hz : dx n < 268435456
      · have hc : lisC a dx rs (nI t) (nI n) := ⟨⟨ht, hv⟩, by rw [en]; exact hz⟩
        obtain ⟨L, hLe⟩ : ∃ L, L = min (dx n) (rowN rm t) := ⟨_, rfl⟩
        have eF : lisF a dx rs rm (nI t) (nI n) = nI L := by rw [lisF, if_neg (fun z => z ht), if_pos hv, en, if_pos hz, lisN, en, et, hLe]
        have eV : lisV a dx gl rs rm nu (nI t) (nI n) = fillN nu (40 * t) L (fun k => lN ((gl n).getD k 0)) := by rw [lisV, if_pos hc, lisN, en, et, hLe]
        rw [eF, eV]
        have hL1 : L ≤ dx n := by omega
        have hL2 : L ≤ rowN rm t := by omega
        have loop : ∀ (m k : Nat) (Q : List Nat) (v1 f4 w4 f3 g2 kn3 : Nat → Int32) (fx : Nat → Nat) (h1 : Hp) (u3 u4 : Value), k + m = L → VK v v1 → Ex [117, 118, 122, 123, 125, 126, 127, 128, 136, 137, 138] h0 h1 → h1.1 117 = some (mO v1) → h1.1 118 = some (aI 3531 (nA a)) → h1.1 122 = some (aI 900 f4) → h1.1 123 = some (aI 9 w4) → h1.1 125 = some (aI 40960 f3) → h1.1 126 = some (aI 655360 g2) → h1.1 127 = some (aI 40960 (nA fx)) → h1.1 128 = some (aZ 40960 kn3) → h1.1 136 = some (aI 4 rs) → h1.1 137 = some (aI 4 rm) → h1.1 138 = some (aL 160 (fillN nu (40 * t) k (fun k => lN ((gl n).getD k 0)))) → (∀ s, s ∈ Q ↔ Rch a s) → (∀ s ∈ Q, ∀ c, c < 16 → g2 (16 * s + c) = nxI a s c) → (∀ s ∈ Q, FD a n s (fx s)) → Fr E mX10_lists d 74 [.ref 117, .int (nI t), .int (nI n), u3, u4, .int (nI L), .int (nI k)] [] h1 (RP (.int (nI L)) h0 v a hi tp rs rm (fillN nu (40 * t) L (fun k => lN ((gl n).getD k 0)))) := by
          intro m
          induction m with
          | zero =>
            intro k Q v1 f4 w4 f3 g2 kn3 fx h u3 u4 hk hv1 hx c117 c118 c122 c123 c125 c126 c127 c128 c136 c137 c138 hmem hgc hFD
            obtain rfl : k = L := by omega
            refine r_iload (pc2 := 76) 6 dX10_lists_74 rfl rfl ?_
            refine r_iload (pc2 := 78) 5 dX10_lists_76 rfl rfl ?_
            refine r_icmp_ge (tgt := 106) (pc2 := 81) dX10_lists_78 (by decide) rfl (fun b78 => ?_) (fun b78 => ?_)
            · skip
              refine r_iload (pc2 := 108) 5 dX10_lists_106 rfl rfl ?_
              exact r_iret rfl dX10_lists_108 ⟨rfl, v1, ⟨hv1.1, hv1.2.1, hv1.2.2⟩, ⟨c117, c118, hx.get (by decide) k119, hx.get (by decide) k120, ⟨_, hx.get (by decide) k121⟩, ⟨_, c122⟩, ⟨_, c123⟩, ⟨_, hx.get (by decide) k124⟩, ⟨_, c125⟩, ⟨_, c126⟩, ⟨_, c127⟩, ⟨_, c128⟩, ⟨_, hx.get (by decide) k129⟩, ⟨_, hx.get (by decide) k130⟩, ⟨_, hx.get (by decide) k131⟩, ⟨_, hx.get (by decide) k132⟩, ⟨_, hx.get (by decide) k133⟩, ⟨_, hx.get (by decide) k134⟩, ⟨_, hx.get (by decide) k135⟩, c136, c137, c138⟩, hx.mono (by decide)⟩
            · exact absurd (nI_le (Nat.le_refl _) (by omega)) b78
          | succ m ih =>
            intro k Q v1 f4 w4 f3 g2 kn3 fx h u3 u4 hk hv1 hx c117 c118 c122 c123 c125 c126 c127 c128 c136 c137 c138 hmem hgc hFD
            have hlt : k < L := by omega
            refine r_iload (pc2 := 76) 6 dX10_lists_74 rfl rfl ?_
            refine r_iload (pc2 := 78) 5 dX10_lists_76 rfl rfl ?_
            refine r_icmp_ge (tgt := 106) (pc2 := 81) dX10_lists_78 (by decide) rfl (fun b78 => ?_) (fun b78 => ?_)
            · exact absurd b78 (nI_ge hlt (by omega))
            · skip
              refine r_aload_n (pc2 := 82) 0 dX10_lists_81 rfl rfl rfl rfl ?_
              refine r_getf (pc2 := 85) (v := .ref 138) fX10_83 dX10_lists_82 c117 (by decide) rfl rfl ?_
              refine r_bipush (pc2 := 87) (v := 40) dX10_lists_85 (by decide) rfl ?_
              refine r_iload_n (pc2 := 88) 1 dX10_lists_87 rfl rfl rfl ?_
              refine r_imul (pc2 := 89) dX10_lists_88 rfl ?_
              refine r_cast (nI (40 * t)) (pk_mul 40 t) ?_
              refine r_iload (pc2 := 91) 6 dX10_lists_89 rfl rfl ?_
              refine r_iadd (pc2 := 92) dX10_lists_91 rfl ?_
              refine r_cast (nI (40 * t + k)) (nI_add _ _) ?_
              refine r_aload_n (pc2 := 93) 0 dX10_lists_92 rfl rfl rfl rfl ?_
              refine r_iload (pc2 := 95) 6 dX10_lists_93 rfl rfl ?_
              refine r_callV1 (pc2 := 98) (As := [.int (nI k)]) (st := [.int (nI (40 * t + k)), .ref 138]) kX10_364 rfl rfl dX10_lists_95 c117 (by decide) rfl rfl (Nat.le_of_ble_eq_true rfl) (by omega) (c_stepAt (i := k) (x := dx n) (l := gl n) (st := n) c117 c118 c126 c127 hA hmem hgc hFD ((hFD _ ((hmem _).mpr Rch.now)).un (hX n).1) hdl (hX n).2 (by omega) rfl (by omega)) rfl (fun h2 hq95 => ?_)
              subst hq95
              refine r_i2l (pc2 := 99) dX10_lists_98 rfl ?_
              refine r_castl (lN ((gl n).getD k 0)) (by rw [stI, if_pos ⟨hz, by omega⟩]; exact nI_l (by have := grd_lt _ _ _ ((hX n).2 hz) k; omega)) ?_
              refine r_lastN (pc2 := 100) (40 * t + k) dX10_lists_99 c138 (by decide) rfl (by omega) (by decide) rfl (fun h z99 o99 c138 => ?_)
              have c117 := (o99 117 (by decide)).trans c117
              have c118 := (o99 118 (by decide)).trans c118
              have c122 := (o99 122 (by decide)).trans c122
              have c123 := (o99 123 (by decide)).trans c123
              have c125 := (o99 125 (by decide)).trans c125
              have c126 := (o99 126 (by decide)).trans c126
              have c127 := (o99 127 (by decide)).trans c127
              have c128 := (o99 128 (by decide)).trans c128
              have c136 := (o99 136 (by decide)).trans c136
              have c137 := (o99 137 (by decide)).trans c137
              have hx := hx.step (a := 138) (by decide) z99 o99
              obtain ⟨x100, e100⟩ : ∃ z : Int32, z = (nI k) + (1) := ⟨_, rfl⟩
              refine r_iinc (pc2 := 103) (ls2 := [.ref 117, .int (nI t), .int (nI n), u3, u4, .int (nI L), .int x100]) (v := x100) 6 dX10_lists_100 rfl (by rw [e100]; rfl) rfl rfl rfl ?_
              refine r_goto (pc2 := 74) dX10_lists_103 (by decide) ?_
              rw [e100, nI_1]
              rw [show vp_updL (fillN nu (40 * t) k (fun k => lN ((gl n).getD k 0))) (40 * t + k) (lN ((gl n).getD k 0)) = fillN nu (40 * t) (k + 1) (fun k => lN ((gl n).getD k 0)) from fillN_s nu (40 * t) k (fun k => lN ((gl n).getD k 0))] at c138
              exact ih (k + 1) Q v1 f4 w4 f3 g2 kn3 fx _ _ _ (by omega) hv1 hx c117 c118 c122 c123 c125 c126 c127 c128 c136 c137 c138 hmem hgc hFD
        by_cases hlt2 : dx n < rowN rm t
        · have hL : L = dx n := by omega
          refine Cn.go (ls := [.ref 117, .int (nI t), .int (nI n), .float 0, .float 0, .float 0, .float 0]) (by decide +kernel) rfl (Nat.le_of_ble_eq_true rfl) ?_
          refine r_aload_n (pc2 := 1) 0 dX10_lists_0 rfl rfl rfl rfl ?_
          refine r_iconst (pc2 := 2) (v := 0) dX10_lists_1 (by decide) rfl ?_
          refine r_putfX (pc2 := 5) (moL (upd v 0 0)) fX10_1 dX10_lists_2 c117 (by decide) (Nat.le_of_ble_eq_true rfl) rfl rfl rfl (fun h z2 o2 c117 => ?_)
          have c118 := (o2 118 (by decide)).trans c118
          have c122 := (o2 122 (by decide)).trans c122
          have c123 := (o2 123 (by decide)).trans c123
          have c125 := (o2 125 (by decide)).trans c125
          have c126 := (o2 126 (by decide)).trans c126
          have c127 := (o2 127 (by decide)).trans c127
          have c128 := (o2 128 (by decide)).trans c128
          have c136 := (o2 136 (by decide)).trans c136
          have c137 := (o2 137 (by decide)).trans c137
          have c138 := (o2 138 (by decide)).trans c138
          have hx := hx.step (a := 117) (by decide) z2 o2
          refine r_aload_n (pc2 := 6) 0 dX10_lists_5 rfl rfl rfl rfl ?_
          refine r_iload_n (pc2 := 7) 1 dX10_lists_6 rfl rfl rfl ?_
          refine r_callV1 (pc2 := 10) (As := [.int (nI t)]) (st := []) kX10_323 rfl rfl dX10_lists_7 c117 (by decide) rfl rfl (Nat.le_of_ble_eq_true rfl) (by omega) (c_noTray (x := (nI t)) c117 c136 (by omega)) rfl (fun h2 hq7 => ?_)
          subst hq7
          refine r_topi (fun x10 e10 => ?_)
          refine r_istore_n (pc2 := 11) (ls2 := [.ref 117, .int (nI t), .int (nI n), .int x10, .float 0, .float 0, .float 0]) 3 dX10_lists_10 rfl (by decide) rfl rfl rfl ?_
          refine r_iload_n (pc2 := 12) 3 dX10_lists_11 rfl rfl rfl ?_
          refine r_if_eq (tgt := 17) (pc2 := 15) dX10_lists_12 (by decide) rfl (fun b12 => ?_) (fun b12 => ?_)
          · skip
            refine r_aload_n (pc2 := 18) 0 dX10_lists_17 rfl rfl rfl rfl ?_
            refine r_iload_n (pc2 := 19) 2 dX10_lists_18 rfl rfl rfl ?_
            refine r_i2l (pc2 := 20) dX10_lists_19 rfl ?_
            refine r_callV1 (pc2 := 23) (As := [.long (Int32.toInt64 (nI n))]) (st := []) kX10_259 rfl rfl dX10_lists_20 c117 (by decide) rfl rfl (Nat.le_of_ble_eq_true rfl) (by omega) (c_isSet c117 c118 hA.G (by omega)) rfl (fun h2 hq20 => ?_)
            subst hq20
            refine r_if_ne (tgt := 29) (pc2 := 26) dX10_lists_23 (by decide) rfl (fun b23 => ?_) (fun b23 => ?_)
            · skip
              refine r_aload_n (pc2 := 30) 0 dX10_lists_29 rfl rfl rfl rfl ?_
              refine r_iload_n (pc2 := 31) 2 dX10_lists_30 rfl rfl rfl ?_
              refine r_callV1 (pc2 := 34) (As := [.int (nI n)]) (st := []) kX10_361 rfl rfl dX10_lists_31 c117 (by decide) rfl rfl (Nat.le_of_ble_eq_true rfl) (by omega) (c_laysFar (st := n) (x := dx n) c117 c118 c122 c123 c125 c126 c127 c128 hA hn16 (hX n).1 (by omega)) rfl (fun h hq31 => ?_)
              obtain ⟨hxf, Q, g2, fx, ⟨c117, ⟨f3, c125, hfQ⟩, c126, ⟨kn3, c128⟩, ⟨f4, c122⟩, ⟨w4, c123⟩, hnd, hmem, hgc, hq0⟩, c127, hFD⟩ := hq31
              have c118 := hxf.get (by decide) c118
              have c136 := hxf.get (by decide) c136
              have c137 := hxf.get (by decide) c137
              have c138 := hxf.get (by decide) c138
              have hx := hx.trans hxf (by decide)
              refine r_istore (pc2 := 36) (ls2 := [.ref 117, .int (nI t), .int (nI n), .int x10, .int (nI (dx n)), .float 0, .float 0]) 4 dX10_lists_34 (by decide) rfl rfl rfl ?_
              refine r_iload (pc2 := 38) 4 dX10_lists_36 rfl rfl ?_
              refine r_ldcw (pc2 := 41) (v := 268435456) qX10_350 dX10_lists_38 rfl ?_
              refine r_icmp_ne (tgt := 47) (pc2 := 44) dX10_lists_41 (by decide) rfl (fun b41 => ?_) (fun b41 => ?_)
              · skip
                refine r_iload (pc2 := 49) 4 dX10_lists_47 rfl rfl ?_
                refine r_aload_n (pc2 := 50) 0 dX10_lists_49 rfl rfl rfl rfl ?_
                refine r_getf (pc2 := 53) (v := .ref 137) fX10_80 dX10_lists_50 c117 (by decide) rfl rfl ?_
                refine r_iload_n (pc2 := 54) 1 dX10_lists_53 rfl rfl rfl ?_
                refine r_ialdN (pc2 := 55) t dX10_lists_54 c137 (by decide) rfl (by omega) (by decide) rfl ?_
                refine r_cast (nI (rowN rm t)) (hrm) ?_
                refine r_icmp_ge (tgt := 63) (pc2 := 58) dX10_lists_55 (by decide) rfl (fun b55 => ?_) (fun b55 => ?_)
                · exact absurd b55 (nI_ge hlt2 (by omega))
                · skip
                  refine r_iload (pc2 := 60) 4 dX10_lists_58 rfl rfl ?_
                  refine r_goto (pc2 := 69) dX10_lists_60 (by decide) ?_
                  refine r_cast (nI L) (by rw [hL]) ?_
                  refine r_istore (pc2 := 71) (ls2 := [.ref 117, .int (nI t), .int (nI n), .int x10, .int (nI (dx n)), .int (nI L), .float 0]) 5 dX10_lists_69 (by decide) rfl rfl rfl ?_
                  refine r_iconst (pc2 := 72) (v := 0) dX10_lists_71 (by decide) rfl ?_
                  refine r_istore (pc2 := 74) (ls2 := [.ref 117, .int (nI t), .int (nI n), .int x10, .int (nI (dx n)), .int (nI L), .int 0]) 6 dX10_lists_72 (by decide) rfl rfl rfl ?_
                  rw [← fillN_0 nu (40 * t) (fun k => lN ((gl n).getD k 0))] at c138
                  exact loop L 0 Q (upd (upd v 0 0) 25 (nI Q.length)) _ _ _ _ _ fx _ _ _ (by omega) ⟨rfl, rfl, rfl⟩ hx c117 c118 c122 c123 c125 c126 c127 c128 c136 c137 c138 hmem hgc hFD
              · exact absurd ((nI_eq (b := 268435456) (by omega) (by decide)).mp b41) (by omega)
            · exact absurd b23 (if1 hv)
          · exact absurd (e10.trans ht) b12
        · have hL : L = rowN rm t := by omega
          refine Cn.go (ls := [.ref 117, .int (nI t), .int (nI n), .float 0, .float 0, .float 0, .float 0]) (by decide +kernel) rfl (Nat.le_of_ble_eq_true rfl) ?_
          refine r_aload_n (pc2 := 1) 0 dX10_lists_0 rfl rfl rfl rfl ?_
          refine r_iconst (pc2 := 2) (v := 0) dX10_lists_1 (by decide) rfl ?_
          refine r_putfX (pc2 := 5) (moL (upd v 0 0)) fX10_1 dX10_lists_2 c117 (by decide) (Nat.le_of_ble_eq_true rfl) rfl rfl rfl (fun h z2 o2 c117 => ?_)
          have c118 := (o2 118 (by decide)).trans c118
          have c122 := (o2 122 (by decide)).trans c122
          have c123 := (o2 123 (by decide)).trans c123
          have c125 := (o2 125 (by decide)).trans c125
          have c126 := (o2 126 (by decide)).trans c126
          have c127 := (o2 127 (by decide)).trans c127
          have c128 := (o2 128 (by decide)).trans c128
          have c136 := (o2 136 (by decide)).trans c136
          have c137 := (o2 137 (by decide)).trans c137
          have c138 := (o2 138 (by decide)).trans c138
          have hx := hx.step (a := 117) (by decide) z2 o2
          refine r_aload_n (pc2 := 6) 0 dX10_lists_5 rfl rfl rfl rfl ?_
          refine r_iload_n (pc2 := 7) 1 dX10_lists_6 rfl rfl rfl ?_
          refine r_callV1 (pc2 := 10) (As := [.int (nI t)]) (st := []) kX10_323 rfl rfl dX10_lists_7 c117 (by decide) rfl rfl (Nat.le_of_ble_eq_true rfl) (by omega) (c_noTray (x := (nI t)) c117 c136 (by omega)) rfl (fun h2 hq7 => ?_)
          subst hq7
          refine r_topi (fun x10 e10 => ?_)
          refine r_istore_n (pc2 := 11) (ls2 := [.ref 117, .int (nI t), .int (nI n), .int x10, .float 0, .float 0, .float 0]) 3 dX10_lists_10 rfl (by decide) rfl rfl rfl ?_
          refine r_iload_n (pc2 := 12) 3 dX10_lists_11 rfl rfl rfl ?_
          refine r_if_eq (tgt := 17) (pc2 := 15) dX10_lists_12 (by decide) rfl (fun b12 => ?_) (fun b12 => ?_)
          · skip
            refine r_aload_n (pc2 := 18) 0 dX10_lists_17 rfl rfl rfl rfl ?_
            refine r_iload_n (pc2 := 19) 2 dX10_lists_18 rfl rfl rfl ?_
            refine r_i2l (pc2 := 20) dX10_lists_19 rfl ?_
            refine r_callV1 (pc2 := 23) (As := [.long (Int32.toInt64 (nI n))]) (st := []) kX10_259 rfl rfl dX10_lists_20 c117 (by decide) rfl rfl (Nat.le_of_ble_eq_true rfl) (by omega) (c_isSet c117 c118 hA.G (by omega)) rfl (fun h2 hq20 => ?_)
            subst hq20
            refine r_if_ne (tgt := 29) (pc2 := 26) dX10_lists_23 (by decide) rfl (fun b23 => ?_) (fun b23 => ?_)
            · skip
              refine r_aload_n (pc2 := 30) 0 dX10_lists_29 rfl rfl rfl rfl ?_
              refine r_iload_n (pc2 := 31) 2 dX10_lists_30 rfl rfl rfl ?_
              refine r_callV1 (pc2 := 34) (As := [.int (nI n)]) (st := []) kX10_361 rfl rfl dX10_lists_31 c117 (by decide) rfl rfl (Nat.le_of_ble_eq_true rfl) (by omega) (c_laysFar (st := n) (x := dx n) c117 c118 c122 c123 c125 c126 c127 c128 hA hn16 (hX n).1 (by omega)) rfl (fun h hq31 => ?_)
              obtain ⟨hxf, Q, g2, fx, ⟨c117, ⟨f3, c125, hfQ⟩, c126, ⟨kn3, c128⟩, ⟨f4, c122⟩, ⟨w4, c123⟩, hnd, hmem, hgc, hq0⟩, c127, hFD⟩ := hq31
              have c118 := hxf.get (by decide) c118
              have c136 := hxf.get (by decide) c136
              have c137 := hxf.get (by decide) c137
              have c138 := hxf.get (by decide) c138
              have hx := hx.trans hxf (by decide)
              refine r_istore (pc2 := 36) (ls2 := [.ref 117, .int (nI t), .int (nI n), .int x10, .int (nI (dx n)), .float 0, .float 0]) 4 dX10_lists_34 (by decide) rfl rfl rfl ?_
              refine r_iload (pc2 := 38) 4 dX10_lists_36 rfl rfl ?_
              refine r_ldcw (pc2 := 41) (v := 268435456) qX10_350 dX10_lists_38 rfl ?_
              refine r_icmp_ne (tgt := 47) (pc2 := 44) dX10_lists_41 (by decide) rfl (fun b41 => ?_) (fun b41 => ?_)
              · skip
                refine r_iload (pc2 := 49) 4 dX10_lists_47 rfl rfl ?_
                refine r_aload_n (pc2 := 50) 0 dX10_lists_49 rfl rfl rfl rfl ?_
                refine r_getf (pc2 := 53) (v := .ref 137) fX10_80 dX10_lists_50 c117 (by decide) rfl rfl ?_
                refine r_iload_n (pc2 := 54) 1 dX10_lists_53 rfl rfl rfl ?_
                refine r_ialdN (pc2 := 55) t dX10_lists_54 c137 (by decide) rfl (by omega) (by decide) rfl ?_
                refine r_cast (nI (rowN rm t)) (hrm) ?_
                refine r_icmp_ge (tgt := 63) (pc2 := 58) dX10_lists_55 (by decide) rfl (fun b55 => ?_) (fun b55 => ?_)
                · skip
                  refine r_aload_n (pc2 := 64) 0 dX10_lists_63 rfl rfl rfl rfl ?_
                  refine r_getf (pc2 := 67) (v := .ref 137) fX10_80 dX10_lists_64 c117 (by decide) rfl rfl ?_
                  refine r_iload_n (pc2 := 68) 1 dX10_lists_67 rfl rfl rfl ?_
                  refine r_ialdN (pc2 := 69) t dX10_lists_68 c137 (by decide) rfl (by omega) (by decide) rfl ?_
                  refine r_cast (nI L) (by rw [hrm, hL]) ?_
                  refine r_istore (pc2 := 71) (ls2 := [.ref 117, .int (nI t), .int (nI n), .int x10, .int (nI (dx n)), .int (nI L), .float 0]) 5 dX10_lists_69 (by decide) rfl rfl rfl ?_
                  refine r_iconst (pc2 := 72) (v := 0) dX10_lists_71 (by decide) rfl ?_
                  refine r_istore (pc2 := 74) (ls2 := [.ref 117, .int (nI t), .int (nI n), .int x10, .int (nI (dx n)), .int (nI L), .int 0]) 6 dX10_lists_72 (by decide) rfl rfl rfl ?_
                  rw [← fillN_0 nu (40 * t) (fun k => lN ((gl n).getD k 0))] at c138
                  exact loop L 0 Q (upd (upd v 0 0) 25 (nI Q.length)) _ _ _ _ _ fx _ _ _ (by omega) ⟨rfl, rfl, rfl⟩ hx c117 c118 c122 c123 c125 c126 c127 c128 c136 c137 c138 hmem hgc hFD
                · exact absurd (nI_le (by omega) (by omega)) b55
              · exact absurd ((nI_eq (b := 268435456) (by omega) (by decide)).mp b41) (by omega)
            · exact absurd b23 (if1 hv)
          · exact absurd (e10.trans ht) b12
      · rw [lisV, if_neg (fun z => hz (by have := z.2; rw [en] at this; exact this))]
        have hz : dx n = 268435456 := by omega
        refine Cn.go (ls := [.ref 117, .int (nI t), .int (nI n), .float 0, .float 0, .float 0, .float 0]) (by decide +kernel) rfl (Nat.le_of_ble_eq_true rfl) ?_
        refine r_aload_n (pc2 := 1) 0 dX10_lists_0 rfl rfl rfl rfl ?_
        refine r_iconst (pc2 := 2) (v := 0) dX10_lists_1 (by decide) rfl ?_
        refine r_putfX (pc2 := 5) (moL (upd v 0 0)) fX10_1 dX10_lists_2 c117 (by decide) (Nat.le_of_ble_eq_true rfl) rfl rfl rfl (fun h z2 o2 c117 => ?_)
        have c118 := (o2 118 (by decide)).trans c118
        have c122 := (o2 122 (by decide)).trans c122
        have c123 := (o2 123 (by decide)).trans c123
        have c125 := (o2 125 (by decide)).trans c125
        have c126 := (o2 126 (by decide)).trans c126
        have c127 := (o2 127 (by decide)).trans c127
        have c128 := (o2 128 (by decide)).trans c128
        have c136 := (o2 136 (by decide)).trans c136
        have c137 := (o2 137 (by decide)).trans c137
        have c138 := (o2 138 (by decide)).trans c138
        have hx := hx.step (a := 117) (by decide) z2 o2
        refine r_aload_n (pc2 := 6) 0 dX10_lists_5 rfl rfl rfl rfl ?_
        refine r_iload_n (pc2 := 7) 1 dX10_lists_6 rfl rfl rfl ?_
        refine r_callV1 (pc2 := 10) (As := [.int (nI t)]) (st := []) kX10_323 rfl rfl dX10_lists_7 c117 (by decide) rfl rfl (Nat.le_of_ble_eq_true rfl) (by omega) (c_noTray (x := (nI t)) c117 c136 (by omega)) rfl (fun h2 hq7 => ?_)
        subst hq7
        refine r_topi (fun x10 e10 => ?_)
        refine r_istore_n (pc2 := 11) (ls2 := [.ref 117, .int (nI t), .int (nI n), .int x10, .float 0, .float 0, .float 0]) 3 dX10_lists_10 rfl (by decide) rfl rfl rfl ?_
        refine r_iload_n (pc2 := 12) 3 dX10_lists_11 rfl rfl rfl ?_
        refine r_if_eq (tgt := 17) (pc2 := 15) dX10_lists_12 (by decide) rfl (fun b12 => ?_) (fun b12 => ?_)
        · skip
          refine r_aload_n (pc2 := 18) 0 dX10_lists_17 rfl rfl rfl rfl ?_
          refine r_iload_n (pc2 := 19) 2 dX10_lists_18 rfl rfl rfl ?_
          refine r_i2l (pc2 := 20) dX10_lists_19 rfl ?_
          refine r_callV1 (pc2 := 23) (As := [.long (Int32.toInt64 (nI n))]) (st := []) kX10_259 rfl rfl dX10_lists_20 c117 (by decide) rfl rfl (Nat.le_of_ble_eq_true rfl) (by omega) (c_isSet c117 c118 hA.G (by omega)) rfl (fun h2 hq20 => ?_)
          subst hq20
          refine r_if_ne (tgt := 29) (pc2 := 26) dX10_lists_23 (by decide) rfl (fun b23 => ?_) (fun b23 => ?_)
          · skip
            refine r_aload_n (pc2 := 30) 0 dX10_lists_29 rfl rfl rfl rfl ?_
            refine r_iload_n (pc2 := 31) 2 dX10_lists_30 rfl rfl rfl ?_
            refine r_callV1 (pc2 := 34) (As := [.int (nI n)]) (st := []) kX10_361 rfl rfl dX10_lists_31 c117 (by decide) rfl rfl (Nat.le_of_ble_eq_true rfl) (by omega) (c_laysFar (st := n) (x := dx n) c117 c118 c122 c123 c125 c126 c127 c128 hA hn16 (hX n).1 (by omega)) rfl (fun h hq31 => ?_)
            obtain ⟨hxf, Q, g2, fx, ⟨c117, ⟨f3, c125, hfQ⟩, c126, ⟨kn3, c128⟩, ⟨f4, c122⟩, ⟨w4, c123⟩, hnd, hmem, hgc, hq0⟩, c127, hFD⟩ := hq31
            have c118 := hxf.get (by decide) c118
            have c136 := hxf.get (by decide) c136
            have c137 := hxf.get (by decide) c137
            have c138 := hxf.get (by decide) c138
            have hx := hx.trans hxf (by decide)
            refine r_istore (pc2 := 36) (ls2 := [.ref 117, .int (nI t), .int (nI n), .int x10, .int (nI (dx n)), .float 0, .float 0]) 4 dX10_lists_34 (by decide) rfl rfl rfl ?_
            refine r_iload (pc2 := 38) 4 dX10_lists_36 rfl rfl ?_
            refine r_ldcw (pc2 := 41) (v := 268435456) qX10_350 dX10_lists_38 rfl ?_
            refine r_icmp_ne (tgt := 47) (pc2 := 44) dX10_lists_41 (by decide) rfl (fun b41 => ?_) (fun b41 => ?_)
            · exact absurd (by rw [hz]; rfl) b41
            · skip
              refine r_bipush (pc2 := 46) (v := -5) dX10_lists_44 (by decide) rfl ?_
              exact r_iret rfl dX10_lists_46 ⟨by rw [lisF, if_neg (fun z => z ht), if_pos hv, en, if_neg (by omega)], (upd (upd v 0 0) 25 (nI Q.length)), ⟨rfl, rfl, rfl⟩, ⟨c117, c118, hx.get (by decide) k119, hx.get (by decide) k120, ⟨_, hx.get (by decide) k121⟩, ⟨_, c122⟩, ⟨_, c123⟩, ⟨_, hx.get (by decide) k124⟩, ⟨_, c125⟩, ⟨_, c126⟩, ⟨_, c127⟩, ⟨_, c128⟩, ⟨_, hx.get (by decide) k129⟩, ⟨_, hx.get (by decide) k130⟩, ⟨_, hx.get (by decide) k131⟩, ⟨_, hx.get (by decide) k132⟩, ⟨_, hx.get (by decide) k133⟩, ⟨_, hx.get (by decide) k134⟩, ⟨_, hx.get (by decide) k135⟩, c136, c137, c138⟩, hx.mono (by decide)⟩
          · exact absurd b23 (if1 hv)
        · exact absurd (e10.trans ht) b12
    · rw [lisV, if_neg (fun z => hv z.1.2)]
      refine Cn.go (ls := [.ref 117, .int (nI t), .int y, .float 0, .float 0, .float 0, .float 0]) (by decide +kernel) rfl (Nat.le_of_ble_eq_true rfl) ?_
      refine r_aload_n (pc2 := 1) 0 dX10_lists_0 rfl rfl rfl rfl ?_
      refine r_iconst (pc2 := 2) (v := 0) dX10_lists_1 (by decide) rfl ?_
      refine r_putfX (pc2 := 5) (moL (upd v 0 0)) fX10_1 dX10_lists_2 c117 (by decide) (Nat.le_of_ble_eq_true rfl) rfl rfl rfl (fun h z2 o2 c117 => ?_)
      have c118 := (o2 118 (by decide)).trans c118
      have c122 := (o2 122 (by decide)).trans c122
      have c123 := (o2 123 (by decide)).trans c123
      have c125 := (o2 125 (by decide)).trans c125
      have c126 := (o2 126 (by decide)).trans c126
      have c127 := (o2 127 (by decide)).trans c127
      have c128 := (o2 128 (by decide)).trans c128
      have c136 := (o2 136 (by decide)).trans c136
      have c137 := (o2 137 (by decide)).trans c137
      have c138 := (o2 138 (by decide)).trans c138
      have hx := hx.step (a := 117) (by decide) z2 o2
      refine r_aload_n (pc2 := 6) 0 dX10_lists_5 rfl rfl rfl rfl ?_
      refine r_iload_n (pc2 := 7) 1 dX10_lists_6 rfl rfl rfl ?_
      refine r_callV1 (pc2 := 10) (As := [.int (nI t)]) (st := []) kX10_323 rfl rfl dX10_lists_7 c117 (by decide) rfl rfl (Nat.le_of_ble_eq_true rfl) (by omega) (c_noTray (x := (nI t)) c117 c136 (by omega)) rfl (fun h2 hq7 => ?_)
      subst hq7
      refine r_topi (fun x10 e10 => ?_)
      refine r_istore_n (pc2 := 11) (ls2 := [.ref 117, .int (nI t), .int y, .int x10, .float 0, .float 0, .float 0]) 3 dX10_lists_10 rfl (by decide) rfl rfl rfl ?_
      refine r_iload_n (pc2 := 12) 3 dX10_lists_11 rfl rfl rfl ?_
      refine r_if_eq (tgt := 17) (pc2 := 15) dX10_lists_12 (by decide) rfl (fun b12 => ?_) (fun b12 => ?_)
      · skip
        refine r_aload_n (pc2 := 18) 0 dX10_lists_17 rfl rfl rfl rfl ?_
        refine r_iload_n (pc2 := 19) 2 dX10_lists_18 rfl rfl rfl ?_
        refine r_i2l (pc2 := 20) dX10_lists_19 rfl ?_
        refine r_callV1 (pc2 := 23) (As := [.long (Int32.toInt64 y)]) (st := []) kX10_259 rfl rfl dX10_lists_20 c117 (by decide) rfl rfl (Nat.le_of_ble_eq_true rfl) (by omega) (c_isSet c117 c118 hA.G (by omega)) rfl (fun h2 hq20 => ?_)
        subst hq20
        refine r_if_ne (tgt := 29) (pc2 := 26) dX10_lists_23 (by decide) rfl (fun b23 => ?_) (fun b23 => ?_)
        · exact absurd (if0 hv) b23
        · skip
          refine r_bipush (pc2 := 28) (v := -3) dX10_lists_26 (by decide) rfl ?_
          exact r_iret rfl dX10_lists_28 ⟨by rw [lisF, if_neg (fun z => z ht), if_neg hv], (upd v 0 0), ⟨rfl, rfl, rfl⟩, ⟨c117, c118, hx.get (by decide) k119, hx.get (by decide) k120, ⟨_, hx.get (by decide) k121⟩, ⟨_, c122⟩, ⟨_, c123⟩, ⟨_, hx.get (by decide) k124⟩, ⟨_, c125⟩, ⟨_, c126⟩, ⟨_, c127⟩, ⟨_, c128⟩, ⟨_, hx.get (by decide) k129⟩, ⟨_, hx.get (by decide) k130⟩, ⟨_, hx.get (by decide) k131⟩, ⟨_, hx.get (by decide) k132⟩, ⟨_, hx.get (by decide) k133⟩, ⟨_, hx.get (by decide) k134⟩, ⟨_, hx.get (by decide) k135⟩, c136, c137, c138⟩, hx.mono (by decide)⟩
      · exact absurd (e10.trans ht) b12
  · rw [lisV, if_neg (fun z => ht z.1.1)]
    refine Cn.go (ls := [.ref 117, .int t, .int y, .float 0, .float 0, .float 0, .float 0]) (by decide +kernel) rfl (Nat.le_of_ble_eq_true rfl) ?_
    refine r_aload_n (pc2 := 1) 0 dX10_lists_0 rfl rfl rfl rfl ?_
    refine r_iconst (pc2 := 2) (v := 0) dX10_lists_1 (by decide) rfl ?_
    refine r_putfX (pc2 := 5) (moL (upd v 0 0)) fX10_1 dX10_lists_2 c117 (by decide) (Nat.le_of_ble_eq_true rfl) rfl rfl rfl (fun h z2 o2 c117 => ?_)
    have c118 := (o2 118 (by decide)).trans c118
    have c122 := (o2 122 (by decide)).trans c122
    have c123 := (o2 123 (by decide)).trans c123
    have c125 := (o2 125 (by decide)).trans c125
    have c126 := (o2 126 (by decide)).trans c126
    have c127 := (o2 127 (by decide)).trans c127
    have c128 := (o2 128 (by decide)).trans c128
    have c136 := (o2 136 (by decide)).trans c136
    have c137 := (o2 137 (by decide)).trans c137
    have c138 := (o2 138 (by decide)).trans c138
    have hx := hx.step (a := 117) (by decide) z2 o2
    refine r_aload_n (pc2 := 6) 0 dX10_lists_5 rfl rfl rfl rfl ?_
    refine r_iload_n (pc2 := 7) 1 dX10_lists_6 rfl rfl rfl ?_
    refine r_callV1 (pc2 := 10) (As := [.int t]) (st := []) kX10_323 rfl rfl dX10_lists_7 c117 (by decide) rfl rfl (Nat.le_of_ble_eq_true rfl) (by omega) (c_noTray (x := t) c117 c136 (by omega)) rfl (fun h2 hq7 => ?_)
    subst hq7
    refine r_topi (fun x10 e10 => ?_)
    refine r_istore_n (pc2 := 11) (ls2 := [.ref 117, .int t, .int y, .int x10, .float 0, .float 0, .float 0]) 3 dX10_lists_10 rfl (by decide) rfl rfl rfl ?_
    refine r_iload_n (pc2 := 12) 3 dX10_lists_11 rfl rfl rfl ?_
    refine r_if_eq (tgt := 17) (pc2 := 15) dX10_lists_12 (by decide) rfl (fun b12 => ?_) (fun b12 => ?_)
    · exact absurd (e10.symm.trans b12) ht
    · skip
      refine r_iload_n (pc2 := 16) 3 dX10_lists_15 rfl rfl rfl ?_
      exact r_iret rfl dX10_lists_16 ⟨by rw [lisF, if_pos ht, e10], (upd v 0 0), ⟨rfl, rfl, rfl⟩, ⟨c117, c118, hx.get (by decide) k119, hx.get (by decide) k120, ⟨_, hx.get (by decide) k121⟩, ⟨_, c122⟩, ⟨_, c123⟩, ⟨_, hx.get (by decide) k124⟩, ⟨_, c125⟩, ⟨_, c126⟩, ⟨_, c127⟩, ⟨_, c128⟩, ⟨_, hx.get (by decide) k129⟩, ⟨_, hx.get (by decide) k130⟩, ⟨_, hx.get (by decide) k131⟩, ⟨_, hx.get (by decide) k132⟩, ⟨_, hx.get (by decide) k133⟩, ⟨_, hx.get (by decide) k134⟩, ⟨_, hx.get (by decide) k135⟩, c136, c137, c138⟩, hx.mono (by decide)⟩
