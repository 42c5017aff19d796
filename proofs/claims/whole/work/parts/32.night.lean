set_option maxRecDepth 20000 in
set_option maxHeartbeats 1000000 in
theorem ref_perform {E : EnvT} {d : Nat} {h0 : Hp} {v : Nat → Int32} {a : Nat → Nat} {hi : Nat → Int32} {tp : Nat → Nat} {rs rm : Nat → Int32} {nu : Nat → Int64} {x : Int32} (hR : RS h0 v a hi tp rs rm nu) (hA : AIN a) (hT : TOK rs rm) (hd : 7 ≤ d) : Cn E mX10_perform d [.ref 117, .int x] h0 (RP (.int (performF a rs rm nu x)) h0 v (performA a rs rm nu x) hi tp rs rm nu) := by
  obtain ⟨k117, k118, k119, k120, ⟨f121, k121⟩, ⟨f122, k122⟩, ⟨f123, k123⟩, ⟨f124, k124⟩, ⟨f125, k125⟩, ⟨f126, k126⟩, ⟨f127, k127⟩, ⟨f128, k128⟩, ⟨f129, k129⟩, ⟨f130, k130⟩, ⟨f131, k131⟩, ⟨f132, k132⟩, ⟨f133, k133⟩, ⟨f134, k134⟩, ⟨f135, k135⟩, k136, k137, k138⟩ := hR
  have c117 := k117
  have c118 := k118
  have c122 := k122
  have c123 := k123
  have c124 := k124
  have c136 := k136
  have c137 := k137
  have c138 := k138
  have hx : Ex [117, 118, 122, 123, 124, 136, 137, 138] h0 h0 := Ex.rf
  by_cases hz : noTrayF rs x = 0
  · obtain ⟨t, ht, rfl, hrs⟩ := noTray_0 hz
    have hB : AIN (tellT a rm nu t).2.2 := AIN.telling _ _ _ hA
    have hle : (tellT a rm nu t).1 ≤ 0 + rowN rm t := (tell_le (F := fun j => nu (40 * t + j)) (rowN rm t) 0 a).2.1
    have h40 := (hT t ht).2
    by_cases hn0 : (tellT a rm nu t).1 = 0
    · have eA : performA a rs rm nu (nI t) = a := by rw [performA, nI_clamp (by omega), if_pos (Or.inr hn0)]
      rw [eA]
      refine Cn.go (ls := [.ref 117, .int (nI t), .float 0, .float 0]) (by decide +kernel) rfl (Nat.le_of_ble_eq_true rfl) ?_
      refine r_aload_n (pc2 := 1) 0 dX10_perform_0 rfl rfl rfl rfl ?_
      refine r_iconst (pc2 := 2) (v := 0) dX10_perform_1 (by decide) rfl ?_
      refine r_putfX (pc2 := 5) (moL (upd v 0 0)) fX10_1 dX10_perform_2 c117 (by decide) (Nat.le_of_ble_eq_true rfl) rfl rfl rfl (fun h z2 o2 c117 => ?_)
      have c118 := (o2 118 (by decide)).trans c118
      have c122 := (o2 122 (by decide)).trans c122
      have c123 := (o2 123 (by decide)).trans c123
      have c124 := (o2 124 (by decide)).trans c124
      have c136 := (o2 136 (by decide)).trans c136
      have c137 := (o2 137 (by decide)).trans c137
      have c138 := (o2 138 (by decide)).trans c138
      have hx := hx.step (a := 117) (by decide) z2 o2
      refine r_aload_n (pc2 := 6) 0 dX10_perform_5 rfl rfl rfl rfl ?_
      refine r_iload_n (pc2 := 7) 1 dX10_perform_6 rfl rfl rfl ?_
      refine r_callV1 (pc2 := 10) (As := [.int (nI t)]) (st := []) kX10_323 rfl rfl dX10_perform_7 c117 (by decide) rfl rfl (Nat.le_of_ble_eq_true rfl) (by omega) (c_noTray (x := (nI t)) c117 c136 (by omega)) rfl (fun h2 hq7 => ?_)
      subst hq7
      refine r_topi (fun x10 e10 => ?_)
      refine r_istore_n (pc2 := 11) (ls2 := [.ref 117, .int (nI t), .int x10, .float 0]) 2 dX10_perform_10 rfl (by decide) rfl rfl rfl ?_
      refine r_iload_n (pc2 := 12) 2 dX10_perform_11 rfl rfl rfl ?_
      refine r_if_eq (tgt := 17) (pc2 := 15) dX10_perform_12 (by decide) rfl (fun b12 => ?_) (fun b12 => ?_)
      · skip
        refine r_aload_n (pc2 := 18) 0 dX10_perform_17 rfl rfl rfl rfl ?_
        refine r_callV0 (pc2 := 21) (As := []) (st := []) kX10_279 rfl rfl dX10_perform_18 c117 (by decide) rfl rfl (Nat.le_of_ble_eq_true rfl) (by omega) (c_keeps c117 c118 c124) rfl (fun h hq18 => ?_)
        obtain ⟨hxk, c124⟩ := hq18
        have c117 := hxk.get (by decide) c117
        have c118 := hxk.get (by decide) c118
        have c122 := hxk.get (by decide) c122
        have c123 := hxk.get (by decide) c123
        have c136 := hxk.get (by decide) c136
        have c137 := hxk.get (by decide) c137
        have c138 := hxk.get (by decide) c138
        have hx := hx.trans hxk (by decide)
        refine r_aload_n (pc2 := 22) 0 dX10_perform_21 rfl rfl rfl rfl ?_
        refine r_iload_n (pc2 := 23) 1 dX10_perform_22 rfl rfl rfl ?_
        refine r_callV1 (pc2 := 26) (As := [.int (nI t)]) (st := []) kX10_326 rfl rfl dX10_perform_23 c117 (by decide) rfl rfl (Nat.le_of_ble_eq_true rfl) (by omega) (c_tells (t := t) (n := rowN rm t) c117 c118 c122 c123 c137 c138 hA ht (hT t ht).1 (hT t ht).2 (by omega)) rfl (fun h hq23 => ?_)
        obtain ⟨hxt, c117, c118, ⟨f2, c122⟩, ⟨w2, c123⟩⟩ := hq23
        have c124 := hxt.get (by decide) c124
        have c136 := hxt.get (by decide) c136
        have c137 := hxt.get (by decide) c137
        have c138 := hxt.get (by decide) c138
        have hx := hx.trans hxt (by decide)
        have c117 : h.1 117 = some (mO (upd (upd v 0 0) 19 (nI (tellT a rm nu t).2.1))) := c117
        have c118 : h.1 118 = some (aI 3531 (nA (tellT a rm nu t).2.2)) := c118
        refine r_istore_n (pc2 := 27) (ls2 := [.ref 117, .int (nI t), .int x10, .int (nI (tellT a rm nu t).1)]) 3 dX10_perform_26 rfl (by decide) rfl rfl rfl ?_
        refine r_iload_n (pc2 := 28) 3 dX10_perform_27 rfl rfl rfl ?_
        refine r_if_le (tgt := 35) (pc2 := 31) dX10_perform_28 (by decide) rfl (fun b28 => ?_) (fun b28 => ?_)
        · skip
          refine r_iload_n (pc2 := 36) 3 dX10_perform_35 rfl rfl rfl ?_
          have c118 : h.1 118 = some (aI 3531 (nA a)) := by rw [c118, show (tellT a rm nu t).2.2 = a from tell_0 _ _ _ hn0]
          exact r_iret rfl dX10_perform_36 ⟨by rw [performF, if_neg (fun q => q hz), nI_clamp (by omega)], (upd (upd v 0 0) 19 (nI (tellT a rm nu t).2.1)), ⟨rfl, rfl, rfl⟩, ⟨c117, c118, hx.get (by decide) k119, hx.get (by decide) k120, ⟨_, hx.get (by decide) k121⟩, ⟨_, c122⟩, ⟨_, c123⟩, ⟨_, c124⟩, ⟨_, hx.get (by decide) k125⟩, ⟨_, hx.get (by decide) k126⟩, ⟨_, hx.get (by decide) k127⟩, ⟨_, hx.get (by decide) k128⟩, ⟨_, hx.get (by decide) k129⟩, ⟨_, hx.get (by decide) k130⟩, ⟨_, hx.get (by decide) k131⟩, ⟨_, hx.get (by decide) k132⟩, ⟨_, hx.get (by decide) k133⟩, ⟨_, hx.get (by decide) k134⟩, ⟨_, hx.get (by decide) k135⟩, c136, c137, c138⟩, hx.mono (by decide)⟩
        · exact absurd (by rw [hn0]; decide) b28
      · exact absurd (e10.trans hz) b12
    · have eA : performA a rs rm nu (nI t) = notesN (tellT a rm nu t).2.2 (keepV a) := by rw [performA, nI_clamp (by omega), if_neg (fun q => q.elim (fun z => z hz) hn0)]
      rw [eA]
      refine Cn.go (ls := [.ref 117, .int (nI t), .float 0, .float 0]) (by decide +kernel) rfl (Nat.le_of_ble_eq_true rfl) ?_
      refine r_aload_n (pc2 := 1) 0 dX10_perform_0 rfl rfl rfl rfl ?_
      refine r_iconst (pc2 := 2) (v := 0) dX10_perform_1 (by decide) rfl ?_
      refine r_putfX (pc2 := 5) (moL (upd v 0 0)) fX10_1 dX10_perform_2 c117 (by decide) (Nat.le_of_ble_eq_true rfl) rfl rfl rfl (fun h z2 o2 c117 => ?_)
      have c118 := (o2 118 (by decide)).trans c118
      have c122 := (o2 122 (by decide)).trans c122
      have c123 := (o2 123 (by decide)).trans c123
      have c124 := (o2 124 (by decide)).trans c124
      have c136 := (o2 136 (by decide)).trans c136
      have c137 := (o2 137 (by decide)).trans c137
      have c138 := (o2 138 (by decide)).trans c138
      have hx := hx.step (a := 117) (by decide) z2 o2
      refine r_aload_n (pc2 := 6) 0 dX10_perform_5 rfl rfl rfl rfl ?_
      refine r_iload_n (pc2 := 7) 1 dX10_perform_6 rfl rfl rfl ?_
      refine r_callV1 (pc2 := 10) (As := [.int (nI t)]) (st := []) kX10_323 rfl rfl dX10_perform_7 c117 (by decide) rfl rfl (Nat.le_of_ble_eq_true rfl) (by omega) (c_noTray (x := (nI t)) c117 c136 (by omega)) rfl (fun h2 hq7 => ?_)
      subst hq7
      refine r_topi (fun x10 e10 => ?_)
      refine r_istore_n (pc2 := 11) (ls2 := [.ref 117, .int (nI t), .int x10, .float 0]) 2 dX10_perform_10 rfl (by decide) rfl rfl rfl ?_
      refine r_iload_n (pc2 := 12) 2 dX10_perform_11 rfl rfl rfl ?_
      refine r_if_eq (tgt := 17) (pc2 := 15) dX10_perform_12 (by decide) rfl (fun b12 => ?_) (fun b12 => ?_)
      · skip
        refine r_aload_n (pc2 := 18) 0 dX10_perform_17 rfl rfl rfl rfl ?_
        refine r_callV0 (pc2 := 21) (As := []) (st := []) kX10_279 rfl rfl dX10_perform_18 c117 (by decide) rfl rfl (Nat.le_of_ble_eq_true rfl) (by omega) (c_keeps c117 c118 c124) rfl (fun h hq18 => ?_)
        obtain ⟨hxk, c124⟩ := hq18
        have c117 := hxk.get (by decide) c117
        have c118 := hxk.get (by decide) c118
        have c122 := hxk.get (by decide) c122
        have c123 := hxk.get (by decide) c123
        have c136 := hxk.get (by decide) c136
        have c137 := hxk.get (by decide) c137
        have c138 := hxk.get (by decide) c138
        have hx := hx.trans hxk (by decide)
        refine r_aload_n (pc2 := 22) 0 dX10_perform_21 rfl rfl rfl rfl ?_
        refine r_iload_n (pc2 := 23) 1 dX10_perform_22 rfl rfl rfl ?_
        refine r_callV1 (pc2 := 26) (As := [.int (nI t)]) (st := []) kX10_326 rfl rfl dX10_perform_23 c117 (by decide) rfl rfl (Nat.le_of_ble_eq_true rfl) (by omega) (c_tells (t := t) (n := rowN rm t) c117 c118 c122 c123 c137 c138 hA ht (hT t ht).1 (hT t ht).2 (by omega)) rfl (fun h hq23 => ?_)
        obtain ⟨hxt, c117, c118, ⟨f2, c122⟩, ⟨w2, c123⟩⟩ := hq23
        have c124 := hxt.get (by decide) c124
        have c136 := hxt.get (by decide) c136
        have c137 := hxt.get (by decide) c137
        have c138 := hxt.get (by decide) c138
        have hx := hx.trans hxt (by decide)
        have c117 : h.1 117 = some (mO (upd (upd v 0 0) 19 (nI (tellT a rm nu t).2.1))) := c117
        have c118 : h.1 118 = some (aI 3531 (nA (tellT a rm nu t).2.2)) := c118
        refine r_istore_n (pc2 := 27) (ls2 := [.ref 117, .int (nI t), .int x10, .int (nI (tellT a rm nu t).1)]) 3 dX10_perform_26 rfl (by decide) rfl rfl rfl ?_
        refine r_iload_n (pc2 := 28) 3 dX10_perform_27 rfl rfl rfl ?_
        refine r_if_le (tgt := 35) (pc2 := 31) dX10_perform_28 (by decide) rfl (fun b28 => ?_) (fun b28 => ?_)
        · exact absurd b28 (nI_nle (by omega) (by omega))
        · skip
          refine r_aload_n (pc2 := 32) 0 dX10_perform_31 rfl rfl rfl rfl ?_
          refine r_callV0 (pc2 := 35) (As := []) (st := []) kX10_285 rfl rfl dX10_perform_32 c117 (by decide) rfl rfl (Nat.le_of_ble_eq_true rfl) (by omega) (c_notes (w := keepV a) c117 c118 c124 keepV_hw hB.nd) rfl (fun h hq32 => ?_)
          obtain ⟨hxn, c118⟩ := hq32
          have c117 := hxn.get (by decide) c117
          have c122 := hxn.get (by decide) c122
          have c123 := hxn.get (by decide) c123
          have c124 := hxn.get (by decide) c124
          have c136 := hxn.get (by decide) c136
          have c137 := hxn.get (by decide) c137
          have c138 := hxn.get (by decide) c138
          have hx := hx.trans hxn (by decide)
          refine r_iload_n (pc2 := 36) 3 dX10_perform_35 rfl rfl rfl ?_
          exact r_iret rfl dX10_perform_36 ⟨by rw [performF, if_neg (fun q => q hz), nI_clamp (by omega)], (upd (upd v 0 0) 19 (nI (tellT a rm nu t).2.1)), ⟨rfl, rfl, rfl⟩, ⟨c117, c118, hx.get (by decide) k119, hx.get (by decide) k120, ⟨_, hx.get (by decide) k121⟩, ⟨_, c122⟩, ⟨_, c123⟩, ⟨_, c124⟩, ⟨_, hx.get (by decide) k125⟩, ⟨_, hx.get (by decide) k126⟩, ⟨_, hx.get (by decide) k127⟩, ⟨_, hx.get (by decide) k128⟩, ⟨_, hx.get (by decide) k129⟩, ⟨_, hx.get (by decide) k130⟩, ⟨_, hx.get (by decide) k131⟩, ⟨_, hx.get (by decide) k132⟩, ⟨_, hx.get (by decide) k133⟩, ⟨_, hx.get (by decide) k134⟩, ⟨_, hx.get (by decide) k135⟩, c136, c137, c138⟩, hx.mono (by decide)⟩
      · exact absurd (e10.trans hz) b12
  · have eA : performA a rs rm nu x = a := by rw [performA, if_pos (Or.inl hz)]
    rw [eA]
    refine Cn.go (ls := [.ref 117, .int x, .float 0, .float 0]) (by decide +kernel) rfl (Nat.le_of_ble_eq_true rfl) ?_
    refine r_aload_n (pc2 := 1) 0 dX10_perform_0 rfl rfl rfl rfl ?_
    refine r_iconst (pc2 := 2) (v := 0) dX10_perform_1 (by decide) rfl ?_
    refine r_putfX (pc2 := 5) (moL (upd v 0 0)) fX10_1 dX10_perform_2 c117 (by decide) (Nat.le_of_ble_eq_true rfl) rfl rfl rfl (fun h z2 o2 c117 => ?_)
    have c118 := (o2 118 (by decide)).trans c118
    have c122 := (o2 122 (by decide)).trans c122
    have c123 := (o2 123 (by decide)).trans c123
    have c124 := (o2 124 (by decide)).trans c124
    have c136 := (o2 136 (by decide)).trans c136
    have c137 := (o2 137 (by decide)).trans c137
    have c138 := (o2 138 (by decide)).trans c138
    have hx := hx.step (a := 117) (by decide) z2 o2
    refine r_aload_n (pc2 := 6) 0 dX10_perform_5 rfl rfl rfl rfl ?_
    refine r_iload_n (pc2 := 7) 1 dX10_perform_6 rfl rfl rfl ?_
    refine r_callV1 (pc2 := 10) (As := [.int x]) (st := []) kX10_323 rfl rfl dX10_perform_7 c117 (by decide) rfl rfl (Nat.le_of_ble_eq_true rfl) (by omega) (c_noTray (x := x) c117 c136 (by omega)) rfl (fun h2 hq7 => ?_)
    subst hq7
    refine r_topi (fun x10 e10 => ?_)
    refine r_istore_n (pc2 := 11) (ls2 := [.ref 117, .int x, .int x10, .float 0]) 2 dX10_perform_10 rfl (by decide) rfl rfl rfl ?_
    refine r_iload_n (pc2 := 12) 2 dX10_perform_11 rfl rfl rfl ?_
    refine r_if_eq (tgt := 17) (pc2 := 15) dX10_perform_12 (by decide) rfl (fun b12 => ?_) (fun b12 => ?_)
    · exact absurd (e10.symm.trans b12) hz
    · skip
      refine r_iload_n (pc2 := 16) 2 dX10_perform_15 rfl rfl rfl ?_
      exact r_iret rfl dX10_perform_16 ⟨by rw [performF, if_pos hz, e10], (upd v 0 0), ⟨rfl, rfl, rfl⟩, ⟨c117, c118, hx.get (by decide) k119, hx.get (by decide) k120, ⟨_, hx.get (by decide) k121⟩, ⟨_, c122⟩, ⟨_, c123⟩, ⟨_, c124⟩, ⟨_, hx.get (by decide) k125⟩, ⟨_, hx.get (by decide) k126⟩, ⟨_, hx.get (by decide) k127⟩, ⟨_, hx.get (by decide) k128⟩, ⟨_, hx.get (by decide) k129⟩, ⟨_, hx.get (by decide) k130⟩, ⟨_, hx.get (by decide) k131⟩, ⟨_, hx.get (by decide) k132⟩, ⟨_, hx.get (by decide) k133⟩, ⟨_, hx.get (by decide) k134⟩, ⟨_, hx.get (by decide) k135⟩, c136, c137, c138⟩, hx.mono (by decide)⟩
/-! draws -/
def nx (x : Int32) : Int32 := 1103515245 * x + 12345
def dN (x : Int32) : Nat := x.toBitVec.toNat / 65536
theorem dN_lt (x : Int32) : dN x < 65536 := by
  have : x.toBitVec.toNat < 2 ^ 32 := x.toBitVec.isLt
  unfold dN
  omega
theorem dN_of (x : Int32) : (Int32.toUInt32 x >>> (Int32.toUInt32 16 &&& Int32.toUInt32 31)).toInt32 = nI (dN x) := by
  have h := pk_ushr x 16 16 (by decide)
  obtain ⟨n, hn, e⟩ : ∃ n, n < 2 ^ 32 ∧ (x.toUInt32 >>> ((16 : Int32).toUInt32 &&& Int32.toUInt32 31)).toInt32 = nI n := ⟨(x.toUInt32 >>> ((16 : Int32).toUInt32 &&& Int32.toUInt32 31)).toInt32.toBitVec.toNat, BitVec.isLt _, by
    apply Int32.toBitVec_inj.mp
    show _ = BitVec.ofNat 32 _
    rw [BitVec.ofNat_toNat, BitVec.setWidth_eq]⟩
  rw [e, pk_tn hn] at h
  rw [e, h]
  rfl
def drawK (x : Int32) : Nat := if dN (nx x) % 6 < 2 then 0 else if dN (nx x) % 6 < 4 then 2 ^ (dN (nx (nx x)) % 4) else if dN (nx x) % 6 = 4 then 100 + dN (nx (nx x)) % 10 else 300 + 10 * (dN (nx (nx x)) % 8) + dN (nx (nx (nx x))) % 8
def drawX (x : Int32) : Int32 := if dN (nx x) % 6 < 2 then nx x else if dN (nx x) % 6 < 4 then nx (nx x) else if dN (nx x) % 6 = 4 then nx (nx x) else nx (nx (nx x))
theorem drawK_lt (x : Int32) : drawK x < 400 := by
  unfold drawK
  have h4 : 2 ^ (dN (nx (nx x)) % 4) ≤ 2 ^ 3 := Nat.pow_le_pow_right (n := 2) (by decide) (by omega)
  repeat' split
  all_goals omega
set_option maxRecDepth 20000 in
set_option maxHeartbeats 1000000 in
theorem c_draw {E : EnvT} {d : Nat} {h0 : Hp} {v : Nat → Int32} {b : Nat} (c117 : h0.1 117 = some (mO v)) (hb0 : 0 < b) (hb1 : b < 2 ^ 31) : Cn E mX10_draw d [.ref 117, .int (nI b)] h0 (fun r h2 => r = some (.int (nI (dN (nx (v 20)) % b))) ∧ Ex [117] h0 h2 ∧ h2.1 117 = some (mO (upd v 20 (nx (v 20))))) := by
  refine Cn.go (ls := [.ref 117, .int (nI b)]) (by decide +kernel) rfl (Nat.le_of_ble_eq_true rfl) ?_
  have hx : Ex [117] h0 h0 := Ex.rf
  refine r_aload_n (pc2 := 1) 0 dX10_draw_0 rfl rfl rfl rfl ?_
  refine r_ldcw (pc2 := 4) (v := 1103515245) qX10_332 dX10_draw_1 rfl ?_
  refine r_aload_n (pc2 := 5) 0 dX10_draw_4 rfl rfl rfl rfl ?_
  refine r_getf (pc2 := 8) (v := .int (v 20)) fX10_333 dX10_draw_5 c117 (by decide) rfl rfl ?_
  refine r_imul (pc2 := 9) dX10_draw_8 rfl ?_
  refine r_sipush (pc2 := 12) (v := 12345) dX10_draw_9 (by decide) rfl ?_
  refine r_iadd (pc2 := 13) dX10_draw_12 rfl ?_
  refine r_topi (fun y13 ey13 => ?_)
  refine r_putfX (pc2 := 16) (moL (upd v 20 y13)) fX10_333 dX10_draw_13 c117 (by decide) (Nat.le_of_ble_eq_true rfl) rfl rfl rfl (fun h z13 o13 c117 => ?_)
  have hx := hx.step (a := 117) (by decide) z13 o13
  refine r_aload_n (pc2 := 17) 0 dX10_draw_16 rfl rfl rfl rfl ?_
  refine r_getf (pc2 := 20) (v := .int y13) fX10_333 dX10_draw_17 c117 (by decide) rfl rfl ?_
  refine r_bipush (pc2 := 22) (v := 16) dX10_draw_20 (by decide) rfl ?_
  refine r_iushr (pc2 := 23) dX10_draw_22 rfl ?_
  refine r_cast (nI (dN (nx (v 20)))) (by rw [ey13]; exact dN_of _) ?_
  refine r_iload_n (pc2 := 24) 1 dX10_draw_23 rfl rfl rfl ?_
  refine r_irem (pc2 := 25) dX10_draw_24 (nI_ne0 hb0 hb1) rfl ?_
  refine r_cast (nI (dN (nx (v 20)) % b)) (pk_rem (by have := dN_lt (nx (v 20)); omega) hb0 hb1) ?_
  exact r_iret rfl dX10_draw_25 ⟨rfl, hx, by rw [ey13] at c117; exact c117⟩
set_option maxRecDepth 20000 in
set_option maxHeartbeats 1000000 in
theorem c_drawn {E : EnvT} {d : Nat} {h0 : Hp} {v : Nat → Int32} (c117 : h0.1 117 = some (mO v)) (hd : 1 ≤ d) : Cn E mX10_drawn d [.ref 117] h0 (fun r h2 => r = some (.int (nI (drawK (v 20)))) ∧ Ex [117] h0 h2 ∧ h2.1 117 = some (mO (upd v 20 (drawX (v 20))))) := by
  refine Cn.go (ls := [.ref 117, .float 0, .float 0]) (by decide +kernel) rfl (Nat.le_of_ble_eq_true rfl) ?_
  have hx : Ex [117] h0 h0 := Ex.rf
  have hm : dN (nx (v 20)) % 6 < 6 := Nat.mod_lt _ (by decide)
  have bl2 : ¬ (2 : Int32) ≤ nI (dN (nx (v 20)) % 6) → dN (nx (v 20)) % 6 < 2 := fun q => by
    have q : ¬ nI 2 ≤ nI (dN (nx (v 20)) % 6) := q
    rw [nI_leI (by decide) (by omega)] at q; omega
  have bg2 : (2 : Int32) ≤ nI (dN (nx (v 20)) % 6) → ¬ dN (nx (v 20)) % 6 < 2 := fun q => by
    have q : nI 2 ≤ nI (dN (nx (v 20)) % 6) := q
    rw [nI_leI (by decide) (by omega)] at q; omega
  have bl4 : ¬ (4 : Int32) ≤ nI (dN (nx (v 20)) % 6) → dN (nx (v 20)) % 6 < 4 := fun q => by
    have q : ¬ nI 4 ≤ nI (dN (nx (v 20)) % 6) := q
    rw [nI_leI (by decide) (by omega)] at q; omega
  have bg4 : (4 : Int32) ≤ nI (dN (nx (v 20)) % 6) → ¬ dN (nx (v 20)) % 6 < 4 := fun q => by
    have q : nI 4 ≤ nI (dN (nx (v 20)) % 6) := q
    rw [nI_leI (by decide) (by omega)] at q; omega
  have be4 : nI (dN (nx (v 20)) % 6) = 4 → dN (nx (v 20)) % 6 = 4 := fun q => by
    have q : nI (dN (nx (v 20)) % 6) = nI 4 := q
    rw [nI_eq (by omega) (by decide)] at q; exact q
  have bn4 : ¬ nI (dN (nx (v 20)) % 6) = 4 → ¬ dN (nx (v 20)) % 6 = 4 := fun q z => q (by rw [z]; rfl)
  refine r_aload_n (pc2 := 1) 0 dX10_drawn_0 rfl rfl rfl rfl ?_
  refine r_bipush (pc2 := 3) (v := 6) dX10_drawn_1 (by decide) rfl ?_
  refine r_callV1 (pc2 := 6) (As := [.int 6]) (st := []) kX10_336 rfl rfl dX10_drawn_3 c117 (by decide) rfl rfl (Nat.le_of_ble_eq_true rfl) (by omega) (c_draw (b := 6) c117 (by decide) (by decide)) rfl (fun h hq3 => ?_)
  obtain ⟨hxd, c117⟩ := hq3
  have hx := hx.trans hxd (by decide)
  have c117 : h.1 117 = some (mO (upd v 20 (nx (v 20)))) := c117
  refine r_istore_n (pc2 := 7) (ls2 := [.ref 117, .int (nI (dN (nx (v 20)) % 6)), .float 0]) 1 dX10_drawn_6 rfl (by decide) rfl rfl rfl ?_
  refine r_iload_n (pc2 := 8) 1 dX10_drawn_7 rfl rfl rfl ?_
  refine r_iconst (pc2 := 9) (v := 2) dX10_drawn_8 (by decide) rfl ?_
  refine r_icmp_ge (tgt := 14) (pc2 := 12) dX10_drawn_9 (by decide) rfl (fun b9 => ?_) (fun b9 => ?_)
  · skip
    refine r_iload_n (pc2 := 15) 1 dX10_drawn_14 rfl rfl rfl ?_
    refine r_iconst (pc2 := 16) (v := 4) dX10_drawn_15 (by decide) rfl ?_
    refine r_icmp_ge (tgt := 27) (pc2 := 19) dX10_drawn_16 (by decide) rfl (fun b16 => ?_) (fun b16 => ?_)
    · skip
      refine r_iload_n (pc2 := 28) 1 dX10_drawn_27 rfl rfl rfl ?_
      refine r_iconst (pc2 := 29) (v := 4) dX10_drawn_28 (by decide) rfl ?_
      refine r_icmp_ne (tgt := 42) (pc2 := 32) dX10_drawn_29 (by decide) rfl (fun b29 => ?_) (fun b29 => ?_)
      · skip
        refine r_aload_n (pc2 := 43) 0 dX10_drawn_42 rfl rfl rfl rfl ?_
        refine r_bipush (pc2 := 45) (v := 8) dX10_drawn_43 (by decide) rfl ?_
        refine r_callV1 (pc2 := 48) (As := [.int 8]) (st := []) kX10_336 rfl rfl dX10_drawn_45 c117 (by decide) rfl rfl (Nat.le_of_ble_eq_true rfl) (by omega) (c_draw (b := 8) c117 (by decide) (by decide)) rfl (fun h hq45 => ?_)
        obtain ⟨hxd, c117⟩ := hq45
        have hx := hx.trans hxd (by decide)
        have c117 : h.1 117 = some (mO (upd v 20 (nx (nx (v 20))))) := by rw [c117]; exact congrArg (fun z => some (mO z)) (upd_upd v 20 _ _)
        refine r_istore_n (pc2 := 49) (ls2 := [.ref 117, .int (nI (dN (nx (v 20)) % 6)), .int (nI (dN (nx (nx (v 20))) % 8))]) 2 dX10_drawn_48 rfl (by decide) rfl rfl rfl ?_
        refine r_sipush (pc2 := 52) (v := 300) dX10_drawn_49 (by decide) rfl ?_
        refine r_bipush (pc2 := 54) (v := 10) dX10_drawn_52 (by decide) rfl ?_
        refine r_iload_n (pc2 := 55) 2 dX10_drawn_54 rfl rfl rfl ?_
        refine r_imul (pc2 := 56) dX10_drawn_55 rfl ?_
        refine r_cast (nI (10 * (dN (nx (nx (v 20))) % 8))) (pk_mul 10 _) ?_
        refine r_iadd (pc2 := 57) dX10_drawn_56 rfl ?_
        refine r_cast (nI (300 + 10 * (dN (nx (nx (v 20))) % 8))) (nI_add 300 _) ?_
        refine r_aload_n (pc2 := 58) 0 dX10_drawn_57 rfl rfl rfl rfl ?_
        refine r_bipush (pc2 := 60) (v := 8) dX10_drawn_58 (by decide) rfl ?_
        refine r_callV1 (pc2 := 63) (As := [.int 8]) (st := [.int (nI (300 + 10 * (dN (nx (nx (v 20))) % 8)))]) kX10_336 rfl rfl dX10_drawn_60 c117 (by decide) rfl rfl (Nat.le_of_ble_eq_true rfl) (by omega) (c_draw (b := 8) c117 (by decide) (by decide)) rfl (fun h hq60 => ?_)
        obtain ⟨hxd, c117⟩ := hq60
        have hx := hx.trans hxd (by decide)
        have c117 : h.1 117 = some (mO (upd v 20 (nx (nx (nx (v 20)))))) := by rw [c117]; exact congrArg (fun z => some (mO z)) (upd_upd v 20 _ _)
        refine r_iadd (pc2 := 64) dX10_drawn_63 rfl ?_
        refine r_cast (nI (300 + 10 * (dN (nx (nx (v 20))) % 8) + dN (nx (nx (nx (v 20)))) % 8)) (nI_add _ _) ?_
        exact r_iret rfl dX10_drawn_64 ⟨by rw [drawK, if_neg (bg2 b9), if_neg (bg4 b16), if_neg (bn4 b29)], hx, by rw [drawX, if_neg (bg2 b9), if_neg (bg4 b16), if_neg (bn4 b29)]; exact c117⟩
      · skip
        refine r_bipush (pc2 := 34) (v := 100) dX10_drawn_32 (by decide) rfl ?_
        refine r_aload_n (pc2 := 35) 0 dX10_drawn_34 rfl rfl rfl rfl ?_
        refine r_bipush (pc2 := 37) (v := 10) dX10_drawn_35 (by decide) rfl ?_
        refine r_callV1 (pc2 := 40) (As := [.int 10]) (st := [.int 100]) kX10_336 rfl rfl dX10_drawn_37 c117 (by decide) rfl rfl (Nat.le_of_ble_eq_true rfl) (by omega) (c_draw (b := 10) c117 (by decide) (by decide)) rfl (fun h hq37 => ?_)
        obtain ⟨hxd, c117⟩ := hq37
        have hx := hx.trans hxd (by decide)
        have c117 : h.1 117 = some (mO (upd v 20 (nx (nx (v 20))))) := by rw [c117]; exact congrArg (fun z => some (mO z)) (upd_upd v 20 _ _)
        refine r_iadd (pc2 := 41) dX10_drawn_40 rfl ?_
        refine r_cast (nI (100 + dN (nx (nx (v 20))) % 10)) (nI_add 100 _) ?_
        exact r_iret rfl dX10_drawn_41 ⟨by rw [drawK, if_neg (bg2 b9), if_neg (bg4 b16), if_pos (be4 b29)], hx, by rw [drawX, if_neg (bg2 b9), if_neg (bg4 b16), if_pos (be4 b29)]; exact c117⟩
    · skip
      refine r_iconst (pc2 := 20) (v := 1) dX10_drawn_19 (by decide) rfl ?_
      refine r_aload_n (pc2 := 21) 0 dX10_drawn_20 rfl rfl rfl rfl ?_
      refine r_iconst (pc2 := 22) (v := 4) dX10_drawn_21 (by decide) rfl ?_
      refine r_callV1 (pc2 := 25) (As := [.int 4]) (st := [.int 1]) kX10_336 rfl rfl dX10_drawn_22 c117 (by decide) rfl rfl (Nat.le_of_ble_eq_true rfl) (by omega) (c_draw (b := 4) c117 (by decide) (by decide)) rfl (fun h hq22 => ?_)
      obtain ⟨hxd, c117⟩ := hq22
      have hx := hx.trans hxd (by decide)
      have c117 : h.1 117 = some (mO (upd v 20 (nx (nx (v 20))))) := by rw [c117]; exact congrArg (fun z => some (mO z)) (upd_upd v 20 _ _)
      refine r_ishl (pc2 := 26) dX10_drawn_25 rfl ?_
      refine r_cast (nI (2 ^ (dN (nx (nx (v 20))) % 4))) (shl1 _ (by omega)) ?_
      exact r_iret rfl dX10_drawn_26 ⟨by rw [drawK, if_neg (bg2 b9), if_pos (bl4 b16)], hx, by rw [drawX, if_neg (bg2 b9), if_pos (bl4 b16)]; exact c117⟩
  · skip
    refine r_iconst (pc2 := 13) (v := 0) dX10_drawn_12 (by decide) rfl ?_
    exact r_iret rfl dX10_drawn_13 ⟨by rw [drawK, if_pos (bl2 b9)]; rfl, hx, by rw [drawX, if_pos (bl2 b9)]; exact c117⟩
