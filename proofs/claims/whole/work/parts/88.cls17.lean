/-! the class: night -/
def KE (c e : Nat) (h h2 : Hp) (kd kd2 : Nat) : Prop := h.2.1 ≤ h2.2.1 ∧ ((kd2 = kd ∧ h2.2.1 ≤ h.2.1 + c ∧ h2.2.2 ≤ h.2.2 + e) ∨ (kd = 0 ∧ h.2.1 ≤ kd2 ∧ kd2 < h2.2.1 ∧ h2.2.1 ≤ h.2.1 + c + 1 ∧ h2.2.2 ≤ h.2.2 + e + 32000))
theorem KQ.ke {c e : Nat} {h h2 : Hp} {kd kd2 : Nat} (x : KQ h h2 kd kd2) : KE c e h h2 kd kd2 := by
  rcases x with ⟨x1, x2⟩ | ⟨x1, x2, x3, x4⟩
  · exact ⟨by rw [x2]; exact Nat.le_refl _, Or.inl ⟨x1, by rw [x2]; omega, by rw [x2]; omega⟩⟩
  · exact ⟨by omega, Or.inr ⟨x1, by omega, by omega, by omega, by omega⟩⟩
theorem KE.kq {c e : Nat} {h h1 h2 : Hp} {kd kd1 kd2 : Nat} (x : KE c e h h1 kd kd1) (y : KQ h1 h2 kd1 kd2) (h0 : 139 ≤ h.2.1) : KE c e h h2 kd kd2 := by
  obtain ⟨x0, x⟩ := x
  rcases y with ⟨y1, y2⟩ | ⟨y1, y2, y3, y4⟩
  · rw [y1]; exact ⟨by rw [y2]; exact x0, by rw [y2]; exact x⟩
  · refine ⟨by omega, Or.inr ?_⟩
    rcases x with ⟨x1, x2, x3⟩ | ⟨x1, x2, x3, x4, x5⟩
    · exact ⟨by omega, by omega, by omega, by omega, by omega⟩
    · omega
theorem KE.same {c e : Nat} {h h1 h2 : Hp} {kd kd2 : Nat} (k : KE c e h h1 kd kd2) (q : h2.2 = h1.2) : KE c e h h2 kd kd2 := by unfold KE; rw [q]; exact k
theorem KE.or {c e : Nat} {h h1 : Hp} {kd kd2 : Nat} (k : KE c e h h1 kd kd2) : kd2 = kd ∨ h.2.1 ≤ kd2 := by
  rcases k.2 with q | q
  · exact Or.inl q.1
  · exact Or.inr q.2.1
def QNe (c e : Nat) (reg : Nat → FR) (s ns w1 w2 : Nat) (wk dt : Value) (h0 : Hp) (kd : Nat) (r0 : Value) (a2 : FR) : Option Value → Hp → Prop := fun r h2 => r = some r0 ∧ ∃ kd2, KE c e h0 h2 kd kd2 ∧ LWA h2 reg ns kd2 ∧ Gx (SH kd) h0 h2 ∧ NW h2 s ns w1 w2 wk dt a2
theorem Gx.dse {h0 h h2 : Hp} {kd kd1 p : Nat} (x : Gx (SH kd) h0 h) (k : kd1 = kd ∨ h0.2.1 ≤ kd1) (y : Gx (DS p kd1) h h2) (hp : p = 76 ∨ p = 77) : Gx (SH kd) h0 h2 := ⟨Nat.le_trans x.1 y.1, fun q a b => by
  refine (y.2 q (Nat.lt_of_lt_of_le a x.1) (fun m => b ?_)).trans (x.2 q a b)
  simp at m
  rcases m with m | m | m | m | m | m
  · simp [m]
  · simp [m]
  · simp [m]
  · simp [m]
  · rcases hp with rfl | rfl <;> simp [m]
  · rcases k with k1 | k2
    · simp [m, k1]
    · omega⟩
theorem DV.off {Z : Nat → Prop} {h h2 : Hp} {reg : Nat → FR} {ns s sg kd q : Nat} {b : FR} (x : DV Z h reg ns s sg kd b) (o : ∀ z, z ≠ q → h2.1 z = h.1 z) (zz : h.2.1 ≤ h2.2.1) (hZ : ¬ Z q) (hk : q ≠ kd) (h139 : 139 ≤ q) : DV Z h2 reg ns s sg kd b := by
  obtain ⟨⟨⟨V0, V1, V2, l1⟩, ⟨kn, l2, l2'⟩, ⟨w, l3⟩, ⟨f, l4⟩, l5⟩, x2, x3, x4, x5, x6, x7, x8, x9⟩ := x
  refine ⟨⟨⟨V0, V1, V2, (o _ (by omega)).trans l1⟩, ⟨kn, (o _ (by omega)).trans l2, l2'⟩, ⟨w, (o _ (by omega)).trans l3⟩, ⟨f, (o _ (by omega)).trans l4⟩, fun z => ⟨(l5 z).1, ?_⟩⟩, x2.mono (fun z hz => o z (fun e => hZ (e ▸ hz))), fun z hz => ⟨(x3 z hz).1, (x3 z hz).2.1, Nat.lt_of_lt_of_le (x3 z hz).2.2 zz⟩, x4, x5, x6, x7, Nat.le_trans x8 zz, x9⟩
  obtain ⟨g, g1, g2⟩ := (l5 z).2
  exact ⟨g, (o _ (fun e => hk e.symm)).trans g1, g2⟩
set_option maxRecDepth 20000 in
set_option maxHeartbeats 1000000 in
theorem c_dinit {E : EnvT} {d : Nat} {h0 : Hp} {q : Nat} {u0 : Value} {x : Int32} (cq : h0.1 q = some (.inr (1, [u0]))) (hq : 64 ≤ q) (hd : 1 ≤ d) : Cn E mX1_init d [.ref q, .int x] h0 (fun r h2 => r = none ∧ Ex [q] h0 h2 ∧ h2.1 q = some (.inr (1, [.int x]))) := by
  have hx : Ex [q] h0 h0 := Ex.rf
  refine Cn.go (ls := [.ref q, .int x]) (by decide +kernel) rfl (Nat.le_of_ble_eq_true rfl) ?_
  refine r_aload_n (pc2 := 1) 0 dX1_init_0 rfl rfl rfl rfl ?_
  refine r_objInit (pc2 := 4) oX1_1 dX1_init_1 hq (Nat.le_of_ble_eq_true rfl) (by omega) rfl ?_
  refine r_aload_n (pc2 := 5) 0 dX1_init_4 rfl rfl rfl rfl ?_
  refine r_iload_n (pc2 := 6) 1 dX1_init_5 rfl rfl rfl ?_
  refine r_putfX (pc2 := 9) [.int x] fX1_7 dX1_init_6 cq hq (Nat.le_of_ble_eq_true rfl) rfl rfl rfl (fun h z6 o6 cq => ?_)
  have hx := hx.step (a := q) (by simp) z6 o6
  exact r_vret rfl dX1_init_9 ⟨rfl, hx, cq⟩
set_option maxRecDepth 20000 in
set_option maxHeartbeats 1000000 in
theorem c_draw1 {E : EnvT} {d : Nat} {h0 : Hp} {q b : Nat} {x : Int32} (cq : h0.1 q = some (.inr (1, [.int x]))) (hq : 64 ≤ q) (hb0 : 0 < b) (hb1 : b < 2 ^ 31) : Cn E mX1_draw d [.ref q, .int (nI b)] h0 (fun r h2 => r = some (.int (nI (dN (nx x) % b))) ∧ Ex [q] h0 h2 ∧ h2.1 q = some (.inr (1, [.int (nx x)]))) := by
  have hx : Ex [q] h0 h0 := Ex.rf
  refine Cn.go (ls := [.ref q, .int (nI b)]) (by decide +kernel) rfl (Nat.le_of_ble_eq_true rfl) ?_
  refine r_aload_n (pc2 := 1) 0 dX1_draw_0 rfl rfl rfl rfl ?_
  refine r_ldc (pc2 := 3) (v := 1103515245) qX1_13 dX1_draw_1 rfl ?_
  refine r_aload_n (pc2 := 4) 0 dX1_draw_3 rfl rfl rfl rfl ?_
  refine r_getf (pc2 := 7) (v := .int x) fX1_7 dX1_draw_4 cq hq rfl rfl ?_
  refine r_imul (pc2 := 8) dX1_draw_7 rfl ?_
  refine r_sipush (pc2 := 11) (v := 12345) dX1_draw_8 (by decide) rfl ?_
  refine r_iadd (pc2 := 12) dX1_draw_11 rfl ?_
  refine r_topi (fun y12 ey12 => ?_)
  refine r_putfX (pc2 := 15) [.int y12] fX1_7 dX1_draw_12 cq hq (Nat.le_of_ble_eq_true rfl) rfl rfl rfl (fun h z12 o12 cq => ?_)
  have hx := hx.step (a := q) (by simp) z12 o12
  refine r_iload_n (pc2 := 16) 1 dX1_draw_15 rfl rfl rfl ?_
  refine r_if_le (tgt := 31) (pc2 := 19) dX1_draw_16 (by decide) rfl (fun b16 => ?_) (fun b16 => ?_)
  · exact absurd b16 (nI_nle (n := b) hb0 (by omega))
  · skip
    refine r_aload_n (pc2 := 20) 0 dX1_draw_19 rfl rfl rfl rfl ?_
    refine r_getf (pc2 := 23) (v := .int y12) fX1_7 dX1_draw_20 cq hq rfl rfl ?_
    refine r_bipush (pc2 := 25) (v := 16) dX1_draw_23 (by decide) rfl ?_
    refine r_iushr (pc2 := 26) dX1_draw_25 rfl ?_
    refine r_cast (nI (dN (nx x))) (by rw [ey12]; exact dN_of _) ?_
    refine r_iload_n (pc2 := 27) 1 dX1_draw_26 rfl rfl rfl ?_
    refine r_irem (pc2 := 28) dX1_draw_27 (nI_ne0 hb0 hb1) rfl ?_
    refine r_cast (nI (dN (nx x) % b)) (pk_rem (by have := dN_lt (nx x); omega) hb0 hb1) ?_
    refine r_goto (pc2 := 32) dX1_draw_28 (by decide) ?_
    exact r_iret rfl dX1_draw_32 ⟨rfl, hx, by rw [ey12] at cq; exact cq⟩
set_option maxRecDepth 20000 in
set_option maxHeartbeats 1000000 in
theorem c_nextDeed {E : EnvT} {d : Nat} {h0 : Hp} {q : Nat} {x : Int32} (cq : h0.1 q = some (.inr (1, [.int x]))) (hq : 64 ≤ q) (hd : 1 ≤ d) : Cn E mX1_nextDeed d [.ref q] h0 (fun r h2 => r = some (.int (nI (drawK x))) ∧ Ex [q] h0 h2 ∧ h2.1 q = some (.inr (1, [.int (drawX x)]))) := by
  have hx : Ex [q] h0 h0 := Ex.rf
  have hm : dN (nx x) % 6 < 6 := Nat.mod_lt _ (by decide)
  by_cases ek : dN (nx x) % 6 = 0
  · skip
    refine Cn.go (ls := [.ref q, .float 0]) (by decide +kernel) rfl (Nat.le_of_ble_eq_true rfl) ?_
    refine r_aload_n (pc2 := 1) 0 dX1_nextDeed_0 rfl rfl rfl rfl ?_
    refine r_bipush (pc2 := 3) (v := 6) dX1_nextDeed_1 (by decide) rfl ?_
    refine r_callV1 (pc2 := 6) (As := [.int 6]) (st := []) kX1_14 rfl rfl dX1_nextDeed_3 cq hq rfl rfl (Nat.le_of_ble_eq_true rfl) (by omega) (c_draw1 (b := 6) cq hq (by decide) (by decide)) rfl (fun h hq3 => ?_)
    obtain ⟨hxd, cq⟩ := hq3
    have hx := hx.trans hxd (by simp)
    refine r_cast (0) (by rw [ek]; rfl) ?_
    refine r_tsw (pc2 := 0) (tgt := 40) (off := 34) dX1_nextDeed_6 (by decide) (by decide) (by decide) (by decide) ?_
    refine r_iconst (pc2 := 41) (v := 0) dX1_nextDeed_40 (by decide) rfl ?_
    exact r_iret rfl dX1_nextDeed_41 ⟨by rw [drawK, if_pos (by omega)]; rfl, hx, by rw [drawX, if_pos (by omega)]; exact cq⟩
  · have n0 := ek
    clear ek
    by_cases ek : dN (nx x) % 6 = 1
    · skip
      refine Cn.go (ls := [.ref q, .float 0]) (by decide +kernel) rfl (Nat.le_of_ble_eq_true rfl) ?_
      refine r_aload_n (pc2 := 1) 0 dX1_nextDeed_0 rfl rfl rfl rfl ?_
      refine r_bipush (pc2 := 3) (v := 6) dX1_nextDeed_1 (by decide) rfl ?_
      refine r_callV1 (pc2 := 6) (As := [.int 6]) (st := []) kX1_14 rfl rfl dX1_nextDeed_3 cq hq rfl rfl (Nat.le_of_ble_eq_true rfl) (by omega) (c_draw1 (b := 6) cq hq (by decide) (by decide)) rfl (fun h hq3 => ?_)
      obtain ⟨hxd, cq⟩ := hq3
      have hx := hx.trans hxd (by simp)
      refine r_cast (1) (by rw [ek]; rfl) ?_
      refine r_tsw (pc2 := 0) (tgt := 40) (off := 34) dX1_nextDeed_6 (by decide) (by decide) (by decide) (by decide) ?_
      refine r_iconst (pc2 := 41) (v := 0) dX1_nextDeed_40 (by decide) rfl ?_
      exact r_iret rfl dX1_nextDeed_41 ⟨by rw [drawK, if_pos (by omega)]; rfl, hx, by rw [drawX, if_pos (by omega)]; exact cq⟩
    · have n1 := ek
      clear ek
      by_cases ek : dN (nx x) % 6 = 2
      · skip
        refine Cn.go (ls := [.ref q, .float 0]) (by decide +kernel) rfl (Nat.le_of_ble_eq_true rfl) ?_
        refine r_aload_n (pc2 := 1) 0 dX1_nextDeed_0 rfl rfl rfl rfl ?_
        refine r_bipush (pc2 := 3) (v := 6) dX1_nextDeed_1 (by decide) rfl ?_
        refine r_callV1 (pc2 := 6) (As := [.int 6]) (st := []) kX1_14 rfl rfl dX1_nextDeed_3 cq hq rfl rfl (Nat.le_of_ble_eq_true rfl) (by omega) (c_draw1 (b := 6) cq hq (by decide) (by decide)) rfl (fun h hq3 => ?_)
        obtain ⟨hxd, cq⟩ := hq3
        have hx := hx.trans hxd (by simp)
        refine r_cast (2) (by rw [ek]; rfl) ?_
        refine r_tsw (pc2 := 0) (tgt := 42) (off := 36) dX1_nextDeed_6 (by decide) (by decide) (by decide) (by decide) ?_
        refine r_iconst (pc2 := 43) (v := 1) dX1_nextDeed_42 (by decide) rfl ?_
        refine r_aload_n (pc2 := 44) 0 dX1_nextDeed_43 rfl rfl rfl rfl ?_
        refine r_iconst (pc2 := 45) (v := 4) dX1_nextDeed_44 (by decide) rfl ?_
        refine r_callV1 (pc2 := 48) (As := [.int 4]) (st := [.int 1]) kX1_14 rfl rfl dX1_nextDeed_45 cq hq rfl rfl (Nat.le_of_ble_eq_true rfl) (by omega) (c_draw1 (b := 4) cq hq (by decide) (by decide)) rfl (fun h hq45 => ?_)
        obtain ⟨hxd, cq⟩ := hq45
        have hx := hx.trans hxd (by simp)
        refine r_ishl (pc2 := 49) dX1_nextDeed_48 rfl ?_
        refine r_cast (nI (2 ^ (dN (nx (nx x)) % 4))) (shl1 _ (by omega)) ?_
        exact r_iret rfl dX1_nextDeed_49 ⟨by rw [drawK, if_neg (by omega), if_pos (by omega)], hx, by rw [drawX, if_neg (by omega), if_pos (by omega)]; exact cq⟩
      · have n2 := ek
        clear ek
        by_cases ek : dN (nx x) % 6 = 3
        · skip
          refine Cn.go (ls := [.ref q, .float 0]) (by decide +kernel) rfl (Nat.le_of_ble_eq_true rfl) ?_
          refine r_aload_n (pc2 := 1) 0 dX1_nextDeed_0 rfl rfl rfl rfl ?_
          refine r_bipush (pc2 := 3) (v := 6) dX1_nextDeed_1 (by decide) rfl ?_
          refine r_callV1 (pc2 := 6) (As := [.int 6]) (st := []) kX1_14 rfl rfl dX1_nextDeed_3 cq hq rfl rfl (Nat.le_of_ble_eq_true rfl) (by omega) (c_draw1 (b := 6) cq hq (by decide) (by decide)) rfl (fun h hq3 => ?_)
          obtain ⟨hxd, cq⟩ := hq3
          have hx := hx.trans hxd (by simp)
          refine r_cast (3) (by rw [ek]; rfl) ?_
          refine r_tsw (pc2 := 0) (tgt := 42) (off := 36) dX1_nextDeed_6 (by decide) (by decide) (by decide) (by decide) ?_
          refine r_iconst (pc2 := 43) (v := 1) dX1_nextDeed_42 (by decide) rfl ?_
          refine r_aload_n (pc2 := 44) 0 dX1_nextDeed_43 rfl rfl rfl rfl ?_
          refine r_iconst (pc2 := 45) (v := 4) dX1_nextDeed_44 (by decide) rfl ?_
          refine r_callV1 (pc2 := 48) (As := [.int 4]) (st := [.int 1]) kX1_14 rfl rfl dX1_nextDeed_45 cq hq rfl rfl (Nat.le_of_ble_eq_true rfl) (by omega) (c_draw1 (b := 4) cq hq (by decide) (by decide)) rfl (fun h hq45 => ?_)
          obtain ⟨hxd, cq⟩ := hq45
          have hx := hx.trans hxd (by simp)
          refine r_ishl (pc2 := 49) dX1_nextDeed_48 rfl ?_
          refine r_cast (nI (2 ^ (dN (nx (nx x)) % 4))) (shl1 _ (by omega)) ?_
          exact r_iret rfl dX1_nextDeed_49 ⟨by rw [drawK, if_neg (by omega), if_pos (by omega)], hx, by rw [drawX, if_neg (by omega), if_pos (by omega)]; exact cq⟩
        · have n3 := ek
          clear ek
          by_cases ek : dN (nx x) % 6 = 4
          · skip
            refine Cn.go (ls := [.ref q, .float 0]) (by decide +kernel) rfl (Nat.le_of_ble_eq_true rfl) ?_
            refine r_aload_n (pc2 := 1) 0 dX1_nextDeed_0 rfl rfl rfl rfl ?_
            refine r_bipush (pc2 := 3) (v := 6) dX1_nextDeed_1 (by decide) rfl ?_
            refine r_callV1 (pc2 := 6) (As := [.int 6]) (st := []) kX1_14 rfl rfl dX1_nextDeed_3 cq hq rfl rfl (Nat.le_of_ble_eq_true rfl) (by omega) (c_draw1 (b := 6) cq hq (by decide) (by decide)) rfl (fun h hq3 => ?_)
            obtain ⟨hxd, cq⟩ := hq3
            have hx := hx.trans hxd (by simp)
            refine r_cast (4) (by rw [ek]; rfl) ?_
            refine r_tsw (pc2 := 0) (tgt := 50) (off := 44) dX1_nextDeed_6 (by decide) (by decide) (by decide) (by decide) ?_
            refine r_bipush (pc2 := 52) (v := 100) dX1_nextDeed_50 (by decide) rfl ?_
            refine r_aload_n (pc2 := 53) 0 dX1_nextDeed_52 rfl rfl rfl rfl ?_
            refine r_bipush (pc2 := 55) (v := 10) dX1_nextDeed_53 (by decide) rfl ?_
            refine r_callV1 (pc2 := 58) (As := [.int 10]) (st := [.int 100]) kX1_14 rfl rfl dX1_nextDeed_55 cq hq rfl rfl (Nat.le_of_ble_eq_true rfl) (by omega) (c_draw1 (b := 10) cq hq (by decide) (by decide)) rfl (fun h hq55 => ?_)
            obtain ⟨hxd, cq⟩ := hq55
            have hx := hx.trans hxd (by simp)
            refine r_iadd (pc2 := 59) dX1_nextDeed_58 rfl ?_
            refine r_cast (nI (100 + dN (nx (nx x)) % 10)) (nI_add 100 _) ?_
            exact r_iret rfl dX1_nextDeed_59 ⟨by rw [drawK, if_neg (by omega), if_neg (by omega), if_pos (by omega)], hx, by rw [drawX, if_neg (by omega), if_neg (by omega), if_pos (by omega)]; exact cq⟩
          · have n4 := ek
            clear ek
            have ek : dN (nx x) % 6 = 5 := by omega
            refine Cn.go (ls := [.ref q, .float 0]) (by decide +kernel) rfl (Nat.le_of_ble_eq_true rfl) ?_
            refine r_aload_n (pc2 := 1) 0 dX1_nextDeed_0 rfl rfl rfl rfl ?_
            refine r_bipush (pc2 := 3) (v := 6) dX1_nextDeed_1 (by decide) rfl ?_
            refine r_callV1 (pc2 := 6) (As := [.int 6]) (st := []) kX1_14 rfl rfl dX1_nextDeed_3 cq hq rfl rfl (Nat.le_of_ble_eq_true rfl) (by omega) (c_draw1 (b := 6) cq hq (by decide) (by decide)) rfl (fun h hq3 => ?_)
            obtain ⟨hxd, cq⟩ := hq3
            have hx := hx.trans hxd (by simp)
            refine r_cast (5) (by rw [ek]; rfl) ?_
            refine r_tswD (pc2 := 0) (tgt := 60) dX1_nextDeed_6 (by decide) (by decide) ?_
            refine r_aload_n (pc2 := 61) 0 dX1_nextDeed_60 rfl rfl rfl rfl ?_
            refine r_bipush (pc2 := 63) (v := 8) dX1_nextDeed_61 (by decide) rfl ?_
            refine r_callV1 (pc2 := 66) (As := [.int 8]) (st := []) kX1_14 rfl rfl dX1_nextDeed_63 cq hq rfl rfl (Nat.le_of_ble_eq_true rfl) (by omega) (c_draw1 (b := 8) cq hq (by decide) (by decide)) rfl (fun h hq63 => ?_)
            obtain ⟨hxd, cq⟩ := hq63
            have hx := hx.trans hxd (by simp)
            refine r_istore_n (pc2 := 67) (ls2 := [.ref q, .int (nI (dN (nx (nx x)) % 8))]) 1 dX1_nextDeed_66 rfl (by decide) rfl rfl rfl ?_
            refine r_sipush (pc2 := 70) (v := 300) dX1_nextDeed_67 (by decide) rfl ?_
            refine r_bipush (pc2 := 72) (v := 10) dX1_nextDeed_70 (by decide) rfl ?_
            refine r_iload_n (pc2 := 73) 1 dX1_nextDeed_72 rfl rfl rfl ?_
            refine r_imul (pc2 := 74) dX1_nextDeed_73 rfl ?_
            refine r_cast (nI (10 * (dN (nx (nx x)) % 8))) (pk_mul 10 _) ?_
            refine r_iadd (pc2 := 75) dX1_nextDeed_74 rfl ?_
            refine r_cast (nI (300 + 10 * (dN (nx (nx x)) % 8))) (nI_add 300 _) ?_
            refine r_aload_n (pc2 := 76) 0 dX1_nextDeed_75 rfl rfl rfl rfl ?_
            refine r_bipush (pc2 := 78) (v := 8) dX1_nextDeed_76 (by decide) rfl ?_
            refine r_callV1 (pc2 := 81) (As := [.int 8]) (st := [.int (nI (300 + 10 * (dN (nx (nx x)) % 8)))]) kX1_14 rfl rfl dX1_nextDeed_78 cq hq rfl rfl (Nat.le_of_ble_eq_true rfl) (by omega) (c_draw1 (b := 8) cq hq (by decide) (by decide)) rfl (fun h hq78 => ?_)
            obtain ⟨hxd, cq⟩ := hq78
            have hx := hx.trans hxd (by simp)
            refine r_iadd (pc2 := 82) dX1_nextDeed_81 rfl ?_
            refine r_cast (nI (300 + 10 * (dN (nx (nx x)) % 8) + dN (nx (nx (nx x))) % 8)) (nI_add _ _) ?_
            exact r_iret rfl dX1_nextDeed_82 ⟨by rw [drawK, if_neg (by omega), if_neg (by omega), if_neg (by omega)], hx, by rw [drawX, if_neg (by omega), if_neg (by omega), if_neg (by omega)]; exact cq⟩
set_option maxRecDepth 20000 in
set_option maxHeartbeats 1000000 in
theorem cl_night {E : EnvT} {d : Nat} {h0 : Hp} {ns s w1 w2 : Nat} {wk dt : Value} {Z : Nat → Prop} {reg : Nat → FR} {sg kd : Nat} {a b : FR} {x y : Int32} (hN : NW h0 s ns w1 w2 wk dt a) (hD : DV Z h0 reg ns s sg kd b) (hA : AIN a) (hst : Stat a b) (hkl : kd < h0.2.1) (hd : 7 ≤ d) : Cn E mX9_night d [.ref 64, .int x, .int y] h0 (QNe 1 1 reg s ns w1 w2 wk dt h0 kd (.int (nightF a x y)) (nightA a x y)) := by
  obtain ⟨c64, c76, h77, hM⟩ := hN
  obtain ⟨y0, y1, y2, y3, y4, y5, c77⟩ := id h77
  have hn := hD.2.2.2.2.2.2.2.1
  have hk0 : kd = 0 ∨ 139 ≤ kd := by
    by_cases z : kd = 0
    · exact Or.inl z
    · exact Or.inr (hD.1.2.2.2.2 z).1
  have hn0 := hn
  by_cases hy : inR 1 40 y
  · obtain ⟨n, n1, h40, rfl⟩ := inR_of (by decide) (by decide) hy
    have loop : ∀ (m k e : Nat) (x1 : Int32) (a1 : FR) (q : Nat) (h : Hp) (kd1 : Nat), k + m = n → e ≤ k → (nightT n x a 0) = nightT m x1 a1 e → AIN a1 → Same a1 a → KE 1 1 h0 h kd kd1 → DV Z h reg ns s sg kd1 b → Gx (SH kd) h0 h → ¬ Z q → q ≠ kd1 → 139 ≤ q → h0.2.1 ≤ q → q < h.2.1 → h.1 64 = some (.inr (9, coL s ns (a 45) w1 w2 wk dt)) → h.1 76 = some (.inr (5, sdL (keepV a1))) → h.1 77 = some (.inr (5, sdL (keepV a))) → MU h a → h.1 q = some (.inr (1, [.int x1])) → Fr E mX9_night d 40 [.ref 64, .int x, .int (nI n), .ref q, .int (nI e), .int (nI k)] [] h (QNe 1 1 reg s ns w1 w2 wk dt h0 kd (.int (nightF a x (nI n))) (nightA a x (nI n))) := by
      intro m
      induction m with
      | zero =>
        intro k e x1 a1 q h kd1 hk hek hT1 hA1 hS1 hKE hD hGx hZq hqk h139 hq0 hqh c64 c76 c77 hM cq
        obtain rfl : k = n := by omega
        have hn := hD.2.2.2.2.2.2.2.1
        have e1 : (nightT k x a 0).1 = e := by rw [hT1]; rfl
        have e2 : (nightT k x a 0).2 = a1 := by rw [hT1]; rfl
        have h45 : a1 45 ≤ 10 := by rw [hS1 45 (by omega)]; exact hA.nd
        by_cases he0 : e = 0
        · subst he0
          have e9 : a1 = a := e2.symm.trans ((nightT_ok k x a 0 hA).2.2.2 e1)
          refine r_iload (pc2 := 42) 5 dX9_night_40 rfl rfl ?_
          refine r_iload_n (pc2 := 43) 2 dX9_night_42 rfl rfl rfl ?_
          refine r_icmp_ge (tgt := 71) (pc2 := 46) dX9_night_43 (by decide) rfl (fun b43 => ?_) (fun b43 => ?_)
          · skip
            refine r_iload (pc2 := 73) 4 dX9_night_71 rfl rfl ?_
            refine r_if_le (tgt := 84) (pc2 := 76) dX9_night_73 (by decide) rfl (fun b73 => ?_) (fun b73 => ?_)
            · skip
              refine r_iload (pc2 := 86) 4 dX9_night_84 rfl rfl ?_
              exact r_iret rfl dX9_night_86 ⟨by unfold nightF; rw [if_pos hy, nI_clamp (by omega), e1], kd1, hKE, hD.1, hGx, by unfold nightA; rw [if_neg (fun q => q.2 (by rw [nI_clamp (by omega), e1]))]; exact ⟨c64, (by rw [e9] at c76; exact c76), aSt.of c77, hM⟩⟩
            · exact absurd (by decide) b73
          · exact absurd (nI_le (Nat.le_refl _) (by omega)) b43
        · have he0 : 0 < e := Nat.pos_of_ne_zero he0
          have hMg : MU h a1 := hM.ext (fun i hi _ => hS1 i (by omega)) hA.nd
          rw [← hS1 45 (by omega)] at c64
          refine r_iload (pc2 := 42) 5 dX9_night_40 rfl rfl ?_
          refine r_iload_n (pc2 := 43) 2 dX9_night_42 rfl rfl rfl ?_
          refine r_icmp_ge (tgt := 71) (pc2 := 46) dX9_night_43 (by decide) rfl (fun b43 => ?_) (fun b43 => ?_)
          · skip
            refine r_iload (pc2 := 73) 4 dX9_night_71 rfl rfl ?_
            refine r_if_le (tgt := 84) (pc2 := 76) dX9_night_73 (by decide) rfl (fun b73 => ?_) (fun b73 => ?_)
            · exact absurd b73 (nI_nle (n := e) he0 (by omega))
            · skip
              refine r_aload_n (pc2 := 77) 0 dX9_night_76 rfl rfl rfl rfl ?_
              refine r_aload_n (pc2 := 78) 0 dX9_night_77 rfl rfl rfl rfl ?_
              refine r_getf (pc2 := 81) (v := .ref 77) fX9_32 dX9_night_78 c64 (by decide) rfl rfl ?_
              refine r_callV0 (pc2 := 84) (As := [.ref 77]) (st := []) kX9_200 rfl rfl dX9_night_81 c64 (by decide) rfl rfl (Nat.le_of_ble_eq_true rfl) (by omega) (c_keepForUndo (a := a1) (w := (keepV a)) c64 hMg h45 c77 (Or.inr rfl) (by omega)) rfl (fun h hq81 => ?_)
              obtain ⟨hxk, c64, hM2⟩ := hq81
              have c76 := hxk.get (by simp) c76
              have c77 := hxk.get (by simp) c77
              refine r_iload (pc2 := 86) 4 dX9_night_84 rfl rfl ?_
              exact r_iret rfl dX9_night_86 ⟨by unfold nightF; rw [if_pos hy, nI_clamp (by omega), e1], kd1, hKE.same hxk.1, hD.1.ex hxk (by simp), hGx.ex hxk (by simp), by unfold nightA; rw [if_pos ⟨hy, by rw [nI_clamp (by omega), e1]; omega⟩, nI_clamp (by omega), e2]; exact ⟨c64, by rw [keepV_notes h45]; exact c76, aSt.of c77, hM2⟩⟩
          · exact absurd (nI_le (Nat.le_refl _) (by omega)) b43
      | succ m ih =>
        intro k e x1 a1 q h kd1 hk hek hT1 hA1 hS1 hKE hD hGx hZq hqk h139 hq0 hqh c64 c76 c77 hM cq
        have hlt : k < n := by omega
        have hn := hD.2.2.2.2.2.2.2.1
        have hk1 : kd1 = 0 ∨ 139 ≤ kd1 := by
          by_cases z : kd1 = 0
          · exact Or.inl z
          · exact Or.inr (hD.1.2.2.2.2 z).1
        by_cases hw : whyD a1 (lN (drawK x1)) = 0
        · skip
          refine r_iload (pc2 := 42) 5 dX9_night_40 rfl rfl ?_
          refine r_iload_n (pc2 := 43) 2 dX9_night_42 rfl rfl rfl ?_
          refine r_icmp_ge (tgt := 71) (pc2 := 46) dX9_night_43 (by decide) rfl (fun b43 => ?_) (fun b43 => ?_)
          · exact absurd b43 (nI_ge hlt (by omega))
          · skip
            refine r_aload_n (pc2 := 47) 0 dX9_night_46 rfl rfl rfl rfl ?_
            refine r_aload_n (pc2 := 48) 0 dX9_night_47 rfl rfl rfl rfl ?_
            refine r_getf (pc2 := 51) (v := .ref 76) fX9_28 dX9_night_48 c64 (by decide) rfl rfl ?_
            refine r_aload_n (pc2 := 52) 3 dX9_night_51 rfl rfl rfl rfl ?_
            refine r_callV1 (pc2 := 55) (As := []) (st := [.ref 76, .ref 64]) kX9_231 rfl rfl dX9_night_52 cq (by omega) rfl rfl (Nat.le_of_ble_eq_true rfl) (by omega) (c_nextDeed cq (by omega) (by omega)) rfl (fun h hq52 => ?_)
            obtain ⟨hxd, cq⟩ := hq52
            have c64 := hxd.get (by simp; omega) c64
            have c76 := hxd.get (by simp; omega) c76
            have c77 := hxd.get (by simp; omega) c77
            have hD := hD.off (q := q) (fun z hz => hxd.2 z (by simpa using hz)) (by rw [hxd.1]; exact Nat.le_refl _) hZq hqk (by omega)
            have hM := hM.frame hA.nd (fun z hz => hxd.2 z (by simp; omega))
            have hGx := hGx.fresh (a := q) hq0 (fun z hz => hxd.2 z (by simpa using hz)) (by rw [hxd.1]; exact Nat.le_refl _)
            have hKE := hKE.same hxd.1
            have hqh : q < h.2.1 := by rw [hxd.1]; exact hqh
            have hn : 139 ≤ h.2.1 := by rw [hxd.1]; exact hn
            refine r_i2l (pc2 := 56) dX9_night_55 rfl ?_
            refine r_castl (lN (drawK x1)) (nI_l (by have := drawK_lt x1; omega)) ?_
            refine r_callV1 (pc2 := 59) (As := [.ref 76, .long (lN (drawK x1))]) (st := []) kX9_224 rfl rfl dX9_night_56 c64 (by decide) rfl rfl (Nat.le_of_ble_eq_true rfl) (by omega) (c_doDeed (a := a1) (v := lN (drawK x1)) c64 c76 (Or.inl rfl) hD hA1 (hS1.stat hst) (by omega)) rfl (fun h hq56 => ?_)
            obtain ⟨kd2, hKQ2, hL2, hg2, c76⟩ := hq56
            have c64 := hg2.get (by simp; omega) (by omega) c64
            have c77 := hg2.get (by simp; omega) (by omega) c77
            have cq := hg2.get (by simp; omega) (by omega) cq
            have hM := hM.frame hA.nd (fun q hq => hg2.2 q (by omega) (by simp; omega))
            have hGx := hGx.dse hKE.or hg2 (Or.inl rfl)
            have hKE := hKE.kq hKQ2 hn0
            have hD := hD.next (Or.inl rfl) hKQ2 hL2 hg2
            have hqk2 : q ≠ kd2 := by
              rcases hKQ2 with z | z
              · rw [z.1]; exact hqk
              · omega
            have hqh : q < h.2.1 := Nat.lt_of_lt_of_le hqh hg2.1
            rw [if_pos hw, lN_clamp (by have := drawK_lt x1; omega)] at c76
            refine r_if_ne (tgt := 65) (pc2 := 62) dX9_night_59 (by decide) rfl (fun b59 => ?_) (fun b59 => ?_)
            · exact absurd (congrArg nI hw) b59
            · skip
              obtain ⟨x62, e62⟩ : ∃ z : Int32, z = (nI e) + (1) := ⟨_, rfl⟩
              refine r_iinc (pc2 := 65) (ls2 := [.ref 64, .int x, .int (nI n), .ref q, .int x62, .int (nI k)]) (v := x62) 4 dX9_night_62 rfl (by rw [e62]; rfl) rfl rfl rfl ?_
              obtain ⟨x65, e65⟩ : ∃ z : Int32, z = (nI k) + (1) := ⟨_, rfl⟩
              refine r_iinc (pc2 := 68) (ls2 := [.ref 64, .int x, .int (nI n), .ref q, .int x62, .int x65]) (v := x65) 5 dX9_night_65 rfl (by rw [e65]; rfl) rfl rfl rfl ?_
              refine r_goto (pc2 := 40) dX9_night_68 (by decide) ?_
              rw [e62, nI_1]
              rw [e65, nI_1]
              exact ih (k + 1) (e + 1) (drawX x1) _ q h kd2 (by omega) (by omega) (hT1.trans (by rw [nightT, if_pos hw])) (hA1.does hw (drawK_lt x1)) (by have q9 := hS1.do1 hA1 hw; rw [lN_clamp (by have := drawK_lt x1; omega)] at q9; exact q9) hKE hD hGx hZq hqk2 h139 hq0 hqh c64 c76 c77 hM cq
        · skip
          refine r_iload (pc2 := 42) 5 dX9_night_40 rfl rfl ?_
          refine r_iload_n (pc2 := 43) 2 dX9_night_42 rfl rfl rfl ?_
          refine r_icmp_ge (tgt := 71) (pc2 := 46) dX9_night_43 (by decide) rfl (fun b43 => ?_) (fun b43 => ?_)
          · exact absurd b43 (nI_ge hlt (by omega))
          · skip
            refine r_aload_n (pc2 := 47) 0 dX9_night_46 rfl rfl rfl rfl ?_
            refine r_aload_n (pc2 := 48) 0 dX9_night_47 rfl rfl rfl rfl ?_
            refine r_getf (pc2 := 51) (v := .ref 76) fX9_28 dX9_night_48 c64 (by decide) rfl rfl ?_
            refine r_aload_n (pc2 := 52) 3 dX9_night_51 rfl rfl rfl rfl ?_
            refine r_callV1 (pc2 := 55) (As := []) (st := [.ref 76, .ref 64]) kX9_231 rfl rfl dX9_night_52 cq (by omega) rfl rfl (Nat.le_of_ble_eq_true rfl) (by omega) (c_nextDeed cq (by omega) (by omega)) rfl (fun h hq52 => ?_)
            obtain ⟨hxd, cq⟩ := hq52
            have c64 := hxd.get (by simp; omega) c64
            have c76 := hxd.get (by simp; omega) c76
            have c77 := hxd.get (by simp; omega) c77
            have hD := hD.off (q := q) (fun z hz => hxd.2 z (by simpa using hz)) (by rw [hxd.1]; exact Nat.le_refl _) hZq hqk (by omega)
            have hM := hM.frame hA.nd (fun z hz => hxd.2 z (by simp; omega))
            have hGx := hGx.fresh (a := q) hq0 (fun z hz => hxd.2 z (by simpa using hz)) (by rw [hxd.1]; exact Nat.le_refl _)
            have hKE := hKE.same hxd.1
            have hqh : q < h.2.1 := by rw [hxd.1]; exact hqh
            have hn : 139 ≤ h.2.1 := by rw [hxd.1]; exact hn
            refine r_i2l (pc2 := 56) dX9_night_55 rfl ?_
            refine r_castl (lN (drawK x1)) (nI_l (by have := drawK_lt x1; omega)) ?_
            refine r_callV1 (pc2 := 59) (As := [.ref 76, .long (lN (drawK x1))]) (st := []) kX9_224 rfl rfl dX9_night_56 c64 (by decide) rfl rfl (Nat.le_of_ble_eq_true rfl) (by omega) (c_doDeed (a := a1) (v := lN (drawK x1)) c64 c76 (Or.inl rfl) hD hA1 (hS1.stat hst) (by omega)) rfl (fun h hq56 => ?_)
            obtain ⟨kd2, hKQ2, hL2, hg2, c76⟩ := hq56
            have c64 := hg2.get (by simp; omega) (by omega) c64
            have c77 := hg2.get (by simp; omega) (by omega) c77
            have cq := hg2.get (by simp; omega) (by omega) cq
            have hM := hM.frame hA.nd (fun q hq => hg2.2 q (by omega) (by simp; omega))
            have hGx := hGx.dse hKE.or hg2 (Or.inl rfl)
            have hKE := hKE.kq hKQ2 hn0
            have hD := hD.next (Or.inl rfl) hKQ2 hL2 hg2
            have hqk2 : q ≠ kd2 := by
              rcases hKQ2 with z | z
              · rw [z.1]; exact hqk
              · omega
            have hqh : q < h.2.1 := Nat.lt_of_lt_of_le hqh hg2.1
            rw [if_neg hw] at c76
            refine r_if_ne (tgt := 65) (pc2 := 62) dX9_night_59 (by decide) rfl (fun b59 => ?_) (fun b59 => ?_)
            · skip
              obtain ⟨x65, e65⟩ : ∃ z : Int32, z = (nI k) + (1) := ⟨_, rfl⟩
              refine r_iinc (pc2 := 68) (ls2 := [.ref 64, .int x, .int (nI n), .ref q, .int (nI e), .int x65]) (v := x65) 5 dX9_night_65 rfl (by rw [e65]; rfl) rfl rfl rfl ?_
              refine r_goto (pc2 := 40) dX9_night_68 (by decide) ?_
              rw [e65, nI_1]
              exact ih (k + 1) e (drawX x1) a1 q h kd2 (by omega) (by omega) (hT1.trans (by rw [nightT, if_neg hw])) hA1 hS1 hKE hD hGx hZq hqk2 h139 hq0 hqh c64 c76 c77 hM cq
            · exact absurd ((nI_eq (b := 0) (by have := whyD_lt a1 (lN (drawK x1)); omega) (by decide)).mp b59) hw
    refine Cn.go (ls := [.ref 64, .int x, .int (nI n), .float 0, .float 0, .float 0]) (by decide +kernel) rfl (Nat.le_of_ble_eq_true rfl) ?_
    refine r_iload_n (pc2 := 1) 2 dX9_night_0 rfl rfl rfl ?_
    refine r_iconst (pc2 := 2) (v := 1) dX9_night_1 (by decide) rfl ?_
    refine r_icmp_lt (tgt := 11) (pc2 := 5) dX9_night_2 (by decide) rfl (fun b2 => ?_) (fun b2 => ?_)
    · exact absurd b2 (nI_nlt (b := 1) (by omega) (by omega))
    · skip
      refine r_iload_n (pc2 := 6) 2 dX9_night_5 rfl rfl rfl ?_
      refine r_bipush (pc2 := 8) (v := 40) dX9_night_6 (by decide) rfl ?_
      refine r_icmp_le (tgt := 14) (pc2 := 11) dX9_night_8 (by decide) rfl (fun b8 => ?_) (fun b8 => ?_)
      · skip
        refine r_aload_n (pc2 := 15) 0 dX9_night_14 rfl rfl rfl rfl ?_
        refine r_getf (pc2 := 18) (v := .ref 77) fX9_32 dX9_night_15 c64 (by decide) rfl rfl ?_
        refine r_aload_n (pc2 := 19) 0 dX9_night_18 rfl rfl rfl rfl ?_
        refine r_getf (pc2 := 22) (v := .ref 76) fX9_28 dX9_night_19 c64 (by decide) rfl rfl ?_
        refine r_callV0 (pc2 := 25) (As := [.ref 76]) (st := []) kX9_81 rfl rfl dX9_night_22 c77 (by decide) rfl rfl (Nat.le_of_ble_eq_true rfl) (by omega) (c_becomeK h77 c76 (by decide) (by decide) (by decide)) rfl (fun h hq22 => ?_)
        obtain ⟨hxb, c77⟩ := hq22
        have c64 := hxb.get (by decide) c64
        have c76 := hxb.get (by decide) c76
        have hD := hD.ex (Or.inr rfl) hxb
        have hM := hM.frame hA.nd (fun q hq => hxb.2 q (by simp; omega))
        have hn := hD.2.2.2.2.2.2.2.1
        have hkl : kd < h.2.1 := by rw [hxb.1]; exact hkl
        have hZ25 : ¬ Z h.2.1 := fun z => absurd (hD.2.2.1 _ z).2.2 (by omega)
        have eb1 : h.2.1 = h0.2.1 := by rw [hxb.1]
        have eb2 : h.2.2 = h0.2.2 := by rw [hxb.1]
        refine r_newX (pc2 := 28) nX9_228 dX9_night_25 rfl (by omega) (fun q h eq zc25 zs25 o25 c_q => ?_)
        have c64 := (o25 64 (by omega)).trans c64
        have c76 := (o25 76 (by omega)).trans c76
        have c77 := (o25 77 (by omega)).trans c77
        refine r_dup (pc2 := 29) dX9_night_28 rfl rfl ?_
        refine r_iload_n (pc2 := 30) 1 dX9_night_29 rfl rfl rfl ?_
        refine r_callI0 (pc2 := 33) (As := [.int x]) (st := [.ref q]) kX9_230 dX9_night_30 (by omega) rfl rfl (Nat.le_of_ble_eq_true rfl) (by omega) (c_dinit c_q (by omega) (by omega)) rfl (fun h hq30 => ?_)
        obtain ⟨hxi, cq⟩ := hq30
        have c64 := hxi.get (by simp; omega) c64
        have c76 := hxi.get (by simp; omega) c76
        have c77 := hxi.get (by simp; omega) c77
        have hD := hD.off (h2 := h) (q := q) (fun z hz => (hxi.2 z (by simpa using hz)).trans (o25 z hz)) (by rw [hxi.1]; omega) (by rw [eq]; exact hZ25) (by omega) (by omega)
        have hM := hM.frame hA.nd (fun z hz => (hxi.2 z (by simp; omega)).trans (o25 z (by omega)))
        have hi1 : h.2.1 = h0.2.1 + 1 := by rw [hxi.1]; omega
        have hi2 : h.2.2 = h0.2.2 + 1 := by rw [hxi.1]; omega
        refine r_astore_n (pc2 := 34) (ls2 := [.ref 64, .int x, .int (nI n), .ref q, .float 0, .float 0]) 3 dX9_night_33 rfl (by decide) rfl rfl rfl rfl ?_
        refine r_iconst (pc2 := 35) (v := 0) dX9_night_34 (by decide) rfl ?_
        refine r_cast (nI 0) (rfl) ?_
        refine r_istore (pc2 := 37) (ls2 := [.ref 64, .int x, .int (nI n), .ref q, .int (nI 0), .float 0]) 4 dX9_night_35 (by decide) rfl rfl rfl ?_
        refine r_iconst (pc2 := 38) (v := 0) dX9_night_37 (by decide) rfl ?_
        refine r_cast (nI 0) (rfl) ?_
        refine r_istore (pc2 := 40) (ls2 := [.ref 64, .int x, .int (nI n), .ref q, .int (nI 0), .int (nI 0)]) 5 dX9_night_38 (by decide) rfl rfl rfl ?_
        exact loop n 0 0 x a q h kd (by omega) (by omega) rfl hA (fun _ _ => rfl) ⟨by omega, Or.inl ⟨rfl, by omega, by omega⟩⟩ hD ⟨by omega, fun z h1 h2 => (hxi.2 z (by simp; omega)).trans ((o25 z (by omega)).trans (hxb.2 z (fun m => h2 (by simp at m ⊢; omega))))⟩ (by rw [eq]; exact hZ25) (by omega) (by omega) (by omega) (by omega) c64 c76 c77 hM cq
      · exact absurd (nI_le (b := 40) h40 (by decide)) b8
  · skip
    refine Cn.go (ls := [.ref 64, .int x, .int y, .float 0, .float 0, .float 0]) (by decide +kernel) rfl (Nat.le_of_ble_eq_true rfl) ?_
    refine r_iload_n (pc2 := 1) 2 dX9_night_0 rfl rfl rfl ?_
    refine r_iconst (pc2 := 2) (v := 1) dX9_night_1 (by decide) rfl ?_
    refine r_icmp_lt (tgt := 11) (pc2 := 5) dX9_night_2 (by decide) rfl (fun b2 => ?_) (fun b2 => ?_)
    · skip
      refine r_bipush (pc2 := 13) (v := -3) dX9_night_11 (by decide) rfl ?_
      exact r_iret rfl dX9_night_13 ⟨by unfold nightF; rw [if_neg hy], kd, KQ.rf.ke, hD.1, Gx.rf, by unfold nightA; rw [if_neg (fun q => hy q.1)]; exact ⟨c64, c76, h77, hM⟩⟩
    · skip
      refine r_iload_n (pc2 := 6) 2 dX9_night_5 rfl rfl rfl ?_
      refine r_bipush (pc2 := 8) (v := 40) dX9_night_6 (by decide) rfl ?_
      refine r_icmp_le (tgt := 14) (pc2 := 11) dX9_night_8 (by decide) rfl (fun b8 => ?_) (fun b8 => ?_)
      · exact absurd ((inR_iff (l := 1) (h := 40) (by decide) (by decide) y).mpr ⟨Int32.not_lt.mp b2, b8⟩) hy
      · skip
        refine r_bipush (pc2 := 13) (v := -3) dX9_night_11 (by decide) rfl ?_
        exact r_iret rfl dX9_night_13 ⟨by unfold nightF; rw [if_neg hy], kd, KQ.rf.ke, hD.1, Gx.rf, by unfold nightA; rw [if_neg (fun q => hy q.1)]; exact ⟨c64, c76, h77, hM⟩⟩
