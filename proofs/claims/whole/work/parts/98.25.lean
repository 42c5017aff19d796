/-! the class: addHour, countRows, rows -/
theorem KP_mv {a : FR} {K : Nat → Nat} {x s w : Nat} (hs : SG a s) (hA : AIN a) (hx : cst s = x) (hw : tws s = w) : sC (fun c => if okS a s c then Km a K w (cst (nxS a s c)) else 0) 16 = KP a K x := by
  have e : dcd x = s := by rw [← hx]; exact dcd_cst hs hA.C
  unfold KP
  rw [e]
  refine sC_congr 16 (fun c _ => ?_)
  by_cases ho : okS a s c
  · rw [if_pos ho, if_pos ho]
    unfold Km
    rw [if_pos (by rw [nxS_cst hs hA.G hA.C ho]; omega)]
  · rw [if_neg ho, if_neg ho]
set_option maxRecDepth 20000 in
set_option maxHeartbeats 1000000 in
theorem c_addHour {E : EnvT} {d : Nat} {h0 : Hp} {Z : Nat → Prop} {reg : Nat → FR} {ns s sg kd : Nat} {a b : FR} {q : Nat} {w0 : Nat} {wsd lk fd go gh op pa : Int32} {nz sh ps : Nat → Int32} {rt rh : Nat → Int64} {R : Nat → Nat} (cq : h0.1 q = some (.inr (8, wkL q s (nI (a 27)) (nI w0) wsd lk fd go gh op pa))) (crt : h0.1 (q + 3) = some (aL 24010 rt)) (crh : h0.1 (q + 4) = some (aL 10 rh)) (cnz : h0.1 (q + 5) = some (aI 16 nz)) (csh : h0.1 (q + 6) = some (aI 16 sh)) (cps : h0.1 (q + 7) = some (aI 16 ps)) (hz0 : nz 0 = 0 ∧ sh 0 = 0 ∧ ps 0 = 0) (hrt : ∀ y, y < 24010 → rt y = lN (R y)) (hSP : SP a R w0) (hw0 : w0 ≤ 7 ^ (a 3)) (hB : fRK R K1 < 2 ^ 62) (hW : WQ Z kd q) (hq7 : q + 7 < h0.2.1) (hL : LQ Z h0 reg ns s sg (a 27) kd b) (hA : AIN a) (hst : Stat a b) (hd : 5 ≤ d) : Cn E mX8_addHour d [.ref q] h0 (fun r h2 => r = none ∧ ∃ (R2 : Nat → Nat) (rt2 rh2 : Nat → Int64) (nz2 sh2 ps2 : Nat → Int32) (op2 pa2 : Int32), h2.1 q = some (.inr (8, wkL q s (nI (a 27)) (nI w0) wsd lk fd go gh op2 pa2)) ∧ h2.1 (q + 3) = some (aL 24010 rt2) ∧ h2.1 (q + 4) = some (aL 10 rh2) ∧ h2.1 (q + 5) = some (aI 16 nz2) ∧ h2.1 (q + 6) = some (aI 16 sh2) ∧ h2.1 (q + 7) = some (aI 16 ps2) ∧ (nz2 0 = 0 ∧ sh2 0 = 0 ∧ ps2 0 = 0) ∧ (∀ y, y < 24010 → rt2 y = lN (R2 y)) ∧ SP a R2 w0 ∧ (∀ K, Z0 K → fRK R2 K = fRK R (KP a K)) ∧ LQ Z h2 reg ns s sg (a 27) kd b ∧ GQ [q, q + 3, q + 4, q + 5, q + 6, q + 7] kd h0 h2 kd) := by
  have hG := hA.G
  have hn0 := hL.dv.n
  have hk0 := hL.dv.k0
  have hq139 := hW.1
  have hqk := hW.2.1
  have hs64 := hL.dv.s64
  have hzs := hL.dv.zs
  have hqs := hW.2.2 s hL.2.2.2.2.2.2.2.2.1
  have st3 : a 3 = b 3 := hst 3 (by omega)
  have hp7 := pw7 (a 3) (by omega)
  obtain ⟨lo, so9, sa, nl, sl, cs⟩ := hL.dv.cs
  have hRb : ∀ y, y < 24010 → R y < 2 ^ 62 := fun y hy => Nat.lt_of_le_of_lt (hSP.le hy) hB
  have loop : ∀ (m : Nat) (h : Hp) (Rc : Nat → Nat) (rt rh : Nat → Int64) (nz sh ps : Nat → Int32) (op pa W1 : Int32) (u2 : Value), W1 = nI (w0 + m) - 1 → w0 + m ≤ 7 ^ (a 3) → (∀ y, y < 24010 → rt y = lN (Rc y)) → SP a Rc w0 → (∀ K, Z0 K → fRK Rc (Km a K (w0 + m)) = fRK R (KP a K)) → (∀ y, y < 10 * (w0 + m) → Rc y = R y) → GQ [q, q + 3, q + 4, q + 5, q + 6, q + 7] kd h0 h kd → LQ Z h reg ns s sg (a 27) kd b → h.1 q = some (.inr (8, wkL q s (nI (a 27)) (nI w0) wsd lk fd go gh op pa)) → h.1 (q + 3) = some (aL 24010 rt) → h.1 (q + 4) = some (aL 10 rh) → h.1 (q + 5) = some (aI 16 nz) → h.1 (q + 6) = some (aI 16 sh) → h.1 (q + 7) = some (aI 16 ps) → (nz 0 = 0 ∧ sh 0 = 0 ∧ ps 0 = 0) → Fr E mX8_addHour d 14 [.ref q, .int W1, u2] [] h (fun r h2 => r = none ∧ ∃ (R2 : Nat → Nat) (rt2 rh2 : Nat → Int64) (nz2 sh2 ps2 : Nat → Int32) (op2 pa2 : Int32), h2.1 q = some (.inr (8, wkL q s (nI (a 27)) (nI w0) wsd lk fd go gh op2 pa2)) ∧ h2.1 (q + 3) = some (aL 24010 rt2) ∧ h2.1 (q + 4) = some (aL 10 rh2) ∧ h2.1 (q + 5) = some (aI 16 nz2) ∧ h2.1 (q + 6) = some (aI 16 sh2) ∧ h2.1 (q + 7) = some (aI 16 ps2) ∧ (nz2 0 = 0 ∧ sh2 0 = 0 ∧ ps2 0 = 0) ∧ (∀ y, y < 24010 → rt2 y = lN (R2 y)) ∧ SP a R2 w0 ∧ (∀ K, Z0 K → fRK R2 K = fRK R (KP a K)) ∧ LQ Z h2 reg ns s sg (a 27) kd b ∧ GQ [q, q + 3, q + 4, q + 5, q + 6, q + 7] kd h0 h2 kd) := by
    intro m
    induction m with
    | zero =>
      intro h Rc rt rh nz sh ps op pa W1 u2 eW hwm hrt hSP hI hlow hQ hL cq crt crh cnz csh cps hz0
      refine r_iload_n (pc2 := 15) 1 dX8_addHour_14 rfl rfl rfl ?_
      refine r_aload_n (pc2 := 16) 0 dX8_addHour_15 rfl rfl rfl rfl ?_
      refine r_getf (pc2 := 19) (v := .int (nI w0)) fX8_9 dX8_addHour_16 cq (by omega) rfl rfl ?_
      refine r_icmp_lt (tgt := 102) (pc2 := 22) dX8_addHour_19 (by decide) rfl (fun b19 => ?_) (fun b19 => ?_)
      · skip
        exact r_vret rfl dX8_addHour_102 ⟨rfl, Rc, rt, rh, nz, sh, ps, op, pa, cq, crt, crh, cnz, csh, cps, hz0, hrt, hSP, fun K hK => by rw [← hI K hK]; exact (fRK_bot hSP).symm, hL, hQ⟩
      · exact absurd (by rw [eW]; exact nI_m1lt (by omega)) b19
    | succ m ih =>
      intro h Rc rt rh nz sh ps op pa W1 u2 eW hwm hrt hSP hI hlow hQ hL cq crt crh cnz csh cps hz0
      obtain ⟨w, hw⟩ : ∃ w, w = w0 + m := ⟨_, rfl⟩
      rw [show w0 + (m + 1) = w + 1 by omega] at eW hwm hI hlow
      rw [← hw] at ih
      have eW2 : W1 = nI w := eW.trans (nI_pred w)
      subst eW2
      have loopB : ∀ (m e : Nat) (h : Hp) (Rd : Nat → Nat) (rt : Nat → Int64) (nz sh ps : Nat → Int32) (op pa : Int32), e + m = 10 → 1 ≤ e → (∀ y, y < 24010 → rt y = lN (Rd y)) → SP a Rd w0 → (∀ K, Z0 K → fRK Rd (Km a K w) = fRK (R1w Rc w 10) (Km a K w) + sC (hrS a K Rc w) e) → (∀ y, y < 10 * w → Rd y = R y) → ∀ {rh : Nat → Int64}, (∀ j, 1 ≤ j → j < 10 → rh j = lN (Rc (10 * w + j))) → GQ [q, q + 3, q + 4, q + 5, q + 6, q + 7] kd h0 h kd → LQ Z h reg ns s sg (a 27) kd b → h.1 q = some (.inr (8, wkL q s (nI (a 27)) (nI w0) wsd lk fd go gh op pa)) → h.1 (q + 3) = some (aL 24010 rt) → h.1 (q + 4) = some (aL 10 rh) → h.1 (q + 5) = some (aI 16 nz) → h.1 (q + 6) = some (aI 16 sh) → h.1 (q + 7) = some (aI 16 ps) → (nz 0 = 0 ∧ sh 0 = 0 ∧ ps 0 = 0) → Fr E mX8_addHour d 67 [.ref q, .int (nI w), .int (nI e)] [] h (fun r h2 => r = none ∧ ∃ (R2 : Nat → Nat) (rt2 rh2 : Nat → Int64) (nz2 sh2 ps2 : Nat → Int32) (op2 pa2 : Int32), h2.1 q = some (.inr (8, wkL q s (nI (a 27)) (nI w0) wsd lk fd go gh op2 pa2)) ∧ h2.1 (q + 3) = some (aL 24010 rt2) ∧ h2.1 (q + 4) = some (aL 10 rh2) ∧ h2.1 (q + 5) = some (aI 16 nz2) ∧ h2.1 (q + 6) = some (aI 16 sh2) ∧ h2.1 (q + 7) = some (aI 16 ps2) ∧ (nz2 0 = 0 ∧ sh2 0 = 0 ∧ ps2 0 = 0) ∧ (∀ y, y < 24010 → rt2 y = lN (R2 y)) ∧ SP a R2 w0 ∧ (∀ K, Z0 K → fRK R2 K = fRK R (KP a K)) ∧ LQ Z h2 reg ns s sg (a 27) kd b ∧ GQ [q, q + 3, q + 4, q + 5, q + 6, q + 7] kd h0 h2 kd) := by
        intro m
        induction m with
        | zero =>
          intro e h Rd rt nz sh ps op pa he he1 hr hSPd hJ hlow2 rh hh hQ hL cq crt crh cnz csh cps hz0
          obtain rfl : e = 10 := by omega
          refine r_iload_n (pc2 := 68) 2 dX8_addHour_67 rfl rfl rfl ?_
          refine r_bipush (pc2 := 70) (v := 10) dX8_addHour_68 (by decide) rfl ?_
          refine r_icmp_ge (tgt := 96) (pc2 := 73) dX8_addHour_70 (by decide) rfl (fun b70 => ?_) (fun b70 => ?_)
          · skip
            obtain ⟨x96, e96⟩ : ∃ z : Int32, z = (nI w) + (-1) := ⟨_, rfl⟩
            refine r_iinc (pc2 := 99) (ls2 := [.ref q, .int x96, .int (nI 10)]) (v := x96) 1 dX8_addHour_96 rfl (by rw [e96]; rfl) rfl rfl rfl ?_
            refine r_goto (pc2 := 14) dX8_addHour_99 (by decide) ?_
            exact ih h Rd rt rh nz sh ps op pa x96 _ (by rw [e96]; exact addm1 _) (by omega) hr hSPd (fun K hK => by rw [hJ K hK, ← row_out (by omega) hK]; exact hI K hK) hlow2 hQ hL cq crt crh cnz csh cps hz0
          · exact absurd (by decide) b70
        | succ m ihB =>
          intro e h Rd rt nz sh ps op pa he he1 hr hSPd hJ hlow2 rh hh hQ hL cq crt crh cnz csh cps hz0
          have hRl : Rc (10 * w + e) < 2 ^ 62 := by rw [hlow _ (by omega)]; exact hRb _ (by omega)
          by_cases hz : Rc (10 * w + e) = 0
          · skip
            refine r_iload_n (pc2 := 68) 2 dX8_addHour_67 rfl rfl rfl ?_
            refine r_bipush (pc2 := 70) (v := 10) dX8_addHour_68 (by decide) rfl ?_
            refine r_icmp_ge (tgt := 96) (pc2 := 73) dX8_addHour_70 (by decide) rfl (fun b70 => ?_) (fun b70 => ?_)
            · exact absurd b70 (nI_ge (b := 10) (by omega) (by decide))
            · skip
              refine r_aload_n (pc2 := 74) 0 dX8_addHour_73 rfl rfl rfl rfl ?_
              refine r_getf (pc2 := 77) (v := .ref (q + 4)) fX8_26 dX8_addHour_74 cq (by omega) rfl rfl ?_
              refine r_iload_n (pc2 := 78) 2 dX8_addHour_77 rfl rfl rfl ?_
              refine r_laldN (pc2 := 79) e dX8_addHour_78 crh (by omega) rfl (by omega) (by decide) rfl ?_
              refine r_castl (lN (Rc (10 * w + e))) (hh e (by omega) (by omega)) ?_
              refine r_lconst (pc2 := 80) (v := 0) dX8_addHour_79 (by decide) rfl ?_
              refine r_lcmp (pc2 := 81) dX8_addHour_80 rfl ?_
              refine r_if_le (tgt := 90) (pc2 := 84) dX8_addHour_81 (by decide) rfl (fun b81 => ?_) (fun b81 => ?_)
              · skip
                obtain ⟨x90, e90⟩ : ∃ z : Int32, z = (nI e) + (1) := ⟨_, rfl⟩
                refine r_iinc (pc2 := 93) (ls2 := [.ref q, .int (nI w), .int x90]) (v := x90) 2 dX8_addHour_90 rfl (by rw [e90]; rfl) rfl rfl rfl ?_
                refine r_goto (pc2 := 67) dX8_addHour_93 (by decide) ?_
                rw [e90, nI_1]
                exact ihB (e + 1) h Rd rt nz sh ps op pa (by omega) (by omega) hr hSPd (fun K hK => by rw [hJ K hK]; show _ = _ + (sC (hrS a K Rc w) e + (if e = 0 then 0 else _)); rw [if_neg (by omega), hz, Nat.zero_mul]; omega) hlow2 hh hQ hL cq crt crh cnz csh cps hz0
              · exact absurd ((lgc_le _ _).mpr (by rw [hz]; decide)) b81
          · obtain ⟨x9, hs9, hz9, hcx, hwx⟩ := hSP (10 * w + e) (by omega) hz
            have hcd := cst_d hs9.dep
            have hde : x9 / 4096 = e := by rw [← hcd.1, hcx]; omega
            have htw : tws x9 = w := by rw [← hcd.2, hcx]; omega
            refine r_iload_n (pc2 := 68) 2 dX8_addHour_67 rfl rfl rfl ?_
            refine r_bipush (pc2 := 70) (v := 10) dX8_addHour_68 (by decide) rfl ?_
            refine r_icmp_ge (tgt := 96) (pc2 := 73) dX8_addHour_70 (by decide) rfl (fun b70 => ?_) (fun b70 => ?_)
            · exact absurd b70 (nI_ge (b := 10) (by omega) (by decide))
            · skip
              refine r_aload_n (pc2 := 74) 0 dX8_addHour_73 rfl rfl rfl rfl ?_
              refine r_getf (pc2 := 77) (v := .ref (q + 4)) fX8_26 dX8_addHour_74 cq (by omega) rfl rfl ?_
              refine r_iload_n (pc2 := 78) 2 dX8_addHour_77 rfl rfl rfl ?_
              refine r_laldN (pc2 := 79) e dX8_addHour_78 crh (by omega) rfl (by omega) (by decide) rfl ?_
              refine r_castl (lN (Rc (10 * w + e))) (hh e (by omega) (by omega)) ?_
              refine r_lconst (pc2 := 80) (v := 0) dX8_addHour_79 (by decide) rfl ?_
              refine r_lcmp (pc2 := 81) dX8_addHour_80 rfl ?_
              refine r_if_le (tgt := 90) (pc2 := 84) dX8_addHour_81 (by decide) rfl (fun b81 => ?_) (fun b81 => ?_)
              · exact absurd ((pk_lLE (b := 0) (by omega) (by decide)).mp ((lgc_le _ _).mp b81)) (by omega)
              · skip
                refine r_aload_n (pc2 := 85) 0 dX8_addHour_84 rfl rfl rfl rfl ?_
                refine r_iload_n (pc2 := 86) 1 dX8_addHour_85 rfl rfl rfl ?_
                refine r_iload_n (pc2 := 87) 2 dX8_addHour_86 rfl rfl rfl ?_
                refine r_callV0 (pc2 := 90) (As := [.int (nI w), .int (nI e)]) (st := []) kX8_132 rfl rfl dX8_addHour_87 cq (by omega) rfl rfl (Nat.le_of_ble_eq_true rfl) (by omega) (c_moveRows (x := x9) (H := Rc (10 * w + e)) (w0 := w0) cq crt crh cnz csh cps hz0 hr (by rw [hde]; exact hh e (by omega) (by omega)) hSPd (by omega) hW (by have := hQ.2.1; omega) hL hA hst hs9 (by omega) (by rw [htw]) (by rw [hde]) (by omega)) rfl (fun h hq87 => ?_)
                obtain ⟨R2, rt2, nz2, sh2, ps2, op2, pa2, cq, crt, crh, cnz, csh, cps, hz2, hr2, hMV, hSP2, hlow3, hL, hQ2⟩ := hq87
                have hQ := hQ.trans (hQ2.mono (by simp)) hn0
                obtain ⟨x90, e90⟩ : ∃ z : Int32, z = (nI e) + (1) := ⟨_, rfl⟩
                refine r_iinc (pc2 := 93) (ls2 := [.ref q, .int (nI w), .int x90]) (v := x90) 2 dX8_addHour_90 rfl (by rw [e90]; rfl) rfl rfl rfl ?_
                refine r_goto (pc2 := 67) dX8_addHour_93 (by decide) ?_
                rw [e90, nI_1]
                exact ihB (e + 1) h R2 rt2 nz2 sh2 ps2 op2 pa2 (by omega) (by omega) hr2 hSP2 (fun K hK => by rw [hMV _ (Km_z hK w), KP_mv hs9 hA hcx htw, hJ K hK]; show _ = _ + (sC (hrS a K Rc w) e + (if e = 0 then 0 else _)); rw [if_neg (by omega)]; omega) (fun y hy => (hlow3 y (by omega)).trans (hlow2 y hy)) hh hQ hL cq crt crh cnz csh cps hz2
      have loopA : ∀ (m e : Nat) (h : Hp) (rt rh : Nat → Int64), e + m = 10 → 1 ≤ e → (∀ y, y < 24010 → rt y = lN (R1w Rc w e y)) → (∀ j, 1 ≤ j → j < e → rh j = lN (Rc (10 * w + j))) → GQ [q, q + 3, q + 4, q + 5, q + 6, q + 7] kd h0 h kd → LQ Z h reg ns s sg (a 27) kd b → h.1 q = some (.inr (8, wkL q s (nI (a 27)) (nI w0) wsd lk fd go gh op pa)) → h.1 (q + 3) = some (aL 24010 rt) → h.1 (q + 4) = some (aL 10 rh) → h.1 (q + 5) = some (aI 16 nz) → h.1 (q + 6) = some (aI 16 sh) → h.1 (q + 7) = some (aI 16 ps) → Fr E mX8_addHour d 24 [.ref q, .int (nI w), .int (nI e)] [] h (fun r h2 => r = none ∧ ∃ (R2 : Nat → Nat) (rt2 rh2 : Nat → Int64) (nz2 sh2 ps2 : Nat → Int32) (op2 pa2 : Int32), h2.1 q = some (.inr (8, wkL q s (nI (a 27)) (nI w0) wsd lk fd go gh op2 pa2)) ∧ h2.1 (q + 3) = some (aL 24010 rt2) ∧ h2.1 (q + 4) = some (aL 10 rh2) ∧ h2.1 (q + 5) = some (aI 16 nz2) ∧ h2.1 (q + 6) = some (aI 16 sh2) ∧ h2.1 (q + 7) = some (aI 16 ps2) ∧ (nz2 0 = 0 ∧ sh2 0 = 0 ∧ ps2 0 = 0) ∧ (∀ y, y < 24010 → rt2 y = lN (R2 y)) ∧ SP a R2 w0 ∧ (∀ K, Z0 K → fRK R2 K = fRK R (KP a K)) ∧ LQ Z h2 reg ns s sg (a 27) kd b ∧ GQ [q, q + 3, q + 4, q + 5, q + 6, q + 7] kd h0 h2 kd) := by
        intro m
        induction m with
        | zero =>
          intro e h rt rh he he1 hr hh hQ hL cq crt crh cnz csh cps
          obtain rfl : e = 10 := by omega
          refine r_iload_n (pc2 := 25) 2 dX8_addHour_24 rfl rfl rfl ?_
          refine r_bipush (pc2 := 27) (v := 10) dX8_addHour_25 (by decide) rfl ?_
          refine r_icmp_ge (tgt := 65) (pc2 := 30) dX8_addHour_27 (by decide) rfl (fun b27 => ?_) (fun b27 => ?_)
          · skip
            refine r_iconst (pc2 := 66) (v := 1) dX8_addHour_65 (by decide) rfl ?_
            refine r_cast (nI 1) (rfl) ?_
            refine r_istore_n (pc2 := 67) (ls2 := [.ref q, .int (nI w), .int (nI 1)]) 2 dX8_addHour_66 rfl (by decide) rfl rfl rfl ?_
            exact loopB 9 1 h (R1w Rc w 10) rt nz sh ps op pa (by omega) (by omega) hr hSP.out (fun K hK => by show _ = _ + (0 + (if 0 = 0 then 0 else _)); rw [if_pos rfl]; omega) (fun y hy => by unfold R1w; rw [if_neg (by omega)]; exact hlow y (by omega)) hh hQ hL cq crt crh cnz csh cps hz0
          · exact absurd (by decide) b27
        | succ m ihA =>
          intro e h rt rh he he1 hr hh hQ hL cq crt crh cnz csh cps
          refine r_iload_n (pc2 := 25) 2 dX8_addHour_24 rfl rfl rfl ?_
          refine r_bipush (pc2 := 27) (v := 10) dX8_addHour_25 (by decide) rfl ?_
          refine r_icmp_ge (tgt := 65) (pc2 := 30) dX8_addHour_27 (by decide) rfl (fun b27 => ?_) (fun b27 => ?_)
          · exact absurd b27 (nI_ge (b := 10) (by omega) (by decide))
          · skip
            refine r_aload_n (pc2 := 31) 0 dX8_addHour_30 rfl rfl rfl rfl ?_
            refine r_getf (pc2 := 34) (v := .ref (q + 4)) fX8_26 dX8_addHour_31 cq (by omega) rfl rfl ?_
            refine r_iload_n (pc2 := 35) 2 dX8_addHour_34 rfl rfl rfl ?_
            refine r_aload_n (pc2 := 36) 0 dX8_addHour_35 rfl rfl rfl rfl ?_
            refine r_getf (pc2 := 39) (v := .ref (q + 3)) fX8_22 dX8_addHour_36 cq (by omega) rfl rfl ?_
            refine r_iload_n (pc2 := 40) 1 dX8_addHour_39 rfl rfl rfl ?_
            refine r_bipush (pc2 := 42) (v := 10) dX8_addHour_40 (by decide) rfl ?_
            refine r_imul (pc2 := 43) dX8_addHour_42 rfl ?_
            refine r_cast (nI (w * 10)) (pk_mul _ 10) ?_
            refine r_iload_n (pc2 := 44) 2 dX8_addHour_43 rfl rfl rfl ?_
            refine r_iadd (pc2 := 45) dX8_addHour_44 rfl ?_
            refine r_cast (nI (10 * w + e)) (by rw [nI_add]; exact congrArg nI (by omega)) ?_
            refine r_laldN (pc2 := 46) (10 * w + e) dX8_addHour_45 crt (by omega) rfl (by omega) (by decide) rfl ?_
            refine r_castl (lN (Rc (10 * w + e))) ((hr (10 * w + e) (by omega)).trans (by unfold R1w; rw [if_neg (by omega)])) ?_
            refine r_lastN (pc2 := 47) e dX8_addHour_46 crh (by omega) rfl (by omega) (by decide) rfl (fun h z46 o46 crh => ?_)
            have cq := (o46 q (by omega)).trans cq
            have crt := (o46 (q + 3) (by omega)).trans crt
            have cnz := (o46 (q + 5) (by omega)).trans cnz
            have csh := (o46 (q + 6) (by omega)).trans csh
            have cps := (o46 (q + 7) (by omega)).trans cps
            have hxw : Ex [q + 4] _ h := ⟨z46, fun y hy => o46 y (by simpa using hy)⟩
            have hL := hL.ex hxw (hW.off (by simp))
            have hQ := hQ.wr hxw (by simp)
            refine r_aload_n (pc2 := 48) 0 dX8_addHour_47 rfl rfl rfl rfl ?_
            refine r_getf (pc2 := 51) (v := .ref (q + 3)) fX8_22 dX8_addHour_48 cq (by omega) rfl rfl ?_
            refine r_iload_n (pc2 := 52) 1 dX8_addHour_51 rfl rfl rfl ?_
            refine r_bipush (pc2 := 54) (v := 10) dX8_addHour_52 (by decide) rfl ?_
            refine r_imul (pc2 := 55) dX8_addHour_54 rfl ?_
            refine r_cast (nI (w * 10)) (pk_mul _ 10) ?_
            refine r_iload_n (pc2 := 56) 2 dX8_addHour_55 rfl rfl rfl ?_
            refine r_iadd (pc2 := 57) dX8_addHour_56 rfl ?_
            refine r_cast (nI (10 * w + e)) (by rw [nI_add]; exact congrArg nI (by omega)) ?_
            refine r_lconst (pc2 := 58) (v := 0) dX8_addHour_57 (by decide) rfl ?_
            refine r_castl (lN 0) (rfl) ?_
            refine r_lastN (pc2 := 59) (10 * w + e) dX8_addHour_58 crt (by omega) rfl (by omega) (by decide) rfl (fun h z58 o58 crt => ?_)
            have cq := (o58 q (by omega)).trans cq
            have crh := (o58 (q + 4) (by omega)).trans crh
            have cnz := (o58 (q + 5) (by omega)).trans cnz
            have csh := (o58 (q + 6) (by omega)).trans csh
            have cps := (o58 (q + 7) (by omega)).trans cps
            have hxw : Ex [q + 3] _ h := ⟨z58, fun y hy => o58 y (by simpa using hy)⟩
            have hL := hL.ex hxw (hW.off (by simp))
            have hQ := hQ.wr hxw (by simp)
            obtain ⟨x59, e59⟩ : ∃ z : Int32, z = (nI e) + (1) := ⟨_, rfl⟩
            refine r_iinc (pc2 := 62) (ls2 := [.ref q, .int (nI w), .int x59]) (v := x59) 2 dX8_addHour_59 rfl (by rw [e59]; rfl) rfl rfl rfl ?_
            refine r_goto (pc2 := 24) dX8_addHour_62 (by decide) ?_
            rw [e59, nI_1]
            exact ihA (e + 1) h _ _ (by omega) (by omega) (fun y hy => by rw [← R1w_s (by omega)]; exact lN_up hr y hy) (fun j h1 h2 => by
              by_cases z : j = e
              · subst z; exact if_pos rfl
              · exact (if_neg z).trans (hh j h1 (by omega))) hQ hL cq crt crh cnz csh cps
      refine r_iload_n (pc2 := 15) 1 dX8_addHour_14 rfl rfl rfl ?_
      refine r_aload_n (pc2 := 16) 0 dX8_addHour_15 rfl rfl rfl rfl ?_
      refine r_getf (pc2 := 19) (v := .int (nI w0)) fX8_9 dX8_addHour_16 cq (by omega) rfl rfl ?_
      refine r_icmp_lt (tgt := 102) (pc2 := 22) dX8_addHour_19 (by decide) rfl (fun b19 => ?_) (fun b19 => ?_)
      · exact absurd b19 (nI_nlt (by omega) (by omega))
      · skip
        refine r_iconst (pc2 := 23) (v := 1) dX8_addHour_22 (by decide) rfl ?_
        refine r_cast (nI 1) (rfl) ?_
        refine r_istore_n (pc2 := 24) (ls2 := [.ref q, .int (nI w), .int (nI 1)]) 2 dX8_addHour_23 rfl (by decide) rfl rfl rfl ?_
        exact loopA 9 1 h rt rh (by omega) (by omega) (fun y hy => by rw [R1w_1]; exact hrt y hy) (fun j h1 h2 => by omega) hQ hL cq crt crh cnz csh cps
  refine Cn.go (ls := [.ref q, .float 0, .float 0]) (by decide +kernel) rfl (Nat.le_of_ble_eq_true rfl) ?_
  refine r_sWt (pc2 := 3) (Or.inr ⟨_, qX8_84⟩) dX8_addHour_0 rfl ?_
  refine r_aload_n (pc2 := 4) 0 dX8_addHour_3 rfl rfl rfl rfl ?_
  refine r_getf (pc2 := 7) (v := .ref s) fX8_48 dX8_addHour_4 cq (by omega) rfl rfl ?_
  refine r_getf (pc2 := 10) (v := .int (nI (b 3))) fX8_72 dX8_addHour_7 cs hs64 rfl rfl ?_
  refine r_wldN (pc2 := 11) (a 3) dX8_addHour_10 (by rw [st3]) (by omega) rfl ?_
  refine r_cast (nI (7 ^ (a 3))) (xW7b (a 3) (by omega)) ?_
  refine r_iconst (pc2 := 12) (v := 1) dX8_addHour_11 (by decide) rfl ?_
  refine r_isub (pc2 := 13) dX8_addHour_12 rfl ?_
  refine r_topi (fun x13 e13 => ?_)
  refine r_istore_n (pc2 := 14) (ls2 := [.ref q, .int x13, .float 0]) 1 dX8_addHour_13 rfl (by decide) rfl rfl rfl ?_
  exact loop (7 ^ (a 3) - w0) h0 R rt rh nz sh ps op pa x13 _ (by rw [e13]; exact congrArg (fun z => nI z - 1) (by omega)) (by omega) hrt hSP (fun K hK => by rw [show w0 + (7 ^ (a 3) - w0) = 7 ^ (a 3) by omega]; exact fRK_top hSP hA) (fun _ _ => rfl) GQ.rf hL cq crt crh cnz csh cps hz0
