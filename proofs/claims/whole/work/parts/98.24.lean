/-! the class: rows -/
theorem xW7b : ∀ k, k < 5 → xW k = nI (7 ^ k) := by decide
theorem pw7 : ∀ k, k < 5 → 7 ^ k ≤ 2401 ∧ 1 ≤ 7 ^ k := by decide
theorem lN_up {f : Nat → Int64} {R : Nat → Nat} {j v N : Nat} (h : ∀ x, x < N → f x = lN (R x)) : ∀ x, x < N → vp_updL f j (lN v) x = lN (va_up R j v x) := fun x hx => by
  by_cases z : x = j
  · subst z; rw [va_up_self]; exact if_pos rfl
  · rw [va_up_ne _ _ z]; exact (if_neg z).trans (h x hx)
theorem nI_m1lt {n : Nat} (h : n < 2 ^ 31) : nI n - 1 < nI n := by
  cases n with
  | zero => decide
  | succ n => rw [nI_pred]; exact nI_lt (by omega) h
set_option maxRecDepth 20000 in
set_option maxHeartbeats 1000000 in
theorem c_moveRows {E : EnvT} {d : Nat} {h0 : Hp} {Z : Nat → Prop} {reg : Nat → FR} {ns s sg kd : Nat} {a b : FR} {q : Nat} {x H w0 : Nat} {X D : Int32} {wst wsd lk fd go gh op pa : Int32} {nz sh ps : Nat → Int32} {rt rh : Nat → Int64} {R : Nat → Nat} (cq : h0.1 q = some (.inr (8, wkL q s (nI (a 27)) wst wsd lk fd go gh op pa))) (crt : h0.1 (q + 3) = some (aL 24010 rt)) (crh : h0.1 (q + 4) = some (aL 10 rh)) (cnz : h0.1 (q + 5) = some (aI 16 nz)) (csh : h0.1 (q + 6) = some (aI 16 sh)) (cps : h0.1 (q + 7) = some (aI 16 ps)) (hz0 : nz 0 = 0 ∧ sh 0 = 0 ∧ ps 0 = 0) (hrt : ∀ y, y < 24010 → rt y = lN (R y)) (hrh : rh (x / 4096) = lN H) (hSP : SP a R w0) (hw0 : w0 ≤ tws x) (hW : WQ Z kd q) (hq7 : q + 7 < h0.2.1) (hL : LQ Z h0 reg ns s sg (a 27) kd b) (hA : AIN a) (hst : Stat a b) (hs : SG a x) (hdz : x / 4096 ≠ 0) (eX : X = nI (tws x)) (eD : D = nI (x / 4096)) (hd : 4 ≤ d) : Cn E mX8_moveRows d [.ref q, .int X, .int D] h0 (fun r h2 => r = none ∧ ∃ (R2 : Nat → Nat) (rt2 : Nat → Int64) (nz2 sh2 ps2 : Nat → Int32) (op2 pa2 : Int32), h2.1 q = some (.inr (8, wkL q s (nI (a 27)) wst wsd lk fd go gh op2 pa2)) ∧ h2.1 (q + 3) = some (aL 24010 rt2) ∧ h2.1 (q + 4) = some (aL 10 rh) ∧ h2.1 (q + 5) = some (aI 16 nz2) ∧ h2.1 (q + 6) = some (aI 16 sh2) ∧ h2.1 (q + 7) = some (aI 16 ps2) ∧ (nz2 0 = 0 ∧ sh2 0 = 0 ∧ ps2 0 = 0) ∧ (∀ y, y < 24010 → rt2 y = lN (R2 y)) ∧ MV a x H R R2 16 ∧ SP a R2 w0 ∧ (∀ y, y < 10 * tws x → R2 y = R y) ∧ LQ Z h2 reg ns s sg (a 27) kd b ∧ GQ [q, q + 3, q + 5, q + 6, q + 7] kd h0 h2 kd) := by
  subst eX eD
  have hG := hA.G
  have hn0 := hL.dv.n
  have hk0 := hL.dv.k0
  have hq139 := hW.1
  have hqk := hW.2.1
  have hs64 := hL.dv.s64
  have hd9 := hs.dep
  have htl := hs.tl hA.C
  have hop : (opK a x (a 3)) < 16 := Nat.lt_of_lt_of_le (opK_lt a x (a 3)) (pw16 hG)
  have loop : ∀ (m c : Nat) (h : Hp) (Rc : Nat → Nat) (rt : Nat → Int64) (nz sh ps : Nat → Int32) (u4 u5 : Value), c + m = 16 → (∀ y, y < 24010 → rt y = lN (Rc y)) → MV a x H R Rc c → SP a Rc w0 → (∀ y, y < 10 * tws x → Rc y = R y) → LST2 (nzW a x (a 27)) (a 3) (opK a x (a 3)) nz 16 → LST2 (fun g => 7 ^ g) (a 3) (opK a x (a 3)) sh 16 → LST2 (psW a x) (a 3) (opK a x (a 3)) ps 16 → GQ [q, q + 3, q + 5, q + 6, q + 7] kd h0 h kd → LQ Z h reg ns s sg (a 27) kd b → h.1 q = some (.inr (8, wkL q s (nI (a 27)) wst wsd lk fd go gh (nI (opK a x (a 3))) (nI (paK a x (a 3))))) → h.1 (q + 3) = some (aL 24010 rt) → h.1 (q + 4) = some (aL 10 rh) → h.1 (q + 5) = some (aI 16 nz) → h.1 (q + 6) = some (aI 16 sh) → h.1 (q + 7) = some (aI 16 ps) → Fr E mX8_moveRows d 8 [.ref q, .int (nI (tws x)), .int (nI (x / 4096)), .int (nI c), u4, u5] [] h (fun r h2 => r = none ∧ ∃ (R2 : Nat → Nat) (rt2 : Nat → Int64) (nz2 sh2 ps2 : Nat → Int32) (op2 pa2 : Int32), h2.1 q = some (.inr (8, wkL q s (nI (a 27)) wst wsd lk fd go gh op2 pa2)) ∧ h2.1 (q + 3) = some (aL 24010 rt2) ∧ h2.1 (q + 4) = some (aL 10 rh) ∧ h2.1 (q + 5) = some (aI 16 nz2) ∧ h2.1 (q + 6) = some (aI 16 sh2) ∧ h2.1 (q + 7) = some (aI 16 ps2) ∧ (nz2 0 = 0 ∧ sh2 0 = 0 ∧ ps2 0 = 0) ∧ (∀ y, y < 24010 → rt2 y = lN (R2 y)) ∧ MV a x H R R2 16 ∧ SP a R2 w0 ∧ (∀ y, y < 10 * tws x → R2 y = R y) ∧ LQ Z h2 reg ns s sg (a 27) kd b ∧ GQ [q, q + 3, q + 5, q + 6, q + 7] kd h0 h2 kd) := by
    intro m
    induction m with
    | zero =>
      intro c h Rc rt nz sh ps u4 u5 hc hrt hM hSP hlow g1 g2 g3 hQ hL cq crt crh cnz csh cps
      refine r_iload_n (pc2 := 9) 3 dX8_moveRows_8 rfl rfl rfl ?_
      refine r_aload_n (pc2 := 10) 0 dX8_moveRows_9 rfl rfl rfl rfl ?_
      refine r_getf (pc2 := 13) (v := .int (nI (opK a x (a 3)))) fX8_66 dX8_moveRows_10 cq (by omega) rfl rfl ?_
      refine r_icmp_gt (tgt := 90) (pc2 := 16) dX8_moveRows_13 (by decide) rfl (fun b13 => ?_) (fun b13 => ?_)
      · skip
        exact r_vret rfl dX8_moveRows_90 ⟨rfl, Rc, rt, nz, sh, ps, _, _, cq, crt, crh, cnz, csh, cps, ⟨g1.1, g2.1, g3.1⟩, hrt, (by have m9 := hM.skip (fun e h1 h2 o => by have o := (dif_ok hs hG hdz h2).mpr o; have := dif_le2 e h2 _ hop o; omega) (16 - c) (by omega); rwa [show c + (16 - c) = 16 by omega] at m9), hSP, hlow, hL, hQ⟩
      · exact absurd (nI_lt (by omega) (by omega)) b13
    | succ m ih =>
      intro c h Rc rt nz sh ps u4 u5 hc hrt hM hSP hlow g1 g2 g3 hQ hL cq crt crh cnz csh cps
      by_cases hgt : (opK a x (a 3)) < c
      · skip
        refine r_iload_n (pc2 := 9) 3 dX8_moveRows_8 rfl rfl rfl ?_
        refine r_aload_n (pc2 := 10) 0 dX8_moveRows_9 rfl rfl rfl rfl ?_
        refine r_getf (pc2 := 13) (v := .int (nI (opK a x (a 3)))) fX8_66 dX8_moveRows_10 cq (by omega) rfl rfl ?_
        refine r_icmp_gt (tgt := 90) (pc2 := 16) dX8_moveRows_13 (by decide) rfl (fun b13 => ?_) (fun b13 => ?_)
        · skip
          exact r_vret rfl dX8_moveRows_90 ⟨rfl, Rc, rt, nz, sh, ps, _, _, cq, crt, crh, cnz, csh, cps, ⟨g1.1, g2.1, g3.1⟩, hrt, (by have m9 := hM.skip (fun e h1 h2 o => by have o := (dif_ok hs hG hdz h2).mpr o; have := dif_le2 e h2 _ hop o; omega) (16 - c) (by omega); rwa [show c + (16 - c) = 16 by omega] at m9), hSP, hlow, hL, hQ⟩
        · exact absurd (nI_lt (by omega) (by omega)) b13
      · by_cases hdf : dif c (opK a x (a 3)) = 0
        · have ho : okS a x c := (dif_ok hs hG hdz (by omega)).mp hdf
          have hts : SG a (nxS a x c) := hs.next hG hA.C ho
          have hct : cst (nxS a x c) < 24010 := cst_lt hts hA.C
          have ht9 := hts.dep
          by_cases hz2 : (nxS a x c) / 4096 = 0
          · skip
            refine r_iload_n (pc2 := 9) 3 dX8_moveRows_8 rfl rfl rfl ?_
            refine r_aload_n (pc2 := 10) 0 dX8_moveRows_9 rfl rfl rfl rfl ?_
            refine r_getf (pc2 := 13) (v := .int (nI (opK a x (a 3)))) fX8_66 dX8_moveRows_10 cq (by omega) rfl rfl ?_
            refine r_icmp_gt (tgt := 90) (pc2 := 16) dX8_moveRows_13 (by decide) rfl (fun b13 => ?_) (fun b13 => ?_)
            · exact absurd b13 (nI_nlt (by omega) (by omega))
            · skip
              refine r_iload_n (pc2 := 17) 3 dX8_moveRows_16 rfl rfl rfl ?_
              refine r_aload_n (pc2 := 18) 0 dX8_moveRows_17 rfl rfl rfl rfl ?_
              refine r_getf (pc2 := 21) (v := .int (nI (opK a x (a 3)))) fX8_66 dX8_moveRows_18 cq (by omega) rfl rfl ?_
              refine r_iconst (pc2 := 22) (v := -1) dX8_moveRows_21 (by decide) rfl ?_
              refine r_ixor (pc2 := 23) dX8_moveRows_22 rfl ?_
              refine r_iand (pc2 := 24) dX8_moveRows_23 rfl ?_
              refine r_cast (nI (dif c (opK a x (a 3)))) (dif_nI c (by omega) _ hop) ?_
              refine r_if_ne (tgt := 36) (pc2 := 27) dX8_moveRows_24 (by decide) rfl (fun b24 => ?_) (fun b24 => ?_)
              · exact absurd (congrArg nI hdf) b24
              · skip
                refine r_aload_n (pc2 := 28) 0 dX8_moveRows_27 rfl rfl rfl rfl ?_
                refine r_iload_n (pc2 := 29) 2 dX8_moveRows_28 rfl rfl rfl ?_
                refine r_iload_n (pc2 := 30) 3 dX8_moveRows_29 rfl rfl rfl ?_
                refine r_callV1 (pc2 := 33) (As := [.int (nI (x / 4096)), .int (nI c)]) (st := []) kX8_100 rfl rfl dX8_moveRows_30 cq (by omega) rfl rfl (Nat.le_of_ble_eq_true rfl) (by omega) (c_wdepth (x := x) (c := c) cq cnz cps g1 g3 hq139 hL hA hst hs ho rfl rfl (by omega)) rfl (fun h hq30 => ?_)
                obtain ⟨hxd, hL⟩ := hq30
                have cq := hxd.get (by simp <;> omega) cq
                have crt := hxd.get (by simp <;> omega) crt
                have crh := hxd.get (by simp <;> omega) crh
                have cnz := hxd.get (by simp <;> omega) cnz
                have csh := hxd.get (by simp <;> omega) csh
                have cps := hxd.get (by simp <;> omega) cps
                have hQ := hQ.dp hxd
                refine r_goto (pc2 := 37) dX8_moveRows_33 (by decide) ?_
                refine r_istore (pc2 := 39) (ls2 := [.ref q, .int (nI (tws x)), .int (nI (x / 4096)), .int (nI c), .int (nI ((nxS a x c) / 4096)), u5]) 4 dX8_moveRows_37 (by decide) rfl rfl rfl ?_
                refine r_iload_n (pc2 := 40) 1 dX8_moveRows_39 rfl rfl rfl ?_
                refine r_aload_n (pc2 := 41) 0 dX8_moveRows_40 rfl rfl rfl rfl ?_
                refine r_getf (pc2 := 44) (v := .ref (q + 6)) fX8_32 dX8_moveRows_41 cq (by omega) rfl rfl ?_
                refine r_iload_n (pc2 := 45) 3 dX8_moveRows_44 rfl rfl rfl ?_
                refine r_ialdN (pc2 := 46) c dX8_moveRows_45 csh (by omega) rfl (by omega) (by decide) rfl ?_
                refine r_cast (nI (shK c 4)) (by rw [g2.all (by omega) hdf, shK_sB, sB_top hG ho.1 (by omega)]) ?_
                refine r_iadd (pc2 := 47) dX8_moveRows_46 rfl ?_
                refine r_cast (nI (tws x + shK c 4)) (nI_add _ _) ?_
                refine r_bipush (pc2 := 49) (v := 10) dX8_moveRows_47 (by decide) rfl ?_
                refine r_imul (pc2 := 50) dX8_moveRows_49 rfl ?_
                refine r_cast (nI ((tws x + shK c 4) * 10)) (pk_mul _ 10) ?_
                refine r_iload (pc2 := 52) 4 dX8_moveRows_50 rfl rfl ?_
                refine r_iadd (pc2 := 53) dX8_moveRows_52 rfl ?_
                refine r_cast (nI (cst (nxS a x c))) (by rw [nI_add, nxS_cst hs hG hA.C ho]) ?_
                refine r_istore (pc2 := 55) (ls2 := [.ref q, .int (nI (tws x)), .int (nI (x / 4096)), .int (nI c), .int (nI ((nxS a x c) / 4096)), .int (nI (cst (nxS a x c)))]) 5 dX8_moveRows_53 (by decide) rfl rfl rfl ?_
                refine r_iload (pc2 := 57) 4 dX8_moveRows_55 rfl rfl ?_
                refine r_if_le (tgt := 84) (pc2 := 60) dX8_moveRows_57 (by decide) rfl (fun b57 => ?_) (fun b57 => ?_)
                · skip
                  obtain ⟨x84, e84⟩ : ∃ z : Int32, z = (nI c) + (1) := ⟨_, rfl⟩
                  refine r_iinc (pc2 := 87) (ls2 := [.ref q, .int (nI (tws x)), .int (nI (x / 4096)), .int x84, .int (nI ((nxS a x c) / 4096)), .int (nI (cst (nxS a x c)))]) (v := x84) 3 dX8_moveRows_84 rfl (by rw [e84]; rfl) rfl rfl rfl ?_
                  refine r_goto (pc2 := 8) dX8_moveRows_87 (by decide) ?_
                  rw [e84, nI_1]
                  exact ih (c + 1) h Rc rt nz sh ps _ _ (by omega) hrt (hM.zero hz2 (by omega)) hSP hlow g1 g2 g3 hQ hL cq crt crh cnz csh cps
                · exact absurd (by rw [hz2]; decide) b57
          · skip
            refine r_iload_n (pc2 := 9) 3 dX8_moveRows_8 rfl rfl rfl ?_
            refine r_aload_n (pc2 := 10) 0 dX8_moveRows_9 rfl rfl rfl rfl ?_
            refine r_getf (pc2 := 13) (v := .int (nI (opK a x (a 3)))) fX8_66 dX8_moveRows_10 cq (by omega) rfl rfl ?_
            refine r_icmp_gt (tgt := 90) (pc2 := 16) dX8_moveRows_13 (by decide) rfl (fun b13 => ?_) (fun b13 => ?_)
            · exact absurd b13 (nI_nlt (by omega) (by omega))
            · skip
              refine r_iload_n (pc2 := 17) 3 dX8_moveRows_16 rfl rfl rfl ?_
              refine r_aload_n (pc2 := 18) 0 dX8_moveRows_17 rfl rfl rfl rfl ?_
              refine r_getf (pc2 := 21) (v := .int (nI (opK a x (a 3)))) fX8_66 dX8_moveRows_18 cq (by omega) rfl rfl ?_
              refine r_iconst (pc2 := 22) (v := -1) dX8_moveRows_21 (by decide) rfl ?_
              refine r_ixor (pc2 := 23) dX8_moveRows_22 rfl ?_
              refine r_iand (pc2 := 24) dX8_moveRows_23 rfl ?_
              refine r_cast (nI (dif c (opK a x (a 3)))) (dif_nI c (by omega) _ hop) ?_
              refine r_if_ne (tgt := 36) (pc2 := 27) dX8_moveRows_24 (by decide) rfl (fun b24 => ?_) (fun b24 => ?_)
              · exact absurd (congrArg nI hdf) b24
              · skip
                refine r_aload_n (pc2 := 28) 0 dX8_moveRows_27 rfl rfl rfl rfl ?_
                refine r_iload_n (pc2 := 29) 2 dX8_moveRows_28 rfl rfl rfl ?_
                refine r_iload_n (pc2 := 30) 3 dX8_moveRows_29 rfl rfl rfl ?_
                refine r_callV1 (pc2 := 33) (As := [.int (nI (x / 4096)), .int (nI c)]) (st := []) kX8_100 rfl rfl dX8_moveRows_30 cq (by omega) rfl rfl (Nat.le_of_ble_eq_true rfl) (by omega) (c_wdepth (x := x) (c := c) cq cnz cps g1 g3 hq139 hL hA hst hs ho rfl rfl (by omega)) rfl (fun h hq30 => ?_)
                obtain ⟨hxd, hL⟩ := hq30
                have cq := hxd.get (by simp <;> omega) cq
                have crt := hxd.get (by simp <;> omega) crt
                have crh := hxd.get (by simp <;> omega) crh
                have cnz := hxd.get (by simp <;> omega) cnz
                have csh := hxd.get (by simp <;> omega) csh
                have cps := hxd.get (by simp <;> omega) cps
                have hQ := hQ.dp hxd
                refine r_goto (pc2 := 37) dX8_moveRows_33 (by decide) ?_
                refine r_istore (pc2 := 39) (ls2 := [.ref q, .int (nI (tws x)), .int (nI (x / 4096)), .int (nI c), .int (nI ((nxS a x c) / 4096)), u5]) 4 dX8_moveRows_37 (by decide) rfl rfl rfl ?_
                refine r_iload_n (pc2 := 40) 1 dX8_moveRows_39 rfl rfl rfl ?_
                refine r_aload_n (pc2 := 41) 0 dX8_moveRows_40 rfl rfl rfl rfl ?_
                refine r_getf (pc2 := 44) (v := .ref (q + 6)) fX8_32 dX8_moveRows_41 cq (by omega) rfl rfl ?_
                refine r_iload_n (pc2 := 45) 3 dX8_moveRows_44 rfl rfl rfl ?_
                refine r_ialdN (pc2 := 46) c dX8_moveRows_45 csh (by omega) rfl (by omega) (by decide) rfl ?_
                refine r_cast (nI (shK c 4)) (by rw [g2.all (by omega) hdf, shK_sB, sB_top hG ho.1 (by omega)]) ?_
                refine r_iadd (pc2 := 47) dX8_moveRows_46 rfl ?_
                refine r_cast (nI (tws x + shK c 4)) (nI_add _ _) ?_
                refine r_bipush (pc2 := 49) (v := 10) dX8_moveRows_47 (by decide) rfl ?_
                refine r_imul (pc2 := 50) dX8_moveRows_49 rfl ?_
                refine r_cast (nI ((tws x + shK c 4) * 10)) (pk_mul _ 10) ?_
                refine r_iload (pc2 := 52) 4 dX8_moveRows_50 rfl rfl ?_
                refine r_iadd (pc2 := 53) dX8_moveRows_52 rfl ?_
                refine r_cast (nI (cst (nxS a x c))) (by rw [nI_add, nxS_cst hs hG hA.C ho]) ?_
                refine r_istore (pc2 := 55) (ls2 := [.ref q, .int (nI (tws x)), .int (nI (x / 4096)), .int (nI c), .int (nI ((nxS a x c) / 4096)), .int (nI (cst (nxS a x c)))]) 5 dX8_moveRows_53 (by decide) rfl rfl rfl ?_
                refine r_iload (pc2 := 57) 4 dX8_moveRows_55 rfl rfl ?_
                refine r_if_le (tgt := 84) (pc2 := 60) dX8_moveRows_57 (by decide) rfl (fun b57 => ?_) (fun b57 => ?_)
                · exact absurd b57 (nI_nle (by omega) (by omega))
                · skip
                  refine r_iload (pc2 := 62) 5 dX8_moveRows_60 rfl rfl ?_
                  refine r_sipush (pc2 := 65) (v := 24010) dX8_moveRows_62 (by decide) rfl ?_
                  refine r_icmp_ge (tgt := 84) (pc2 := 68) dX8_moveRows_65 (by decide) rfl (fun b65 => ?_) (fun b65 => ?_)
                  · exact absurd b65 (nI_ge (b := 24010) hct (by decide))
                  · skip
                    refine r_aload_n (pc2 := 69) 0 dX8_moveRows_68 rfl rfl rfl rfl ?_
                    refine r_getf (pc2 := 72) (v := .ref (q + 3)) fX8_22 dX8_moveRows_69 cq (by omega) rfl rfl ?_
                    refine r_iload (pc2 := 74) 5 dX8_moveRows_72 rfl rfl ?_
                    refine r_dup2 (pc2 := 75) dX8_moveRows_74 rfl rfl rfl ?_
                    refine r_laldN (pc2 := 76) (cst (nxS a x c)) dX8_moveRows_75 crt (by omega) rfl hct (by decide) rfl ?_
                    refine r_castl (lN (Rc (cst (nxS a x c)))) (hrt _ hct) ?_
                    refine r_aload_n (pc2 := 77) 0 dX8_moveRows_76 rfl rfl rfl rfl ?_
                    refine r_getf (pc2 := 80) (v := .ref (q + 4)) fX8_26 dX8_moveRows_77 cq (by omega) rfl rfl ?_
                    refine r_iload_n (pc2 := 81) 2 dX8_moveRows_80 rfl rfl rfl ?_
                    refine r_laldN (pc2 := 82) (x / 4096) dX8_moveRows_81 crh (by omega) rfl (by omega) (by decide) rfl ?_
                    refine r_castl (lN H) (hrh) ?_
                    refine r_ladd (pc2 := 83) dX8_moveRows_82 rfl ?_
                    refine r_castl (lN (Rc (cst (nxS a x c)) + H)) (lN_add _ _) ?_
                    refine r_lastN (pc2 := 84) (cst (nxS a x c)) dX8_moveRows_83 crt (by omega) rfl hct (by decide) rfl (fun h z83 o83 crt => ?_)
                    have cq := (o83 q (by omega)).trans cq
                    have crh := (o83 (q + 4) (by omega)).trans crh
                    have cnz := (o83 (q + 5) (by omega)).trans cnz
                    have csh := (o83 (q + 6) (by omega)).trans csh
                    have cps := (o83 (q + 7) (by omega)).trans cps
                    have hxw : Ex [q + 3] _ h := ⟨z83, fun y hy => o83 y (by simpa using hy)⟩
                    have hL := hL.ex hxw (hW.off (by simp))
                    have hQ := hQ.wr hxw (by simp)
                    obtain ⟨x84, e84⟩ : ∃ z : Int32, z = (nI c) + (1) := ⟨_, rfl⟩
                    refine r_iinc (pc2 := 87) (ls2 := [.ref q, .int (nI (tws x)), .int (nI (x / 4096)), .int x84, .int (nI ((nxS a x c) / 4096)), .int (nI (cst (nxS a x c)))]) (v := x84) 3 dX8_moveRows_84 rfl (by rw [e84]; rfl) rfl rfl rfl ?_
                    refine r_goto (pc2 := 8) dX8_moveRows_87 (by decide) ?_
                    rw [e84, nI_1]
                    exact ih (c + 1) h _ _ nz sh ps _ _ (by omega) (lN_up hrt) (hM.add ho hct) (hSP.add hs hA hw0 ho hz2) (fun y hy => by rw [va_up_ne _ _ (show y ≠ cst (nxS a x c) by rw [nxS_cst hs hG hA.C ho]; omega)]; exact hlow y hy) g1 g2 g3 hQ hL cq crt crh cnz csh cps
        · skip
          refine r_iload_n (pc2 := 9) 3 dX8_moveRows_8 rfl rfl rfl ?_
          refine r_aload_n (pc2 := 10) 0 dX8_moveRows_9 rfl rfl rfl rfl ?_
          refine r_getf (pc2 := 13) (v := .int (nI (opK a x (a 3)))) fX8_66 dX8_moveRows_10 cq (by omega) rfl rfl ?_
          refine r_icmp_gt (tgt := 90) (pc2 := 16) dX8_moveRows_13 (by decide) rfl (fun b13 => ?_) (fun b13 => ?_)
          · exact absurd b13 (nI_nlt (by omega) (by omega))
          · skip
            refine r_iload_n (pc2 := 17) 3 dX8_moveRows_16 rfl rfl rfl ?_
            refine r_aload_n (pc2 := 18) 0 dX8_moveRows_17 rfl rfl rfl rfl ?_
            refine r_getf (pc2 := 21) (v := .int (nI (opK a x (a 3)))) fX8_66 dX8_moveRows_18 cq (by omega) rfl rfl ?_
            refine r_iconst (pc2 := 22) (v := -1) dX8_moveRows_21 (by decide) rfl ?_
            refine r_ixor (pc2 := 23) dX8_moveRows_22 rfl ?_
            refine r_iand (pc2 := 24) dX8_moveRows_23 rfl ?_
            refine r_cast (nI (dif c (opK a x (a 3)))) (dif_nI c (by omega) _ hop) ?_
            refine r_if_ne (tgt := 36) (pc2 := 27) dX8_moveRows_24 (by decide) rfl (fun b24 => ?_) (fun b24 => ?_)
            · skip
              refine r_iconst (pc2 := 37) (v := 0) dX8_moveRows_36 (by decide) rfl ?_
              refine r_istore (pc2 := 39) (ls2 := [.ref q, .int (nI (tws x)), .int (nI (x / 4096)), .int (nI c), .int 0, u5]) 4 dX8_moveRows_37 (by decide) rfl rfl rfl ?_
              refine r_iload_n (pc2 := 40) 1 dX8_moveRows_39 rfl rfl rfl ?_
              refine r_aload_n (pc2 := 41) 0 dX8_moveRows_40 rfl rfl rfl rfl ?_
              refine r_getf (pc2 := 44) (v := .ref (q + 6)) fX8_32 dX8_moveRows_41 cq (by omega) rfl rfl ?_
              refine r_iload_n (pc2 := 45) 3 dX8_moveRows_44 rfl rfl rfl ?_
              refine r_ialdN (pc2 := 46) c dX8_moveRows_45 csh (by omega) rfl (by omega) (by decide) rfl ?_
              refine r_iadd (pc2 := 47) dX8_moveRows_46 rfl ?_
              refine r_bipush (pc2 := 49) (v := 10) dX8_moveRows_47 (by decide) rfl ?_
              refine r_imul (pc2 := 50) dX8_moveRows_49 rfl ?_
              refine r_iload (pc2 := 52) 4 dX8_moveRows_50 rfl rfl ?_
              refine r_iadd (pc2 := 53) dX8_moveRows_52 rfl ?_
              refine r_topi (fun x53 e53 => ?_)
              refine r_istore (pc2 := 55) (ls2 := [.ref q, .int (nI (tws x)), .int (nI (x / 4096)), .int (nI c), .int 0, .int x53]) 5 dX8_moveRows_53 (by decide) rfl rfl rfl ?_
              refine r_iload (pc2 := 57) 4 dX8_moveRows_55 rfl rfl ?_
              refine r_if_le (tgt := 84) (pc2 := 60) dX8_moveRows_57 (by decide) rfl (fun b57 => ?_) (fun b57 => ?_)
              · skip
                obtain ⟨x84, e84⟩ : ∃ z : Int32, z = (nI c) + (1) := ⟨_, rfl⟩
                refine r_iinc (pc2 := 87) (ls2 := [.ref q, .int (nI (tws x)), .int (nI (x / 4096)), .int x84, .int 0, .int x53]) (v := x84) 3 dX8_moveRows_84 rfl (by rw [e84]; rfl) rfl rfl rfl ?_
                refine r_goto (pc2 := 8) dX8_moveRows_87 (by decide) ?_
                rw [e84, nI_1]
                exact ih (c + 1) h Rc rt nz sh ps _ _ (by omega) hrt (hM.no (fun o => hdf ((dif_ok hs hG hdz (by omega)).mpr o))) hSP hlow g1 g2 g3 hQ hL cq crt crh cnz csh cps
              · exact absurd b57 (by decide)
            · exact absurd (nI_z0 (by have := dif_le c (opK a x (a 3)); omega) b24) hdf
  refine Cn.go (ls := [.ref q, .int (nI (tws x)), .int (nI (x / 4096)), .float 0, .float 0, .float 0]) (by decide +kernel) rfl (Nat.le_of_ble_eq_true rfl) ?_
  refine r_aload_n (pc2 := 1) 0 dX8_moveRows_0 rfl rfl rfl rfl ?_
  refine r_iload_n (pc2 := 2) 1 dX8_moveRows_1 rfl rfl rfl ?_
  refine r_iload_n (pc2 := 3) 2 dX8_moveRows_2 rfl rfl rfl ?_
  refine r_callV0 (pc2 := 6) (As := [.int (nI (tws x)), .int (nI (x / 4096))]) (st := []) kX8_97 rfl rfl dX8_moveRows_3 cq (by omega) rfl rfl (Nat.le_of_ble_eq_true rfl) (by omega) (c_laySets (x := x) cq cnz csh cps hz0 hW hL hA hst hs rfl rfl (by omega)) rfl (fun h hq3 => ?_)
  obtain ⟨nz, sh, ps, cq, cnz, csh, cps, g1, g2, g3, hL, hQ2⟩ := hq3
  have crt := hQ2.get (by omega) (by simp) (by omega) crt
  have crh := hQ2.get (by omega) (by simp) (by omega) crh
  have hQ := hQ2.mono (T := [q, q + 3, q + 5, q + 6, q + 7]) (by simp)
  refine r_iconst (pc2 := 7) (v := 0) dX8_moveRows_6 (by decide) rfl ?_
  refine r_cast (nI 0) (rfl) ?_
  refine r_istore_n (pc2 := 8) (ls2 := [.ref q, .int (nI (tws x)), .int (nI (x / 4096)), .int (nI 0), .float 0, .float 0]) 3 dX8_moveRows_7 rfl (by decide) rfl rfl rfl ?_
  exact loop 16 0 h R rt nz sh ps _ _ (by omega) hrt MV.rf hSP (fun _ _ => rfl) g1 g2 g3 hQ hL cq crt crh cnz csh cps
