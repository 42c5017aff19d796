/-! lines of the reference -/
theorem okB_f {α : Type} {x : PX α} (h : ¬ okB x = true) (F : Nat → α → PX α) : bnd x F = x := by
  match x, h with
  | .ok y, h => exact absurd rfl h
  | .error e, _ => rfl
theorem RV_up {tp : Nat → Nat} {n i c : Nat} {x : PX FR} {v g : Nat → Int32} {z : Int32} (hz : z = nI c) (hR : RV tp n rI x v g) : RV tp n rI (bnd x (pUp (fun fr => va_up fr i c))) v (upd g i z) := by
  match x, hR with
  | .error (w, a), hR => exact hR
  | .ok (p, fr), hR =>
    refine ⟨hR.1, hR.2.1, ?_⟩
    rw [hR.2.2, hz]
    exact upd_nA fr i c
theorem RV.bad {α : Type} {tp : Nat → Nat} {n w a : Nat} {rep : α → Nat → Nat} {v g : Nat → Int32} (hR : RV tp n rep (.error (w, a)) v g) : ¬ v 11 = 0 := fun z => nI_w0 hR.1.1 hR.1.2.1 (hR.2.1.symm.trans z)
theorem RV.good {α : Type} {tp : Nat → Nat} {n p : Nat} {L : α} {rep : α → Nat → Nat} {v g : Nat → Int32} (hR : RV tp n rep (.ok (p, L)) v g) : v 11 = 0 := hR.2.1.2.1
theorem l_nx {tp : Nat → Nat} {n : Nat} : GoodL n (pNx tp n) := fun _ _ _ h => h.nx0
set_option maxRecDepth 20000 in
set_option maxHeartbeats 1000000 in
theorem C_goer {E : EnvT} {d : Nat} {h0 : Hp} {tp : Nat → Nat} {n : Nat} {v0 : Nat → Int32} {p : Nat} {fr : FR} (ht : TOk tp n) (hd : 9 ≤ d) (hk3 : lxK tp n p = 3) (hW : WI n 0 (.ok (p, fr))) (hT : RT tp n rI v0 (.ok (p, fr)) h0) : Cn E mX10_readGoer d [.ref 117] h0 (RQ tp n rI v0 h0 none (pGoer tp n p fr)) := by
  have hx : Ex [117, 121] h0 h0 := Ex.rf
  have hTo := hT
  obtain ⟨v, g, c117, c120, c121, hN, hR⟩ := hTo
  have hf := hR.2.2
  subst hf
  have c121 : h0.1 121 = some (aI 1177 (nA fr)) := c121
  by_cases h4 : fr 3 = 4
  · have eG : (pGoer tp n p fr) = pFl tp n 4 p := by unfold pGoer; rw [if_pos h4]
    rw [eG]
    refine Cn.go (ls := [.ref 117, .float 0]) (by decide +kernel) rfl (Nat.le_of_ble_eq_true rfl) ?_
    refine r_aload_n (pc2 := 1) 0 dX10_readGoer_0 rfl rfl rfl rfl ?_
    refine r_getf (pc2 := 4) (v := .ref 121) fX10_24 dX10_readGoer_1 c117 (by decide) rfl rfl ?_
    refine r_iconst (pc2 := 5) (v := 3) dX10_readGoer_4 (by decide) rfl ?_
    refine r_ialdA (pc2 := 6) 3 dX10_readGoer_5 c121 (by decide) rfl (by decide) (by decide) rfl ?_
    refine r_istore_n (pc2 := 7) (ls2 := [.ref 117, .int (nI (fr 3))]) 1 dX10_readGoer_6 rfl (by decide) rfl rfl rfl ?_
    refine r_iload_n (pc2 := 8) 1 dX10_readGoer_7 rfl rfl rfl ?_
    refine r_iconst (pc2 := 9) (v := 4) dX10_readGoer_8 (by decide) rfl ?_
    refine r_icmp_ne (tgt := 17) (pc2 := 12) dX10_readGoer_9 (by decide) rfl (fun b9 => ?_) (fun b9 => ?_)
    · exact absurd (congrArg nI h4) b9
    · skip
      refine r_aload_n (pc2 := 13) 0 dX10_readGoer_12 rfl rfl rfl rfl ?_
      refine r_iconst (pc2 := 14) (v := 4) dX10_readGoer_13 (by decide) rfl ?_
      refine r_callV0 (pc2 := 17) (As := [.int 4]) (st := []) kX10_148 rfl rfl dX10_readGoer_14 c117 (by decide) rfl rfl (Nat.le_of_ble_eq_true rfl) (by omega) (G_fails (x := .ok (p, fr)) (f := 4) (by decide) (by decide) hT) rfl (fun h hq14 => ?_)
      obtain ⟨hxc, hT⟩ := hq14
      have hx := hx.trans hxc (by decide)
      have hTo := hT
      obtain ⟨v, g, c117, c120, c121, hN, hR⟩ := hTo
      refine r_aload_n (pc2 := 18) 0 dX10_readGoer_17 rfl rfl rfl rfl ?_
      refine r_getf (pc2 := 21) (v := .int (v 11)) fX10_136 dX10_readGoer_18 c117 (by decide) rfl rfl ?_
      refine r_if_eq (tgt := 25) (pc2 := 24) dX10_readGoer_21 (by decide) rfl (fun b21 => ?_) (fun b21 => ?_)
      · exact absurd b21 hR.bad
      · skip
        exact r_vret rfl dX10_readGoer_24 ⟨rfl, hx, hT⟩
  · have hg : fr 3 < 4 := by have := hW.2.2.2.2.1; omega
    have eG : (pGoer tp n p fr) = bnd (bnd (bnd (bnd (pNx tp n p fr) (pEat tp n 4)) (pSet tp n 0 (fun _ => 10) (14 + fr 3))) (pFlags tp n (fr 3) 901)) (pUp (fun f => va_up f 3 (f 3 + 1))) := by unfold pGoer; rw [if_neg h4]
    rw [eG]
    have i0 : WI n (0 + 1) (pNx tp n p fr) := hW.nx (by rw [hk3]; decide)
    have i2 : WI n (0 + 1) (bnd (bnd (pNx tp n p fr) (pEat tp n 4)) (pSet tp n 0 (fun _ => 10) (14 + fr 3))) := (i0.b l_eat).b (l_set (M := 9) (by omega) WF1.ten (by omega) (by omega) (by omega) (by omega))
    have k76 : ∀ (x : PX FR) (h : Hp), Ex [117, 121] h0 h → RT tp n rI v0 x h → Fr E mX10_readGoer d 76 [.ref 117, .int (nI (fr 3))] [] h (RQ tp n rI v0 h0 none (bnd x (pUp (fun f => va_up f 3 (f 3 + 1))))) := by
      intro x h hx hT
      match x, hT with
      | .error (we, ae), hT =>
        have hTo := hT
        obtain ⟨v, g, c117, c120, c121, hN, hR⟩ := hTo
        show Fr E mX10_readGoer d 76 [.ref 117, .int (nI (fr 3))] [] h (RQ tp n rI v0 h0 none (.error (we, ae) : PX FR))
        refine r_aload_n (pc2 := 77) 0 dX10_readGoer_76 rfl rfl rfl rfl ?_
        refine r_getf (pc2 := 80) (v := .int (v 11)) fX10_136 dX10_readGoer_77 c117 (by decide) rfl rfl ?_
        refine r_if_ne (tgt := 93) (pc2 := 83) dX10_readGoer_80 (by decide) rfl (fun b80 => ?_) (fun b80 => ?_)
        · skip
          exact r_vret rfl dX10_readGoer_93 ⟨rfl, hx, hT⟩
        · exact absurd b80 hR.bad
      | .ok (q, f), hT =>
        have hTo := hT
        obtain ⟨v, g, c117, c120, c121, hN, hR⟩ := hTo
        refine r_aload_n (pc2 := 77) 0 dX10_readGoer_76 rfl rfl rfl rfl ?_
        refine r_getf (pc2 := 80) (v := .int (v 11)) fX10_136 dX10_readGoer_77 c117 (by decide) rfl rfl ?_
        refine r_if_ne (tgt := 93) (pc2 := 83) dX10_readGoer_80 (by decide) rfl (fun b80 => ?_) (fun b80 => ?_)
        · exact absurd hR.good b80
        · skip
          refine r_aload_n (pc2 := 84) 0 dX10_readGoer_83 rfl rfl rfl rfl ?_
          refine r_getf (pc2 := 87) (v := .ref 121) fX10_24 dX10_readGoer_84 c117 (by decide) rfl rfl ?_
          refine r_iconst (pc2 := 88) (v := 3) dX10_readGoer_87 (by decide) rfl ?_
          refine r_dup2 (pc2 := 89) dX10_readGoer_88 rfl rfl rfl ?_
          refine r_ialdN (pc2 := 90) 3 dX10_readGoer_89 c121 (by decide) rfl (by decide) (by decide) rfl ?_
          refine r_iconst (pc2 := 91) (v := 1) dX10_readGoer_90 (by decide) rfl ?_
          refine r_iadd (pc2 := 92) dX10_readGoer_91 rfl ?_
          refine r_topi (fun y92 ey92 => ?_)
          refine r_iastN (pc2 := 93) 3 dX10_readGoer_92 c121 (by decide) rfl (by decide) (by decide) rfl (fun h z92 o92 c121 => ?_)
          have c117 := (o92 117 (by decide)).trans c117
          have c120 := (o92 120 (by decide)).trans c120
          have hx := hx.step (a := 121) (by decide) z92 o92
          exact r_vret rfl dX10_readGoer_93 ⟨rfl, hx, v, _, c117, c120, c121, hN, (by rw [ey92]; exact RV_inc (x := .ok (q, f)) hR)⟩
    have lpE : ∀ (we ae : Nat) (h : Hp), Ex [117, 121] h0 h → RT tp n rI v0 (.error (we, ae) : PX FR) h → Fr E mX10_readGoer d 58 [.ref 117, .int (nI (fr 3))] [] h (RQ tp n rI v0 h0 none (.error (we, ae) : PX FR)) := by
      intro we ae h hx hT
      have hTo := hT
      obtain ⟨v, g, c117, c120, c121, hN, hR⟩ := hTo
      refine r_aload_n (pc2 := 59) 0 dX10_readGoer_58 rfl rfl rfl rfl ?_
      refine r_getf (pc2 := 62) (v := .int (v 11)) fX10_136 dX10_readGoer_59 c117 (by decide) rfl rfl ?_
      refine r_if_ne (tgt := 76) (pc2 := 65) dX10_readGoer_62 (by decide) rfl (fun b62 => ?_) (fun b62 => ?_)
      · skip
        exact k76 (.error (we, ae) : PX FR) _ hx hT
      · exact absurd b62 hR.bad
    have loop : ∀ (m : Nat) (x : PX FR) (h : Hp), Ex [117, 121] h0 h → WI n 0 x → (∀ p L, x = .ok (p, L) → n < m + p) → RT tp n rI v0 x h → Fr E mX10_readGoer d 58 [.ref 117, .int (nI (fr 3))] [] h (RQ tp n rI v0 h0 none (bnd (bnd x (pFlags tp n (fr 3) m)) (pUp (fun f => va_up f 3 (f 3 + 1))))) := by
      intro m
      induction m with
      | zero =>
        intro x h hx hI hq hT
        match x, hI, hq, hT with
        | .error (we, ae), hI, hq, hT => exact lpE we ae h hx hT
        | .ok (q, f), hI, hq, hT => exact absurd (hq q f rfl) (by have := hI.2.1; omega)
      | succ m ih =>
        intro x h hx hI hq hT
        match x, hI, hq, hT with
        | .error (we, ae), hI, hq, hT => exact lpE we ae h hx hT
        | .ok (q, f), hI, hq, hT =>
          have hTo := hT
          obtain ⟨v, g, c117, c120, c121, hN, hR⟩ := hTo
          have hq2 := hq q f rfl
          have hI2 : WI n q (.ok (q, f)) := ⟨Nat.le_refl _, hI.2⟩
          show Fr E mX10_readGoer d 58 [.ref 117, .int (nI (fr 3))] [] h (RQ tp n rI v0 h0 none (bnd (pFlags tp n (fr 3) (m + 1) q f) (pUp (fun f => va_up f 3 (f 3 + 1)))))
          by_cases hk : lxK tp n q = 5
          · have i2 : WI n (q + 1) (pFl5 tp n (fr 3) q f) := l_fl5 hg hI2 (by rw [hk]; decide)
            have eL : pFlags tp n (fr 3) (m + 1) q f = bnd (pFl5 tp n (fr 3) q f) (pFlags tp n (fr 3) m) := by rw [pFlags_s, if_pos hk]
            rw [eL]
            refine r_aload_n (pc2 := 59) 0 dX10_readGoer_58 rfl rfl rfl rfl ?_
            refine r_getf (pc2 := 62) (v := .int (v 11)) fX10_136 dX10_readGoer_59 c117 (by decide) rfl rfl ?_
            refine r_if_ne (tgt := 76) (pc2 := 65) dX10_readGoer_62 (by decide) rfl (fun b62 => ?_) (fun b62 => ?_)
            · exact absurd hR.good b62
            · skip
              refine r_aload_n (pc2 := 66) 0 dX10_readGoer_65 rfl rfl rfl rfl ?_
              refine r_iload_n (pc2 := 67) 1 dX10_readGoer_66 rfl rfl rfl ?_
              refine r_callV1 (pc2 := 70) (As := [.int (nI (fr 3))]) (st := []) kX10_196 rfl rfl dX10_readGoer_67 c117 (by decide) rfl rfl (Nat.le_of_ble_eq_true rfl) (by omega) (C_flag5 (g0 := fr 3) ht (by omega) hg hI.2.2.2.1 hk hT) rfl (fun h hq67 => ?_)
              obtain ⟨hxc, hT⟩ := hq67
              have hx := hx.trans hxc (by decide)
              have hTo := hT
              obtain ⟨v, g, c117, c120, c121, hN, hR⟩ := hTo
              refine r_if_eq (tgt := 76) (pc2 := 73) dX10_readGoer_70 (by decide) rfl (fun b70 => ?_) (fun b70 => ?_)
              · skip
                rw [okB_f (iteB0 b70) (pFlags tp n (fr 3) m)]
                exact k76 (pFl5 tp n (fr 3) q f) _ hx hT
              · skip
                refine r_goto (pc2 := 58) dX10_readGoer_73 (by decide) ?_
                exact ih (pFl5 tp n (fr 3) q f) _ hx i2.w0 (fun p2 L2 z => by rw [z] at i2; have := i2.1; omega) hT
          · have n5 := hk
            by_cases hk : lxK tp n q = 6
            · have i2 : WI n (q + 1) (pFl6 tp n (fr 3) q f) := l_fl6 hg hI2 (by rw [hk]; decide)
              have eL : pFlags tp n (fr 3) (m + 1) q f = bnd (pFl6 tp n (fr 3) q f) (pFlags tp n (fr 3) m) := by rw [pFlags_s, if_neg n5, if_pos hk]
              rw [eL]
              refine r_aload_n (pc2 := 59) 0 dX10_readGoer_58 rfl rfl rfl rfl ?_
              refine r_getf (pc2 := 62) (v := .int (v 11)) fX10_136 dX10_readGoer_59 c117 (by decide) rfl rfl ?_
              refine r_if_ne (tgt := 76) (pc2 := 65) dX10_readGoer_62 (by decide) rfl (fun b62 => ?_) (fun b62 => ?_)
              · exact absurd hR.good b62
              · skip
                refine r_aload_n (pc2 := 66) 0 dX10_readGoer_65 rfl rfl rfl rfl ?_
                refine r_iload_n (pc2 := 67) 1 dX10_readGoer_66 rfl rfl rfl ?_
                refine r_callV1 (pc2 := 70) (As := [.int (nI (fr 3))]) (st := []) kX10_196 rfl rfl dX10_readGoer_67 c117 (by decide) rfl rfl (Nat.le_of_ble_eq_true rfl) (by omega) (C_flag6 (g0 := fr 3) ht (by omega) hg hI.2.2.2.1 n5 hk hT) rfl (fun h hq67 => ?_)
                obtain ⟨hxc, hT⟩ := hq67
                have hx := hx.trans hxc (by decide)
                have hTo := hT
                obtain ⟨v, g, c117, c120, c121, hN, hR⟩ := hTo
                refine r_if_eq (tgt := 76) (pc2 := 73) dX10_readGoer_70 (by decide) rfl (fun b70 => ?_) (fun b70 => ?_)
                · skip
                  rw [okB_f (iteB0 b70) (pFlags tp n (fr 3) m)]
                  exact k76 (pFl6 tp n (fr 3) q f) _ hx hT
                · skip
                  refine r_goto (pc2 := 58) dX10_readGoer_73 (by decide) ?_
                  exact ih (pFl6 tp n (fr 3) q f) _ hx i2.w0 (fun p2 L2 z => by rw [z] at i2; have := i2.1; omega) hT
            · have eL : pFlags tp n (fr 3) (m + 1) q f = .ok (q, f) := by rw [pFlags_s, if_neg n5, if_neg hk]
              rw [eL]
              refine r_aload_n (pc2 := 59) 0 dX10_readGoer_58 rfl rfl rfl rfl ?_
              refine r_getf (pc2 := 62) (v := .int (v 11)) fX10_136 dX10_readGoer_59 c117 (by decide) rfl rfl ?_
              refine r_if_ne (tgt := 76) (pc2 := 65) dX10_readGoer_62 (by decide) rfl (fun b62 => ?_) (fun b62 => ?_)
              · exact absurd hR.good b62
              · skip
                refine r_aload_n (pc2 := 66) 0 dX10_readGoer_65 rfl rfl rfl rfl ?_
                refine r_iload_n (pc2 := 67) 1 dX10_readGoer_66 rfl rfl rfl ?_
                refine r_callV1 (pc2 := 70) (As := [.int (nI (fr 3))]) (st := []) kX10_196 rfl rfl dX10_readGoer_67 c117 (by decide) rfl rfl (Nat.le_of_ble_eq_true rfl) (by omega) (C_flag0 (g0 := fr 3) ht (by omega) n5 hk hT) rfl (fun h hq67 => ?_)
                obtain ⟨hxc, hT⟩ := hq67
                have hx := hx.trans hxc (by decide)
                have hTo := hT
                obtain ⟨v, g, c117, c120, c121, hN, hR⟩ := hTo
                refine r_if_eq (tgt := 76) (pc2 := 73) dX10_readGoer_70 (by decide) rfl (fun b70 => ?_) (fun b70 => ?_)
                · skip
                  exact k76 (.ok (q, f)) _ hx hT
                · exact absurd b70 (by decide)
    have k42 : ∀ h : Hp, Ex [117, 121] h0 h → RT tp n rI v0 (bnd (pNx tp n p fr) (pEat tp n 4)) h → Fr E mX10_readGoer d 42 [.ref 117, .int (nI (fr 3))] [] h (RQ tp n rI v0 h0 none (bnd (bnd (bnd (bnd (pNx tp n p fr) (pEat tp n 4)) (pSet tp n 0 (fun _ => 10) (14 + fr 3))) (pFlags tp n (fr 3) 901)) (pUp (fun f => va_up f 3 (f 3 + 1))))) := by
      intro h hx hT
      have hTo := hT
      obtain ⟨v, g, c117, c120, c121, hN, hR⟩ := hTo
      refine r_aload_n (pc2 := 43) 0 dX10_readGoer_42 rfl rfl rfl rfl ?_
      refine r_getf (pc2 := 46) (v := .ref 121) fX10_24 dX10_readGoer_43 c117 (by decide) rfl rfl ?_
      refine r_bipush (pc2 := 48) (v := 14) dX10_readGoer_46 (by decide) rfl ?_
      refine r_iload_n (pc2 := 49) 1 dX10_readGoer_48 rfl rfl rfl ?_
      refine r_iadd (pc2 := 50) dX10_readGoer_49 rfl ?_
      refine r_cast (nI (14 + fr 3)) (nI_add 14 _) ?_
      refine r_aload_n (pc2 := 51) 0 dX10_readGoer_50 rfl rfl rfl rfl ?_
      refine r_iconst (pc2 := 52) (v := 0) dX10_readGoer_51 (by decide) rfl ?_
      refine r_bipush (pc2 := 54) (v := 9) dX10_readGoer_52 (by decide) rfl ?_
      refine r_callV2 (pc2 := 57) (As := [.int 0, .int 9]) (st := [.int (nI (14 + fr 3)), .ref 121]) kX10_192 rfl rfl dX10_readGoer_54 c117 (by decide) rfl rfl (Nat.le_of_ble_eq_true rfl) (by omega) (G_takes (x := (bnd (pNx tp n p fr) (pEat tp n 4))) (lo := 0) (H := (fun _ => 10)) (fun p2 L2 z => ⟨rfl, by decide, (show (10 : Nat) ≤ 1000 by decide)⟩) (by decide) ht (by omega) hT) rfl (fun v54 h hq54 => ?_)
      obtain ⟨z54, rfl, hxc, hz54, hT⟩ := hq54
      have hx := hx.trans hxc (by decide)
      have hTo := hT
      obtain ⟨v, g, c117, c120, c121, hN, hR⟩ := hTo
      refine r_iastN (pc2 := 58) (14 + fr 3) dX10_readGoer_57 c121 (by decide) rfl (by omega) (by decide) rfl (fun h z57 o57 c121 => ?_)
      have c117 := (o57 117 (by decide)).trans c117
      have c120 := (o57 120 (by decide)).trans c120
      have hx := hx.step (a := 121) (by decide) z57 o57
      exact loop 901 (bnd (bnd (pNx tp n p fr) (pEat tp n 4)) (pSet tp n 0 (fun _ => 10) (14 + fr 3))) _ hx i2.w0 (fun p2 L2 z => by have := ht.1; omega) ⟨v, _, c117, c120, c121, hN, RV_set hR hz54⟩
    refine Cn.go (ls := [.ref 117, .float 0]) (by decide +kernel) rfl (Nat.le_of_ble_eq_true rfl) ?_
    refine r_aload_n (pc2 := 1) 0 dX10_readGoer_0 rfl rfl rfl rfl ?_
    refine r_getf (pc2 := 4) (v := .ref 121) fX10_24 dX10_readGoer_1 c117 (by decide) rfl rfl ?_
    refine r_iconst (pc2 := 5) (v := 3) dX10_readGoer_4 (by decide) rfl ?_
    refine r_ialdA (pc2 := 6) 3 dX10_readGoer_5 c121 (by decide) rfl (by decide) (by decide) rfl ?_
    refine r_istore_n (pc2 := 7) (ls2 := [.ref 117, .int (nI (fr 3))]) 1 dX10_readGoer_6 rfl (by decide) rfl rfl rfl ?_
    refine r_iload_n (pc2 := 8) 1 dX10_readGoer_7 rfl rfl rfl ?_
    refine r_iconst (pc2 := 9) (v := 4) dX10_readGoer_8 (by decide) rfl ?_
    refine r_icmp_ne (tgt := 17) (pc2 := 12) dX10_readGoer_9 (by decide) rfl (fun b9 => ?_) (fun b9 => ?_)
    · skip
      refine r_aload_n (pc2 := 18) 0 dX10_readGoer_17 rfl rfl rfl rfl ?_
      refine r_getf (pc2 := 21) (v := .int (v 11)) fX10_136 dX10_readGoer_18 c117 (by decide) rfl rfl ?_
      refine r_if_eq (tgt := 25) (pc2 := 24) dX10_readGoer_21 (by decide) rfl (fun b21 => ?_) (fun b21 => ?_)
      · skip
        refine r_aload_n (pc2 := 26) 0 dX10_readGoer_25 rfl rfl rfl rfl ?_
        refine r_callV0 (pc2 := 29) (As := []) (st := []) kX10_145 rfl rfl dX10_readGoer_26 c117 (by decide) rfl rfl (Nat.le_of_ble_eq_true rfl) (by omega) (G_next ht (by omega) (p := p) (L := fr) hT) rfl (fun h hq26 => ?_)
        obtain ⟨hxc, hT⟩ := hq26
        have hx := hx.trans hxc (by decide)
        have hTo := hT
        obtain ⟨v, g, c117, c120, c121, hN, hR⟩ := hTo
        refine r_aload_n (pc2 := 30) 0 dX10_readGoer_29 rfl rfl rfl rfl ?_
        refine r_iconst (pc2 := 31) (v := 4) dX10_readGoer_30 (by decide) rfl ?_
        refine r_callV1 (pc2 := 34) (As := [.int 4]) (st := []) kX10_171 rfl rfl dX10_readGoer_31 c117 (by decide) rfl rfl (Nat.le_of_ble_eq_true rfl) (by omega) (G_eats (x := (pNx tp n p fr)) (k := 4) (by decide) ht (by omega) hT) rfl (fun h hq31 => ?_)
        obtain ⟨hxc, hT⟩ := hq31
        have hx := hx.trans hxc (by decide)
        have hTo := hT
        obtain ⟨v, g, c117, c120, c121, hN, hR⟩ := hTo
        refine r_if_ne (tgt := 42) (pc2 := 37) dX10_readGoer_34 (by decide) rfl (fun b34 => ?_) (fun b34 => ?_)
        · skip
          exact k42 _ hx (by rw [pEat_t (iteB1 b34)]; rw [if_pos (iteB1 b34)] at hT; exact hT)
        · skip
          rw [if_neg (iteB0 b34)] at hT
          refine r_aload_n (pc2 := 38) 0 dX10_readGoer_37 rfl rfl rfl rfl ?_
          refine r_iconst (pc2 := 39) (v := 2) dX10_readGoer_38 (by decide) rfl ?_
          refine r_callV0 (pc2 := 42) (As := [.int 2]) (st := []) kX10_148 rfl rfl dX10_readGoer_39 c117 (by decide) rfl rfl (Nat.le_of_ble_eq_true rfl) (by omega) (G_fails (x := (pNx tp n p fr)) (f := 2) (by decide) (by decide) hT) rfl (fun h hq39 => ?_)
          obtain ⟨hxc, hT⟩ := hq39
          have hx := hx.trans hxc (by decide)
          have hTo := hT
          obtain ⟨v, g, c117, c120, c121, hN, hR⟩ := hTo
          exact k42 _ hx (by rw [pEat_f (iteB0 b34)]; exact hT)
      · exact absurd hR.good b21
    · exact absurd ((nI_eq (b := 4) (by omega) (by decide)).mp b9) h4
set_option maxRecDepth 20000 in
set_option maxHeartbeats 1000000 in
theorem C_people {E : EnvT} {d : Nat} {h0 : Hp} {tp : Nat → Nat} {n : Nat} {v0 : Nat → Int32} {p : Nat} {fr : FR} (ht : TOk tp n) (hd : 9 ≤ d) (hW : WI n 0 (.ok (p, fr))) (hT : RT tp n rI v0 (.ok (p, fr)) h0) : Cn E mX10_readPeople d [.ref 117] h0 (RQ tp n rI v0 h0 none (pPeople tp n p fr)) := by
  have hx : Ex [117, 121] h0 h0 := Ex.rf
  have hTo := hT
  obtain ⟨v, g, c117, c120, c121, hN, hR⟩ := hTo
  have hf := hR.2.2
  subst hf
  have c121 : h0.1 121 = some (aI 1177 (nA fr)) := c121
  have h51 := hW.2.2.2.2.2.2.1
  by_cases h5 : fr 5 = 1
  · have eG : (pPeople tp n p fr) = pFl tp n 2 p := by unfold pPeople; rw [if_pos h5]
    rw [eG]
    refine Cn.go (ls := [.ref 117]) (by decide +kernel) rfl (Nat.le_of_ble_eq_true rfl) ?_
    refine r_aload_n (pc2 := 1) 0 dX10_readPeople_0 rfl rfl rfl rfl ?_
    refine r_getf (pc2 := 4) (v := .ref 121) fX10_24 dX10_readPeople_1 c117 (by decide) rfl rfl ?_
    refine r_iconst (pc2 := 5) (v := 5) dX10_readPeople_4 (by decide) rfl ?_
    refine r_ialdA (pc2 := 6) 5 dX10_readPeople_5 c121 (by decide) rfl (by decide) (by decide) rfl ?_
    refine r_iconst (pc2 := 7) (v := 1) dX10_readPeople_6 (by decide) rfl ?_
    refine r_icmp_ne (tgt := 15) (pc2 := 10) dX10_readPeople_7 (by decide) rfl (fun b7 => ?_) (fun b7 => ?_)
    · exact absurd (congrArg nI h5) b7
    · skip
      refine r_aload_n (pc2 := 11) 0 dX10_readPeople_10 rfl rfl rfl rfl ?_
      refine r_iconst (pc2 := 12) (v := 2) dX10_readPeople_11 (by decide) rfl ?_
      refine r_callV0 (pc2 := 15) (As := [.int 2]) (st := []) kX10_148 rfl rfl dX10_readPeople_12 c117 (by decide) rfl rfl (Nat.le_of_ble_eq_true rfl) (by omega) (G_fails (x := .ok (p, fr)) (f := 2) (by decide) (by decide) hT) rfl (fun h hq12 => ?_)
      obtain ⟨hxc, hT⟩ := hq12
      have hx := hx.trans hxc (by decide)
      have hTo := hT
      obtain ⟨v, g, c117, c120, c121, hN, hR⟩ := hTo
      refine r_aload_n (pc2 := 16) 0 dX10_readPeople_15 rfl rfl rfl rfl ?_
      refine r_getf (pc2 := 19) (v := .int (v 11)) fX10_136 dX10_readPeople_16 c117 (by decide) rfl rfl ?_
      refine r_if_eq (tgt := 23) (pc2 := 22) dX10_readPeople_19 (by decide) rfl (fun b19 => ?_) (fun b19 => ?_)
      · exact absurd b19 hR.bad
      · skip
        exact r_vret rfl dX10_readPeople_22 ⟨rfl, hx, hT⟩
  · have eG : (pPeople tp n p fr) = bnd (bnd (pNx tp n p fr) (pSet tp n 0 (fun _ => 9) 4)) (pUp (fun f => va_up f 5 1)) := by unfold pPeople; rw [if_neg h5]
    rw [eG]
    refine Cn.go (ls := [.ref 117]) (by decide +kernel) rfl (Nat.le_of_ble_eq_true rfl) ?_
    refine r_aload_n (pc2 := 1) 0 dX10_readPeople_0 rfl rfl rfl rfl ?_
    refine r_getf (pc2 := 4) (v := .ref 121) fX10_24 dX10_readPeople_1 c117 (by decide) rfl rfl ?_
    refine r_iconst (pc2 := 5) (v := 5) dX10_readPeople_4 (by decide) rfl ?_
    refine r_ialdA (pc2 := 6) 5 dX10_readPeople_5 c121 (by decide) rfl (by decide) (by decide) rfl ?_
    refine r_iconst (pc2 := 7) (v := 1) dX10_readPeople_6 (by decide) rfl ?_
    refine r_icmp_ne (tgt := 15) (pc2 := 10) dX10_readPeople_7 (by decide) rfl (fun b7 => ?_) (fun b7 => ?_)
    · skip
      refine r_aload_n (pc2 := 16) 0 dX10_readPeople_15 rfl rfl rfl rfl ?_
      refine r_getf (pc2 := 19) (v := .int (v 11)) fX10_136 dX10_readPeople_16 c117 (by decide) rfl rfl ?_
      refine r_if_eq (tgt := 23) (pc2 := 22) dX10_readPeople_19 (by decide) rfl (fun b19 => ?_) (fun b19 => ?_)
      · skip
        refine r_aload_n (pc2 := 24) 0 dX10_readPeople_23 rfl rfl rfl rfl ?_
        refine r_callV0 (pc2 := 27) (As := []) (st := []) kX10_145 rfl rfl dX10_readPeople_24 c117 (by decide) rfl rfl (Nat.le_of_ble_eq_true rfl) (by omega) (G_next ht (by omega) (p := p) (L := fr) hT) rfl (fun h hq24 => ?_)
        obtain ⟨hxc, hT⟩ := hq24
        have hx := hx.trans hxc (by decide)
        have hTo := hT
        obtain ⟨v, g, c117, c120, c121, hN, hR⟩ := hTo
        refine r_aload_n (pc2 := 28) 0 dX10_readPeople_27 rfl rfl rfl rfl ?_
        refine r_getf (pc2 := 31) (v := .ref 121) fX10_24 dX10_readPeople_28 c117 (by decide) rfl rfl ?_
        refine r_iconst (pc2 := 32) (v := 4) dX10_readPeople_31 (by decide) rfl ?_
        refine r_aload_n (pc2 := 33) 0 dX10_readPeople_32 rfl rfl rfl rfl ?_
        refine r_iconst (pc2 := 34) (v := 0) dX10_readPeople_33 (by decide) rfl ?_
        refine r_bipush (pc2 := 36) (v := 8) dX10_readPeople_34 (by decide) rfl ?_
        refine r_callV2 (pc2 := 39) (As := [.int 0, .int 8]) (st := [.int 4, .ref 121]) kX10_192 rfl rfl dX10_readPeople_36 c117 (by decide) rfl rfl (Nat.le_of_ble_eq_true rfl) (by omega) (G_takes (x := (pNx tp n p fr)) (lo := 0) (H := (fun _ => 9)) (fun p2 L2 z => ⟨rfl, by decide, (show (9 : Nat) ≤ 1000 by decide)⟩) (by decide) ht (by omega) hT) rfl (fun v36 h hq36 => ?_)
        obtain ⟨z36, rfl, hxc, hz36, hT⟩ := hq36
        have hx := hx.trans hxc (by decide)
        have hTo := hT
        obtain ⟨v, g, c117, c120, c121, hN, hR⟩ := hTo
        refine r_iastN (pc2 := 40) 4 dX10_readPeople_39 c121 (by decide) rfl (by decide) (by decide) rfl (fun h z39 o39 c121 => ?_)
        have c117 := (o39 117 (by decide)).trans c117
        have c120 := (o39 120 (by decide)).trans c120
        have hx := hx.step (a := 121) (by decide) z39 o39
        refine r_aload_n (pc2 := 41) 0 dX10_readPeople_40 rfl rfl rfl rfl ?_
        refine r_getf (pc2 := 44) (v := .ref 121) fX10_24 dX10_readPeople_41 c117 (by decide) rfl rfl ?_
        refine r_iconst (pc2 := 45) (v := 5) dX10_readPeople_44 (by decide) rfl ?_
        refine r_iconst (pc2 := 46) (v := 1) dX10_readPeople_45 (by decide) rfl ?_
        refine r_iastN (pc2 := 47) 5 dX10_readPeople_46 c121 (by decide) rfl (by decide) (by decide) rfl (fun h z46 o46 c121 => ?_)
        have c117 := (o46 117 (by decide)).trans c117
        have c120 := (o46 120 (by decide)).trans c120
        have hx := hx.step (a := 121) (by decide) z46 o46
        exact r_vret rfl dX10_readPeople_47 ⟨rfl, hx, v, _, c117, c120, c121, hN, RV_up (i := 5) (c := 1) rfl (RV_set (i := 4) hR hz36)⟩
      · exact absurd hR.good b19
    · exact absurd ((nI_eq (b := 1) (by omega) (by decide)).mp b7) h5
set_option maxRecDepth 20000 in
set_option maxHeartbeats 1000000 in
theorem C_cart {E : EnvT} {d : Nat} {h0 : Hp} {tp : Nat → Nat} {n : Nat} {v0 : Nat → Int32} {p : Nat} {fr : FR} (ht : TOk tp n) (hd : 9 ≤ d) (hT : RT tp n rI v0 (.ok (p, fr)) h0) : Cn E mX10_readCart d [.ref 117] h0 (RQ tp n rI v0 h0 none (pCart tp n p fr)) := by
  have hx : Ex [117, 121] h0 h0 := Ex.rf
  have hTo := hT
  obtain ⟨v, g, c117, c120, c121, hN, hR⟩ := hTo
  have eG : (pCart tp n p fr) = bnd (bnd (bnd (pNx tp n p fr) (pSet tp n 0 (fun _ => 11) 6)) (pEat tp n 10)) (pSet tp n 0 (fun _ => 10) 7) := rfl
  rw [eG]
  have k32 : ∀ h : Hp, Ex [117, 121] h0 h → RT tp n rI v0 (bnd (bnd (pNx tp n p fr) (pSet tp n 0 (fun _ => 11) 6)) (pEat tp n 10)) h → Fr E mX10_readCart d 32 [.ref 117] [] h (RQ tp n rI v0 h0 none (bnd (bnd (bnd (pNx tp n p fr) (pSet tp n 0 (fun _ => 11) 6)) (pEat tp n 10)) (pSet tp n 0 (fun _ => 10) 7))) := by
    intro h hx hT
    have hTo := hT
    obtain ⟨v, g, c117, c120, c121, hN, hR⟩ := hTo
    refine r_aload_n (pc2 := 33) 0 dX10_readCart_32 rfl rfl rfl rfl ?_
    refine r_getf (pc2 := 36) (v := .ref 121) fX10_24 dX10_readCart_33 c117 (by decide) rfl rfl ?_
    refine r_bipush (pc2 := 38) (v := 7) dX10_readCart_36 (by decide) rfl ?_
    refine r_aload_n (pc2 := 39) 0 dX10_readCart_38 rfl rfl rfl rfl ?_
    refine r_iconst (pc2 := 40) (v := 0) dX10_readCart_39 (by decide) rfl ?_
    refine r_bipush (pc2 := 42) (v := 9) dX10_readCart_40 (by decide) rfl ?_
    refine r_callV2 (pc2 := 45) (As := [.int 0, .int 9]) (st := [.int 7, .ref 121]) kX10_192 rfl rfl dX10_readCart_42 c117 (by decide) rfl rfl (Nat.le_of_ble_eq_true rfl) (by omega) (G_takes (x := (bnd (bnd (pNx tp n p fr) (pSet tp n 0 (fun _ => 11) 6)) (pEat tp n 10))) (lo := 0) (H := (fun _ => 10)) (fun p2 L2 z => ⟨rfl, by decide, (show (10 : Nat) ≤ 1000 by decide)⟩) (by decide) ht (by omega) hT) rfl (fun v42 h hq42 => ?_)
    obtain ⟨z42, rfl, hxc, hz42, hT⟩ := hq42
    have hx := hx.trans hxc (by decide)
    have hTo := hT
    obtain ⟨v, g, c117, c120, c121, hN, hR⟩ := hTo
    refine r_iastN (pc2 := 46) 7 dX10_readCart_45 c121 (by decide) rfl (by decide) (by decide) rfl (fun h z45 o45 c121 => ?_)
    have c117 := (o45 117 (by decide)).trans c117
    have c120 := (o45 120 (by decide)).trans c120
    have hx := hx.step (a := 121) (by decide) z45 o45
    exact r_vret rfl dX10_readCart_46 ⟨rfl, hx, v, _, c117, c120, c121, hN, RV_set (i := 7) hR hz42⟩
  refine Cn.go (ls := [.ref 117]) (by decide +kernel) rfl (Nat.le_of_ble_eq_true rfl) ?_
  refine r_aload_n (pc2 := 1) 0 dX10_readCart_0 rfl rfl rfl rfl ?_
  refine r_callV0 (pc2 := 4) (As := []) (st := []) kX10_145 rfl rfl dX10_readCart_1 c117 (by decide) rfl rfl (Nat.le_of_ble_eq_true rfl) (by omega) (G_next ht (by omega) (p := p) (L := fr) hT) rfl (fun h hq1 => ?_)
  obtain ⟨hxc, hT⟩ := hq1
  have hx := hx.trans hxc (by decide)
  have hTo := hT
  obtain ⟨v, g, c117, c120, c121, hN, hR⟩ := hTo
  refine r_aload_n (pc2 := 5) 0 dX10_readCart_4 rfl rfl rfl rfl ?_
  refine r_getf (pc2 := 8) (v := .ref 121) fX10_24 dX10_readCart_5 c117 (by decide) rfl rfl ?_
  refine r_bipush (pc2 := 10) (v := 6) dX10_readCart_8 (by decide) rfl ?_
  refine r_aload_n (pc2 := 11) 0 dX10_readCart_10 rfl rfl rfl rfl ?_
  refine r_iconst (pc2 := 12) (v := 0) dX10_readCart_11 (by decide) rfl ?_
  refine r_bipush (pc2 := 14) (v := 10) dX10_readCart_12 (by decide) rfl ?_
  refine r_callV2 (pc2 := 17) (As := [.int 0, .int 10]) (st := [.int 6, .ref 121]) kX10_192 rfl rfl dX10_readCart_14 c117 (by decide) rfl rfl (Nat.le_of_ble_eq_true rfl) (by omega) (G_takes (x := (pNx tp n p fr)) (lo := 0) (H := (fun _ => 11)) (fun p2 L2 z => ⟨rfl, by decide, (show (11 : Nat) ≤ 1000 by decide)⟩) (by decide) ht (by omega) hT) rfl (fun v14 h hq14 => ?_)
  obtain ⟨z14, rfl, hxc, hz14, hT⟩ := hq14
  have hx := hx.trans hxc (by decide)
  have hTo := hT
  obtain ⟨v, g, c117, c120, c121, hN, hR⟩ := hTo
  refine r_iastN (pc2 := 18) 6 dX10_readCart_17 c121 (by decide) rfl (by decide) (by decide) rfl (fun h z17 o17 c121 => ?_)
  have c117 := (o17 117 (by decide)).trans c117
  have c120 := (o17 120 (by decide)).trans c120
  have hx := hx.step (a := 121) (by decide) z17 o17
  have hT : RT tp n rI v0 (bnd (pNx tp n p fr) (pSet tp n 0 (fun _ => 11) 6)) h := ⟨v, _, c117, c120, c121, hN, RV_set (i := 6) hR hz14⟩
  have hTo := hT
  obtain ⟨v, g, c117, c120, c121, hN, hR⟩ := hTo
  refine r_aload_n (pc2 := 19) 0 dX10_readCart_18 rfl rfl rfl rfl ?_
  refine r_bipush (pc2 := 21) (v := 10) dX10_readCart_19 (by decide) rfl ?_
  refine r_callV1 (pc2 := 24) (As := [.int 10]) (st := []) kX10_171 rfl rfl dX10_readCart_21 c117 (by decide) rfl rfl (Nat.le_of_ble_eq_true rfl) (by omega) (G_eats (x := (bnd (pNx tp n p fr) (pSet tp n 0 (fun _ => 11) 6))) (k := 10) (by decide) ht (by omega) hT) rfl (fun h hq21 => ?_)
  obtain ⟨hxc, hT⟩ := hq21
  have hx := hx.trans hxc (by decide)
  have hTo := hT
  obtain ⟨v, g, c117, c120, c121, hN, hR⟩ := hTo
  refine r_if_ne (tgt := 32) (pc2 := 27) dX10_readCart_24 (by decide) rfl (fun b24 => ?_) (fun b24 => ?_)
  · skip
    exact k32 _ hx (by rw [pEat_t (iteB1 b24)]; rw [if_pos (iteB1 b24)] at hT; exact hT)
  · skip
    rw [if_neg (iteB0 b24)] at hT
    refine r_aload_n (pc2 := 28) 0 dX10_readCart_27 rfl rfl rfl rfl ?_
    refine r_iconst (pc2 := 29) (v := 2) dX10_readCart_28 (by decide) rfl ?_
    refine r_callV0 (pc2 := 32) (As := [.int 2]) (st := []) kX10_148 rfl rfl dX10_readCart_29 c117 (by decide) rfl rfl (Nat.le_of_ble_eq_true rfl) (by omega) (G_fails (x := (bnd (pNx tp n p fr) (pSet tp n 0 (fun _ => 11) 6))) (f := 2) (by decide) (by decide) hT) rfl (fun h hq29 => ?_)
    obtain ⟨hxc, hT⟩ := hq29
    have hx := hx.trans hxc (by decide)
    have hTo := hT
    obtain ⟨v, g, c117, c120, c121, hN, hR⟩ := hTo
    exact k32 _ hx (by rw [pEat_f (iteB0 b24)]; exact hT)
set_option maxRecDepth 20000 in
set_option maxHeartbeats 1000000 in
theorem C_hint0 {E : EnvT} {d : Nat} {h0 : Hp} {tp : Nat → Nat} {n : Nat} {v0 : Nat → Int32} {p : Nat} {fr : FR} (ht : TOk tp n) (hd : 9 ≤ d) (hW : WI n 0 (.ok (p, fr))) (hT : RT tp n rI v0 (.ok (p, fr)) h0) : Cn E mX10_readHint d [.ref 117, .int 0] h0 (RQ tp n rI v0 h0 none (pHint tp n 0 p fr)) := by
  have hx : Ex [117, 121] h0 h0 := Ex.rf
  have hTo := hT
  obtain ⟨v, g, c117, c120, c121, hN, hR⟩ := hTo
  have h48 := hW.2.2.2.2.2.1
  have kE40 : ∀ (we ae : Nat) (zz : Int32) (h : Hp), Ex [117, 121] h0 h → RT tp n rI v0 (.error (we, ae) : PX FR) h → Fr E mX10_readHint d 40 [.ref 117, .int 0, .int zz, .float 0] [] h (RQ tp n rI v0 h0 none (.error (we, ae) : PX FR)) := by
    intro we ae zz h hx hT
    have hTo := hT
    obtain ⟨v, g, c117, c120, c121, hN, hR⟩ := hTo
    refine r_aload_n (pc2 := 41) 0 dX10_readHint_40 rfl rfl rfl rfl ?_
    refine r_iconst (pc2 := 42) (v := 0) dX10_readHint_41 (by decide) rfl ?_
    refine r_aload_n (pc2 := 43) 0 dX10_readHint_42 rfl rfl rfl rfl ?_
    refine r_getf (pc2 := 46) (v := .ref 121) fX10_24 dX10_readHint_43 c117 (by decide) rfl rfl ?_
    refine r_iconst (pc2 := 47) (v := 4) dX10_readHint_46 (by decide) rfl ?_
    refine r_ialdN (pc2 := 48) 4 dX10_readHint_47 c121 (by decide) rfl (by decide) (by decide) rfl ?_
    refine r_iconst (pc2 := 49) (v := 1) dX10_readHint_48 (by decide) rfl ?_
    refine r_isub (pc2 := 50) dX10_readHint_49 rfl ?_
    refine r_callV2 (pc2 := 53) (As := [.int 0, .int ((g 4) - 1)]) (st := []) kX10_192 rfl rfl dX10_readHint_50 c117 (by decide) rfl rfl (Nat.le_of_ble_eq_true rfl) (by omega) (G_takes (x := (.error (we, ae) : PX FR)) (lo := 0) (H := (fun fr => fr 4)) (fun p2 L2 z => by cases z) (by decide) ht (by omega) hT) rfl (fun v50 h hq50 => ?_)
    obtain ⟨z50, rfl, hxc, hz50, hT⟩ := hq50
    have hx := hx.trans hxc (by decide)
    have hTo := hT
    obtain ⟨v, g, c117, c120, c121, hN, hR⟩ := hTo
    refine r_istore_n (pc2 := 54) (ls2 := [.ref 117, .int 0, .int zz, .int z50]) 3 dX10_readHint_53 rfl (by decide) rfl rfl rfl ?_
    refine r_aload_n (pc2 := 55) 0 dX10_readHint_54 rfl rfl rfl rfl ?_
    refine r_getf (pc2 := 58) (v := .int (v 11)) fX10_136 dX10_readHint_55 c117 (by decide) rfl rfl ?_
    refine r_if_ne (tgt := 71) (pc2 := 61) dX10_readHint_58 (by decide) rfl (fun b58 => ?_) (fun b58 => ?_)
    · skip
      exact r_vret rfl dX10_readHint_71 ⟨rfl, hx, hT⟩
    · exact absurd b58 hR.bad
  have kE18 : ∀ (we ae : Nat) (zz : Int32) (h : Hp), Ex [117, 121] h0 h → RT tp n rI v0 (.error (we, ae) : PX FR) h → Fr E mX10_readHint d 18 [.ref 117, .int 0, .int zz, .float 0] [] h (RQ tp n rI v0 h0 none (.error (we, ae) : PX FR)) := by
    intro we ae zz h hx hT
    have hTo := hT
    obtain ⟨v, g, c117, c120, c121, hN, hR⟩ := hTo
    refine r_aload_n (pc2 := 19) 0 dX10_readHint_18 rfl rfl rfl rfl ?_
    refine r_bipush (pc2 := 21) (v := 24) dX10_readHint_19 (by decide) rfl ?_
    refine r_callV1 (pc2 := 24) (As := [.int 24]) (st := []) kX10_142 rfl rfl dX10_readHint_21 c117 (by decide) rfl rfl (Nat.le_of_ble_eq_true rfl) (by omega) ((G_is (k := 24) (by decide) hT).mono fun r h2 q => ⟨q.1.trans (by rw [if_neg (isB_e)]), q.2⟩) rfl (fun h2 hq21 => ?_)
    subst hq21
    refine r_if_eq (tgt := 40) (pc2 := 27) dX10_readHint_24 (by decide) rfl (fun b24 => ?_) (fun b24 => ?_)
    · skip
      exact kE40 we ae zz _ hx hT
    · exact absurd b24 (by decide)
  have k18 : ∀ (zz : Int32) (h : Hp), Ex [117, 121] h0 h → (lxK tp n (lxE tp n p) = 24 → lxN tp n (lxE tp n p) < fr 4 → zz = nI (lxN tp n (lxE tp n p))) → RT tp n rI v0 (pTk tp n 0 (fun fr => fr 4) (lxE tp n p) fr) h → Fr E mX10_readHint d 18 [.ref 117, .int 0, .int zz, .float 0] [] h (RQ tp n rI v0 h0 none (pHint tp n 0 p fr)) := by
    intro zz h hx hz hT
    have eG : (pHint tp n 0 p fr) = bnd (pTk tp n 0 (fun fr => fr 4) (lxE tp n p) fr) (pHint2 tp n 0 (lxN tp n (lxE tp n p))) := rfl
    rw [eG]
    by_cases hr : lxK tp n (lxE tp n p) = 24 ∧ lxN tp n (lxE tp n p) < fr 4
    · have e1 : (pTk tp n 0 (fun fr => fr 4) (lxE tp n p) fr) = (.ok (lxE tp n (lxE tp n p), fr) : PX FR) := by unfold pTk; rw [if_pos hr.1, if_pos ⟨Nat.zero_le _, hr.2⟩]; rfl
      rw [e1] at hT ⊢
      obtain rfl := hz hr.1 hr.2
      have hTo := hT
      obtain ⟨v, g, c117, c120, c121, hN, hR⟩ := hTo
      show Fr E mX10_readHint d 18 [.ref 117, .int 0, .int (nI (lxN tp n (lxE tp n p))), .float 0] [] h (RQ tp n rI v0 h0 none (pHint2 tp n 0 (lxN tp n (lxE tp n p)) (lxE tp n (lxE tp n p)) fr))
      by_cases hEq : lxK tp n (lxE tp n (lxE tp n p)) = 24 ∧ lxN tp n (lxE tp n (lxE tp n p)) = (lxN tp n (lxE tp n p))
      · have e2 : pHint2 tp n 0 (lxN tp n (lxE tp n p)) (lxE tp n (lxE tp n p)) fr = pFl tp n 3 (lxE tp n (lxE tp n p)) := by unfold pHint2; rw [if_pos hEq]
        rw [e2]
        have h24 := hEq.1
        refine r_aload_n (pc2 := 19) 0 dX10_readHint_18 rfl rfl rfl rfl ?_
        refine r_bipush (pc2 := 21) (v := 24) dX10_readHint_19 (by decide) rfl ?_
        refine r_callV1 (pc2 := 24) (As := [.int 24]) (st := []) kX10_142 rfl rfl dX10_readHint_21 c117 (by decide) rfl rfl (Nat.le_of_ble_eq_true rfl) (by omega) ((G_is (k := 24) (by decide) hT).mono fun r h2 q => ⟨q.1.trans (by rw [if_pos (isB_y h24)]), q.2⟩) rfl (fun h2 hq21 => ?_)
        subst hq21
        refine r_if_eq (tgt := 40) (pc2 := 27) dX10_readHint_24 (by decide) rfl (fun b24 => ?_) (fun b24 => ?_)
        · exact absurd b24 (by decide)
        · skip
          refine r_aload_n (pc2 := 28) 0 dX10_readHint_27 rfl rfl rfl rfl ?_
          refine r_getf (pc2 := 31) (v := .int (v 10)) fX10_131 dX10_readHint_28 c117 (by decide) rfl rfl ?_
          refine r_cast (nI (lxN tp n (lxE tp n (lxE tp n p)))) (hR.2.1.2.2.2.2.2 h24) ?_
          refine r_iload_n (pc2 := 32) 2 dX10_readHint_31 rfl rfl rfl ?_
          refine r_icmp_ne (tgt := 40) (pc2 := 35) dX10_readHint_32 (by decide) rfl (fun b32 => ?_) (fun b32 => ?_)
          · exact absurd (congrArg nI hEq.2) b32
          · skip
            refine r_aload_n (pc2 := 36) 0 dX10_readHint_35 rfl rfl rfl rfl ?_
            refine r_iconst (pc2 := 37) (v := 3) dX10_readHint_36 (by decide) rfl ?_
            refine r_callV0 (pc2 := 40) (As := [.int 3]) (st := []) kX10_148 rfl rfl dX10_readHint_37 c117 (by decide) rfl rfl (Nat.le_of_ble_eq_true rfl) (by omega) (G_fails (x := (.ok (lxE tp n (lxE tp n p), fr) : PX FR)) (f := 3) (by decide) (by decide) hT) rfl (fun h hq37 => ?_)
            obtain ⟨hxc, hT⟩ := hq37
            have hx := hx.trans hxc (by decide)
            have hTo := hT
            obtain ⟨v, g, c117, c120, c121, hN, hR⟩ := hTo
            exact kE40 _ _ _ _ hx hT
      · have e2 : pHint2 tp n 0 (lxN tp n (lxE tp n p)) (lxE tp n (lxE tp n p)) fr = bnd (pTk tp n 0 (fun fr => fr 4) (lxE tp n (lxE tp n p)) fr) (fun q f => .ok (q, hintN f (lxN tp n (lxE tp n p)) (lxN tp n (lxE tp n (lxE tp n p))) 0)) := by unfold pHint2; rw [if_neg hEq]
        rw [e2]
        have k40 : ∀ h : Hp, Ex [117, 121] h0 h → RT tp n rI v0 (.ok (lxE tp n (lxE tp n p), fr) : PX FR) h → Fr E mX10_readHint d 40 [.ref 117, .int 0, .int (nI (lxN tp n (lxE tp n p))), .float 0] [] h (RQ tp n rI v0 h0 none (bnd (pTk tp n 0 (fun fr => fr 4) (lxE tp n (lxE tp n p)) fr) (fun q f => .ok (q, hintN f (lxN tp n (lxE tp n p)) (lxN tp n (lxE tp n (lxE tp n p))) 0)))) := by
          intro h hx hT
          have hTo := hT
          obtain ⟨v, g, c117, c120, c121, hN, hR⟩ := hTo
          by_cases h24 : lxK tp n (lxE tp n (lxE tp n p)) = 24
          · by_cases hb : lxN tp n (lxE tp n (lxE tp n p)) < fr 4
            · have e3 : bnd (.ok (lxE tp n (lxE tp n p), fr) : PX FR) (pTk tp n 0 (fun fr => fr 4)) = .ok (lxE tp n (lxE tp n (lxE tp n p)), fr) := by show (pTk tp n 0 (fun fr => fr 4) (lxE tp n (lxE tp n p)) fr) = _; unfold pTk; rw [if_pos h24, if_pos ⟨Nat.zero_le _, hb⟩]; rfl
              have e4 : (pTk tp n 0 (fun fr => fr 4) (lxE tp n (lxE tp n p)) fr) = .ok (lxE tp n (lxE tp n (lxE tp n p)), fr) := e3
              rw [e4]
              have hra := hr.2
              refine r_aload_n (pc2 := 41) 0 dX10_readHint_40 rfl rfl rfl rfl ?_
              refine r_iconst (pc2 := 42) (v := 0) dX10_readHint_41 (by decide) rfl ?_
              refine r_aload_n (pc2 := 43) 0 dX10_readHint_42 rfl rfl rfl rfl ?_
              refine r_getf (pc2 := 46) (v := .ref 121) fX10_24 dX10_readHint_43 c117 (by decide) rfl rfl ?_
              refine r_iconst (pc2 := 47) (v := 4) dX10_readHint_46 (by decide) rfl ?_
              refine r_ialdN (pc2 := 48) 4 dX10_readHint_47 c121 (by decide) rfl (by decide) (by decide) rfl ?_
              refine r_iconst (pc2 := 49) (v := 1) dX10_readHint_48 (by decide) rfl ?_
              refine r_isub (pc2 := 50) dX10_readHint_49 rfl ?_
              refine r_callV2 (pc2 := 53) (As := [.int 0, .int ((g 4) - 1)]) (st := []) kX10_192 rfl rfl dX10_readHint_50 c117 (by decide) rfl rfl (Nat.le_of_ble_eq_true rfl) (by omega) (G_takes (x := (.ok (lxE tp n (lxE tp n p), fr) : PX FR)) (lo := 0) (H := (fun fr => fr 4)) (fun p2 L2 z => by cases z; exact ⟨rfl, by rw [hR.2.2], by show fr 4 ≤ 1000; omega⟩) (by decide) ht (by omega) hT) rfl (fun v50 h hq50 => ?_)
              obtain ⟨z50, rfl, hxc, hz50, hT⟩ := hq50
              have hx := hx.trans hxc (by decide)
              rw [e3] at hT
              have hTo := hT
              obtain ⟨v, g, c117, c120, c121, hN, hR⟩ := hTo
              have hf := hR.2.2
              subst hf
              have c121 : h.1 121 = some (aI 1177 (nA fr)) := c121
              obtain rfl := hz50 _ _ rfl h24 (Nat.zero_le _) hb
              refine r_istore_n (pc2 := 54) (ls2 := [.ref 117, .int 0, .int (nI (lxN tp n (lxE tp n p))), .int (nI (lxN tp n (lxE tp n (lxE tp n p))))]) 3 dX10_readHint_53 rfl (by decide) rfl rfl rfl ?_
              refine r_aload_n (pc2 := 55) 0 dX10_readHint_54 rfl rfl rfl rfl ?_
              refine r_getf (pc2 := 58) (v := .int (v 11)) fX10_136 dX10_readHint_55 c117 (by decide) rfl rfl ?_
              refine r_if_ne (tgt := 71) (pc2 := 61) dX10_readHint_58 (by decide) rfl (fun b58 => ?_) (fun b58 => ?_)
              · exact absurd hR.good b58
              · skip
                refine r_aload_n (pc2 := 62) 0 dX10_readHint_61 rfl rfl rfl rfl ?_
                refine r_getf (pc2 := 65) (v := .ref 121) fX10_24 dX10_readHint_62 c117 (by decide) rfl rfl ?_
                refine r_iload_n (pc2 := 66) 2 dX10_readHint_65 rfl rfl rfl ?_
                refine r_iload_n (pc2 := 67) 3 dX10_readHint_66 rfl rfl rfl ?_
                refine r_iload_n (pc2 := 68) 1 dX10_readHint_67 rfl rfl rfl ?_
                refine r_callS0 (pc2 := 71) (As := [.ref 121, .int (nI (lxN tp n (lxE tp n p))), .int (nI (lxN tp n (lxE tp n (lxE tp n p)))), .int 0]) (st := []) kX10_199 dX10_readHint_68 rfl rfl (Nat.le_of_ble_eq_true rfl) (by omega) (c_hint121_0 (p := (lxN tp n (lxE tp n p))) (q := (lxN tp n (lxE tp n (lxE tp n p)))) c121 (by omega) (by omega) (fun z => hEq ⟨h24, z.symm⟩) hW.2.2.2.2.2.2.2.1 hW.2.2.2.2.2.2.2.2) rfl (fun h hq68 => ?_)
                obtain ⟨hxc, c121⟩ := hq68
                have c117 := hxc.get (by decide) c117
                have c120 := hxc.get (by decide) c120
                have hx := hx.trans hxc (by decide)
                exact r_vret rfl dX10_readHint_71 ⟨rfl, hx, v, _, c117, c120, c121, hN, hR.1, hR.2.1, rfl⟩
            · have e3 : bnd (.ok (lxE tp n (lxE tp n p), fr) : PX FR) (pTk tp n 0 (fun fr => fr 4)) = pFl tp n 3 (lxE tp n (lxE tp n p)) := by show (pTk tp n 0 (fun fr => fr 4) (lxE tp n (lxE tp n p)) fr) = _; unfold pTk; rw [if_pos h24, if_neg (fun z => hb z.2)]
              have e4 : (pTk tp n 0 (fun fr => fr 4) (lxE tp n (lxE tp n p)) fr) = pFl tp n 3 (lxE tp n (lxE tp n p)) := e3
              rw [e4]
              refine r_aload_n (pc2 := 41) 0 dX10_readHint_40 rfl rfl rfl rfl ?_
              refine r_iconst (pc2 := 42) (v := 0) dX10_readHint_41 (by decide) rfl ?_
              refine r_aload_n (pc2 := 43) 0 dX10_readHint_42 rfl rfl rfl rfl ?_
              refine r_getf (pc2 := 46) (v := .ref 121) fX10_24 dX10_readHint_43 c117 (by decide) rfl rfl ?_
              refine r_iconst (pc2 := 47) (v := 4) dX10_readHint_46 (by decide) rfl ?_
              refine r_ialdN (pc2 := 48) 4 dX10_readHint_47 c121 (by decide) rfl (by decide) (by decide) rfl ?_
              refine r_iconst (pc2 := 49) (v := 1) dX10_readHint_48 (by decide) rfl ?_
              refine r_isub (pc2 := 50) dX10_readHint_49 rfl ?_
              refine r_callV2 (pc2 := 53) (As := [.int 0, .int ((g 4) - 1)]) (st := []) kX10_192 rfl rfl dX10_readHint_50 c117 (by decide) rfl rfl (Nat.le_of_ble_eq_true rfl) (by omega) (G_takes (x := (.ok (lxE tp n (lxE tp n p), fr) : PX FR)) (lo := 0) (H := (fun fr => fr 4)) (fun p2 L2 z => by cases z; exact ⟨rfl, by rw [hR.2.2], by show fr 4 ≤ 1000; omega⟩) (by decide) ht (by omega) hT) rfl (fun v50 h hq50 => ?_)
              obtain ⟨z50, rfl, hxc, hz50, hT⟩ := hq50
              have hx := hx.trans hxc (by decide)
              rw [e3] at hT
              have hTo := hT
              obtain ⟨v, g, c117, c120, c121, hN, hR⟩ := hTo
              refine r_istore_n (pc2 := 54) (ls2 := [.ref 117, .int 0, .int (nI (lxN tp n (lxE tp n p))), .int z50]) 3 dX10_readHint_53 rfl (by decide) rfl rfl rfl ?_
              refine r_aload_n (pc2 := 55) 0 dX10_readHint_54 rfl rfl rfl rfl ?_
              refine r_getf (pc2 := 58) (v := .int (v 11)) fX10_136 dX10_readHint_55 c117 (by decide) rfl rfl ?_
              refine r_if_ne (tgt := 71) (pc2 := 61) dX10_readHint_58 (by decide) rfl (fun b58 => ?_) (fun b58 => ?_)
              · skip
                exact r_vret rfl dX10_readHint_71 ⟨rfl, hx, hT⟩
              · exact absurd b58 hR.bad
          · have e3 : bnd (.ok (lxE tp n (lxE tp n p), fr) : PX FR) (pTk tp n 0 (fun fr => fr 4)) = pFl tp n 2 (lxE tp n (lxE tp n p)) := by show (pTk tp n 0 (fun fr => fr 4) (lxE tp n (lxE tp n p)) fr) = _; unfold pTk; rw [if_neg h24]
            have e4 : (pTk tp n 0 (fun fr => fr 4) (lxE tp n (lxE tp n p)) fr) = pFl tp n 2 (lxE tp n (lxE tp n p)) := e3
            rw [e4]
            refine r_aload_n (pc2 := 41) 0 dX10_readHint_40 rfl rfl rfl rfl ?_
            refine r_iconst (pc2 := 42) (v := 0) dX10_readHint_41 (by decide) rfl ?_
            refine r_aload_n (pc2 := 43) 0 dX10_readHint_42 rfl rfl rfl rfl ?_
            refine r_getf (pc2 := 46) (v := .ref 121) fX10_24 dX10_readHint_43 c117 (by decide) rfl rfl ?_
            refine r_iconst (pc2 := 47) (v := 4) dX10_readHint_46 (by decide) rfl ?_
            refine r_ialdN (pc2 := 48) 4 dX10_readHint_47 c121 (by decide) rfl (by decide) (by decide) rfl ?_
            refine r_iconst (pc2 := 49) (v := 1) dX10_readHint_48 (by decide) rfl ?_
            refine r_isub (pc2 := 50) dX10_readHint_49 rfl ?_
            refine r_callV2 (pc2 := 53) (As := [.int 0, .int ((g 4) - 1)]) (st := []) kX10_192 rfl rfl dX10_readHint_50 c117 (by decide) rfl rfl (Nat.le_of_ble_eq_true rfl) (by omega) (G_takes (x := (.ok (lxE tp n (lxE tp n p), fr) : PX FR)) (lo := 0) (H := (fun fr => fr 4)) (fun p2 L2 z => by cases z; exact ⟨rfl, by rw [hR.2.2], by show fr 4 ≤ 1000; omega⟩) (by decide) ht (by omega) hT) rfl (fun v50 h hq50 => ?_)
            obtain ⟨z50, rfl, hxc, hz50, hT⟩ := hq50
            have hx := hx.trans hxc (by decide)
            rw [e3] at hT
            have hTo := hT
            obtain ⟨v, g, c117, c120, c121, hN, hR⟩ := hTo
            refine r_istore_n (pc2 := 54) (ls2 := [.ref 117, .int 0, .int (nI (lxN tp n (lxE tp n p))), .int z50]) 3 dX10_readHint_53 rfl (by decide) rfl rfl rfl ?_
            refine r_aload_n (pc2 := 55) 0 dX10_readHint_54 rfl rfl rfl rfl ?_
            refine r_getf (pc2 := 58) (v := .int (v 11)) fX10_136 dX10_readHint_55 c117 (by decide) rfl rfl ?_
            refine r_if_ne (tgt := 71) (pc2 := 61) dX10_readHint_58 (by decide) rfl (fun b58 => ?_) (fun b58 => ?_)
            · skip
              exact r_vret rfl dX10_readHint_71 ⟨rfl, hx, hT⟩
            · exact absurd b58 hR.bad
        by_cases h24 : lxK tp n (lxE tp n (lxE tp n p)) = 24
        · skip
          refine r_aload_n (pc2 := 19) 0 dX10_readHint_18 rfl rfl rfl rfl ?_
          refine r_bipush (pc2 := 21) (v := 24) dX10_readHint_19 (by decide) rfl ?_
          refine r_callV1 (pc2 := 24) (As := [.int 24]) (st := []) kX10_142 rfl rfl dX10_readHint_21 c117 (by decide) rfl rfl (Nat.le_of_ble_eq_true rfl) (by omega) ((G_is (k := 24) (by decide) hT).mono fun r h2 q => ⟨q.1.trans (by rw [if_pos (isB_y h24)]), q.2⟩) rfl (fun h2 hq21 => ?_)
          subst hq21
          refine r_if_eq (tgt := 40) (pc2 := 27) dX10_readHint_24 (by decide) rfl (fun b24 => ?_) (fun b24 => ?_)
          · exact absurd b24 (by decide)
          · skip
            refine r_aload_n (pc2 := 28) 0 dX10_readHint_27 rfl rfl rfl rfl ?_
            refine r_getf (pc2 := 31) (v := .int (v 10)) fX10_131 dX10_readHint_28 c117 (by decide) rfl rfl ?_
            refine r_cast (nI (lxN tp n (lxE tp n (lxE tp n p)))) (hR.2.1.2.2.2.2.2 h24) ?_
            refine r_iload_n (pc2 := 32) 2 dX10_readHint_31 rfl rfl rfl ?_
            refine r_icmp_ne (tgt := 40) (pc2 := 35) dX10_readHint_32 (by decide) rfl (fun b32 => ?_) (fun b32 => ?_)
            · skip
              exact k40 _ hx hT
            · exact absurd ((nI_eq (by have := lxN_lt tp n (lxE tp n (lxE tp n p)); omega) (by have := lxN_lt tp n (lxE tp n p); omega)).mp b32) (fun z => hEq ⟨h24, z⟩)
        · skip
          refine r_aload_n (pc2 := 19) 0 dX10_readHint_18 rfl rfl rfl rfl ?_
          refine r_bipush (pc2 := 21) (v := 24) dX10_readHint_19 (by decide) rfl ?_
          refine r_callV1 (pc2 := 24) (As := [.int 24]) (st := []) kX10_142 rfl rfl dX10_readHint_21 c117 (by decide) rfl rfl (Nat.le_of_ble_eq_true rfl) (by omega) ((G_is (k := 24) (by decide) hT).mono fun r h2 q => ⟨q.1.trans (by rw [if_neg (isB_n h24)]), q.2⟩) rfl (fun h2 hq21 => ?_)
          subst hq21
          refine r_if_eq (tgt := 40) (pc2 := 27) dX10_readHint_24 (by decide) rfl (fun b24 => ?_) (fun b24 => ?_)
          · skip
            exact k40 _ hx hT
          · exact absurd b24 (by decide)
    · by_cases h24 : lxK tp n (lxE tp n p) = 24
      · have e1 : (pTk tp n 0 (fun fr => fr 4) (lxE tp n p) fr) = pFl tp n 3 (lxE tp n p) := by unfold pTk; rw [if_pos h24, if_neg (fun z => hr ⟨h24, z.2⟩)]
        rw [e1] at hT ⊢
        exact kE18 _ _ zz h hx hT
      · have e1 : (pTk tp n 0 (fun fr => fr 4) (lxE tp n p) fr) = pFl tp n 2 (lxE tp n p) := by unfold pTk; rw [if_neg h24]
        rw [e1] at hT ⊢
        exact kE18 _ _ zz h hx hT
  refine Cn.go (ls := [.ref 117, .int 0, .float 0, .float 0]) (by decide +kernel) rfl (Nat.le_of_ble_eq_true rfl) ?_
  refine r_aload_n (pc2 := 1) 0 dX10_readHint_0 rfl rfl rfl rfl ?_
  refine r_callV0 (pc2 := 4) (As := []) (st := []) kX10_145 rfl rfl dX10_readHint_1 c117 (by decide) rfl rfl (Nat.le_of_ble_eq_true rfl) (by omega) (G_next ht (by omega) (p := p) (L := fr) hT) rfl (fun h hq1 => ?_)
  obtain ⟨hxc, hT⟩ := hq1
  have hx := hx.trans hxc (by decide)
  have hTo := hT
  obtain ⟨v, g, c117, c120, c121, hN, hR⟩ := hTo
  refine r_aload_n (pc2 := 5) 0 dX10_readHint_4 rfl rfl rfl rfl ?_
  refine r_iconst (pc2 := 6) (v := 0) dX10_readHint_5 (by decide) rfl ?_
  refine r_aload_n (pc2 := 7) 0 dX10_readHint_6 rfl rfl rfl rfl ?_
  refine r_getf (pc2 := 10) (v := .ref 121) fX10_24 dX10_readHint_7 c117 (by decide) rfl rfl ?_
  refine r_iconst (pc2 := 11) (v := 4) dX10_readHint_10 (by decide) rfl ?_
  refine r_ialdN (pc2 := 12) 4 dX10_readHint_11 c121 (by decide) rfl (by decide) (by decide) rfl ?_
  refine r_iconst (pc2 := 13) (v := 1) dX10_readHint_12 (by decide) rfl ?_
  refine r_isub (pc2 := 14) dX10_readHint_13 rfl ?_
  refine r_callV2 (pc2 := 17) (As := [.int 0, .int ((g 4) - 1)]) (st := []) kX10_192 rfl rfl dX10_readHint_14 c117 (by decide) rfl rfl (Nat.le_of_ble_eq_true rfl) (by omega) (G_takes (x := (pNx tp n p fr)) (lo := 0) (H := (fun fr => fr 4)) (fun p2 L2 z => by cases z; exact ⟨rfl, by rw [hR.2.2], by show fr 4 ≤ 1000; omega⟩) (by decide) ht (by omega) hT) rfl (fun v14 h hq14 => ?_)
  obtain ⟨z14, rfl, hxc, hz14, hT⟩ := hq14
  have hx := hx.trans hxc (by decide)
  have hTo := hT
  obtain ⟨v, g, c117, c120, c121, hN, hR⟩ := hTo
  refine r_istore_n (pc2 := 18) (ls2 := [.ref 117, .int 0, .int z14, .float 0]) 2 dX10_readHint_17 rfl (by decide) rfl rfl rfl ?_
  exact k18 z14 _ hx (fun a b => hz14 _ _ rfl a (Nat.zero_le _) b) hT
set_option maxRecDepth 20000 in
set_option maxHeartbeats 1000000 in
theorem C_hint1 {E : EnvT} {d : Nat} {h0 : Hp} {tp : Nat → Nat} {n : Nat} {v0 : Nat → Int32} {p : Nat} {fr : FR} (ht : TOk tp n) (hd : 9 ≤ d) (hW : WI n 0 (.ok (p, fr))) (hT : RT tp n rI v0 (.ok (p, fr)) h0) : Cn E mX10_readHint d [.ref 117, .int 1] h0 (RQ tp n rI v0 h0 none (pHint tp n 1 p fr)) := by
  have hx : Ex [117, 121] h0 h0 := Ex.rf
  have hTo := hT
  obtain ⟨v, g, c117, c120, c121, hN, hR⟩ := hTo
  have h48 := hW.2.2.2.2.2.1
  have kE40 : ∀ (we ae : Nat) (zz : Int32) (h : Hp), Ex [117, 121] h0 h → RT tp n rI v0 (.error (we, ae) : PX FR) h → Fr E mX10_readHint d 40 [.ref 117, .int 1, .int zz, .float 0] [] h (RQ tp n rI v0 h0 none (.error (we, ae) : PX FR)) := by
    intro we ae zz h hx hT
    have hTo := hT
    obtain ⟨v, g, c117, c120, c121, hN, hR⟩ := hTo
    refine r_aload_n (pc2 := 41) 0 dX10_readHint_40 rfl rfl rfl rfl ?_
    refine r_iconst (pc2 := 42) (v := 0) dX10_readHint_41 (by decide) rfl ?_
    refine r_aload_n (pc2 := 43) 0 dX10_readHint_42 rfl rfl rfl rfl ?_
    refine r_getf (pc2 := 46) (v := .ref 121) fX10_24 dX10_readHint_43 c117 (by decide) rfl rfl ?_
    refine r_iconst (pc2 := 47) (v := 4) dX10_readHint_46 (by decide) rfl ?_
    refine r_ialdN (pc2 := 48) 4 dX10_readHint_47 c121 (by decide) rfl (by decide) (by decide) rfl ?_
    refine r_iconst (pc2 := 49) (v := 1) dX10_readHint_48 (by decide) rfl ?_
    refine r_isub (pc2 := 50) dX10_readHint_49 rfl ?_
    refine r_callV2 (pc2 := 53) (As := [.int 0, .int ((g 4) - 1)]) (st := []) kX10_192 rfl rfl dX10_readHint_50 c117 (by decide) rfl rfl (Nat.le_of_ble_eq_true rfl) (by omega) (G_takes (x := (.error (we, ae) : PX FR)) (lo := 0) (H := (fun fr => fr 4)) (fun p2 L2 z => by cases z) (by decide) ht (by omega) hT) rfl (fun v50 h hq50 => ?_)
    obtain ⟨z50, rfl, hxc, hz50, hT⟩ := hq50
    have hx := hx.trans hxc (by decide)
    have hTo := hT
    obtain ⟨v, g, c117, c120, c121, hN, hR⟩ := hTo
    refine r_istore_n (pc2 := 54) (ls2 := [.ref 117, .int 1, .int zz, .int z50]) 3 dX10_readHint_53 rfl (by decide) rfl rfl rfl ?_
    refine r_aload_n (pc2 := 55) 0 dX10_readHint_54 rfl rfl rfl rfl ?_
    refine r_getf (pc2 := 58) (v := .int (v 11)) fX10_136 dX10_readHint_55 c117 (by decide) rfl rfl ?_
    refine r_if_ne (tgt := 71) (pc2 := 61) dX10_readHint_58 (by decide) rfl (fun b58 => ?_) (fun b58 => ?_)
    · skip
      exact r_vret rfl dX10_readHint_71 ⟨rfl, hx, hT⟩
    · exact absurd b58 hR.bad
  have kE18 : ∀ (we ae : Nat) (zz : Int32) (h : Hp), Ex [117, 121] h0 h → RT tp n rI v0 (.error (we, ae) : PX FR) h → Fr E mX10_readHint d 18 [.ref 117, .int 1, .int zz, .float 0] [] h (RQ tp n rI v0 h0 none (.error (we, ae) : PX FR)) := by
    intro we ae zz h hx hT
    have hTo := hT
    obtain ⟨v, g, c117, c120, c121, hN, hR⟩ := hTo
    refine r_aload_n (pc2 := 19) 0 dX10_readHint_18 rfl rfl rfl rfl ?_
    refine r_bipush (pc2 := 21) (v := 24) dX10_readHint_19 (by decide) rfl ?_
    refine r_callV1 (pc2 := 24) (As := [.int 24]) (st := []) kX10_142 rfl rfl dX10_readHint_21 c117 (by decide) rfl rfl (Nat.le_of_ble_eq_true rfl) (by omega) ((G_is (k := 24) (by decide) hT).mono fun r h2 q => ⟨q.1.trans (by rw [if_neg (isB_e)]), q.2⟩) rfl (fun h2 hq21 => ?_)
    subst hq21
    refine r_if_eq (tgt := 40) (pc2 := 27) dX10_readHint_24 (by decide) rfl (fun b24 => ?_) (fun b24 => ?_)
    · skip
      exact kE40 we ae zz _ hx hT
    · exact absurd b24 (by decide)
  have k18 : ∀ (zz : Int32) (h : Hp), Ex [117, 121] h0 h → (lxK tp n (lxE tp n p) = 24 → lxN tp n (lxE tp n p) < fr 4 → zz = nI (lxN tp n (lxE tp n p))) → RT tp n rI v0 (pTk tp n 0 (fun fr => fr 4) (lxE tp n p) fr) h → Fr E mX10_readHint d 18 [.ref 117, .int 1, .int zz, .float 0] [] h (RQ tp n rI v0 h0 none (pHint tp n 1 p fr)) := by
    intro zz h hx hz hT
    have eG : (pHint tp n 1 p fr) = bnd (pTk tp n 0 (fun fr => fr 4) (lxE tp n p) fr) (pHint2 tp n 1 (lxN tp n (lxE tp n p))) := rfl
    rw [eG]
    by_cases hr : lxK tp n (lxE tp n p) = 24 ∧ lxN tp n (lxE tp n p) < fr 4
    · have e1 : (pTk tp n 0 (fun fr => fr 4) (lxE tp n p) fr) = (.ok (lxE tp n (lxE tp n p), fr) : PX FR) := by unfold pTk; rw [if_pos hr.1, if_pos ⟨Nat.zero_le _, hr.2⟩]; rfl
      rw [e1] at hT ⊢
      obtain rfl := hz hr.1 hr.2
      have hTo := hT
      obtain ⟨v, g, c117, c120, c121, hN, hR⟩ := hTo
      show Fr E mX10_readHint d 18 [.ref 117, .int 1, .int (nI (lxN tp n (lxE tp n p))), .float 0] [] h (RQ tp n rI v0 h0 none (pHint2 tp n 1 (lxN tp n (lxE tp n p)) (lxE tp n (lxE tp n p)) fr))
      by_cases hEq : lxK tp n (lxE tp n (lxE tp n p)) = 24 ∧ lxN tp n (lxE tp n (lxE tp n p)) = (lxN tp n (lxE tp n p))
      · have e2 : pHint2 tp n 1 (lxN tp n (lxE tp n p)) (lxE tp n (lxE tp n p)) fr = pFl tp n 3 (lxE tp n (lxE tp n p)) := by unfold pHint2; rw [if_pos hEq]
        rw [e2]
        have h24 := hEq.1
        refine r_aload_n (pc2 := 19) 0 dX10_readHint_18 rfl rfl rfl rfl ?_
        refine r_bipush (pc2 := 21) (v := 24) dX10_readHint_19 (by decide) rfl ?_
        refine r_callV1 (pc2 := 24) (As := [.int 24]) (st := []) kX10_142 rfl rfl dX10_readHint_21 c117 (by decide) rfl rfl (Nat.le_of_ble_eq_true rfl) (by omega) ((G_is (k := 24) (by decide) hT).mono fun r h2 q => ⟨q.1.trans (by rw [if_pos (isB_y h24)]), q.2⟩) rfl (fun h2 hq21 => ?_)
        subst hq21
        refine r_if_eq (tgt := 40) (pc2 := 27) dX10_readHint_24 (by decide) rfl (fun b24 => ?_) (fun b24 => ?_)
        · exact absurd b24 (by decide)
        · skip
          refine r_aload_n (pc2 := 28) 0 dX10_readHint_27 rfl rfl rfl rfl ?_
          refine r_getf (pc2 := 31) (v := .int (v 10)) fX10_131 dX10_readHint_28 c117 (by decide) rfl rfl ?_
          refine r_cast (nI (lxN tp n (lxE tp n (lxE tp n p)))) (hR.2.1.2.2.2.2.2 h24) ?_
          refine r_iload_n (pc2 := 32) 2 dX10_readHint_31 rfl rfl rfl ?_
          refine r_icmp_ne (tgt := 40) (pc2 := 35) dX10_readHint_32 (by decide) rfl (fun b32 => ?_) (fun b32 => ?_)
          · exact absurd (congrArg nI hEq.2) b32
          · skip
            refine r_aload_n (pc2 := 36) 0 dX10_readHint_35 rfl rfl rfl rfl ?_
            refine r_iconst (pc2 := 37) (v := 3) dX10_readHint_36 (by decide) rfl ?_
            refine r_callV0 (pc2 := 40) (As := [.int 3]) (st := []) kX10_148 rfl rfl dX10_readHint_37 c117 (by decide) rfl rfl (Nat.le_of_ble_eq_true rfl) (by omega) (G_fails (x := (.ok (lxE tp n (lxE tp n p), fr) : PX FR)) (f := 3) (by decide) (by decide) hT) rfl (fun h hq37 => ?_)
            obtain ⟨hxc, hT⟩ := hq37
            have hx := hx.trans hxc (by decide)
            have hTo := hT
            obtain ⟨v, g, c117, c120, c121, hN, hR⟩ := hTo
            exact kE40 _ _ _ _ hx hT
      · have e2 : pHint2 tp n 1 (lxN tp n (lxE tp n p)) (lxE tp n (lxE tp n p)) fr = bnd (pTk tp n 0 (fun fr => fr 4) (lxE tp n (lxE tp n p)) fr) (fun q f => .ok (q, hintN f (lxN tp n (lxE tp n p)) (lxN tp n (lxE tp n (lxE tp n p))) 1)) := by unfold pHint2; rw [if_neg hEq]
        rw [e2]
        have k40 : ∀ h : Hp, Ex [117, 121] h0 h → RT tp n rI v0 (.ok (lxE tp n (lxE tp n p), fr) : PX FR) h → Fr E mX10_readHint d 40 [.ref 117, .int 1, .int (nI (lxN tp n (lxE tp n p))), .float 0] [] h (RQ tp n rI v0 h0 none (bnd (pTk tp n 0 (fun fr => fr 4) (lxE tp n (lxE tp n p)) fr) (fun q f => .ok (q, hintN f (lxN tp n (lxE tp n p)) (lxN tp n (lxE tp n (lxE tp n p))) 1)))) := by
          intro h hx hT
          have hTo := hT
          obtain ⟨v, g, c117, c120, c121, hN, hR⟩ := hTo
          by_cases h24 : lxK tp n (lxE tp n (lxE tp n p)) = 24
          · by_cases hb : lxN tp n (lxE tp n (lxE tp n p)) < fr 4
            · have e3 : bnd (.ok (lxE tp n (lxE tp n p), fr) : PX FR) (pTk tp n 0 (fun fr => fr 4)) = .ok (lxE tp n (lxE tp n (lxE tp n p)), fr) := by show (pTk tp n 0 (fun fr => fr 4) (lxE tp n (lxE tp n p)) fr) = _; unfold pTk; rw [if_pos h24, if_pos ⟨Nat.zero_le _, hb⟩]; rfl
              have e4 : (pTk tp n 0 (fun fr => fr 4) (lxE tp n (lxE tp n p)) fr) = .ok (lxE tp n (lxE tp n (lxE tp n p)), fr) := e3
              rw [e4]
              have hra := hr.2
              refine r_aload_n (pc2 := 41) 0 dX10_readHint_40 rfl rfl rfl rfl ?_
              refine r_iconst (pc2 := 42) (v := 0) dX10_readHint_41 (by decide) rfl ?_
              refine r_aload_n (pc2 := 43) 0 dX10_readHint_42 rfl rfl rfl rfl ?_
              refine r_getf (pc2 := 46) (v := .ref 121) fX10_24 dX10_readHint_43 c117 (by decide) rfl rfl ?_
              refine r_iconst (pc2 := 47) (v := 4) dX10_readHint_46 (by decide) rfl ?_
              refine r_ialdN (pc2 := 48) 4 dX10_readHint_47 c121 (by decide) rfl (by decide) (by decide) rfl ?_
              refine r_iconst (pc2 := 49) (v := 1) dX10_readHint_48 (by decide) rfl ?_
              refine r_isub (pc2 := 50) dX10_readHint_49 rfl ?_
              refine r_callV2 (pc2 := 53) (As := [.int 0, .int ((g 4) - 1)]) (st := []) kX10_192 rfl rfl dX10_readHint_50 c117 (by decide) rfl rfl (Nat.le_of_ble_eq_true rfl) (by omega) (G_takes (x := (.ok (lxE tp n (lxE tp n p), fr) : PX FR)) (lo := 0) (H := (fun fr => fr 4)) (fun p2 L2 z => by cases z; exact ⟨rfl, by rw [hR.2.2], by show fr 4 ≤ 1000; omega⟩) (by decide) ht (by omega) hT) rfl (fun v50 h hq50 => ?_)
              obtain ⟨z50, rfl, hxc, hz50, hT⟩ := hq50
              have hx := hx.trans hxc (by decide)
              rw [e3] at hT
              have hTo := hT
              obtain ⟨v, g, c117, c120, c121, hN, hR⟩ := hTo
              have hf := hR.2.2
              subst hf
              have c121 : h.1 121 = some (aI 1177 (nA fr)) := c121
              obtain rfl := hz50 _ _ rfl h24 (Nat.zero_le _) hb
              refine r_istore_n (pc2 := 54) (ls2 := [.ref 117, .int 1, .int (nI (lxN tp n (lxE tp n p))), .int (nI (lxN tp n (lxE tp n (lxE tp n p))))]) 3 dX10_readHint_53 rfl (by decide) rfl rfl rfl ?_
              refine r_aload_n (pc2 := 55) 0 dX10_readHint_54 rfl rfl rfl rfl ?_
              refine r_getf (pc2 := 58) (v := .int (v 11)) fX10_136 dX10_readHint_55 c117 (by decide) rfl rfl ?_
              refine r_if_ne (tgt := 71) (pc2 := 61) dX10_readHint_58 (by decide) rfl (fun b58 => ?_) (fun b58 => ?_)
              · exact absurd hR.good b58
              · skip
                refine r_aload_n (pc2 := 62) 0 dX10_readHint_61 rfl rfl rfl rfl ?_
                refine r_getf (pc2 := 65) (v := .ref 121) fX10_24 dX10_readHint_62 c117 (by decide) rfl rfl ?_
                refine r_iload_n (pc2 := 66) 2 dX10_readHint_65 rfl rfl rfl ?_
                refine r_iload_n (pc2 := 67) 3 dX10_readHint_66 rfl rfl rfl ?_
                refine r_iload_n (pc2 := 68) 1 dX10_readHint_67 rfl rfl rfl ?_
                refine r_callS0 (pc2 := 71) (As := [.ref 121, .int (nI (lxN tp n (lxE tp n p))), .int (nI (lxN tp n (lxE tp n (lxE tp n p)))), .int 1]) (st := []) kX10_199 dX10_readHint_68 rfl rfl (Nat.le_of_ble_eq_true rfl) (by omega) (c_hint121_1 (p := (lxN tp n (lxE tp n p))) (q := (lxN tp n (lxE tp n (lxE tp n p)))) c121 (by omega) (by omega) (fun z => hEq ⟨h24, z.symm⟩) hW.2.2.2.2.2.2.2.1 hW.2.2.2.2.2.2.2.2) rfl (fun h hq68 => ?_)
                obtain ⟨hxc, c121⟩ := hq68
                have c117 := hxc.get (by decide) c117
                have c120 := hxc.get (by decide) c120
                have hx := hx.trans hxc (by decide)
                exact r_vret rfl dX10_readHint_71 ⟨rfl, hx, v, _, c117, c120, c121, hN, hR.1, hR.2.1, rfl⟩
            · have e3 : bnd (.ok (lxE tp n (lxE tp n p), fr) : PX FR) (pTk tp n 0 (fun fr => fr 4)) = pFl tp n 3 (lxE tp n (lxE tp n p)) := by show (pTk tp n 0 (fun fr => fr 4) (lxE tp n (lxE tp n p)) fr) = _; unfold pTk; rw [if_pos h24, if_neg (fun z => hb z.2)]
              have e4 : (pTk tp n 0 (fun fr => fr 4) (lxE tp n (lxE tp n p)) fr) = pFl tp n 3 (lxE tp n (lxE tp n p)) := e3
              rw [e4]
              refine r_aload_n (pc2 := 41) 0 dX10_readHint_40 rfl rfl rfl rfl ?_
              refine r_iconst (pc2 := 42) (v := 0) dX10_readHint_41 (by decide) rfl ?_
              refine r_aload_n (pc2 := 43) 0 dX10_readHint_42 rfl rfl rfl rfl ?_
              refine r_getf (pc2 := 46) (v := .ref 121) fX10_24 dX10_readHint_43 c117 (by decide) rfl rfl ?_
              refine r_iconst (pc2 := 47) (v := 4) dX10_readHint_46 (by decide) rfl ?_
              refine r_ialdN (pc2 := 48) 4 dX10_readHint_47 c121 (by decide) rfl (by decide) (by decide) rfl ?_
              refine r_iconst (pc2 := 49) (v := 1) dX10_readHint_48 (by decide) rfl ?_
              refine r_isub (pc2 := 50) dX10_readHint_49 rfl ?_
              refine r_callV2 (pc2 := 53) (As := [.int 0, .int ((g 4) - 1)]) (st := []) kX10_192 rfl rfl dX10_readHint_50 c117 (by decide) rfl rfl (Nat.le_of_ble_eq_true rfl) (by omega) (G_takes (x := (.ok (lxE tp n (lxE tp n p), fr) : PX FR)) (lo := 0) (H := (fun fr => fr 4)) (fun p2 L2 z => by cases z; exact ⟨rfl, by rw [hR.2.2], by show fr 4 ≤ 1000; omega⟩) (by decide) ht (by omega) hT) rfl (fun v50 h hq50 => ?_)
              obtain ⟨z50, rfl, hxc, hz50, hT⟩ := hq50
              have hx := hx.trans hxc (by decide)
              rw [e3] at hT
              have hTo := hT
              obtain ⟨v, g, c117, c120, c121, hN, hR⟩ := hTo
              refine r_istore_n (pc2 := 54) (ls2 := [.ref 117, .int 1, .int (nI (lxN tp n (lxE tp n p))), .int z50]) 3 dX10_readHint_53 rfl (by decide) rfl rfl rfl ?_
              refine r_aload_n (pc2 := 55) 0 dX10_readHint_54 rfl rfl rfl rfl ?_
              refine r_getf (pc2 := 58) (v := .int (v 11)) fX10_136 dX10_readHint_55 c117 (by decide) rfl rfl ?_
              refine r_if_ne (tgt := 71) (pc2 := 61) dX10_readHint_58 (by decide) rfl (fun b58 => ?_) (fun b58 => ?_)
              · skip
                exact r_vret rfl dX10_readHint_71 ⟨rfl, hx, hT⟩
              · exact absurd b58 hR.bad
          · have e3 : bnd (.ok (lxE tp n (lxE tp n p), fr) : PX FR) (pTk tp n 0 (fun fr => fr 4)) = pFl tp n 2 (lxE tp n (lxE tp n p)) := by show (pTk tp n 0 (fun fr => fr 4) (lxE tp n (lxE tp n p)) fr) = _; unfold pTk; rw [if_neg h24]
            have e4 : (pTk tp n 0 (fun fr => fr 4) (lxE tp n (lxE tp n p)) fr) = pFl tp n 2 (lxE tp n (lxE tp n p)) := e3
            rw [e4]
            refine r_aload_n (pc2 := 41) 0 dX10_readHint_40 rfl rfl rfl rfl ?_
            refine r_iconst (pc2 := 42) (v := 0) dX10_readHint_41 (by decide) rfl ?_
            refine r_aload_n (pc2 := 43) 0 dX10_readHint_42 rfl rfl rfl rfl ?_
            refine r_getf (pc2 := 46) (v := .ref 121) fX10_24 dX10_readHint_43 c117 (by decide) rfl rfl ?_
            refine r_iconst (pc2 := 47) (v := 4) dX10_readHint_46 (by decide) rfl ?_
            refine r_ialdN (pc2 := 48) 4 dX10_readHint_47 c121 (by decide) rfl (by decide) (by decide) rfl ?_
            refine r_iconst (pc2 := 49) (v := 1) dX10_readHint_48 (by decide) rfl ?_
            refine r_isub (pc2 := 50) dX10_readHint_49 rfl ?_
            refine r_callV2 (pc2 := 53) (As := [.int 0, .int ((g 4) - 1)]) (st := []) kX10_192 rfl rfl dX10_readHint_50 c117 (by decide) rfl rfl (Nat.le_of_ble_eq_true rfl) (by omega) (G_takes (x := (.ok (lxE tp n (lxE tp n p), fr) : PX FR)) (lo := 0) (H := (fun fr => fr 4)) (fun p2 L2 z => by cases z; exact ⟨rfl, by rw [hR.2.2], by show fr 4 ≤ 1000; omega⟩) (by decide) ht (by omega) hT) rfl (fun v50 h hq50 => ?_)
            obtain ⟨z50, rfl, hxc, hz50, hT⟩ := hq50
            have hx := hx.trans hxc (by decide)
            rw [e3] at hT
            have hTo := hT
            obtain ⟨v, g, c117, c120, c121, hN, hR⟩ := hTo
            refine r_istore_n (pc2 := 54) (ls2 := [.ref 117, .int 1, .int (nI (lxN tp n (lxE tp n p))), .int z50]) 3 dX10_readHint_53 rfl (by decide) rfl rfl rfl ?_
            refine r_aload_n (pc2 := 55) 0 dX10_readHint_54 rfl rfl rfl rfl ?_
            refine r_getf (pc2 := 58) (v := .int (v 11)) fX10_136 dX10_readHint_55 c117 (by decide) rfl rfl ?_
            refine r_if_ne (tgt := 71) (pc2 := 61) dX10_readHint_58 (by decide) rfl (fun b58 => ?_) (fun b58 => ?_)
            · skip
              exact r_vret rfl dX10_readHint_71 ⟨rfl, hx, hT⟩
            · exact absurd b58 hR.bad
        by_cases h24 : lxK tp n (lxE tp n (lxE tp n p)) = 24
        · skip
          refine r_aload_n (pc2 := 19) 0 dX10_readHint_18 rfl rfl rfl rfl ?_
          refine r_bipush (pc2 := 21) (v := 24) dX10_readHint_19 (by decide) rfl ?_
          refine r_callV1 (pc2 := 24) (As := [.int 24]) (st := []) kX10_142 rfl rfl dX10_readHint_21 c117 (by decide) rfl rfl (Nat.le_of_ble_eq_true rfl) (by omega) ((G_is (k := 24) (by decide) hT).mono fun r h2 q => ⟨q.1.trans (by rw [if_pos (isB_y h24)]), q.2⟩) rfl (fun h2 hq21 => ?_)
          subst hq21
          refine r_if_eq (tgt := 40) (pc2 := 27) dX10_readHint_24 (by decide) rfl (fun b24 => ?_) (fun b24 => ?_)
          · exact absurd b24 (by decide)
          · skip
            refine r_aload_n (pc2 := 28) 0 dX10_readHint_27 rfl rfl rfl rfl ?_
            refine r_getf (pc2 := 31) (v := .int (v 10)) fX10_131 dX10_readHint_28 c117 (by decide) rfl rfl ?_
            refine r_cast (nI (lxN tp n (lxE tp n (lxE tp n p)))) (hR.2.1.2.2.2.2.2 h24) ?_
            refine r_iload_n (pc2 := 32) 2 dX10_readHint_31 rfl rfl rfl ?_
            refine r_icmp_ne (tgt := 40) (pc2 := 35) dX10_readHint_32 (by decide) rfl (fun b32 => ?_) (fun b32 => ?_)
            · skip
              exact k40 _ hx hT
            · exact absurd ((nI_eq (by have := lxN_lt tp n (lxE tp n (lxE tp n p)); omega) (by have := lxN_lt tp n (lxE tp n p); omega)).mp b32) (fun z => hEq ⟨h24, z⟩)
        · skip
          refine r_aload_n (pc2 := 19) 0 dX10_readHint_18 rfl rfl rfl rfl ?_
          refine r_bipush (pc2 := 21) (v := 24) dX10_readHint_19 (by decide) rfl ?_
          refine r_callV1 (pc2 := 24) (As := [.int 24]) (st := []) kX10_142 rfl rfl dX10_readHint_21 c117 (by decide) rfl rfl (Nat.le_of_ble_eq_true rfl) (by omega) ((G_is (k := 24) (by decide) hT).mono fun r h2 q => ⟨q.1.trans (by rw [if_neg (isB_n h24)]), q.2⟩) rfl (fun h2 hq21 => ?_)
          subst hq21
          refine r_if_eq (tgt := 40) (pc2 := 27) dX10_readHint_24 (by decide) rfl (fun b24 => ?_) (fun b24 => ?_)
          · skip
            exact k40 _ hx hT
          · exact absurd b24 (by decide)
    · by_cases h24 : lxK tp n (lxE tp n p) = 24
      · have e1 : (pTk tp n 0 (fun fr => fr 4) (lxE tp n p) fr) = pFl tp n 3 (lxE tp n p) := by unfold pTk; rw [if_pos h24, if_neg (fun z => hr ⟨h24, z.2⟩)]
        rw [e1] at hT ⊢
        exact kE18 _ _ zz h hx hT
      · have e1 : (pTk tp n 0 (fun fr => fr 4) (lxE tp n p) fr) = pFl tp n 2 (lxE tp n p) := by unfold pTk; rw [if_neg h24]
        rw [e1] at hT ⊢
        exact kE18 _ _ zz h hx hT
  refine Cn.go (ls := [.ref 117, .int 1, .float 0, .float 0]) (by decide +kernel) rfl (Nat.le_of_ble_eq_true rfl) ?_
  refine r_aload_n (pc2 := 1) 0 dX10_readHint_0 rfl rfl rfl rfl ?_
  refine r_callV0 (pc2 := 4) (As := []) (st := []) kX10_145 rfl rfl dX10_readHint_1 c117 (by decide) rfl rfl (Nat.le_of_ble_eq_true rfl) (by omega) (G_next ht (by omega) (p := p) (L := fr) hT) rfl (fun h hq1 => ?_)
  obtain ⟨hxc, hT⟩ := hq1
  have hx := hx.trans hxc (by decide)
  have hTo := hT
  obtain ⟨v, g, c117, c120, c121, hN, hR⟩ := hTo
  refine r_aload_n (pc2 := 5) 0 dX10_readHint_4 rfl rfl rfl rfl ?_
  refine r_iconst (pc2 := 6) (v := 0) dX10_readHint_5 (by decide) rfl ?_
  refine r_aload_n (pc2 := 7) 0 dX10_readHint_6 rfl rfl rfl rfl ?_
  refine r_getf (pc2 := 10) (v := .ref 121) fX10_24 dX10_readHint_7 c117 (by decide) rfl rfl ?_
  refine r_iconst (pc2 := 11) (v := 4) dX10_readHint_10 (by decide) rfl ?_
  refine r_ialdN (pc2 := 12) 4 dX10_readHint_11 c121 (by decide) rfl (by decide) (by decide) rfl ?_
  refine r_iconst (pc2 := 13) (v := 1) dX10_readHint_12 (by decide) rfl ?_
  refine r_isub (pc2 := 14) dX10_readHint_13 rfl ?_
  refine r_callV2 (pc2 := 17) (As := [.int 0, .int ((g 4) - 1)]) (st := []) kX10_192 rfl rfl dX10_readHint_14 c117 (by decide) rfl rfl (Nat.le_of_ble_eq_true rfl) (by omega) (G_takes (x := (pNx tp n p fr)) (lo := 0) (H := (fun fr => fr 4)) (fun p2 L2 z => by cases z; exact ⟨rfl, by rw [hR.2.2], by show fr 4 ≤ 1000; omega⟩) (by decide) ht (by omega) hT) rfl (fun v14 h hq14 => ?_)
  obtain ⟨z14, rfl, hxc, hz14, hT⟩ := hq14
  have hx := hx.trans hxc (by decide)
  have hTo := hT
  obtain ⟨v, g, c117, c120, c121, hN, hR⟩ := hTo
  refine r_istore_n (pc2 := 18) (ls2 := [.ref 117, .int 1, .int z14, .float 0]) 2 dX10_readHint_17 rfl (by decide) rfl rfl rfl ?_
  exact k18 z14 _ hx (fun a b => hz14 _ _ rfl a (Nat.zero_le _) b) hT
