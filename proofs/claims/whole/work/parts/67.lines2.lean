/-! laws and lines of the reference, and its streets -/
theorem upd_self15 (v : Nat → Int32) : upd v 15 (v 15) = v := by
  funext k
  unfold upd
  split
  · rename_i h; rw [h]
  · rfl
theorem upd_15_15 (v : Nat → Int32) (a b : Int32) : upd (upd v 15 a) 15 b = upd v 15 b := by
  funext k
  unfold upd
  split <;> rfl
theorem N6.r15 {v w : Nat → Int32} (h : N6 v w) (u : Int32) : N6 (upd v 15 u) (upd w 15 u) := fun k h1 h2 h3 h4 h5 h6 => by
  unfold upd
  split
  · rfl
  · exact h k h1 h2 h3 h4 h5 h6
theorem RV.r15 {α : Type} {tp : Nat → Nat} {n : Nat} {rep : α → Nat → Nat} {x : PX α} {v g : Nat → Int32} (hR : RV tp n rep x v g) (u : Int32) : RV tp n rep x (upd v 15 u) g := by
  match x, hR with
  | .ok (p, L), hR => exact hR
  | .error (w, a), hR => exact hR
def RQL (tp : Nat → Nat) (n : Nat) (v0 : Nat → Int32) (h0 : Hp) (x : PX FR) : Option Value → Hp → Prop := fun r h2 => r = none ∧ Ex [117, 121] h0 h2 ∧ ∃ u, RT tp n rI (upd v0 15 u) x h2
theorem RQ.L {tp : Nat → Nat} {n : Nat} {v0 : Nat → Int32} {h0 : Hp} {x : PX FR} {r : Option Value} {h2 : Hp} (h : RQ tp n rI v0 h0 none x r h2) : RQL tp n v0 h0 x r h2 := ⟨h.1, h.2.1, v0 15, by rw [upd_self15]; exact h.2.2⟩
theorem i_addsub (a b : Int32) : a + b - a = b := by rw [Int32.add_comm, Int32.add_sub_cancel]
set_option maxRecDepth 20000 in
set_option maxHeartbeats 1000000 in
theorem C_law0 {E : EnvT} {d : Nat} {h0 : Hp} {tp : Nat → Nat} {n : Nat} {v0 : Nat → Int32} {p : Nat} {fr : FR} (ht : TOk tp n) (hd : 55 ≤ d) (hI0 : WI n 0 (.ok (p, fr))) (hT : RT tp n rI v0 (.ok (p, fr)) h0) : Cn E mX10_readLaw d [.ref 117, .int 0] h0 (RQL tp n v0 h0 (pLaw tp n 0 p fr)) := by
  have hx : Ex [117, 121] h0 h0 := Ex.rf
  have hTo := hT
  obtain ⟨v, g, c117, c120, c121, hN, hR⟩ := hTo
  have eG : (pLaw tp n 0 p fr) = (bnd (bnd (pNx tp n p fr) (pEat tp n 31)) (pLaw2 tp n 0)) := rfl
  rw [eG]
  have i1 : WI n 0 (bnd (pNx tp n p fr) (pEat tp n 31)) := hI0.nx0.b l_eat
  have k32 : ∀ (z2 : Int32) (h : Hp), Ex [117, 121] h0 h → (∀ g, h.1 121 = some (aI 1177 g) → z2 = g 276) → RT tp n rI (upd v0 15 0) (bnd (pNx tp n p fr) (pEat tp n 31)) h → Fr E mX10_readLaw d 32 [.ref 117, .int 0, .int z2] [] h (RQL tp n v0 h0 (bnd (bnd (pNx tp n p fr) (pEat tp n 31)) (pLaw2 tp n 0))) := by
    intro z2 h hx hz hT
    generalize ex : (bnd (pNx tp n p fr) (pEat tp n 31)) = x at i1 hT ⊢
    match x, i1, hT with
    | .error (we, ae), i1, hT =>
      have hTo := hT
      obtain ⟨v, g, c117, c120, c121, hN, hR⟩ := hTo
      have hRe := hR.1
      show Fr E mX10_readLaw d 32 [.ref 117, .int 0, .int z2] [] h (RQL tp n v0 h0 (.error (we, ae) : PX FR))
      refine r_aload_n (pc2 := 33) 0 dX10_readLaw_32 rfl rfl rfl rfl ?_
      refine r_iconst (pc2 := 34) (v := 0) dX10_readLaw_33 (by decide) rfl ?_
      refine r_cast (nI 0) (rfl) ?_
      refine r_callV0 (pc2 := 37) (As := [.int (nI 0)]) (st := []) kX10_168 rfl rfl dX10_readLaw_34 c117 (by decide) rfl rfl (Nat.le_of_ble_eq_true rfl) (by omega) ((C_lvl (fr := plainF) (c0 := 0) (v0 := (upd v0 15 0)) (rd := 0) (by decide) rfl ht 6 0 (d - 1) rfl).1 (by omega) _ (.error (we, ae)) ⟨hRe.1, hRe.2.1, hRe.2.2⟩ ⟨v, g, c117, c120, c121, hN, hR⟩) rfl (fun h hq34 => ?_)
      obtain ⟨hxc, hT⟩ := hq34
      have hx := hx.trans hxc (by decide)
      have hTo := hT
      obtain ⟨v, g, c117, c120, c121, hN, hR⟩ := hTo
      refine r_aload_n (pc2 := 38) 0 dX10_readLaw_37 rfl rfl rfl rfl ?_
      refine r_getf (pc2 := 41) (v := .int (v 11)) fX10_136 dX10_readLaw_38 c117 (by decide) rfl rfl ?_
      refine r_if_eq (tgt := 45) (pc2 := 44) dX10_readLaw_41 (by decide) rfl (fun b41 => ?_) (fun b41 => ?_)
      · exact absurd b41 hR.bad
      · skip
        exact r_vret rfl dX10_readLaw_44 ⟨rfl, hx, _, ⟨v, g, c117, c120, c121, hN, hR⟩⟩
    | .ok (q, f), hI, hT =>
      have hTo := hT
      obtain ⟨v, g, c117, c120, c121, hN, hR⟩ := hTo
      have hz2 : z2 = nI (f 276) := (hz g c121).trans (by rw [hR.2.2])
      subst hz2
      show Fr E mX10_readLaw d 32 [.ref 117, .int 0, .int (nI (f 276))] [] h (RQL tp n v0 h0 (pLaw2 tp n 0 q f))
      have k37 : ∀ h : Hp, Ex [117, 121] h0 h → RT tp n (frL f (f 276)) (upd v0 15 0) ((lvl tp n 0 6).1 q []) h → Fr E mX10_readLaw d 37 [.ref 117, .int 0, .int (nI (f 276))] [] h (RQL tp n v0 h0 (pLaw2 tp n 0 q f)) := by
        intro h hx hT
        unfold pLaw2
        generalize (lvl tp n 0 6).1 q [] = y at hT ⊢
        match y, hT with
        | .error (we, ae), hT =>
          have hTo := hT
          obtain ⟨v, g, c117, c120, c121, hN, hR⟩ := hTo
          show Fr E mX10_readLaw d 37 [.ref 117, .int 0, .int (nI (f 276))] [] h (RQL tp n v0 h0 (.error (we, ae) : PX FR))
          refine r_aload_n (pc2 := 38) 0 dX10_readLaw_37 rfl rfl rfl rfl ?_
          refine r_getf (pc2 := 41) (v := .int (v 11)) fX10_136 dX10_readLaw_38 c117 (by decide) rfl rfl ?_
          refine r_if_eq (tgt := 45) (pc2 := 44) dX10_readLaw_41 (by decide) rfl (fun b41 => ?_) (fun b41 => ?_)
          · exact absurd b41 hR.bad
          · skip
            exact r_vret rfl dX10_readLaw_44 ⟨rfl, hx, _, ⟨v, g, c117, c120, c121, hN, hR⟩⟩
        | .ok (r, L), hT =>
          have hTo := hT
          obtain ⟨v, g, c117, c120, c121, hN, hR⟩ := hTo
          have hf := hR.2.2
          subst hf
          refine r_aload_n (pc2 := 38) 0 dX10_readLaw_37 rfl rfl rfl rfl ?_
          refine r_getf (pc2 := 41) (v := .int (v 11)) fX10_136 dX10_readLaw_38 c117 (by decide) rfl rfl ?_
          refine r_if_eq (tgt := 45) (pc2 := 44) dX10_readLaw_41 (by decide) rfl (fun b41 => ?_) (fun b41 => ?_)
          · skip
            refine r_aload_n (pc2 := 46) 0 dX10_readLaw_45 rfl rfl rfl rfl ?_
            refine r_getf (pc2 := 49) (v := .ref 121) fX10_24 dX10_readLaw_46 c117 (by decide) rfl rfl ?_
            refine r_bipush (pc2 := 51) (v := 8) dX10_readLaw_49 (by decide) rfl ?_
            refine r_iload_n (pc2 := 52) 1 dX10_readLaw_51 rfl rfl rfl ?_
            refine r_iadd (pc2 := 53) dX10_readLaw_52 rfl ?_
            refine r_cast (8) (by decide) ?_
            refine r_iconst (pc2 := 54) (v := 1) dX10_readLaw_53 (by decide) rfl ?_
            refine r_cast (nI 1) rfl ?_
            refine r_iastN (pc2 := 55) 8 dX10_readLaw_54 c121 (by decide) rfl (by decide) (by decide) rfl (fun h z54 o54 c121 => ?_)
            rw [upd_nA] at c121
            have c117 := (o54 117 (by decide)).trans c117
            have c120 := (o54 120 (by decide)).trans c120
            have hx := hx.step (a := 121) (by decide) z54 o54
            refine r_aload_n (pc2 := 56) 0 dX10_readLaw_55 rfl rfl rfl rfl ?_
            refine r_getf (pc2 := 59) (v := .ref 121) fX10_24 dX10_readLaw_56 c117 (by decide) rfl rfl ?_
            refine r_bipush (pc2 := 61) (v := 10) dX10_readLaw_59 (by decide) rfl ?_
            refine r_iload_n (pc2 := 62) 1 dX10_readLaw_61 rfl rfl rfl ?_
            refine r_iadd (pc2 := 63) dX10_readLaw_62 rfl ?_
            refine r_cast (10) (by decide) ?_
            refine r_iload_n (pc2 := 64) 2 dX10_readLaw_63 rfl rfl rfl ?_
            refine r_iastN (pc2 := 65) 10 dX10_readLaw_64 c121 (by decide) rfl (by decide) (by decide) rfl (fun h z64 o64 c121 => ?_)
            rw [upd_nA] at c121
            have c117 := (o64 117 (by decide)).trans c117
            have c120 := (o64 120 (by decide)).trans c120
            have hx := hx.step (a := 121) (by decide) z64 o64
            refine r_aload_n (pc2 := 66) 0 dX10_readLaw_65 rfl rfl rfl rfl ?_
            refine r_getf (pc2 := 69) (v := .ref 121) fX10_24 dX10_readLaw_66 c117 (by decide) rfl rfl ?_
            refine r_bipush (pc2 := 71) (v := 12) dX10_readLaw_69 (by decide) rfl ?_
            refine r_iload_n (pc2 := 72) 1 dX10_readLaw_71 rfl rfl rfl ?_
            refine r_iadd (pc2 := 73) dX10_readLaw_72 rfl ?_
            refine r_cast (12) (by decide) ?_
            refine r_aload_n (pc2 := 74) 0 dX10_readLaw_73 rfl rfl rfl rfl ?_
            refine r_getf (pc2 := 77) (v := .ref 121) fX10_24 dX10_readLaw_74 c117 (by decide) rfl rfl ?_
            refine r_sipush (pc2 := 80) (v := 276) dX10_readLaw_77 (by decide) rfl ?_
            refine r_ialdA (pc2 := 81) 276 dX10_readLaw_80 c121 (by decide) rfl (by decide) (by decide) rfl ?_
            refine r_cast (nI (f 276 + L.length)) (by rw [va_up_ne _ _ (by decide), va_up_ne _ _ (by decide), frL_276]) ?_
            refine r_iload_n (pc2 := 82) 2 dX10_readLaw_81 rfl rfl rfl ?_
            refine r_isub (pc2 := 83) dX10_readLaw_82 rfl ?_
            refine r_cast (nI L.length) (by rw [← nI_add]; exact i_addsub _ _) ?_
            refine r_iastN (pc2 := 84) 12 dX10_readLaw_83 c121 (by decide) rfl (by decide) (by decide) rfl (fun h z83 o83 c121 => ?_)
            rw [upd_nA] at c121
            have c117 := (o83 117 (by decide)).trans c117
            have c120 := (o83 120 (by decide)).trans c120
            have hx := hx.step (a := 121) (by decide) z83 o83
            exact r_vret rfl dX10_readLaw_84 ⟨rfl, hx, _, ⟨v, _, c117, c120, c121, hN, hR.1, hR.2.1, rfl⟩⟩
          · exact absurd hR.good b41
      refine r_aload_n (pc2 := 33) 0 dX10_readLaw_32 rfl rfl rfl rfl ?_
      refine r_iconst (pc2 := 34) (v := 0) dX10_readLaw_33 (by decide) rfl ?_
      refine r_cast (nI 0) (rfl) ?_
      refine r_callV0 (pc2 := 37) (As := [.int (nI 0)]) (st := []) kX10_168 rfl rfl dX10_readLaw_34 c117 (by decide) rfl rfl (Nat.le_of_ble_eq_true rfl) (by omega) ((C_lvl (fr := f) (c0 := f 276) (v0 := (upd v0 15 0)) (rd := 0) (by decide) rfl ht 6 0 (d - 1) rfl).1 (by omega) _ (.ok (q, [])) ⟨Nat.zero_le _, hI.2.1, (by show f 276 + 0 ≤ q; exact hI.2.2.1)⟩ ⟨v, g, c117, c120, c121, hN, hR.1, hR.2.1, by rw [frL_nil rfl]; exact hR.2.2⟩) rfl (fun h hq34 => ?_)
      obtain ⟨hxc, hT⟩ := hq34
      have hx := hx.trans hxc (by decide)
      have hTo := hT
      obtain ⟨v, g, c117, c120, c121, hN, hR⟩ := hTo
      exact k37 _ hx hT
  have k18 : ∀ h : Hp, Ex [117, 121] h0 h → RT tp n rI v0 (bnd (pNx tp n p fr) (pEat tp n 31)) h → Fr E mX10_readLaw d 18 [.ref 117, .int 0, .float 0] [] h (RQL tp n v0 h0 (bnd (bnd (pNx tp n p fr) (pEat tp n 31)) (pLaw2 tp n 0))) := by
    intro h hx hT
    have hTo := hT
    obtain ⟨v, g, c117, c120, c121, hN, hR⟩ := hTo
    refine r_aload_n (pc2 := 19) 0 dX10_readLaw_18 rfl rfl rfl rfl ?_
    refine r_getf (pc2 := 22) (v := .ref 121) fX10_24 dX10_readLaw_19 c117 (by decide) rfl rfl ?_
    refine r_sipush (pc2 := 25) (v := 276) dX10_readLaw_22 (by decide) rfl ?_
    refine r_ialdN (pc2 := 26) 276 dX10_readLaw_25 c121 (by decide) rfl (by decide) (by decide) rfl ?_
    refine r_topi (fun z2 e26 => ?_)
    refine r_istore_n (pc2 := 27) (ls2 := [.ref 117, .int 0, .int z2]) 2 dX10_readLaw_26 rfl (by decide) rfl rfl rfl ?_
    refine r_aload_n (pc2 := 28) 0 dX10_readLaw_27 rfl rfl rfl rfl ?_
    refine r_iload_n (pc2 := 29) 1 dX10_readLaw_28 rfl rfl rfl ?_
    refine r_putfX (pc2 := 32) (moL (upd v 15 0)) fX10_156 dX10_readLaw_29 c117 (by decide) (Nat.le_of_ble_eq_true rfl) rfl rfl rfl (fun h z29 o29 c117 => ?_)
    have c120 := (o29 120 (by decide)).trans c120
    have c121 := (o29 121 (by decide)).trans c121
    have hx := hx.step (a := 117) (by decide) z29 o29
    exact k32 z2 _ hx (fun g2 q => by rw [c121] at q; cases q; exact e26) ⟨_, g, c117, c120, c121, hN.r15 0, hR.r15 0⟩
  refine Cn.go (ls := [.ref 117, .int 0, .float 0]) (by decide +kernel) rfl (Nat.le_of_ble_eq_true rfl) ?_
  refine r_aload_n (pc2 := 1) 0 dX10_readLaw_0 rfl rfl rfl rfl ?_
  refine r_callV0 (pc2 := 4) (As := []) (st := []) kX10_145 rfl rfl dX10_readLaw_1 c117 (by decide) rfl rfl (Nat.le_of_ble_eq_true rfl) (by omega) (G_next ht (by omega) (p := p) (L := fr) hT) rfl (fun h hq1 => ?_)
  obtain ⟨hxc, hT⟩ := hq1
  have hx := hx.trans hxc (by decide)
  have hTo := hT
  obtain ⟨v, g, c117, c120, c121, hN, hR⟩ := hTo
  refine r_aload_n (pc2 := 5) 0 dX10_readLaw_4 rfl rfl rfl rfl ?_
  refine r_bipush (pc2 := 7) (v := 31) dX10_readLaw_5 (by decide) rfl ?_
  refine r_callV1 (pc2 := 10) (As := [.int 31]) (st := []) kX10_171 rfl rfl dX10_readLaw_7 c117 (by decide) rfl rfl (Nat.le_of_ble_eq_true rfl) (by omega) (G_eats (x := (pNx tp n p fr)) (k := 31) (by decide) ht (by omega) hT) rfl (fun h hq7 => ?_)
  obtain ⟨hxc, hT⟩ := hq7
  have hx := hx.trans hxc (by decide)
  have hTo := hT
  obtain ⟨v, g, c117, c120, c121, hN, hR⟩ := hTo
  refine r_if_ne (tgt := 18) (pc2 := 13) dX10_readLaw_10 (by decide) rfl (fun b10 => ?_) (fun b10 => ?_)
  · skip
    exact k18 _ hx (by rw [pEat_t (iteB1 b10)]; rw [if_pos (iteB1 b10)] at hT; exact hT)
  · skip
    rw [if_neg (iteB0 b10)] at hT
    refine r_aload_n (pc2 := 14) 0 dX10_readLaw_13 rfl rfl rfl rfl ?_
    refine r_iconst (pc2 := 15) (v := 2) dX10_readLaw_14 (by decide) rfl ?_
    refine r_callV0 (pc2 := 18) (As := [.int 2]) (st := []) kX10_148 rfl rfl dX10_readLaw_15 c117 (by decide) rfl rfl (Nat.le_of_ble_eq_true rfl) (by omega) (G_fails (x := (pNx tp n p fr)) (f := 2) (by decide) (by decide) hT) rfl (fun h hq15 => ?_)
    obtain ⟨hxc, hT⟩ := hq15
    have hx := hx.trans hxc (by decide)
    have hTo := hT
    obtain ⟨v, g, c117, c120, c121, hN, hR⟩ := hTo
    exact k18 _ hx (by rw [pEat_f (iteB0 b10)]; exact hT)
set_option maxRecDepth 20000 in
set_option maxHeartbeats 1000000 in
theorem C_law1 {E : EnvT} {d : Nat} {h0 : Hp} {tp : Nat → Nat} {n : Nat} {v0 : Nat → Int32} {p : Nat} {fr : FR} (ht : TOk tp n) (hd : 55 ≤ d) (hI0 : WI n 0 (.ok (p, fr))) (hT : RT tp n rI v0 (.ok (p, fr)) h0) : Cn E mX10_readLaw d [.ref 117, .int 1] h0 (RQL tp n v0 h0 (pLaw tp n 1 p fr)) := by
  have hx : Ex [117, 121] h0 h0 := Ex.rf
  have hTo := hT
  obtain ⟨v, g, c117, c120, c121, hN, hR⟩ := hTo
  have eG : (pLaw tp n 1 p fr) = (bnd (bnd (pNx tp n p fr) (pEat tp n 31)) (pLaw2 tp n 1)) := rfl
  rw [eG]
  have i1 : WI n 0 (bnd (pNx tp n p fr) (pEat tp n 31)) := hI0.nx0.b l_eat
  have k32 : ∀ (z2 : Int32) (h : Hp), Ex [117, 121] h0 h → (∀ g, h.1 121 = some (aI 1177 g) → z2 = g 276) → RT tp n rI (upd v0 15 1) (bnd (pNx tp n p fr) (pEat tp n 31)) h → Fr E mX10_readLaw d 32 [.ref 117, .int 1, .int z2] [] h (RQL tp n v0 h0 (bnd (bnd (pNx tp n p fr) (pEat tp n 31)) (pLaw2 tp n 1))) := by
    intro z2 h hx hz hT
    generalize ex : (bnd (pNx tp n p fr) (pEat tp n 31)) = x at i1 hT ⊢
    match x, i1, hT with
    | .error (we, ae), i1, hT =>
      have hTo := hT
      obtain ⟨v, g, c117, c120, c121, hN, hR⟩ := hTo
      have hRe := hR.1
      show Fr E mX10_readLaw d 32 [.ref 117, .int 1, .int z2] [] h (RQL tp n v0 h0 (.error (we, ae) : PX FR))
      refine r_aload_n (pc2 := 33) 0 dX10_readLaw_32 rfl rfl rfl rfl ?_
      refine r_iconst (pc2 := 34) (v := 0) dX10_readLaw_33 (by decide) rfl ?_
      refine r_cast (nI 0) (rfl) ?_
      refine r_callV0 (pc2 := 37) (As := [.int (nI 0)]) (st := []) kX10_168 rfl rfl dX10_readLaw_34 c117 (by decide) rfl rfl (Nat.le_of_ble_eq_true rfl) (by omega) ((C_lvl (fr := plainF) (c0 := 0) (v0 := (upd v0 15 1)) (rd := 1) (by decide) rfl ht 6 0 (d - 1) rfl).1 (by omega) _ (.error (we, ae)) ⟨hRe.1, hRe.2.1, hRe.2.2⟩ ⟨v, g, c117, c120, c121, hN, hR⟩) rfl (fun h hq34 => ?_)
      obtain ⟨hxc, hT⟩ := hq34
      have hx := hx.trans hxc (by decide)
      have hTo := hT
      obtain ⟨v, g, c117, c120, c121, hN, hR⟩ := hTo
      refine r_aload_n (pc2 := 38) 0 dX10_readLaw_37 rfl rfl rfl rfl ?_
      refine r_getf (pc2 := 41) (v := .int (v 11)) fX10_136 dX10_readLaw_38 c117 (by decide) rfl rfl ?_
      refine r_if_eq (tgt := 45) (pc2 := 44) dX10_readLaw_41 (by decide) rfl (fun b41 => ?_) (fun b41 => ?_)
      · exact absurd b41 hR.bad
      · skip
        exact r_vret rfl dX10_readLaw_44 ⟨rfl, hx, _, ⟨v, g, c117, c120, c121, hN, hR⟩⟩
    | .ok (q, f), hI, hT =>
      have hTo := hT
      obtain ⟨v, g, c117, c120, c121, hN, hR⟩ := hTo
      have hz2 : z2 = nI (f 276) := (hz g c121).trans (by rw [hR.2.2])
      subst hz2
      show Fr E mX10_readLaw d 32 [.ref 117, .int 1, .int (nI (f 276))] [] h (RQL tp n v0 h0 (pLaw2 tp n 1 q f))
      have k37 : ∀ h : Hp, Ex [117, 121] h0 h → RT tp n (frL f (f 276)) (upd v0 15 1) ((lvl tp n 1 6).1 q []) h → Fr E mX10_readLaw d 37 [.ref 117, .int 1, .int (nI (f 276))] [] h (RQL tp n v0 h0 (pLaw2 tp n 1 q f)) := by
        intro h hx hT
        unfold pLaw2
        generalize (lvl tp n 1 6).1 q [] = y at hT ⊢
        match y, hT with
        | .error (we, ae), hT =>
          have hTo := hT
          obtain ⟨v, g, c117, c120, c121, hN, hR⟩ := hTo
          show Fr E mX10_readLaw d 37 [.ref 117, .int 1, .int (nI (f 276))] [] h (RQL tp n v0 h0 (.error (we, ae) : PX FR))
          refine r_aload_n (pc2 := 38) 0 dX10_readLaw_37 rfl rfl rfl rfl ?_
          refine r_getf (pc2 := 41) (v := .int (v 11)) fX10_136 dX10_readLaw_38 c117 (by decide) rfl rfl ?_
          refine r_if_eq (tgt := 45) (pc2 := 44) dX10_readLaw_41 (by decide) rfl (fun b41 => ?_) (fun b41 => ?_)
          · exact absurd b41 hR.bad
          · skip
            exact r_vret rfl dX10_readLaw_44 ⟨rfl, hx, _, ⟨v, g, c117, c120, c121, hN, hR⟩⟩
        | .ok (r, L), hT =>
          have hTo := hT
          obtain ⟨v, g, c117, c120, c121, hN, hR⟩ := hTo
          have hf := hR.2.2
          subst hf
          refine r_aload_n (pc2 := 38) 0 dX10_readLaw_37 rfl rfl rfl rfl ?_
          refine r_getf (pc2 := 41) (v := .int (v 11)) fX10_136 dX10_readLaw_38 c117 (by decide) rfl rfl ?_
          refine r_if_eq (tgt := 45) (pc2 := 44) dX10_readLaw_41 (by decide) rfl (fun b41 => ?_) (fun b41 => ?_)
          · skip
            refine r_aload_n (pc2 := 46) 0 dX10_readLaw_45 rfl rfl rfl rfl ?_
            refine r_getf (pc2 := 49) (v := .ref 121) fX10_24 dX10_readLaw_46 c117 (by decide) rfl rfl ?_
            refine r_bipush (pc2 := 51) (v := 8) dX10_readLaw_49 (by decide) rfl ?_
            refine r_iload_n (pc2 := 52) 1 dX10_readLaw_51 rfl rfl rfl ?_
            refine r_iadd (pc2 := 53) dX10_readLaw_52 rfl ?_
            refine r_cast (9) (by decide) ?_
            refine r_iconst (pc2 := 54) (v := 1) dX10_readLaw_53 (by decide) rfl ?_
            refine r_cast (nI 1) rfl ?_
            refine r_iastN (pc2 := 55) 9 dX10_readLaw_54 c121 (by decide) rfl (by decide) (by decide) rfl (fun h z54 o54 c121 => ?_)
            rw [upd_nA] at c121
            have c117 := (o54 117 (by decide)).trans c117
            have c120 := (o54 120 (by decide)).trans c120
            have hx := hx.step (a := 121) (by decide) z54 o54
            refine r_aload_n (pc2 := 56) 0 dX10_readLaw_55 rfl rfl rfl rfl ?_
            refine r_getf (pc2 := 59) (v := .ref 121) fX10_24 dX10_readLaw_56 c117 (by decide) rfl rfl ?_
            refine r_bipush (pc2 := 61) (v := 10) dX10_readLaw_59 (by decide) rfl ?_
            refine r_iload_n (pc2 := 62) 1 dX10_readLaw_61 rfl rfl rfl ?_
            refine r_iadd (pc2 := 63) dX10_readLaw_62 rfl ?_
            refine r_cast (11) (by decide) ?_
            refine r_iload_n (pc2 := 64) 2 dX10_readLaw_63 rfl rfl rfl ?_
            refine r_iastN (pc2 := 65) 11 dX10_readLaw_64 c121 (by decide) rfl (by decide) (by decide) rfl (fun h z64 o64 c121 => ?_)
            rw [upd_nA] at c121
            have c117 := (o64 117 (by decide)).trans c117
            have c120 := (o64 120 (by decide)).trans c120
            have hx := hx.step (a := 121) (by decide) z64 o64
            refine r_aload_n (pc2 := 66) 0 dX10_readLaw_65 rfl rfl rfl rfl ?_
            refine r_getf (pc2 := 69) (v := .ref 121) fX10_24 dX10_readLaw_66 c117 (by decide) rfl rfl ?_
            refine r_bipush (pc2 := 71) (v := 12) dX10_readLaw_69 (by decide) rfl ?_
            refine r_iload_n (pc2 := 72) 1 dX10_readLaw_71 rfl rfl rfl ?_
            refine r_iadd (pc2 := 73) dX10_readLaw_72 rfl ?_
            refine r_cast (13) (by decide) ?_
            refine r_aload_n (pc2 := 74) 0 dX10_readLaw_73 rfl rfl rfl rfl ?_
            refine r_getf (pc2 := 77) (v := .ref 121) fX10_24 dX10_readLaw_74 c117 (by decide) rfl rfl ?_
            refine r_sipush (pc2 := 80) (v := 276) dX10_readLaw_77 (by decide) rfl ?_
            refine r_ialdA (pc2 := 81) 276 dX10_readLaw_80 c121 (by decide) rfl (by decide) (by decide) rfl ?_
            refine r_cast (nI (f 276 + L.length)) (by rw [va_up_ne _ _ (by decide), va_up_ne _ _ (by decide), frL_276]) ?_
            refine r_iload_n (pc2 := 82) 2 dX10_readLaw_81 rfl rfl rfl ?_
            refine r_isub (pc2 := 83) dX10_readLaw_82 rfl ?_
            refine r_cast (nI L.length) (by rw [← nI_add]; exact i_addsub _ _) ?_
            refine r_iastN (pc2 := 84) 13 dX10_readLaw_83 c121 (by decide) rfl (by decide) (by decide) rfl (fun h z83 o83 c121 => ?_)
            rw [upd_nA] at c121
            have c117 := (o83 117 (by decide)).trans c117
            have c120 := (o83 120 (by decide)).trans c120
            have hx := hx.step (a := 121) (by decide) z83 o83
            exact r_vret rfl dX10_readLaw_84 ⟨rfl, hx, _, ⟨v, _, c117, c120, c121, hN, hR.1, hR.2.1, rfl⟩⟩
          · exact absurd hR.good b41
      refine r_aload_n (pc2 := 33) 0 dX10_readLaw_32 rfl rfl rfl rfl ?_
      refine r_iconst (pc2 := 34) (v := 0) dX10_readLaw_33 (by decide) rfl ?_
      refine r_cast (nI 0) (rfl) ?_
      refine r_callV0 (pc2 := 37) (As := [.int (nI 0)]) (st := []) kX10_168 rfl rfl dX10_readLaw_34 c117 (by decide) rfl rfl (Nat.le_of_ble_eq_true rfl) (by omega) ((C_lvl (fr := f) (c0 := f 276) (v0 := (upd v0 15 1)) (rd := 1) (by decide) rfl ht 6 0 (d - 1) rfl).1 (by omega) _ (.ok (q, [])) ⟨Nat.zero_le _, hI.2.1, (by show f 276 + 0 ≤ q; exact hI.2.2.1)⟩ ⟨v, g, c117, c120, c121, hN, hR.1, hR.2.1, by rw [frL_nil rfl]; exact hR.2.2⟩) rfl (fun h hq34 => ?_)
      obtain ⟨hxc, hT⟩ := hq34
      have hx := hx.trans hxc (by decide)
      have hTo := hT
      obtain ⟨v, g, c117, c120, c121, hN, hR⟩ := hTo
      exact k37 _ hx hT
  have k18 : ∀ h : Hp, Ex [117, 121] h0 h → RT tp n rI v0 (bnd (pNx tp n p fr) (pEat tp n 31)) h → Fr E mX10_readLaw d 18 [.ref 117, .int 1, .float 0] [] h (RQL tp n v0 h0 (bnd (bnd (pNx tp n p fr) (pEat tp n 31)) (pLaw2 tp n 1))) := by
    intro h hx hT
    have hTo := hT
    obtain ⟨v, g, c117, c120, c121, hN, hR⟩ := hTo
    refine r_aload_n (pc2 := 19) 0 dX10_readLaw_18 rfl rfl rfl rfl ?_
    refine r_getf (pc2 := 22) (v := .ref 121) fX10_24 dX10_readLaw_19 c117 (by decide) rfl rfl ?_
    refine r_sipush (pc2 := 25) (v := 276) dX10_readLaw_22 (by decide) rfl ?_
    refine r_ialdN (pc2 := 26) 276 dX10_readLaw_25 c121 (by decide) rfl (by decide) (by decide) rfl ?_
    refine r_topi (fun z2 e26 => ?_)
    refine r_istore_n (pc2 := 27) (ls2 := [.ref 117, .int 1, .int z2]) 2 dX10_readLaw_26 rfl (by decide) rfl rfl rfl ?_
    refine r_aload_n (pc2 := 28) 0 dX10_readLaw_27 rfl rfl rfl rfl ?_
    refine r_iload_n (pc2 := 29) 1 dX10_readLaw_28 rfl rfl rfl ?_
    refine r_putfX (pc2 := 32) (moL (upd v 15 1)) fX10_156 dX10_readLaw_29 c117 (by decide) (Nat.le_of_ble_eq_true rfl) rfl rfl rfl (fun h z29 o29 c117 => ?_)
    have c120 := (o29 120 (by decide)).trans c120
    have c121 := (o29 121 (by decide)).trans c121
    have hx := hx.step (a := 117) (by decide) z29 o29
    exact k32 z2 _ hx (fun g2 q => by rw [c121] at q; cases q; exact e26) ⟨_, g, c117, c120, c121, hN.r15 1, hR.r15 1⟩
  refine Cn.go (ls := [.ref 117, .int 1, .float 0]) (by decide +kernel) rfl (Nat.le_of_ble_eq_true rfl) ?_
  refine r_aload_n (pc2 := 1) 0 dX10_readLaw_0 rfl rfl rfl rfl ?_
  refine r_callV0 (pc2 := 4) (As := []) (st := []) kX10_145 rfl rfl dX10_readLaw_1 c117 (by decide) rfl rfl (Nat.le_of_ble_eq_true rfl) (by omega) (G_next ht (by omega) (p := p) (L := fr) hT) rfl (fun h hq1 => ?_)
  obtain ⟨hxc, hT⟩ := hq1
  have hx := hx.trans hxc (by decide)
  have hTo := hT
  obtain ⟨v, g, c117, c120, c121, hN, hR⟩ := hTo
  refine r_aload_n (pc2 := 5) 0 dX10_readLaw_4 rfl rfl rfl rfl ?_
  refine r_bipush (pc2 := 7) (v := 31) dX10_readLaw_5 (by decide) rfl ?_
  refine r_callV1 (pc2 := 10) (As := [.int 31]) (st := []) kX10_171 rfl rfl dX10_readLaw_7 c117 (by decide) rfl rfl (Nat.le_of_ble_eq_true rfl) (by omega) (G_eats (x := (pNx tp n p fr)) (k := 31) (by decide) ht (by omega) hT) rfl (fun h hq7 => ?_)
  obtain ⟨hxc, hT⟩ := hq7
  have hx := hx.trans hxc (by decide)
  have hTo := hT
  obtain ⟨v, g, c117, c120, c121, hN, hR⟩ := hTo
  refine r_if_ne (tgt := 18) (pc2 := 13) dX10_readLaw_10 (by decide) rfl (fun b10 => ?_) (fun b10 => ?_)
  · skip
    exact k18 _ hx (by rw [pEat_t (iteB1 b10)]; rw [if_pos (iteB1 b10)] at hT; exact hT)
  · skip
    rw [if_neg (iteB0 b10)] at hT
    refine r_aload_n (pc2 := 14) 0 dX10_readLaw_13 rfl rfl rfl rfl ?_
    refine r_iconst (pc2 := 15) (v := 2) dX10_readLaw_14 (by decide) rfl ?_
    refine r_callV0 (pc2 := 18) (As := [.int 2]) (st := []) kX10_148 rfl rfl dX10_readLaw_15 c117 (by decide) rfl rfl (Nat.le_of_ble_eq_true rfl) (by omega) (G_fails (x := (pNx tp n p fr)) (f := 2) (by decide) (by decide) hT) rfl (fun h hq15 => ?_)
    obtain ⟨hxc, hT⟩ := hq15
    have hx := hx.trans hxc (by decide)
    have hTo := hT
    obtain ⟨v, g, c117, c120, c121, hN, hR⟩ := hTo
    exact k18 _ hx (by rw [pEat_f (iteB0 b10)]; exact hT)
set_option maxRecDepth 20000 in
set_option maxHeartbeats 1000000 in
theorem C_line {E : EnvT} {d : Nat} {h0 : Hp} {tp : Nat → Nat} {n : Nat} {v0 : Nat → Int32} {p : Nat} {fr : FR} (ht : TOk tp n) (hd : 56 ≤ d) (hW : WI n 0 (.ok (p, fr))) (hT : RT tp n rI v0 (.ok (p, fr)) h0) : Cn E mX10_readLine d [.ref 117] h0 (RQL tp n v0 h0 (pLine tp n p fr)) := by
  have hx : Ex [117, 121] h0 h0 := Ex.rf
  have hTo := hT
  obtain ⟨v, g, c117, c120, c121, hN, hR⟩ := hTo
  by_cases hk : lxK tp n p = 3
  · have eG : pLine tp n p fr = pGoer tp n p fr := by unfold pLine; rw [if_pos hk]
    rw [eG]
    refine Cn.go (ls := [.ref 117]) (by decide +kernel) rfl (Nat.le_of_ble_eq_true rfl) ?_
    refine r_aload_n (pc2 := 1) 0 dX10_readLine_0 rfl rfl rfl rfl ?_
    refine r_getf (pc2 := 4) (v := .int (v 11)) fX10_136 dX10_readLine_1 c117 (by decide) rfl rfl ?_
    refine r_if_eq (tgt := 8) (pc2 := 7) dX10_readLine_4 (by decide) rfl (fun b4 => ?_) (fun b4 => ?_)
    · skip
      refine r_aload_n (pc2 := 9) 0 dX10_readLine_8 rfl rfl rfl rfl ?_
      refine r_iconst (pc2 := 10) (v := 3) dX10_readLine_9 (by decide) rfl ?_
      refine r_callV1 (pc2 := 13) (As := [.int 3]) (st := []) kX10_142 rfl rfl dX10_readLine_10 c117 (by decide) rfl rfl (Nat.le_of_ble_eq_true rfl) (by omega) ((G_is (k := 3) (by decide) hT).mono fun r h2 q => ⟨q.1.trans (by rw [if_pos (isB_y hk)]), q.2⟩) rfl (fun h2 hq10 => ?_)
      subst hq10
      refine r_if_eq (tgt := 23) (pc2 := 16) dX10_readLine_13 (by decide) rfl (fun b13 => ?_) (fun b13 => ?_)
      · exact absurd b13 (by decide)
      · skip
        refine r_aload_n (pc2 := 17) 0 dX10_readLine_16 rfl rfl rfl rfl ?_
        refine r_callV0 (pc2 := 20) (As := []) (st := []) kX10_203 rfl rfl dX10_readLine_17 c117 (by decide) rfl rfl (Nat.le_of_ble_eq_true rfl) (by omega) (C_goer ht (by omega) hk hW hT) rfl (fun h hq17 => ?_)
        obtain ⟨hxq, hq⟩ := hq17
        have hx := hx.trans hxq (by decide)
        refine r_goto (pc2 := 151) dX10_readLine_20 (by decide) ?_
        exact r_vret rfl dX10_readLine_151 (RQ.L ⟨rfl, hx, hq⟩)
    · exact absurd hR.good b4
  · have n3 := hk
    by_cases hk : lxK tp n p = 7
    · have eG : pLine tp n p fr = pPeople tp n p fr := by unfold pLine; rw [if_neg n3, if_pos hk]
      rw [eG]
      refine Cn.go (ls := [.ref 117]) (by decide +kernel) rfl (Nat.le_of_ble_eq_true rfl) ?_
      refine r_aload_n (pc2 := 1) 0 dX10_readLine_0 rfl rfl rfl rfl ?_
      refine r_getf (pc2 := 4) (v := .int (v 11)) fX10_136 dX10_readLine_1 c117 (by decide) rfl rfl ?_
      refine r_if_eq (tgt := 8) (pc2 := 7) dX10_readLine_4 (by decide) rfl (fun b4 => ?_) (fun b4 => ?_)
      · skip
        refine r_aload_n (pc2 := 9) 0 dX10_readLine_8 rfl rfl rfl rfl ?_
        refine r_iconst (pc2 := 10) (v := 3) dX10_readLine_9 (by decide) rfl ?_
        refine r_callV1 (pc2 := 13) (As := [.int 3]) (st := []) kX10_142 rfl rfl dX10_readLine_10 c117 (by decide) rfl rfl (Nat.le_of_ble_eq_true rfl) (by omega) ((G_is (k := 3) (by decide) hT).mono fun r h2 q => ⟨q.1.trans (by rw [if_neg (isB_n (by rw [hk]; decide))]), q.2⟩) rfl (fun h2 hq10 => ?_)
        subst hq10
        refine r_if_eq (tgt := 23) (pc2 := 16) dX10_readLine_13 (by decide) rfl (fun b13 => ?_) (fun b13 => ?_)
        · skip
          refine r_aload_n (pc2 := 24) 0 dX10_readLine_23 rfl rfl rfl rfl ?_
          refine r_bipush (pc2 := 26) (v := 7) dX10_readLine_24 (by decide) rfl ?_
          refine r_callV1 (pc2 := 29) (As := [.int 7]) (st := []) kX10_142 rfl rfl dX10_readLine_26 c117 (by decide) rfl rfl (Nat.le_of_ble_eq_true rfl) (by omega) ((G_is (k := 7) (by decide) hT).mono fun r h2 q => ⟨q.1.trans (by rw [if_pos (isB_y hk)]), q.2⟩) rfl (fun h2 hq26 => ?_)
          subst hq26
          refine r_if_eq (tgt := 39) (pc2 := 32) dX10_readLine_29 (by decide) rfl (fun b29 => ?_) (fun b29 => ?_)
          · exact absurd b29 (by decide)
          · skip
            refine r_aload_n (pc2 := 33) 0 dX10_readLine_32 rfl rfl rfl rfl ?_
            refine r_callV0 (pc2 := 36) (As := []) (st := []) kX10_206 rfl rfl dX10_readLine_33 c117 (by decide) rfl rfl (Nat.le_of_ble_eq_true rfl) (by omega) (C_people ht (by omega) hW hT) rfl (fun h hq33 => ?_)
            obtain ⟨hxq, hq⟩ := hq33
            have hx := hx.trans hxq (by decide)
            refine r_goto (pc2 := 151) dX10_readLine_36 (by decide) ?_
            exact r_vret rfl dX10_readLine_151 (RQ.L ⟨rfl, hx, hq⟩)
        · exact absurd b13 (by decide)
      · exact absurd hR.good b4
    · have n7 := hk
      by_cases hk : lxK tp n p = 8
      · have eG : pLine tp n p fr = pHint tp n 1 p fr := by unfold pLine; rw [if_neg n3, if_neg n7, if_pos hk]
        rw [eG]
        refine Cn.go (ls := [.ref 117]) (by decide +kernel) rfl (Nat.le_of_ble_eq_true rfl) ?_
        refine r_aload_n (pc2 := 1) 0 dX10_readLine_0 rfl rfl rfl rfl ?_
        refine r_getf (pc2 := 4) (v := .int (v 11)) fX10_136 dX10_readLine_1 c117 (by decide) rfl rfl ?_
        refine r_if_eq (tgt := 8) (pc2 := 7) dX10_readLine_4 (by decide) rfl (fun b4 => ?_) (fun b4 => ?_)
        · skip
          refine r_aload_n (pc2 := 9) 0 dX10_readLine_8 rfl rfl rfl rfl ?_
          refine r_iconst (pc2 := 10) (v := 3) dX10_readLine_9 (by decide) rfl ?_
          refine r_callV1 (pc2 := 13) (As := [.int 3]) (st := []) kX10_142 rfl rfl dX10_readLine_10 c117 (by decide) rfl rfl (Nat.le_of_ble_eq_true rfl) (by omega) ((G_is (k := 3) (by decide) hT).mono fun r h2 q => ⟨q.1.trans (by rw [if_neg (isB_n (by rw [hk]; decide))]), q.2⟩) rfl (fun h2 hq10 => ?_)
          subst hq10
          refine r_if_eq (tgt := 23) (pc2 := 16) dX10_readLine_13 (by decide) rfl (fun b13 => ?_) (fun b13 => ?_)
          · skip
            refine r_aload_n (pc2 := 24) 0 dX10_readLine_23 rfl rfl rfl rfl ?_
            refine r_bipush (pc2 := 26) (v := 7) dX10_readLine_24 (by decide) rfl ?_
            refine r_callV1 (pc2 := 29) (As := [.int 7]) (st := []) kX10_142 rfl rfl dX10_readLine_26 c117 (by decide) rfl rfl (Nat.le_of_ble_eq_true rfl) (by omega) ((G_is (k := 7) (by decide) hT).mono fun r h2 q => ⟨q.1.trans (by rw [if_neg (isB_n (by rw [hk]; decide))]), q.2⟩) rfl (fun h2 hq26 => ?_)
            subst hq26
            refine r_if_eq (tgt := 39) (pc2 := 32) dX10_readLine_29 (by decide) rfl (fun b29 => ?_) (fun b29 => ?_)
            · skip
              refine r_aload_n (pc2 := 40) 0 dX10_readLine_39 rfl rfl rfl rfl ?_
              refine r_bipush (pc2 := 42) (v := 8) dX10_readLine_40 (by decide) rfl ?_
              refine r_callV1 (pc2 := 45) (As := [.int 8]) (st := []) kX10_142 rfl rfl dX10_readLine_42 c117 (by decide) rfl rfl (Nat.le_of_ble_eq_true rfl) (by omega) ((G_is (k := 8) (by decide) hT).mono fun r h2 q => ⟨q.1.trans (by rw [if_pos (isB_y hk)]), q.2⟩) rfl (fun h2 hq42 => ?_)
              subst hq42
              refine r_if_ne (tgt := 57) (pc2 := 48) dX10_readLine_45 (by decide) rfl (fun b45 => ?_) (fun b45 => ?_)
              · skip
                refine r_aload_n (pc2 := 58) 0 dX10_readLine_57 rfl rfl rfl rfl ?_
                refine r_aload_n (pc2 := 59) 0 dX10_readLine_58 rfl rfl rfl rfl ?_
                refine r_bipush (pc2 := 61) (v := 8) dX10_readLine_59 (by decide) rfl ?_
                refine r_callV1 (pc2 := 64) (As := [.int 8]) (st := [.ref 117]) kX10_142 rfl rfl dX10_readLine_61 c117 (by decide) rfl rfl (Nat.le_of_ble_eq_true rfl) (by omega) ((G_is (k := 8) (by decide) hT).mono fun r h2 q => ⟨q.1.trans (by rw [if_pos (isB_y hk)]), q.2⟩) rfl (fun h2 hq61 => ?_)
                subst hq61
                refine r_callV0 (pc2 := 67) (As := [.int 1]) (st := []) kX10_209 rfl rfl dX10_readLine_64 c117 (by decide) rfl rfl (Nat.le_of_ble_eq_true rfl) (by omega) (C_hint1 ht (by omega) hW hT) rfl (fun h hq64 => ?_)
                obtain ⟨hxq, hq⟩ := hq64
                have hx := hx.trans hxq (by decide)
                refine r_goto (pc2 := 151) dX10_readLine_67 (by decide) ?_
                exact r_vret rfl dX10_readLine_151 (RQ.L ⟨rfl, hx, hq⟩)
              · exact absurd b45 (by decide)
            · exact absurd b29 (by decide)
          · exact absurd b13 (by decide)
        · exact absurd hR.good b4
      · have n8 := hk
        by_cases hk : lxK tp n p = 22
        · have eG : pLine tp n p fr = pHint tp n 0 p fr := by unfold pLine; rw [if_neg n3, if_neg n7, if_neg n8, if_pos hk]
          rw [eG]
          refine Cn.go (ls := [.ref 117]) (by decide +kernel) rfl (Nat.le_of_ble_eq_true rfl) ?_
          refine r_aload_n (pc2 := 1) 0 dX10_readLine_0 rfl rfl rfl rfl ?_
          refine r_getf (pc2 := 4) (v := .int (v 11)) fX10_136 dX10_readLine_1 c117 (by decide) rfl rfl ?_
          refine r_if_eq (tgt := 8) (pc2 := 7) dX10_readLine_4 (by decide) rfl (fun b4 => ?_) (fun b4 => ?_)
          · skip
            refine r_aload_n (pc2 := 9) 0 dX10_readLine_8 rfl rfl rfl rfl ?_
            refine r_iconst (pc2 := 10) (v := 3) dX10_readLine_9 (by decide) rfl ?_
            refine r_callV1 (pc2 := 13) (As := [.int 3]) (st := []) kX10_142 rfl rfl dX10_readLine_10 c117 (by decide) rfl rfl (Nat.le_of_ble_eq_true rfl) (by omega) ((G_is (k := 3) (by decide) hT).mono fun r h2 q => ⟨q.1.trans (by rw [if_neg (isB_n (by rw [hk]; decide))]), q.2⟩) rfl (fun h2 hq10 => ?_)
            subst hq10
            refine r_if_eq (tgt := 23) (pc2 := 16) dX10_readLine_13 (by decide) rfl (fun b13 => ?_) (fun b13 => ?_)
            · skip
              refine r_aload_n (pc2 := 24) 0 dX10_readLine_23 rfl rfl rfl rfl ?_
              refine r_bipush (pc2 := 26) (v := 7) dX10_readLine_24 (by decide) rfl ?_
              refine r_callV1 (pc2 := 29) (As := [.int 7]) (st := []) kX10_142 rfl rfl dX10_readLine_26 c117 (by decide) rfl rfl (Nat.le_of_ble_eq_true rfl) (by omega) ((G_is (k := 7) (by decide) hT).mono fun r h2 q => ⟨q.1.trans (by rw [if_neg (isB_n (by rw [hk]; decide))]), q.2⟩) rfl (fun h2 hq26 => ?_)
              subst hq26
              refine r_if_eq (tgt := 39) (pc2 := 32) dX10_readLine_29 (by decide) rfl (fun b29 => ?_) (fun b29 => ?_)
              · skip
                refine r_aload_n (pc2 := 40) 0 dX10_readLine_39 rfl rfl rfl rfl ?_
                refine r_bipush (pc2 := 42) (v := 8) dX10_readLine_40 (by decide) rfl ?_
                refine r_callV1 (pc2 := 45) (As := [.int 8]) (st := []) kX10_142 rfl rfl dX10_readLine_42 c117 (by decide) rfl rfl (Nat.le_of_ble_eq_true rfl) (by omega) ((G_is (k := 8) (by decide) hT).mono fun r h2 q => ⟨q.1.trans (by rw [if_neg (isB_n (by rw [hk]; decide))]), q.2⟩) rfl (fun h2 hq42 => ?_)
                subst hq42
                refine r_if_ne (tgt := 57) (pc2 := 48) dX10_readLine_45 (by decide) rfl (fun b45 => ?_) (fun b45 => ?_)
                · exact absurd b45 (by decide)
                · skip
                  refine r_aload_n (pc2 := 49) 0 dX10_readLine_48 rfl rfl rfl rfl ?_
                  refine r_bipush (pc2 := 51) (v := 22) dX10_readLine_49 (by decide) rfl ?_
                  refine r_callV1 (pc2 := 54) (As := [.int 22]) (st := []) kX10_142 rfl rfl dX10_readLine_51 c117 (by decide) rfl rfl (Nat.le_of_ble_eq_true rfl) (by omega) ((G_is (k := 22) (by decide) hT).mono fun r h2 q => ⟨q.1.trans (by rw [if_pos (isB_y hk)]), q.2⟩) rfl (fun h2 hq51 => ?_)
                  subst hq51
                  refine r_if_eq (tgt := 70) (pc2 := 57) dX10_readLine_54 (by decide) rfl (fun b54 => ?_) (fun b54 => ?_)
                  · exact absurd b54 (by decide)
                  · skip
                    refine r_aload_n (pc2 := 58) 0 dX10_readLine_57 rfl rfl rfl rfl ?_
                    refine r_aload_n (pc2 := 59) 0 dX10_readLine_58 rfl rfl rfl rfl ?_
                    refine r_bipush (pc2 := 61) (v := 8) dX10_readLine_59 (by decide) rfl ?_
                    refine r_callV1 (pc2 := 64) (As := [.int 8]) (st := [.ref 117]) kX10_142 rfl rfl dX10_readLine_61 c117 (by decide) rfl rfl (Nat.le_of_ble_eq_true rfl) (by omega) ((G_is (k := 8) (by decide) hT).mono fun r h2 q => ⟨q.1.trans (by rw [if_neg (isB_n (by rw [hk]; decide))]), q.2⟩) rfl (fun h2 hq61 => ?_)
                    subst hq61
                    refine r_callV0 (pc2 := 67) (As := [.int 0]) (st := []) kX10_209 rfl rfl dX10_readLine_64 c117 (by decide) rfl rfl (Nat.le_of_ble_eq_true rfl) (by omega) (C_hint0 ht (by omega) hW hT) rfl (fun h hq64 => ?_)
                    obtain ⟨hxq, hq⟩ := hq64
                    have hx := hx.trans hxq (by decide)
                    refine r_goto (pc2 := 151) dX10_readLine_67 (by decide) ?_
                    exact r_vret rfl dX10_readLine_151 (RQ.L ⟨rfl, hx, hq⟩)
              · exact absurd b29 (by decide)
            · exact absurd b13 (by decide)
          · exact absurd hR.good b4
        · have n22 := hk
          by_cases hk : lxK tp n p = 9
          · have eG : pLine tp n p fr = pCart tp n p fr := by unfold pLine; rw [if_neg n3, if_neg n7, if_neg n8, if_neg n22, if_pos hk]
            rw [eG]
            refine Cn.go (ls := [.ref 117]) (by decide +kernel) rfl (Nat.le_of_ble_eq_true rfl) ?_
            refine r_aload_n (pc2 := 1) 0 dX10_readLine_0 rfl rfl rfl rfl ?_
            refine r_getf (pc2 := 4) (v := .int (v 11)) fX10_136 dX10_readLine_1 c117 (by decide) rfl rfl ?_
            refine r_if_eq (tgt := 8) (pc2 := 7) dX10_readLine_4 (by decide) rfl (fun b4 => ?_) (fun b4 => ?_)
            · skip
              refine r_aload_n (pc2 := 9) 0 dX10_readLine_8 rfl rfl rfl rfl ?_
              refine r_iconst (pc2 := 10) (v := 3) dX10_readLine_9 (by decide) rfl ?_
              refine r_callV1 (pc2 := 13) (As := [.int 3]) (st := []) kX10_142 rfl rfl dX10_readLine_10 c117 (by decide) rfl rfl (Nat.le_of_ble_eq_true rfl) (by omega) ((G_is (k := 3) (by decide) hT).mono fun r h2 q => ⟨q.1.trans (by rw [if_neg (isB_n (by rw [hk]; decide))]), q.2⟩) rfl (fun h2 hq10 => ?_)
              subst hq10
              refine r_if_eq (tgt := 23) (pc2 := 16) dX10_readLine_13 (by decide) rfl (fun b13 => ?_) (fun b13 => ?_)
              · skip
                refine r_aload_n (pc2 := 24) 0 dX10_readLine_23 rfl rfl rfl rfl ?_
                refine r_bipush (pc2 := 26) (v := 7) dX10_readLine_24 (by decide) rfl ?_
                refine r_callV1 (pc2 := 29) (As := [.int 7]) (st := []) kX10_142 rfl rfl dX10_readLine_26 c117 (by decide) rfl rfl (Nat.le_of_ble_eq_true rfl) (by omega) ((G_is (k := 7) (by decide) hT).mono fun r h2 q => ⟨q.1.trans (by rw [if_neg (isB_n (by rw [hk]; decide))]), q.2⟩) rfl (fun h2 hq26 => ?_)
                subst hq26
                refine r_if_eq (tgt := 39) (pc2 := 32) dX10_readLine_29 (by decide) rfl (fun b29 => ?_) (fun b29 => ?_)
                · skip
                  refine r_aload_n (pc2 := 40) 0 dX10_readLine_39 rfl rfl rfl rfl ?_
                  refine r_bipush (pc2 := 42) (v := 8) dX10_readLine_40 (by decide) rfl ?_
                  refine r_callV1 (pc2 := 45) (As := [.int 8]) (st := []) kX10_142 rfl rfl dX10_readLine_42 c117 (by decide) rfl rfl (Nat.le_of_ble_eq_true rfl) (by omega) ((G_is (k := 8) (by decide) hT).mono fun r h2 q => ⟨q.1.trans (by rw [if_neg (isB_n (by rw [hk]; decide))]), q.2⟩) rfl (fun h2 hq42 => ?_)
                  subst hq42
                  refine r_if_ne (tgt := 57) (pc2 := 48) dX10_readLine_45 (by decide) rfl (fun b45 => ?_) (fun b45 => ?_)
                  · exact absurd b45 (by decide)
                  · skip
                    refine r_aload_n (pc2 := 49) 0 dX10_readLine_48 rfl rfl rfl rfl ?_
                    refine r_bipush (pc2 := 51) (v := 22) dX10_readLine_49 (by decide) rfl ?_
                    refine r_callV1 (pc2 := 54) (As := [.int 22]) (st := []) kX10_142 rfl rfl dX10_readLine_51 c117 (by decide) rfl rfl (Nat.le_of_ble_eq_true rfl) (by omega) ((G_is (k := 22) (by decide) hT).mono fun r h2 q => ⟨q.1.trans (by rw [if_neg (isB_n (by rw [hk]; decide))]), q.2⟩) rfl (fun h2 hq51 => ?_)
                    subst hq51
                    refine r_if_eq (tgt := 70) (pc2 := 57) dX10_readLine_54 (by decide) rfl (fun b54 => ?_) (fun b54 => ?_)
                    · skip
                      refine r_aload_n (pc2 := 71) 0 dX10_readLine_70 rfl rfl rfl rfl ?_
                      refine r_bipush (pc2 := 73) (v := 9) dX10_readLine_71 (by decide) rfl ?_
                      refine r_callV1 (pc2 := 76) (As := [.int 9]) (st := []) kX10_142 rfl rfl dX10_readLine_73 c117 (by decide) rfl rfl (Nat.le_of_ble_eq_true rfl) (by omega) ((G_is (k := 9) (by decide) hT).mono fun r h2 q => ⟨q.1.trans (by rw [if_pos (isB_y hk)]), q.2⟩) rfl (fun h2 hq73 => ?_)
                      subst hq73
                      refine r_if_eq (tgt := 86) (pc2 := 79) dX10_readLine_76 (by decide) rfl (fun b76 => ?_) (fun b76 => ?_)
                      · exact absurd b76 (by decide)
                      · skip
                        refine r_aload_n (pc2 := 80) 0 dX10_readLine_79 rfl rfl rfl rfl ?_
                        refine r_callV0 (pc2 := 83) (As := []) (st := []) kX10_213 rfl rfl dX10_readLine_80 c117 (by decide) rfl rfl (Nat.le_of_ble_eq_true rfl) (by omega) (C_cart ht (by omega) hT) rfl (fun h hq80 => ?_)
                        obtain ⟨hxq, hq⟩ := hq80
                        have hx := hx.trans hxq (by decide)
                        refine r_goto (pc2 := 151) dX10_readLine_83 (by decide) ?_
                        exact r_vret rfl dX10_readLine_151 (RQ.L ⟨rfl, hx, hq⟩)
                    · exact absurd b54 (by decide)
                · exact absurd b29 (by decide)
              · exact absurd b13 (by decide)
            · exact absurd hR.good b4
          · have n9 := hk
            by_cases hk : lxK tp n p = 11
            · have eG : pLine tp n p fr = bnd (pNx tp n p fr) (pSet tp n 0 (fun _ => 10) 27) := by unfold pLine; rw [if_neg n3, if_neg n7, if_neg n8, if_neg n22, if_neg n9, if_pos hk]
              rw [eG]
              refine Cn.go (ls := [.ref 117]) (by decide +kernel) rfl (Nat.le_of_ble_eq_true rfl) ?_
              refine r_aload_n (pc2 := 1) 0 dX10_readLine_0 rfl rfl rfl rfl ?_
              refine r_getf (pc2 := 4) (v := .int (v 11)) fX10_136 dX10_readLine_1 c117 (by decide) rfl rfl ?_
              refine r_if_eq (tgt := 8) (pc2 := 7) dX10_readLine_4 (by decide) rfl (fun b4 => ?_) (fun b4 => ?_)
              · skip
                refine r_aload_n (pc2 := 9) 0 dX10_readLine_8 rfl rfl rfl rfl ?_
                refine r_iconst (pc2 := 10) (v := 3) dX10_readLine_9 (by decide) rfl ?_
                refine r_callV1 (pc2 := 13) (As := [.int 3]) (st := []) kX10_142 rfl rfl dX10_readLine_10 c117 (by decide) rfl rfl (Nat.le_of_ble_eq_true rfl) (by omega) ((G_is (k := 3) (by decide) hT).mono fun r h2 q => ⟨q.1.trans (by rw [if_neg (isB_n (by rw [hk]; decide))]), q.2⟩) rfl (fun h2 hq10 => ?_)
                subst hq10
                refine r_if_eq (tgt := 23) (pc2 := 16) dX10_readLine_13 (by decide) rfl (fun b13 => ?_) (fun b13 => ?_)
                · skip
                  refine r_aload_n (pc2 := 24) 0 dX10_readLine_23 rfl rfl rfl rfl ?_
                  refine r_bipush (pc2 := 26) (v := 7) dX10_readLine_24 (by decide) rfl ?_
                  refine r_callV1 (pc2 := 29) (As := [.int 7]) (st := []) kX10_142 rfl rfl dX10_readLine_26 c117 (by decide) rfl rfl (Nat.le_of_ble_eq_true rfl) (by omega) ((G_is (k := 7) (by decide) hT).mono fun r h2 q => ⟨q.1.trans (by rw [if_neg (isB_n (by rw [hk]; decide))]), q.2⟩) rfl (fun h2 hq26 => ?_)
                  subst hq26
                  refine r_if_eq (tgt := 39) (pc2 := 32) dX10_readLine_29 (by decide) rfl (fun b29 => ?_) (fun b29 => ?_)
                  · skip
                    refine r_aload_n (pc2 := 40) 0 dX10_readLine_39 rfl rfl rfl rfl ?_
                    refine r_bipush (pc2 := 42) (v := 8) dX10_readLine_40 (by decide) rfl ?_
                    refine r_callV1 (pc2 := 45) (As := [.int 8]) (st := []) kX10_142 rfl rfl dX10_readLine_42 c117 (by decide) rfl rfl (Nat.le_of_ble_eq_true rfl) (by omega) ((G_is (k := 8) (by decide) hT).mono fun r h2 q => ⟨q.1.trans (by rw [if_neg (isB_n (by rw [hk]; decide))]), q.2⟩) rfl (fun h2 hq42 => ?_)
                    subst hq42
                    refine r_if_ne (tgt := 57) (pc2 := 48) dX10_readLine_45 (by decide) rfl (fun b45 => ?_) (fun b45 => ?_)
                    · exact absurd b45 (by decide)
                    · skip
                      refine r_aload_n (pc2 := 49) 0 dX10_readLine_48 rfl rfl rfl rfl ?_
                      refine r_bipush (pc2 := 51) (v := 22) dX10_readLine_49 (by decide) rfl ?_
                      refine r_callV1 (pc2 := 54) (As := [.int 22]) (st := []) kX10_142 rfl rfl dX10_readLine_51 c117 (by decide) rfl rfl (Nat.le_of_ble_eq_true rfl) (by omega) ((G_is (k := 22) (by decide) hT).mono fun r h2 q => ⟨q.1.trans (by rw [if_neg (isB_n (by rw [hk]; decide))]), q.2⟩) rfl (fun h2 hq51 => ?_)
                      subst hq51
                      refine r_if_eq (tgt := 70) (pc2 := 57) dX10_readLine_54 (by decide) rfl (fun b54 => ?_) (fun b54 => ?_)
                      · skip
                        refine r_aload_n (pc2 := 71) 0 dX10_readLine_70 rfl rfl rfl rfl ?_
                        refine r_bipush (pc2 := 73) (v := 9) dX10_readLine_71 (by decide) rfl ?_
                        refine r_callV1 (pc2 := 76) (As := [.int 9]) (st := []) kX10_142 rfl rfl dX10_readLine_73 c117 (by decide) rfl rfl (Nat.le_of_ble_eq_true rfl) (by omega) ((G_is (k := 9) (by decide) hT).mono fun r h2 q => ⟨q.1.trans (by rw [if_neg (isB_n (by rw [hk]; decide))]), q.2⟩) rfl (fun h2 hq73 => ?_)
                        subst hq73
                        refine r_if_eq (tgt := 86) (pc2 := 79) dX10_readLine_76 (by decide) rfl (fun b76 => ?_) (fun b76 => ?_)
                        · skip
                          refine r_aload_n (pc2 := 87) 0 dX10_readLine_86 rfl rfl rfl rfl ?_
                          refine r_bipush (pc2 := 89) (v := 11) dX10_readLine_87 (by decide) rfl ?_
                          refine r_callV1 (pc2 := 92) (As := [.int 11]) (st := []) kX10_171 rfl rfl dX10_readLine_89 c117 (by decide) rfl rfl (Nat.le_of_ble_eq_true rfl) (by omega) ((G_eats (x := .ok (p, fr)) (k := 11) (by decide) ht (by omega) hT).mono fun r h2 q => RQ.cast (r1 := some (.int 1)) (y := pNx tp n p fr) q (by rw [if_pos (isB_y hk)]) (if_pos (isB_y hk))) rfl (fun h hq89 => ?_)
                          obtain ⟨hxc, hT⟩ := hq89
                          have hx := hx.trans hxc (by decide)
                          have hTo := hT
                          obtain ⟨v, g, c117, c120, c121, hN, hR⟩ := hTo
                          refine r_if_eq (tgt := 112) (pc2 := 95) dX10_readLine_92 (by decide) rfl (fun b92 => ?_) (fun b92 => ?_)
                          · exact absurd b92 (by decide)
                          · skip
                            refine r_aload_n (pc2 := 96) 0 dX10_readLine_95 rfl rfl rfl rfl ?_
                            refine r_getf (pc2 := 99) (v := .ref 121) fX10_24 dX10_readLine_96 c117 (by decide) rfl rfl ?_
                            refine r_bipush (pc2 := 101) (v := 27) dX10_readLine_99 (by decide) rfl ?_
                            refine r_aload_n (pc2 := 102) 0 dX10_readLine_101 rfl rfl rfl rfl ?_
                            refine r_iconst (pc2 := 103) (v := 0) dX10_readLine_102 (by decide) rfl ?_
                            refine r_bipush (pc2 := 105) (v := 9) dX10_readLine_103 (by decide) rfl ?_
                            refine r_callV2 (pc2 := 108) (As := [.int 0, .int 9]) (st := [.int 27, .ref 121]) kX10_192 rfl rfl dX10_readLine_105 c117 (by decide) rfl rfl (Nat.le_of_ble_eq_true rfl) (by omega) (G_takes (x := (pNx tp n p fr)) (lo := 0) (H := (fun _ => 10)) (fun p2 L2 z => ⟨rfl, by decide, (show (10 : Nat) ≤ 1000 by decide)⟩) (by decide) ht (by omega) hT) rfl (fun v105 h hq105 => ?_)
                            obtain ⟨z105, rfl, hxc, hz105, hT⟩ := hq105
                            have hx := hx.trans hxc (by decide)
                            have hTo := hT
                            obtain ⟨v, g, c117, c120, c121, hN, hR⟩ := hTo
                            refine r_iastN (pc2 := 109) 27 dX10_readLine_108 c121 (by decide) rfl (by decide) (by decide) rfl (fun h z108 o108 c121 => ?_)
                            have c117 := (o108 117 (by decide)).trans c117
                            have c120 := (o108 120 (by decide)).trans c120
                            have hx := hx.step (a := 121) (by decide) z108 o108
                            refine r_goto (pc2 := 151) dX10_readLine_109 (by decide) ?_
                            exact r_vret rfl dX10_readLine_151 (RQ.L ⟨rfl, hx, v, _, c117, c120, c121, hN, RV_set (i := 27) hR hz105⟩)
                        · exact absurd b76 (by decide)
                      · exact absurd b54 (by decide)
                  · exact absurd b29 (by decide)
                · exact absurd b13 (by decide)
              · exact absurd hR.good b4
            · have n11 := hk
              by_cases hk : lxK tp n p = 10
              · have eG : pLine tp n p fr = pLaw tp n 0 p fr := by unfold pLine; rw [if_neg n3, if_neg n7, if_neg n8, if_neg n22, if_neg n9, if_neg n11, if_pos hk]
                rw [eG]
                refine Cn.go (ls := [.ref 117]) (by decide +kernel) rfl (Nat.le_of_ble_eq_true rfl) ?_
                refine r_aload_n (pc2 := 1) 0 dX10_readLine_0 rfl rfl rfl rfl ?_
                refine r_getf (pc2 := 4) (v := .int (v 11)) fX10_136 dX10_readLine_1 c117 (by decide) rfl rfl ?_
                refine r_if_eq (tgt := 8) (pc2 := 7) dX10_readLine_4 (by decide) rfl (fun b4 => ?_) (fun b4 => ?_)
                · skip
                  refine r_aload_n (pc2 := 9) 0 dX10_readLine_8 rfl rfl rfl rfl ?_
                  refine r_iconst (pc2 := 10) (v := 3) dX10_readLine_9 (by decide) rfl ?_
                  refine r_callV1 (pc2 := 13) (As := [.int 3]) (st := []) kX10_142 rfl rfl dX10_readLine_10 c117 (by decide) rfl rfl (Nat.le_of_ble_eq_true rfl) (by omega) ((G_is (k := 3) (by decide) hT).mono fun r h2 q => ⟨q.1.trans (by rw [if_neg (isB_n (by rw [hk]; decide))]), q.2⟩) rfl (fun h2 hq10 => ?_)
                  subst hq10
                  refine r_if_eq (tgt := 23) (pc2 := 16) dX10_readLine_13 (by decide) rfl (fun b13 => ?_) (fun b13 => ?_)
                  · skip
                    refine r_aload_n (pc2 := 24) 0 dX10_readLine_23 rfl rfl rfl rfl ?_
                    refine r_bipush (pc2 := 26) (v := 7) dX10_readLine_24 (by decide) rfl ?_
                    refine r_callV1 (pc2 := 29) (As := [.int 7]) (st := []) kX10_142 rfl rfl dX10_readLine_26 c117 (by decide) rfl rfl (Nat.le_of_ble_eq_true rfl) (by omega) ((G_is (k := 7) (by decide) hT).mono fun r h2 q => ⟨q.1.trans (by rw [if_neg (isB_n (by rw [hk]; decide))]), q.2⟩) rfl (fun h2 hq26 => ?_)
                    subst hq26
                    refine r_if_eq (tgt := 39) (pc2 := 32) dX10_readLine_29 (by decide) rfl (fun b29 => ?_) (fun b29 => ?_)
                    · skip
                      refine r_aload_n (pc2 := 40) 0 dX10_readLine_39 rfl rfl rfl rfl ?_
                      refine r_bipush (pc2 := 42) (v := 8) dX10_readLine_40 (by decide) rfl ?_
                      refine r_callV1 (pc2 := 45) (As := [.int 8]) (st := []) kX10_142 rfl rfl dX10_readLine_42 c117 (by decide) rfl rfl (Nat.le_of_ble_eq_true rfl) (by omega) ((G_is (k := 8) (by decide) hT).mono fun r h2 q => ⟨q.1.trans (by rw [if_neg (isB_n (by rw [hk]; decide))]), q.2⟩) rfl (fun h2 hq42 => ?_)
                      subst hq42
                      refine r_if_ne (tgt := 57) (pc2 := 48) dX10_readLine_45 (by decide) rfl (fun b45 => ?_) (fun b45 => ?_)
                      · exact absurd b45 (by decide)
                      · skip
                        refine r_aload_n (pc2 := 49) 0 dX10_readLine_48 rfl rfl rfl rfl ?_
                        refine r_bipush (pc2 := 51) (v := 22) dX10_readLine_49 (by decide) rfl ?_
                        refine r_callV1 (pc2 := 54) (As := [.int 22]) (st := []) kX10_142 rfl rfl dX10_readLine_51 c117 (by decide) rfl rfl (Nat.le_of_ble_eq_true rfl) (by omega) ((G_is (k := 22) (by decide) hT).mono fun r h2 q => ⟨q.1.trans (by rw [if_neg (isB_n (by rw [hk]; decide))]), q.2⟩) rfl (fun h2 hq51 => ?_)
                        subst hq51
                        refine r_if_eq (tgt := 70) (pc2 := 57) dX10_readLine_54 (by decide) rfl (fun b54 => ?_) (fun b54 => ?_)
                        · skip
                          refine r_aload_n (pc2 := 71) 0 dX10_readLine_70 rfl rfl rfl rfl ?_
                          refine r_bipush (pc2 := 73) (v := 9) dX10_readLine_71 (by decide) rfl ?_
                          refine r_callV1 (pc2 := 76) (As := [.int 9]) (st := []) kX10_142 rfl rfl dX10_readLine_73 c117 (by decide) rfl rfl (Nat.le_of_ble_eq_true rfl) (by omega) ((G_is (k := 9) (by decide) hT).mono fun r h2 q => ⟨q.1.trans (by rw [if_neg (isB_n (by rw [hk]; decide))]), q.2⟩) rfl (fun h2 hq73 => ?_)
                          subst hq73
                          refine r_if_eq (tgt := 86) (pc2 := 79) dX10_readLine_76 (by decide) rfl (fun b76 => ?_) (fun b76 => ?_)
                          · skip
                            refine r_aload_n (pc2 := 87) 0 dX10_readLine_86 rfl rfl rfl rfl ?_
                            refine r_bipush (pc2 := 89) (v := 11) dX10_readLine_87 (by decide) rfl ?_
                            refine r_callV1 (pc2 := 92) (As := [.int 11]) (st := []) kX10_171 rfl rfl dX10_readLine_89 c117 (by decide) rfl rfl (Nat.le_of_ble_eq_true rfl) (by omega) ((G_eats (x := (.ok (p, fr))) (k := 11) (by decide) ht (by omega) hT).mono fun r h2 q => RQ.cast (r1 := some (.int 0)) (y := (.ok (p, fr))) q (by rw [if_neg (isB_n (by rw [hk]; decide))]) (if_neg (isB_n (by rw [hk]; decide)))) rfl (fun h hq89 => ?_)
                            obtain ⟨hxc, hT⟩ := hq89
                            have hx := hx.trans hxc (by decide)
                            have hTo := hT
                            obtain ⟨v, g, c117, c120, c121, hN, hR⟩ := hTo
                            refine r_if_eq (tgt := 112) (pc2 := 95) dX10_readLine_92 (by decide) rfl (fun b92 => ?_) (fun b92 => ?_)
                            · skip
                              refine r_aload_n (pc2 := 113) 0 dX10_readLine_112 rfl rfl rfl rfl ?_
                              refine r_bipush (pc2 := 115) (v := 10) dX10_readLine_113 (by decide) rfl ?_
                              refine r_callV1 (pc2 := 118) (As := [.int 10]) (st := []) kX10_142 rfl rfl dX10_readLine_115 c117 (by decide) rfl rfl (Nat.le_of_ble_eq_true rfl) (by omega) ((G_is (k := 10) (by decide) hT).mono fun r h2 q => ⟨q.1.trans (by rw [if_pos (isB_y hk)]), q.2⟩) rfl (fun h2 hq115 => ?_)
                              subst hq115
                              refine r_if_eq (tgt := 129) (pc2 := 121) dX10_readLine_118 (by decide) rfl (fun b118 => ?_) (fun b118 => ?_)
                              · exact absurd b118 (by decide)
                              · skip
                                refine r_aload_n (pc2 := 122) 0 dX10_readLine_121 rfl rfl rfl rfl ?_
                                refine r_iconst (pc2 := 123) (v := 0) dX10_readLine_122 (by decide) rfl ?_
                                refine r_callV0 (pc2 := 126) (As := [.int 0]) (st := []) kX10_216 rfl rfl dX10_readLine_123 c117 (by decide) rfl rfl (Nat.le_of_ble_eq_true rfl) (by omega) (C_law0 ht (by omega) hW hT) rfl (fun h hq123 => ?_)
                                obtain ⟨hxq, hq⟩ := hq123
                                have hx := hx.trans hxq (by decide)
                                refine r_goto (pc2 := 151) dX10_readLine_126 (by decide) ?_
                                exact r_vret rfl dX10_readLine_151 ⟨rfl, hx, hq⟩
                            · exact absurd b92 (by decide)
                          · exact absurd b76 (by decide)
                        · exact absurd b54 (by decide)
                    · exact absurd b29 (by decide)
                  · exact absurd b13 (by decide)
                · exact absurd hR.good b4
              · have n10 := hk
                by_cases hk : lxK tp n p = 12
                · have eG : pLine tp n p fr = pLaw tp n 1 p fr := by unfold pLine; rw [if_neg n3, if_neg n7, if_neg n8, if_neg n22, if_neg n9, if_neg n11, if_neg n10, if_pos hk]
                  rw [eG]
                  refine Cn.go (ls := [.ref 117]) (by decide +kernel) rfl (Nat.le_of_ble_eq_true rfl) ?_
                  refine r_aload_n (pc2 := 1) 0 dX10_readLine_0 rfl rfl rfl rfl ?_
                  refine r_getf (pc2 := 4) (v := .int (v 11)) fX10_136 dX10_readLine_1 c117 (by decide) rfl rfl ?_
                  refine r_if_eq (tgt := 8) (pc2 := 7) dX10_readLine_4 (by decide) rfl (fun b4 => ?_) (fun b4 => ?_)
                  · skip
                    refine r_aload_n (pc2 := 9) 0 dX10_readLine_8 rfl rfl rfl rfl ?_
                    refine r_iconst (pc2 := 10) (v := 3) dX10_readLine_9 (by decide) rfl ?_
                    refine r_callV1 (pc2 := 13) (As := [.int 3]) (st := []) kX10_142 rfl rfl dX10_readLine_10 c117 (by decide) rfl rfl (Nat.le_of_ble_eq_true rfl) (by omega) ((G_is (k := 3) (by decide) hT).mono fun r h2 q => ⟨q.1.trans (by rw [if_neg (isB_n (by rw [hk]; decide))]), q.2⟩) rfl (fun h2 hq10 => ?_)
                    subst hq10
                    refine r_if_eq (tgt := 23) (pc2 := 16) dX10_readLine_13 (by decide) rfl (fun b13 => ?_) (fun b13 => ?_)
                    · skip
                      refine r_aload_n (pc2 := 24) 0 dX10_readLine_23 rfl rfl rfl rfl ?_
                      refine r_bipush (pc2 := 26) (v := 7) dX10_readLine_24 (by decide) rfl ?_
                      refine r_callV1 (pc2 := 29) (As := [.int 7]) (st := []) kX10_142 rfl rfl dX10_readLine_26 c117 (by decide) rfl rfl (Nat.le_of_ble_eq_true rfl) (by omega) ((G_is (k := 7) (by decide) hT).mono fun r h2 q => ⟨q.1.trans (by rw [if_neg (isB_n (by rw [hk]; decide))]), q.2⟩) rfl (fun h2 hq26 => ?_)
                      subst hq26
                      refine r_if_eq (tgt := 39) (pc2 := 32) dX10_readLine_29 (by decide) rfl (fun b29 => ?_) (fun b29 => ?_)
                      · skip
                        refine r_aload_n (pc2 := 40) 0 dX10_readLine_39 rfl rfl rfl rfl ?_
                        refine r_bipush (pc2 := 42) (v := 8) dX10_readLine_40 (by decide) rfl ?_
                        refine r_callV1 (pc2 := 45) (As := [.int 8]) (st := []) kX10_142 rfl rfl dX10_readLine_42 c117 (by decide) rfl rfl (Nat.le_of_ble_eq_true rfl) (by omega) ((G_is (k := 8) (by decide) hT).mono fun r h2 q => ⟨q.1.trans (by rw [if_neg (isB_n (by rw [hk]; decide))]), q.2⟩) rfl (fun h2 hq42 => ?_)
                        subst hq42
                        refine r_if_ne (tgt := 57) (pc2 := 48) dX10_readLine_45 (by decide) rfl (fun b45 => ?_) (fun b45 => ?_)
                        · exact absurd b45 (by decide)
                        · skip
                          refine r_aload_n (pc2 := 49) 0 dX10_readLine_48 rfl rfl rfl rfl ?_
                          refine r_bipush (pc2 := 51) (v := 22) dX10_readLine_49 (by decide) rfl ?_
                          refine r_callV1 (pc2 := 54) (As := [.int 22]) (st := []) kX10_142 rfl rfl dX10_readLine_51 c117 (by decide) rfl rfl (Nat.le_of_ble_eq_true rfl) (by omega) ((G_is (k := 22) (by decide) hT).mono fun r h2 q => ⟨q.1.trans (by rw [if_neg (isB_n (by rw [hk]; decide))]), q.2⟩) rfl (fun h2 hq51 => ?_)
                          subst hq51
                          refine r_if_eq (tgt := 70) (pc2 := 57) dX10_readLine_54 (by decide) rfl (fun b54 => ?_) (fun b54 => ?_)
                          · skip
                            refine r_aload_n (pc2 := 71) 0 dX10_readLine_70 rfl rfl rfl rfl ?_
                            refine r_bipush (pc2 := 73) (v := 9) dX10_readLine_71 (by decide) rfl ?_
                            refine r_callV1 (pc2 := 76) (As := [.int 9]) (st := []) kX10_142 rfl rfl dX10_readLine_73 c117 (by decide) rfl rfl (Nat.le_of_ble_eq_true rfl) (by omega) ((G_is (k := 9) (by decide) hT).mono fun r h2 q => ⟨q.1.trans (by rw [if_neg (isB_n (by rw [hk]; decide))]), q.2⟩) rfl (fun h2 hq73 => ?_)
                            subst hq73
                            refine r_if_eq (tgt := 86) (pc2 := 79) dX10_readLine_76 (by decide) rfl (fun b76 => ?_) (fun b76 => ?_)
                            · skip
                              refine r_aload_n (pc2 := 87) 0 dX10_readLine_86 rfl rfl rfl rfl ?_
                              refine r_bipush (pc2 := 89) (v := 11) dX10_readLine_87 (by decide) rfl ?_
                              refine r_callV1 (pc2 := 92) (As := [.int 11]) (st := []) kX10_171 rfl rfl dX10_readLine_89 c117 (by decide) rfl rfl (Nat.le_of_ble_eq_true rfl) (by omega) ((G_eats (x := (.ok (p, fr))) (k := 11) (by decide) ht (by omega) hT).mono fun r h2 q => RQ.cast (r1 := some (.int 0)) (y := (.ok (p, fr))) q (by rw [if_neg (isB_n (by rw [hk]; decide))]) (if_neg (isB_n (by rw [hk]; decide)))) rfl (fun h hq89 => ?_)
                              obtain ⟨hxc, hT⟩ := hq89
                              have hx := hx.trans hxc (by decide)
                              have hTo := hT
                              obtain ⟨v, g, c117, c120, c121, hN, hR⟩ := hTo
                              refine r_if_eq (tgt := 112) (pc2 := 95) dX10_readLine_92 (by decide) rfl (fun b92 => ?_) (fun b92 => ?_)
                              · skip
                                refine r_aload_n (pc2 := 113) 0 dX10_readLine_112 rfl rfl rfl rfl ?_
                                refine r_bipush (pc2 := 115) (v := 10) dX10_readLine_113 (by decide) rfl ?_
                                refine r_callV1 (pc2 := 118) (As := [.int 10]) (st := []) kX10_142 rfl rfl dX10_readLine_115 c117 (by decide) rfl rfl (Nat.le_of_ble_eq_true rfl) (by omega) ((G_is (k := 10) (by decide) hT).mono fun r h2 q => ⟨q.1.trans (by rw [if_neg (isB_n (by rw [hk]; decide))]), q.2⟩) rfl (fun h2 hq115 => ?_)
                                subst hq115
                                refine r_if_eq (tgt := 129) (pc2 := 121) dX10_readLine_118 (by decide) rfl (fun b118 => ?_) (fun b118 => ?_)
                                · skip
                                  refine r_aload_n (pc2 := 130) 0 dX10_readLine_129 rfl rfl rfl rfl ?_
                                  refine r_bipush (pc2 := 132) (v := 12) dX10_readLine_130 (by decide) rfl ?_
                                  refine r_callV1 (pc2 := 135) (As := [.int 12]) (st := []) kX10_142 rfl rfl dX10_readLine_132 c117 (by decide) rfl rfl (Nat.le_of_ble_eq_true rfl) (by omega) ((G_is (k := 12) (by decide) hT).mono fun r h2 q => ⟨q.1.trans (by rw [if_pos (isB_y hk)]), q.2⟩) rfl (fun h2 hq132 => ?_)
                                  subst hq132
                                  refine r_if_eq (tgt := 146) (pc2 := 138) dX10_readLine_135 (by decide) rfl (fun b135 => ?_) (fun b135 => ?_)
                                  · exact absurd b135 (by decide)
                                  · skip
                                    refine r_aload_n (pc2 := 139) 0 dX10_readLine_138 rfl rfl rfl rfl ?_
                                    refine r_iconst (pc2 := 140) (v := 1) dX10_readLine_139 (by decide) rfl ?_
                                    refine r_callV0 (pc2 := 143) (As := [.int 1]) (st := []) kX10_216 rfl rfl dX10_readLine_140 c117 (by decide) rfl rfl (Nat.le_of_ble_eq_true rfl) (by omega) (C_law1 ht (by omega) hW hT) rfl (fun h hq140 => ?_)
                                    obtain ⟨hxq, hq⟩ := hq140
                                    have hx := hx.trans hxq (by decide)
                                    refine r_goto (pc2 := 151) dX10_readLine_143 (by decide) ?_
                                    exact r_vret rfl dX10_readLine_151 ⟨rfl, hx, hq⟩
                                · exact absurd b118 (by decide)
                              · exact absurd b92 (by decide)
                            · exact absurd b76 (by decide)
                          · exact absurd b54 (by decide)
                      · exact absurd b29 (by decide)
                    · exact absurd b13 (by decide)
                  · exact absurd hR.good b4
                · have n12 := hk
                  have eG : pLine tp n p fr = pFl tp n 2 p := by unfold pLine; rw [if_neg n3, if_neg n7, if_neg n8, if_neg n22, if_neg n9, if_neg n11, if_neg n10, if_neg n12]
                  rw [eG]
                  refine Cn.go (ls := [.ref 117]) (by decide +kernel) rfl (Nat.le_of_ble_eq_true rfl) ?_
                  refine r_aload_n (pc2 := 1) 0 dX10_readLine_0 rfl rfl rfl rfl ?_
                  refine r_getf (pc2 := 4) (v := .int (v 11)) fX10_136 dX10_readLine_1 c117 (by decide) rfl rfl ?_
                  refine r_if_eq (tgt := 8) (pc2 := 7) dX10_readLine_4 (by decide) rfl (fun b4 => ?_) (fun b4 => ?_)
                  · skip
                    refine r_aload_n (pc2 := 9) 0 dX10_readLine_8 rfl rfl rfl rfl ?_
                    refine r_iconst (pc2 := 10) (v := 3) dX10_readLine_9 (by decide) rfl ?_
                    refine r_callV1 (pc2 := 13) (As := [.int 3]) (st := []) kX10_142 rfl rfl dX10_readLine_10 c117 (by decide) rfl rfl (Nat.le_of_ble_eq_true rfl) (by omega) ((G_is (k := 3) (by decide) hT).mono fun r h2 q => ⟨q.1.trans (by rw [if_neg (isB_n n3)]), q.2⟩) rfl (fun h2 hq10 => ?_)
                    subst hq10
                    refine r_if_eq (tgt := 23) (pc2 := 16) dX10_readLine_13 (by decide) rfl (fun b13 => ?_) (fun b13 => ?_)
                    · skip
                      refine r_aload_n (pc2 := 24) 0 dX10_readLine_23 rfl rfl rfl rfl ?_
                      refine r_bipush (pc2 := 26) (v := 7) dX10_readLine_24 (by decide) rfl ?_
                      refine r_callV1 (pc2 := 29) (As := [.int 7]) (st := []) kX10_142 rfl rfl dX10_readLine_26 c117 (by decide) rfl rfl (Nat.le_of_ble_eq_true rfl) (by omega) ((G_is (k := 7) (by decide) hT).mono fun r h2 q => ⟨q.1.trans (by rw [if_neg (isB_n n7)]), q.2⟩) rfl (fun h2 hq26 => ?_)
                      subst hq26
                      refine r_if_eq (tgt := 39) (pc2 := 32) dX10_readLine_29 (by decide) rfl (fun b29 => ?_) (fun b29 => ?_)
                      · skip
                        refine r_aload_n (pc2 := 40) 0 dX10_readLine_39 rfl rfl rfl rfl ?_
                        refine r_bipush (pc2 := 42) (v := 8) dX10_readLine_40 (by decide) rfl ?_
                        refine r_callV1 (pc2 := 45) (As := [.int 8]) (st := []) kX10_142 rfl rfl dX10_readLine_42 c117 (by decide) rfl rfl (Nat.le_of_ble_eq_true rfl) (by omega) ((G_is (k := 8) (by decide) hT).mono fun r h2 q => ⟨q.1.trans (by rw [if_neg (isB_n n8)]), q.2⟩) rfl (fun h2 hq42 => ?_)
                        subst hq42
                        refine r_if_ne (tgt := 57) (pc2 := 48) dX10_readLine_45 (by decide) rfl (fun b45 => ?_) (fun b45 => ?_)
                        · exact absurd b45 (by decide)
                        · skip
                          refine r_aload_n (pc2 := 49) 0 dX10_readLine_48 rfl rfl rfl rfl ?_
                          refine r_bipush (pc2 := 51) (v := 22) dX10_readLine_49 (by decide) rfl ?_
                          refine r_callV1 (pc2 := 54) (As := [.int 22]) (st := []) kX10_142 rfl rfl dX10_readLine_51 c117 (by decide) rfl rfl (Nat.le_of_ble_eq_true rfl) (by omega) ((G_is (k := 22) (by decide) hT).mono fun r h2 q => ⟨q.1.trans (by rw [if_neg (isB_n n22)]), q.2⟩) rfl (fun h2 hq51 => ?_)
                          subst hq51
                          refine r_if_eq (tgt := 70) (pc2 := 57) dX10_readLine_54 (by decide) rfl (fun b54 => ?_) (fun b54 => ?_)
                          · skip
                            refine r_aload_n (pc2 := 71) 0 dX10_readLine_70 rfl rfl rfl rfl ?_
                            refine r_bipush (pc2 := 73) (v := 9) dX10_readLine_71 (by decide) rfl ?_
                            refine r_callV1 (pc2 := 76) (As := [.int 9]) (st := []) kX10_142 rfl rfl dX10_readLine_73 c117 (by decide) rfl rfl (Nat.le_of_ble_eq_true rfl) (by omega) ((G_is (k := 9) (by decide) hT).mono fun r h2 q => ⟨q.1.trans (by rw [if_neg (isB_n n9)]), q.2⟩) rfl (fun h2 hq73 => ?_)
                            subst hq73
                            refine r_if_eq (tgt := 86) (pc2 := 79) dX10_readLine_76 (by decide) rfl (fun b76 => ?_) (fun b76 => ?_)
                            · skip
                              refine r_aload_n (pc2 := 87) 0 dX10_readLine_86 rfl rfl rfl rfl ?_
                              refine r_bipush (pc2 := 89) (v := 11) dX10_readLine_87 (by decide) rfl ?_
                              refine r_callV1 (pc2 := 92) (As := [.int 11]) (st := []) kX10_171 rfl rfl dX10_readLine_89 c117 (by decide) rfl rfl (Nat.le_of_ble_eq_true rfl) (by omega) ((G_eats (x := (.ok (p, fr))) (k := 11) (by decide) ht (by omega) hT).mono fun r h2 q => RQ.cast (r1 := some (.int 0)) (y := (.ok (p, fr))) q (by rw [if_neg (isB_n n11)]) (if_neg (isB_n n11))) rfl (fun h hq89 => ?_)
                              obtain ⟨hxc, hT⟩ := hq89
                              have hx := hx.trans hxc (by decide)
                              have hTo := hT
                              obtain ⟨v, g, c117, c120, c121, hN, hR⟩ := hTo
                              refine r_if_eq (tgt := 112) (pc2 := 95) dX10_readLine_92 (by decide) rfl (fun b92 => ?_) (fun b92 => ?_)
                              · skip
                                refine r_aload_n (pc2 := 113) 0 dX10_readLine_112 rfl rfl rfl rfl ?_
                                refine r_bipush (pc2 := 115) (v := 10) dX10_readLine_113 (by decide) rfl ?_
                                refine r_callV1 (pc2 := 118) (As := [.int 10]) (st := []) kX10_142 rfl rfl dX10_readLine_115 c117 (by decide) rfl rfl (Nat.le_of_ble_eq_true rfl) (by omega) ((G_is (k := 10) (by decide) hT).mono fun r h2 q => ⟨q.1.trans (by rw [if_neg (isB_n n10)]), q.2⟩) rfl (fun h2 hq115 => ?_)
                                subst hq115
                                refine r_if_eq (tgt := 129) (pc2 := 121) dX10_readLine_118 (by decide) rfl (fun b118 => ?_) (fun b118 => ?_)
                                · skip
                                  refine r_aload_n (pc2 := 130) 0 dX10_readLine_129 rfl rfl rfl rfl ?_
                                  refine r_bipush (pc2 := 132) (v := 12) dX10_readLine_130 (by decide) rfl ?_
                                  refine r_callV1 (pc2 := 135) (As := [.int 12]) (st := []) kX10_142 rfl rfl dX10_readLine_132 c117 (by decide) rfl rfl (Nat.le_of_ble_eq_true rfl) (by omega) ((G_is (k := 12) (by decide) hT).mono fun r h2 q => ⟨q.1.trans (by rw [if_neg (isB_n n12)]), q.2⟩) rfl (fun h2 hq132 => ?_)
                                  subst hq132
                                  refine r_if_eq (tgt := 146) (pc2 := 138) dX10_readLine_135 (by decide) rfl (fun b135 => ?_) (fun b135 => ?_)
                                  · skip
                                    refine r_aload_n (pc2 := 147) 0 dX10_readLine_146 rfl rfl rfl rfl ?_
                                    refine r_iconst (pc2 := 148) (v := 2) dX10_readLine_147 (by decide) rfl ?_
                                    refine r_callV0 (pc2 := 151) (As := [.int 2]) (st := []) kX10_148 rfl rfl dX10_readLine_148 c117 (by decide) rfl rfl (Nat.le_of_ble_eq_true rfl) (by omega) (G_fails (x := .ok (p, fr)) (f := 2) (by decide) (by decide) hT) rfl (fun h hq148 => ?_)
                                    obtain ⟨hxc, hT⟩ := hq148
                                    have hx := hx.trans hxc (by decide)
                                    have hTo := hT
                                    obtain ⟨v, g, c117, c120, c121, hN, hR⟩ := hTo
                                    exact r_vret rfl dX10_readLine_151 (RQ.L ⟨rfl, hx, hT⟩)
                                  · exact absurd b135 (by decide)
                                · exact absurd b118 (by decide)
                              · exact absurd b92 (by decide)
                            · exact absurd b76 (by decide)
                          · exact absurd b54 (by decide)
                      · exact absurd b29 (by decide)
                    · exact absurd b13 (by decide)
                  · exact absurd hR.good b4
