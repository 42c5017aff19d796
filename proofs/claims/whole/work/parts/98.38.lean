/-! the class's reader: sums, choices, atoms, truths -/
set_option maxRecDepth 20000 in
set_option maxHeartbeats 1000000 in
theorem K_sum {E : EnvT} {d : Nat} {tp : Nat → Nat} {n : Nat} {u : RLT} {e : Nat} {B : PF} (ht : TOk tp n) (hd : 6 ≤ d) (gA : Good n (pTerm tp n B)) (hA : CR E tp n u mX3_readTerm (d - 1) e (pTerm tp n B)) : CR E tp n u mX3_readSum d e (pSum tp n B) := by
  intro s h0 x hI hT hP
  have hn9 := ht.1
  have hx : Ex [65, 67] h0 h0 := Ex.rf
  obtain ⟨t, c, c65, hK, hC⟩ := id hT
  have eF : bnd x (pSum tp n B) = bnd (bnd x (pTerm tp n B)) (pAdd tp n (pTerm tp n B) 901) := by cases x <;> rfl
  rw [eF]
  have loop : ∀ (m i : Nat) (x : PX (List Nat)) (u2 : Value) (h : Hp), i + m = 901 → Ex [65, 67] h0 h → IV n 0 0 x → (∀ p L, x = .ok (p, L) → i ≤ p) → RLw tp n u e (s + 1) x h → TPo tp h → Fr E mX3_readSum d 6 [.ref 65, .int (nI i), u2] [] h (RLQ tp n u e (s + 1) h0 none (bnd x (pAdd tp n (pTerm tp n B) m))) := by
    intro m
    induction m with
    | zero =>
      intro i x u2 h hm hx hI hq hT hP
      obtain ⟨t, c, c65, hK, hC⟩ := id hT
      have hTx : RLw tp n u e (s + 1) (bnd x (pAdd tp n (pTerm tp n B) 0)) h := by
        match x, hI, hq, hT with
        | .error g, _, _, hT => exact hT
        | .ok (p, L), hI, hq, hT => exact hT
      refine r_iload_n (pc2 := 7) 1 dX3_readSum_6 rfl rfl rfl ?_
      refine r_sipush (pc2 := 10) (v := 900) dX3_readSum_7 (by decide) rfl ?_
      refine r_icmp_ge (tgt := 67) (pc2 := 13) dX3_readSum_10 (by decide) rfl (fun b10 => ?_) (fun b10 => ?_)
      · skip
        exact r_vret rfl dX3_readSum_67 ⟨rfl, hx, hTx⟩
      · exact absurd (nI_le (a := 900) (by omega) (by omega)) b10
    | succ m ih =>
      intro i x u2 h hm hx hI hq hT hP
      by_cases hlt : i < 900
      · refine x_cs (u := u) (e := e) (F := (pAdd tp n (pTerm tp n B) (m + 1))) (R := fun h x => Fr E mX3_readSum d 6 [.ref 65, .int (nI i), u2] [] h (RLQ tp n u e (s + 1) h0 none x)) (b_add _) (fun x y g => Fr.nrm x y g) hT (fun we ae hT => ?_) (fun p L ex h26 hT => ?_)
        · obtain ⟨t, c, c65, hK, hC⟩ := id hT
          refine r_iload_n (pc2 := 7) 1 dX3_readSum_6 rfl rfl rfl ?_
          refine r_sipush (pc2 := 10) (v := 900) dX3_readSum_7 (by decide) rfl ?_
          refine r_icmp_ge (tgt := 67) (pc2 := 13) dX3_readSum_10 (by decide) rfl (fun b10 => ?_) (fun b10 => ?_)
          · exact absurd b10 (nI_ge (b := 900) hlt (by decide))
          · skip
            refine r_aload_n (pc2 := 14) 0 dX3_readSum_13 rfl rfl rfl rfl ?_
            refine r_bipush (pc2 := 16) (v := 43) dX3_readSum_14 (by decide) rfl ?_
            refine r_callV1 (pc2 := 19) (As := [.int 43]) (st := []) kX3_92 rfl rfl dX3_readSum_16 c65 (by decide) rfl rfl (Nat.le_of_ble_eq_true rfl) (by omega) (X_signE (k := 2) (by decide) (by decide) ht (by omega) hP hT) rfl (fun h2 hq16 => ?_)
            obtain rfl := hq16.symm
            refine r_if_ne (tgt := 31) (pc2 := 22) dX3_readSum_19 (by decide) rfl (fun b19 => ?_) (fun b19 => ?_)
            · exact absurd b19 (by decide)
            · skip
              refine r_aload_n (pc2 := 23) 0 dX3_readSum_22 rfl rfl rfl rfl ?_
              refine r_bipush (pc2 := 25) (v := 45) dX3_readSum_23 (by decide) rfl ?_
              refine r_callV1 (pc2 := 28) (As := [.int 45]) (st := []) kX3_92 rfl rfl dX3_readSum_25 c65 (by decide) rfl rfl (Nat.le_of_ble_eq_true rfl) (by omega) (X_signE (k := 3) (by decide) (by decide) ht (by omega) hP hT) rfl (fun h2 hq25 => ?_)
              obtain rfl := hq25.symm
              refine r_if_eq (tgt := 67) (pc2 := 31) dX3_readSum_28 (by decide) rfl (fun b28 => ?_) (fun b28 => ?_)
              · skip
                exact r_vret rfl dX3_readSum_67 ⟨rfl, hx, hT⟩
              · exact absurd b28 (by decide)
        · subst ex
          obtain ⟨t, c, c65, hK, hC⟩ := id hT
          by_cases hk : lxK tp n p = 32
          · have i2 : IV n 0 (p + 1) (bnd (bnd (pNx tp n p L) (pTerm tp n B)) (pCo 3000)) := (((show IV n 0 p (.ok (p, L)) from ⟨Nat.le_refl _, hI.2.1, hI.2.2⟩).nx (by rw [hk]; decide)).b gA).co
            have eL : pAdd tp n (pTerm tp n B) (m + 1) p L = bnd (bnd (bnd (pNx tp n p L) (pTerm tp n B)) (pCo 3000)) (pAdd tp n (pTerm tp n B) m) := by rw [pAdd_s, if_pos (Or.inl hk), if_pos hk]
            rw [eL]
            refine r_iload_n (pc2 := 7) 1 dX3_readSum_6 rfl rfl rfl ?_
            refine r_sipush (pc2 := 10) (v := 900) dX3_readSum_7 (by decide) rfl ?_
            refine r_icmp_ge (tgt := 67) (pc2 := 13) dX3_readSum_10 (by decide) rfl (fun b10 => ?_) (fun b10 => ?_)
            · exact absurd b10 (nI_ge (b := 900) hlt (by decide))
            · skip
              refine r_aload_n (pc2 := 14) 0 dX3_readSum_13 rfl rfl rfl rfl ?_
              refine r_bipush (pc2 := 16) (v := 43) dX3_readSum_14 (by decide) rfl ?_
              refine r_callV1 (pc2 := 19) (As := [.int 43]) (st := []) kX3_92 rfl rfl dX3_readSum_16 c65 (by decide) rfl rfl (Nat.le_of_ble_eq_true rfl) (by omega) (X_signY (k := 2) (j := 32) (by decide) (by decide) rfl hk h26 ht (by omega) hP hT) rfl (fun h2 hq16 => ?_)
              obtain rfl := hq16.symm
              refine r_if_ne (tgt := 31) (pc2 := 22) dX3_readSum_19 (by decide) rfl (fun b19 => ?_) (fun b19 => ?_)
              · skip
                refine r_aload_n (pc2 := 32) 0 dX3_readSum_31 rfl rfl rfl rfl ?_
                refine r_bipush (pc2 := 34) (v := 43) dX3_readSum_32 (by decide) rfl ?_
                refine r_callV1 (pc2 := 37) (As := [.int 43]) (st := []) kX3_92 rfl rfl dX3_readSum_34 c65 (by decide) rfl rfl (Nat.le_of_ble_eq_true rfl) (by omega) (X_signY (k := 2) (j := 32) (by decide) (by decide) rfl hk h26 ht (by omega) hP hT) rfl (fun h2 hq34 => ?_)
                obtain rfl := hq34.symm
                refine r_if_eq (tgt := 45) (pc2 := 40) dX3_readSum_37 (by decide) rfl (fun b37 => ?_) (fun b37 => ?_)
                · exact absurd b37 (by decide)
                · skip
                  refine r_bipush (pc2 := 42) (v := -11) dX3_readSum_40 (by decide) rfl ?_
                  refine r_goto (pc2 := 47) dX3_readSum_42 (by decide) ?_
                  refine r_istore_n (pc2 := 48) (ls2 := [.ref 65, .int (nI i), .int (-11)]) 2 dX3_readSum_47 rfl (by decide) rfl rfl rfl ?_
                  refine r_aload_n (pc2 := 49) 0 dX3_readSum_48 rfl rfl rfl rfl ?_
                  refine r_callV0 (pc2 := 52) (As := []) (st := []) kX3_54 rfl rfl dX3_readSum_49 c65 (by decide) rfl rfl (Nat.le_of_ble_eq_true rfl) (by omega) (X_adv (p := p) (L := L) h26 (by rw [hk]; decide) ht (by omega) hP hT) rfl (fun h hq49 => ?_)
                  obtain ⟨hxc, hT⟩ := hq49
                  have hx := hx.trans hxc (by decide)
                  have hP := hP.ex hxc (by decide)
                  obtain ⟨t, c, c65, hK, hC⟩ := id hT
                  refine r_aload_n (pc2 := 53) 0 dX3_readSum_52 rfl rfl rfl rfl ?_
                  refine r_callV0 (pc2 := 56) (As := []) (st := []) kX3_225 rfl rfl dX3_readSum_53 c65 (by decide) rfl rfl (Nat.le_of_ble_eq_true rfl) (by omega) (hA _ (pNx tp n p L) (hI.nx (tp := tp) (by rw [hk]; decide)).w1 hT hP) rfl (fun h hq53 => ?_)
                  obtain ⟨hxc, hT⟩ := hq53
                  have hx := hx.trans hxc (by decide)
                  have hP := hP.ex hxc (by decide)
                  obtain ⟨t, c, c65, hK, hC⟩ := id hT
                  refine r_aload_n (pc2 := 57) 0 dX3_readSum_56 rfl rfl rfl rfl ?_
                  refine r_iload_n (pc2 := 58) 2 dX3_readSum_57 rfl rfl rfl ?_
                  refine r_callV0 (pc2 := 61) (As := [.int (-11)]) (st := []) kX3_230 rfl rfl dX3_readSum_58 c65 (by decide) rfl rfl (Nat.le_of_ble_eq_true rfl) (by omega) (X_emit (x := bnd (pNx tp n p L) (pTerm tp n B)) (co := 3000) (fun p2 L2 z => by have := ((hI.nx (tp := tp) (by rw [hk]; decide)).b gA).len ht.1 p2 L2 z; omega) (by decide) hT) rfl (fun h hq58 => ?_)
                  obtain ⟨hxc, hT⟩ := hq58
                  have hx := hx.trans hxc (by decide)
                  have hP := hP.ex hxc (by decide)
                  obtain ⟨t, c, c65, hK, hC⟩ := id hT
                  obtain ⟨xi, e61⟩ : ∃ z : Int32, z = (nI i) + (1) := ⟨_, rfl⟩
                  refine r_iinc (pc2 := 64) (ls2 := [.ref 65, .int xi, .int (-11)]) (v := xi) 1 dX3_readSum_61 rfl (by rw [e61]; rfl) rfl rfl rfl ?_
                  refine r_goto (pc2 := 6) dX3_readSum_64 (by decide) ?_
                  rw [show xi = nI (i + 1) from e61.trans (nI_1 _)]
                  exact ih (i + 1) (bnd (bnd (pNx tp n p L) (pTerm tp n B)) (pCo 3000)) _ h (by omega) hx i2.w0 (fun p2 L2 z => by rw [z] at i2; have := i2.1; have := hq p L rfl; omega) hT hP
              · exact absurd b19 (by decide)
          · have n32 := hk
            by_cases hk : lxK tp n p = 33
            · have i2 : IV n 0 (p + 1) (bnd (bnd (pNx tp n p L) (pTerm tp n B)) (pCo 3001)) := (((show IV n 0 p (.ok (p, L)) from ⟨Nat.le_refl _, hI.2.1, hI.2.2⟩).nx (by rw [hk]; decide)).b gA).co
              have eL : pAdd tp n (pTerm tp n B) (m + 1) p L = bnd (bnd (bnd (pNx tp n p L) (pTerm tp n B)) (pCo 3001)) (pAdd tp n (pTerm tp n B) m) := by rw [pAdd_s, if_pos (Or.inr hk), if_neg n32]
              rw [eL]
              refine r_iload_n (pc2 := 7) 1 dX3_readSum_6 rfl rfl rfl ?_
              refine r_sipush (pc2 := 10) (v := 900) dX3_readSum_7 (by decide) rfl ?_
              refine r_icmp_ge (tgt := 67) (pc2 := 13) dX3_readSum_10 (by decide) rfl (fun b10 => ?_) (fun b10 => ?_)
              · exact absurd b10 (nI_ge (b := 900) hlt (by decide))
              · skip
                refine r_aload_n (pc2 := 14) 0 dX3_readSum_13 rfl rfl rfl rfl ?_
                refine r_bipush (pc2 := 16) (v := 43) dX3_readSum_14 (by decide) rfl ?_
                refine r_callV1 (pc2 := 19) (As := [.int 43]) (st := []) kX3_92 rfl rfl dX3_readSum_16 c65 (by decide) rfl rfl (Nat.le_of_ble_eq_true rfl) (by omega) (X_signN (k := 2) (j := 32) (by decide) (by decide) rfl (by rw [hk]; decide) h26 ht (by omega) hP hT) rfl (fun h2 hq16 => ?_)
                obtain rfl := hq16.symm
                refine r_if_ne (tgt := 31) (pc2 := 22) dX3_readSum_19 (by decide) rfl (fun b19 => ?_) (fun b19 => ?_)
                · exact absurd b19 (by decide)
                · skip
                  refine r_aload_n (pc2 := 23) 0 dX3_readSum_22 rfl rfl rfl rfl ?_
                  refine r_bipush (pc2 := 25) (v := 45) dX3_readSum_23 (by decide) rfl ?_
                  refine r_callV1 (pc2 := 28) (As := [.int 45]) (st := []) kX3_92 rfl rfl dX3_readSum_25 c65 (by decide) rfl rfl (Nat.le_of_ble_eq_true rfl) (by omega) (X_signY (k := 3) (j := 33) (by decide) (by decide) rfl hk h26 ht (by omega) hP hT) rfl (fun h2 hq25 => ?_)
                  obtain rfl := hq25.symm
                  refine r_if_eq (tgt := 67) (pc2 := 31) dX3_readSum_28 (by decide) rfl (fun b28 => ?_) (fun b28 => ?_)
                  · exact absurd b28 (by decide)
                  · skip
                    refine r_aload_n (pc2 := 32) 0 dX3_readSum_31 rfl rfl rfl rfl ?_
                    refine r_bipush (pc2 := 34) (v := 43) dX3_readSum_32 (by decide) rfl ?_
                    refine r_callV1 (pc2 := 37) (As := [.int 43]) (st := []) kX3_92 rfl rfl dX3_readSum_34 c65 (by decide) rfl rfl (Nat.le_of_ble_eq_true rfl) (by omega) (X_signN (k := 2) (j := 32) (by decide) (by decide) rfl (by rw [hk]; decide) h26 ht (by omega) hP hT) rfl (fun h2 hq34 => ?_)
                    obtain rfl := hq34.symm
                    refine r_if_eq (tgt := 45) (pc2 := 40) dX3_readSum_37 (by decide) rfl (fun b37 => ?_) (fun b37 => ?_)
                    · skip
                      refine r_bipush (pc2 := 47) (v := -12) dX3_readSum_45 (by decide) rfl ?_
                      refine r_istore_n (pc2 := 48) (ls2 := [.ref 65, .int (nI i), .int (-12)]) 2 dX3_readSum_47 rfl (by decide) rfl rfl rfl ?_
                      refine r_aload_n (pc2 := 49) 0 dX3_readSum_48 rfl rfl rfl rfl ?_
                      refine r_callV0 (pc2 := 52) (As := []) (st := []) kX3_54 rfl rfl dX3_readSum_49 c65 (by decide) rfl rfl (Nat.le_of_ble_eq_true rfl) (by omega) (X_adv (p := p) (L := L) h26 (by rw [hk]; decide) ht (by omega) hP hT) rfl (fun h hq49 => ?_)
                      obtain ⟨hxc, hT⟩ := hq49
                      have hx := hx.trans hxc (by decide)
                      have hP := hP.ex hxc (by decide)
                      obtain ⟨t, c, c65, hK, hC⟩ := id hT
                      refine r_aload_n (pc2 := 53) 0 dX3_readSum_52 rfl rfl rfl rfl ?_
                      refine r_callV0 (pc2 := 56) (As := []) (st := []) kX3_225 rfl rfl dX3_readSum_53 c65 (by decide) rfl rfl (Nat.le_of_ble_eq_true rfl) (by omega) (hA _ (pNx tp n p L) (hI.nx (tp := tp) (by rw [hk]; decide)).w1 hT hP) rfl (fun h hq53 => ?_)
                      obtain ⟨hxc, hT⟩ := hq53
                      have hx := hx.trans hxc (by decide)
                      have hP := hP.ex hxc (by decide)
                      obtain ⟨t, c, c65, hK, hC⟩ := id hT
                      refine r_aload_n (pc2 := 57) 0 dX3_readSum_56 rfl rfl rfl rfl ?_
                      refine r_iload_n (pc2 := 58) 2 dX3_readSum_57 rfl rfl rfl ?_
                      refine r_callV0 (pc2 := 61) (As := [.int (-12)]) (st := []) kX3_230 rfl rfl dX3_readSum_58 c65 (by decide) rfl rfl (Nat.le_of_ble_eq_true rfl) (by omega) (X_emit (x := bnd (pNx tp n p L) (pTerm tp n B)) (co := 3001) (fun p2 L2 z => by have := ((hI.nx (tp := tp) (by rw [hk]; decide)).b gA).len ht.1 p2 L2 z; omega) (by decide) hT) rfl (fun h hq58 => ?_)
                      obtain ⟨hxc, hT⟩ := hq58
                      have hx := hx.trans hxc (by decide)
                      have hP := hP.ex hxc (by decide)
                      obtain ⟨t, c, c65, hK, hC⟩ := id hT
                      obtain ⟨xi, e61⟩ : ∃ z : Int32, z = (nI i) + (1) := ⟨_, rfl⟩
                      refine r_iinc (pc2 := 64) (ls2 := [.ref 65, .int xi, .int (-12)]) (v := xi) 1 dX3_readSum_61 rfl (by rw [e61]; rfl) rfl rfl rfl ?_
                      refine r_goto (pc2 := 6) dX3_readSum_64 (by decide) ?_
                      rw [show xi = nI (i + 1) from e61.trans (nI_1 _)]
                      exact ih (i + 1) (bnd (bnd (pNx tp n p L) (pTerm tp n B)) (pCo 3001)) _ h (by omega) hx i2.w0 (fun p2 L2 z => by rw [z] at i2; have := i2.1; have := hq p L rfl; omega) hT hP
                    · exact absurd b37 (by decide)
            · have eL : pAdd tp n (pTerm tp n B) (m + 1) p L = .ok (p, L) := by rw [pAdd_s, if_neg (show ¬ (lxK tp n p = 32 ∨ lxK tp n p = 33) from fun z => Or.elim z n32 hk)]
              rw [eL]
              refine r_iload_n (pc2 := 7) 1 dX3_readSum_6 rfl rfl rfl ?_
              refine r_sipush (pc2 := 10) (v := 900) dX3_readSum_7 (by decide) rfl ?_
              refine r_icmp_ge (tgt := 67) (pc2 := 13) dX3_readSum_10 (by decide) rfl (fun b10 => ?_) (fun b10 => ?_)
              · exact absurd b10 (nI_ge (b := 900) hlt (by decide))
              · skip
                refine r_aload_n (pc2 := 14) 0 dX3_readSum_13 rfl rfl rfl rfl ?_
                refine r_bipush (pc2 := 16) (v := 43) dX3_readSum_14 (by decide) rfl ?_
                refine r_callV1 (pc2 := 19) (As := [.int 43]) (st := []) kX3_92 rfl rfl dX3_readSum_16 c65 (by decide) rfl rfl (Nat.le_of_ble_eq_true rfl) (by omega) (X_signN (k := 2) (j := 32) (by decide) (by decide) rfl n32 h26 ht (by omega) hP hT) rfl (fun h2 hq16 => ?_)
                obtain rfl := hq16.symm
                refine r_if_ne (tgt := 31) (pc2 := 22) dX3_readSum_19 (by decide) rfl (fun b19 => ?_) (fun b19 => ?_)
                · exact absurd b19 (by decide)
                · skip
                  refine r_aload_n (pc2 := 23) 0 dX3_readSum_22 rfl rfl rfl rfl ?_
                  refine r_bipush (pc2 := 25) (v := 45) dX3_readSum_23 (by decide) rfl ?_
                  refine r_callV1 (pc2 := 28) (As := [.int 45]) (st := []) kX3_92 rfl rfl dX3_readSum_25 c65 (by decide) rfl rfl (Nat.le_of_ble_eq_true rfl) (by omega) (X_signN (k := 3) (j := 33) (by decide) (by decide) rfl hk h26 ht (by omega) hP hT) rfl (fun h2 hq25 => ?_)
                  obtain rfl := hq25.symm
                  refine r_if_eq (tgt := 67) (pc2 := 31) dX3_readSum_28 (by decide) rfl (fun b28 => ?_) (fun b28 => ?_)
                  · skip
                    exact r_vret rfl dX3_readSum_67 ⟨rfl, hx, hT⟩
                  · exact absurd b28 (by decide)
      · obtain ⟨t, c, c65, hK, hC⟩ := id hT
        have hTx : RLw tp n u e (s + 1) (bnd x (pAdd tp n (pTerm tp n B) (m + 1))) h := by
          match x, hI, hq, hT with
          | .error g, _, _, hT => exact hT
          | .ok (p, L), hI, hq, hT =>
            show RLw tp n u e (s + 1) ((pAdd tp n (pTerm tp n B) (m + 1)) p L) h
            rw [add_end (by have := hq p L rfl; omega)]
            exact hT
        refine r_iload_n (pc2 := 7) 1 dX3_readSum_6 rfl rfl rfl ?_
        refine r_sipush (pc2 := 10) (v := 900) dX3_readSum_7 (by decide) rfl ?_
        refine r_icmp_ge (tgt := 67) (pc2 := 13) dX3_readSum_10 (by decide) rfl (fun b10 => ?_) (fun b10 => ?_)
        · skip
          exact r_vret rfl dX3_readSum_67 ⟨rfl, hx, hTx⟩
        · exact absurd (nI_le (a := 900) (by omega) (by omega)) b10
  refine Cn.go (ls := [.ref 65, .float 0, .float 0]) (by decide +kernel) rfl (Nat.le_of_ble_eq_true rfl) ?_
  refine r_aload_n (pc2 := 1) 0 dX3_readSum_0 rfl rfl rfl rfl ?_
  refine r_callV0 (pc2 := 4) (As := []) (st := []) kX3_225 rfl rfl dX3_readSum_1 c65 (by decide) rfl rfl (Nat.le_of_ble_eq_true rfl) (by omega) (hA _ x hI hT hP) rfl (fun h hq1 => ?_)
  obtain ⟨hxc, hT⟩ := hq1
  have hx := hx.trans hxc (by decide)
  have hP := hP.ex hxc (by decide)
  obtain ⟨t, c, c65, hK, hC⟩ := id hT
  refine r_iconst (pc2 := 5) (v := 0) dX3_readSum_4 (by decide) rfl ?_
  refine r_cast (nI 0) (rfl) ?_
  refine r_istore_n (pc2 := 6) (ls2 := [.ref 65, .int (nI 0), .float 0]) 1 dX3_readSum_5 rfl (by decide) rfl rfl rfl ?_
  exact loop 901 0 (bnd x (pTerm tp n B)) _ h rfl hx (hI.b gA) (fun _ _ _ => Nat.zero_le _) hT hP
set_option maxRecDepth 20000 in
set_option maxHeartbeats 1000000 in
theorem K_choice {h0 : Hp} {E : EnvT} {d : Nat} {tp : Nat → Nat} {n : Nat} {u : RLT} {rd b e s : Nat} {x : PX (List Nat)} (hb : b ≠ 0) (ht : TOk tp n) (hd : 8 * b + 6 ≤ d) (hS : b ≠ 0 → ∀ d, 8 * b + 1 ≤ d → CR E tp n u mX3_readSum d (e + 1) (sub1 tp n rd b)) (hU : b ≠ 0 → ∀ d, 8 * b + 5 ≤ d → CR E tp n u mX3_readTruth d (e + 1) (sub2 tp n rd b)) (hI : IV n (0 + 1) 0 x) (hT : RLw tp n u (e + 1) (s + 1 + 1) x h0) (hP : TPo tp h0) : Cn E mX3_readChoice d [.ref 65] h0 (RLQ tp n u (e + 1) (s + 1) h0 none (bnd (bnd (bnd (bnd (bnd (bnd (bnd x (sub2 tp n rd b)) (pEat tp n 14)) (sub1 tp n rd b)) (pEat tp n 15)) (sub1 tp n rd b)) (pEat tp n 16)) (pCo 3009))) := by
  have hx : Ex [65, 67] h0 h0 := Ex.rf
  obtain ⟨t, c, c65, hK, hC⟩ := id hT
  have i1 : IV n (0 + 1) 0 (bnd x (sub2 tp n rd b)) := hI.b (g_sub2 tp n rd b)
  have i2 : IV n (0 + 1) 0 (bnd (bnd x (sub2 tp n rd b)) (pEat tp n 14)) := i1.b g_eat
  have i3 : IV n (0 + 1) 0 (bnd (bnd (bnd x (sub2 tp n rd b)) (pEat tp n 14)) (sub1 tp n rd b)) := i2.b (g_sub1 tp n rd b)
  have i4 : IV n (0 + 1) 0 (bnd (bnd (bnd (bnd x (sub2 tp n rd b)) (pEat tp n 14)) (sub1 tp n rd b)) (pEat tp n 15)) := i3.b g_eat
  have i5 : IV n (0 + 1) 0 (bnd (bnd (bnd (bnd (bnd x (sub2 tp n rd b)) (pEat tp n 14)) (sub1 tp n rd b)) (pEat tp n 15)) (sub1 tp n rd b)) := i4.b (g_sub1 tp n rd b)
  have i6 : IV n (0 + 1) 0 (bnd (bnd (bnd (bnd (bnd (bnd x (sub2 tp n rd b)) (pEat tp n 14)) (sub1 tp n rd b)) (pEat tp n 15)) (sub1 tp n rd b)) (pEat tp n 16)) := i5.b g_eat
  refine Cn.go (ls := [.ref 65]) (by decide +kernel) rfl (Nat.le_of_ble_eq_true rfl) ?_
  refine r_aload_n (pc2 := 1) 0 dX3_readChoice_0 rfl rfl rfl rfl ?_
  refine r_callV0 (pc2 := 4) (As := []) (st := []) kX3_248 rfl rfl dX3_readChoice_1 c65 (by decide) rfl rfl (Nat.le_of_ble_eq_true rfl) (by omega) (hU hb _ (by omega) _ x hI.w1 hT hP) rfl (fun h hq1 => ?_)
  obtain ⟨hxc, hT⟩ := hq1
  have hx := hx.trans hxc (by decide)
  have hP := hP.ex hxc (by decide)
  obtain ⟨t, c, c65, hK, hC⟩ := id hT
  refine r_aload_n (pc2 := 5) 0 dX3_readChoice_4 rfl rfl rfl rfl ?_
  refine r_ldcS (pc2 := 7) 16 (by decide) rfl rfl dX3_readChoice_5 rfl ?_
  refine r_callV0 (pc2 := 10) (As := [.ref 16]) (st := []) kX3_99 rfl rfl dX3_readChoice_7 c65 (by decide) rfl rfl (Nat.le_of_ble_eq_true rfl) (by omega) (X_eatW (w := 16) (x := (bnd x (sub2 tp n rd b))) (by decide) ht (by omega) hP hT) rfl (fun h hq7 => ?_)
  obtain ⟨hxc, hT⟩ := hq7
  have hx := hx.trans hxc (by decide)
  have hP := hP.ex hxc (by decide)
  obtain ⟨t, c, c65, hK, hC⟩ := id hT
  refine r_aload_n (pc2 := 11) 0 dX3_readChoice_10 rfl rfl rfl rfl ?_
  refine r_callV0 (pc2 := 14) (As := []) (st := []) kX3_216 rfl rfl dX3_readChoice_11 c65 (by decide) rfl rfl (Nat.le_of_ble_eq_true rfl) (by omega) (hS hb _ (by omega) _ (bnd (bnd x (sub2 tp n rd b)) (pEat tp n 14)) i2.w1 hT hP) rfl (fun h hq11 => ?_)
  obtain ⟨hxc, hT⟩ := hq11
  have hx := hx.trans hxc (by decide)
  have hP := hP.ex hxc (by decide)
  obtain ⟨t, c, c65, hK, hC⟩ := id hT
  refine r_aload_n (pc2 := 15) 0 dX3_readChoice_14 rfl rfl rfl rfl ?_
  refine r_ldcS (pc2 := 17) 17 (by decide) rfl rfl dX3_readChoice_15 rfl ?_
  refine r_callV0 (pc2 := 20) (As := [.ref 17]) (st := []) kX3_99 rfl rfl dX3_readChoice_17 c65 (by decide) rfl rfl (Nat.le_of_ble_eq_true rfl) (by omega) (X_eatW (w := 17) (x := (bnd (bnd (bnd x (sub2 tp n rd b)) (pEat tp n 14)) (sub1 tp n rd b))) (by decide) ht (by omega) hP hT) rfl (fun h hq17 => ?_)
  obtain ⟨hxc, hT⟩ := hq17
  have hx := hx.trans hxc (by decide)
  have hP := hP.ex hxc (by decide)
  obtain ⟨t, c, c65, hK, hC⟩ := id hT
  refine r_aload_n (pc2 := 21) 0 dX3_readChoice_20 rfl rfl rfl rfl ?_
  refine r_callV0 (pc2 := 24) (As := []) (st := []) kX3_216 rfl rfl dX3_readChoice_21 c65 (by decide) rfl rfl (Nat.le_of_ble_eq_true rfl) (by omega) (hS hb _ (by omega) _ (bnd (bnd (bnd (bnd x (sub2 tp n rd b)) (pEat tp n 14)) (sub1 tp n rd b)) (pEat tp n 15)) i4.w1 hT hP) rfl (fun h hq21 => ?_)
  obtain ⟨hxc, hT⟩ := hq21
  have hx := hx.trans hxc (by decide)
  have hP := hP.ex hxc (by decide)
  obtain ⟨t, c, c65, hK, hC⟩ := id hT
  refine r_aload_n (pc2 := 25) 0 dX3_readChoice_24 rfl rfl rfl rfl ?_
  refine r_ldcS (pc2 := 27) 18 (by decide) rfl rfl dX3_readChoice_25 rfl ?_
  refine r_callV0 (pc2 := 30) (As := [.ref 18]) (st := []) kX3_99 rfl rfl dX3_readChoice_27 c65 (by decide) rfl rfl (Nat.le_of_ble_eq_true rfl) (by omega) (X_eatW (w := 18) (x := (bnd (bnd (bnd (bnd (bnd x (sub2 tp n rd b)) (pEat tp n 14)) (sub1 tp n rd b)) (pEat tp n 15)) (sub1 tp n rd b))) (by decide) ht (by omega) hP hT) rfl (fun h hq27 => ?_)
  obtain ⟨hxc, hT⟩ := hq27
  have hx := hx.trans hxc (by decide)
  have hP := hP.ex hxc (by decide)
  obtain ⟨t, c, c65, hK, hC⟩ := id hT
  refine r_aload_n (pc2 := 31) 0 dX3_readChoice_30 rfl rfl rfl rfl ?_
  refine r_bipush (pc2 := 33) (v := -20) dX3_readChoice_31 (by decide) rfl ?_
  refine r_callV0 (pc2 := 36) (As := [.int (-20)]) (st := []) kX3_230 rfl rfl dX3_readChoice_33 c65 (by decide) rfl rfl (Nat.le_of_ble_eq_true rfl) (by omega) (X_emit (x := (bnd (bnd (bnd (bnd (bnd (bnd x (sub2 tp n rd b)) (pEat tp n 14)) (sub1 tp n rd b)) (pEat tp n 15)) (sub1 tp n rd b)) (pEat tp n 16))) (co := 3009) (fun p2 L2 z => by have := i6.len ht.1 p2 L2 z; omega) (by decide) hT) rfl (fun h hq33 => ?_)
  obtain ⟨hxc, hT⟩ := hq33
  have hx := hx.trans hxc (by decide)
  have hP := hP.ex hxc (by decide)
  obtain ⟨t, c, c65, hK, hC⟩ := id hT
  exact r_vret rfl dX3_readChoice_36 ⟨rfl, hx, hT⟩
set_option maxRecDepth 20000 in
set_option maxHeartbeats 1000000 in
theorem K_atom {E : EnvT} {d : Nat} {tp : Nat → Nat} {n : Nat} {u : RLT} {rd b e : Nat} (hin : inOk rd u.2.1) (heb : e + b = 6) (ht : TOk tp n) (hd : 8 * b + 7 ≤ d) (hS : b ≠ 0 → ∀ d, 8 * b + 1 ≤ d → CR E tp n u mX3_readSum d (e + 1) (sub1 tp n rd b)) (hU : b ≠ 0 → ∀ d, 8 * b + 5 ≤ d → CR E tp n u mX3_readTruth d (e + 1) (sub2 tp n rd b)) : CR E tp n u mX3_readAtom d e (lvA tp n rd b) := by
  intro s h0 x hI hT hP
  have hn9 := ht.1
  have hx : Ex [65, 67] h0 h0 := Ex.rf
  refine x_cs (u := u) (e := e) (F := lvA tp n rd b) (R := fun h x => Cn E mX3_readAtom d [.ref 65] h (RLQ tp n u e (s + 1) h0 none x)) (b_lvA tp n rd b) (fun x y g => RLQ.nrm x y g) hT (fun we ae hT => ?_) (fun p L ex h26 hT => ?_)
  · obtain ⟨t, c, c65, hK, hC⟩ := id hT
    obtain ⟨s, e9, g1, g2, g3, rfl⟩ := hK
    have hK : TK tp n (yo tp n (.error (we, ae) : PX (List Nat))) (nI we, nI ae, 0, nI s, nI e9) := ⟨s, e9, g1, g2, g3, rfl⟩
    refine Cn.go (ls := [.ref 65, .float 0]) (by decide +kernel) rfl (Nat.le_of_ble_eq_true rfl) ?_
    refine r_aload_n (pc2 := 1) 0 dX3_readAtom_0 rfl rfl rfl rfl ?_
    refine r_getf (pc2 := 4) (v := .int 0) fX3_60 dX3_readAtom_1 c65 (by decide) rfl rfl ?_
    refine r_iconst (pc2 := 5) (v := 2) dX3_readAtom_4 (by decide) rfl ?_
    refine r_icmp_ne (tgt := 23) (pc2 := 8) dX3_readAtom_5 (by decide) rfl (fun b5 => ?_) (fun b5 => ?_)
    · skip
      refine r_aload_n (pc2 := 24) 0 dX3_readAtom_23 rfl rfl rfl rfl ?_
      refine r_bipush (pc2 := 26) (v := 40) dX3_readAtom_24 (by decide) rfl ?_
      refine r_callV1 (pc2 := 29) (As := [.int 40]) (st := []) kX3_92 rfl rfl dX3_readAtom_26 c65 (by decide) rfl rfl (Nat.le_of_ble_eq_true rfl) (by omega) (X_signE (k := 5) (by decide) (by decide) ht (by omega) hP hT) rfl (fun h2 hq26 => ?_)
      obtain rfl := hq26.symm
      refine r_if_eq (tgt := 62) (pc2 := 32) dX3_readAtom_29 (by decide) rfl (fun b29 => ?_) (fun b29 => ?_)
      · skip
        refine r_aload_n (pc2 := 63) 0 dX3_readAtom_62 rfl rfl rfl rfl ?_
        refine r_ldcS (pc2 := 65) 13 (by decide) rfl rfl dX3_readAtom_63 rfl ?_
        refine r_callV1 (pc2 := 68) (As := [.ref 13]) (st := []) kX3_88 rfl rfl dX3_readAtom_65 c65 (by decide) rfl rfl (Nat.le_of_ble_eq_true rfl) (by omega) (X_wordE (w := 13) (by decide) ht (by omega) hP hT) rfl (fun h2 hq65 => ?_)
        obtain rfl := hq65.symm
        refine r_if_eq (tgt := 95) (pc2 := 71) dX3_readAtom_68 (by decide) rfl (fun b68 => ?_) (fun b68 => ?_)
        · skip
          refine r_aload_n (pc2 := 96) 0 dX3_readAtom_95 rfl rfl rfl rfl ?_
          refine r_callV1 (pc2 := 99) (As := []) (st := []) kX3_245 rfl rfl dX3_readAtom_96 c65 (by decide) rfl rfl (Nat.le_of_ble_eq_true rfl) (by omega) (c_lawWordE (rd := rd) (b := b) hin ht (by omega) hP hT) rfl (fun h2 hq96 => ?_)
          obtain rfl := hq96.symm
          refine r_istore_n (pc2 := 100) (ls2 := [.ref 65, .int 0]) 1 dX3_readAtom_99 rfl (by decide) rfl rfl rfl ?_
          refine r_iload_n (pc2 := 101) 1 dX3_readAtom_100 rfl rfl rfl ?_
          refine r_if_ne (tgt := 112) (pc2 := 104) dX3_readAtom_101 (by decide) rfl (fun b101 => ?_) (fun b101 => ?_)
          · exact absurd b101 (by decide)
          · skip
            refine r_aload_n (pc2 := 105) 0 dX3_readAtom_104 rfl rfl rfl rfl ?_
            refine r_iconst (pc2 := 106) (v := 2) dX3_readAtom_105 (by decide) rfl ?_
            refine r_callV0 (pc2 := 109) (As := [.int 2]) (st := []) kX3_76 rfl rfl dX3_readAtom_106 c65 (by decide) rfl rfl (Nat.le_of_ble_eq_true rfl) (by omega) (X_refE (f := 2) (by decide) (by decide) rfl ht hT) rfl (fun h hq106 => ?_)
            obtain ⟨hxc, hT⟩ := hq106
            have hx := hx.trans hxc (by decide)
            have hP := hP.ex hxc (by decide)
            obtain ⟨t, c, c65, hK, hC⟩ := id hT
            refine r_goto (pc2 := 121) dX3_readAtom_109 (by decide) ?_
            exact r_vret rfl dX3_readAtom_121 ⟨rfl, hx, hT⟩
        · exact absurd b68 (by decide)
      · exact absurd b29 (by decide)
    · exact absurd b5 (by decide)
  · subst ex
    obtain ⟨t, c, c65, hK, hC⟩ := id hT
    rw [yo_ok h26] at hK
    obtain ⟨hp, _, rfl⟩ := hK
    have hle := lxS_le tp n p
    by_cases hk : lxK tp n p = 24
    · have eG : (lvA tp n rd b p L) = pNx tp n p (L ++ [lxN tp n p]) := by unfold lvA pAtom; rw [if_pos hk]
      have hlen : L.length < 900 := by have := lxK_25 (tp := tp) (n := n) (p := p) (by rw [hk]; decide); have := hI.2.2; omega
      rw [eG]
      refine Cn.go (ls := [.ref 65, .float 0]) (by decide +kernel) rfl (Nat.le_of_ble_eq_true rfl) ?_
      refine r_aload_n (pc2 := 1) 0 dX3_readAtom_0 rfl rfl rfl rfl ?_
      refine r_getf (pc2 := 4) (v := .int (nI (ckK tp n p))) fX3_60 dX3_readAtom_1 c65 (by decide) rfl rfl ?_
      refine r_iconst (pc2 := 5) (v := 2) dX3_readAtom_4 (by decide) rfl ?_
      refine r_icmp_ne (tgt := 23) (pc2 := 8) dX3_readAtom_5 (by decide) rfl (fun b5 => ?_) (fun b5 => ?_)
      · exact absurd ((congrArg nI ((ck2 ht h26).mpr hk)).trans rfl) b5
      · skip
        refine r_aload_n (pc2 := 9) 0 dX3_readAtom_8 rfl rfl rfl rfl ?_
        refine r_aload_n (pc2 := 10) 0 dX3_readAtom_9 rfl rfl rfl rfl ?_
        refine r_callV1 (pc2 := 13) (As := []) (st := [.ref 65]) kX3_96 rfl rfl dX3_readAtom_10 c65 (by decide) rfl rfl (Nat.le_of_ble_eq_true rfl) (by omega) (c_numberHere c65 hp hk hP ht (by omega)) rfl (fun h2 hq10 => ?_)
        obtain rfl := hq10.symm
        refine r_callV0 (pc2 := 16) (As := [.int (nI (lxN tp n p))]) (st := []) kX3_230 rfl rfl dX3_readAtom_13 c65 (by decide) rfl rfl (Nat.le_of_ble_eq_true rfl) (by omega) (X_emit (x := .ok (p, L)) (co := lxN tp n p) (fun p2 L2 z => by cases z; exact hlen) (if_pos (lxN_lt tp n p)).symm hT) rfl (fun h hq13 => ?_)
        obtain ⟨hxc, hT⟩ := hq13
        have hx := hx.trans hxc (by decide)
        have hP := hP.ex hxc (by decide)
        obtain ⟨t, c, c65, hK, hC⟩ := id hT
        refine r_aload_n (pc2 := 17) 0 dX3_readAtom_16 rfl rfl rfl rfl ?_
        refine r_callV0 (pc2 := 20) (As := []) (st := []) kX3_54 rfl rfl dX3_readAtom_17 c65 (by decide) rfl rfl (Nat.le_of_ble_eq_true rfl) (by omega) (X_adv (p := p) (L := (L ++ [lxN tp n p])) h26 (by rw [hk]; decide) ht (by omega) hP hT) rfl (fun h hq17 => ?_)
        obtain ⟨hxc, hT⟩ := hq17
        have hx := hx.trans hxc (by decide)
        have hP := hP.ex hxc (by decide)
        obtain ⟨t, c, c65, hK, hC⟩ := id hT
        refine r_goto (pc2 := 121) dX3_readAtom_20 (by decide) ?_
        exact r_vret rfl dX3_readAtom_121 ⟨rfl, hx, hT⟩
    · have n24 := hk
      by_cases hw : wordN rd (lxK tp n p) < 9
      · have eG : (lvA tp n rd b p L) = pNx tp n p (L ++ [1000 + wordN rd (lxK tp n p)]) := by unfold lvA pAtom; rw [if_neg n24, if_pos hw]
        have n25 : lxK tp n p ≠ 25 := fun z => by rw [z] at hw; revert hw; unfold wordN; by_cases r : rd = 1 <;> simp [r]
        have n35 : lxK tp n p ≠ 35 := fun z => by rw [z] at hw; revert hw; unfold wordN; by_cases r : rd = 1 <;> simp [r]
        have n13 : lxK tp n p ≠ 13 := fun z => by rw [z] at hw; revert hw; unfold wordN; by_cases r : rd = 1 <;> simp [r]
        have hlen : L.length < 900 := by have := lxK_25 n25; have := hI.2.2; omega
        have hnz : ¬ cmI (1000 + wordN rd (lxK tp n p)) = 0 := by
          revert hw
          generalize wordN rd (lxK tp n p) = w9
          revert w9
          decide
        rw [eG]
        refine Cn.go (ls := [.ref 65, .float 0]) (by decide +kernel) rfl (Nat.le_of_ble_eq_true rfl) ?_
        refine r_aload_n (pc2 := 1) 0 dX3_readAtom_0 rfl rfl rfl rfl ?_
        refine r_getf (pc2 := 4) (v := .int (nI (ckK tp n p))) fX3_60 dX3_readAtom_1 c65 (by decide) rfl rfl ?_
        refine r_iconst (pc2 := 5) (v := 2) dX3_readAtom_4 (by decide) rfl ?_
        refine r_icmp_ne (tgt := 23) (pc2 := 8) dX3_readAtom_5 (by decide) rfl (fun b5 => ?_) (fun b5 => ?_)
        · skip
          refine r_aload_n (pc2 := 24) 0 dX3_readAtom_23 rfl rfl rfl rfl ?_
          refine r_bipush (pc2 := 26) (v := 40) dX3_readAtom_24 (by decide) rfl ?_
          refine r_callV1 (pc2 := 29) (As := [.int 40]) (st := []) kX3_92 rfl rfl dX3_readAtom_26 c65 (by decide) rfl rfl (Nat.le_of_ble_eq_true rfl) (by omega) (X_signN (k := 5) (j := 35) (by decide) (by decide) rfl n35 h26 ht (by omega) hP hT) rfl (fun h2 hq26 => ?_)
          obtain rfl := hq26.symm
          refine r_if_eq (tgt := 62) (pc2 := 32) dX3_readAtom_29 (by decide) rfl (fun b29 => ?_) (fun b29 => ?_)
          · skip
            refine r_aload_n (pc2 := 63) 0 dX3_readAtom_62 rfl rfl rfl rfl ?_
            refine r_ldcS (pc2 := 65) 13 (by decide) rfl rfl dX3_readAtom_63 rfl ?_
            refine r_callV1 (pc2 := 68) (As := [.ref 13]) (st := []) kX3_88 rfl rfl dX3_readAtom_65 c65 (by decide) rfl rfl (Nat.le_of_ble_eq_true rfl) (by omega) (X_wordN (w := 13) (k := 13) (by decide) rfl n13 h26 ht (by omega) hP hT) rfl (fun h2 hq65 => ?_)
            obtain rfl := hq65.symm
            refine r_if_eq (tgt := 95) (pc2 := 71) dX3_readAtom_68 (by decide) rfl (fun b68 => ?_) (fun b68 => ?_)
            · skip
              refine r_aload_n (pc2 := 96) 0 dX3_readAtom_95 rfl rfl rfl rfl ?_
              refine r_callV1 (pc2 := 99) (As := []) (st := []) kX3_245 rfl rfl dX3_readAtom_96 c65 (by decide) rfl rfl (Nat.le_of_ble_eq_true rfl) (by omega) ((c_lawWord (rd := rd) (b := b) hin h26 ht (by omega) hP hT).mono fun r h2 q => ⟨q.1.trans (by unfold lwV; rw [if_pos hw]), q.2⟩) rfl (fun h2 hq96 => ?_)
              obtain rfl := hq96.symm
              refine r_topi (fun xw e99 => ?_)
              refine r_istore_n (pc2 := 100) (ls2 := [.ref 65, .int xw]) 1 dX3_readAtom_99 rfl (by decide) rfl rfl rfl ?_
              refine r_iload_n (pc2 := 101) 1 dX3_readAtom_100 rfl rfl rfl ?_
              refine r_if_ne (tgt := 112) (pc2 := 104) dX3_readAtom_101 (by decide) rfl (fun b101 => ?_) (fun b101 => ?_)
              · skip
                refine r_aload_n (pc2 := 113) 0 dX3_readAtom_112 rfl rfl rfl rfl ?_
                refine r_iload_n (pc2 := 114) 1 dX3_readAtom_113 rfl rfl rfl ?_
                refine r_callV0 (pc2 := 117) (As := [.int xw]) (st := []) kX3_230 rfl rfl dX3_readAtom_114 c65 (by decide) rfl rfl (Nat.le_of_ble_eq_true rfl) (by omega) (X_emit (x := .ok (p, L)) (co := 1000 + wordN rd (lxK tp n p)) (fun p2 L2 z => by cases z; exact hlen) e99 hT) rfl (fun h hq114 => ?_)
                obtain ⟨hxc, hT⟩ := hq114
                have hx := hx.trans hxc (by decide)
                have hP := hP.ex hxc (by decide)
                obtain ⟨t, c, c65, hK, hC⟩ := id hT
                refine r_aload_n (pc2 := 118) 0 dX3_readAtom_117 rfl rfl rfl rfl ?_
                refine r_callV0 (pc2 := 121) (As := []) (st := []) kX3_54 rfl rfl dX3_readAtom_118 c65 (by decide) rfl rfl (Nat.le_of_ble_eq_true rfl) (by omega) (X_adv (p := p) (L := (L ++ [1000 + wordN rd (lxK tp n p)])) h26 n25 ht (by omega) hP hT) rfl (fun h hq118 => ?_)
                obtain ⟨hxc, hT⟩ := hq118
                have hx := hx.trans hxc (by decide)
                have hP := hP.ex hxc (by decide)
                obtain ⟨t, c, c65, hK, hC⟩ := id hT
                exact r_vret rfl dX3_readAtom_121 ⟨rfl, hx, hT⟩
              · exact absurd (e99.symm.trans b101) hnz
            · exact absurd b68 (by decide)
          · exact absurd b29 (by decide)
        · exact absurd ((ck2 ht h26).mp ((nI_eq (a := ckK tp n p) (b := 2) (by have := ck_le (tp := tp) (n := n) (p := p); omega) (by decide)).mp b5)) n24
      · by_cases hk : lxK tp n p = 35
        · by_cases hb : b = 0
          · have heb6 : e = 6 := by omega
            have eG : (lvA tp n rd b p L) = pFl tp n 4 p := by unfold lvA pAtom pIn; rw [if_neg n24, if_neg hw, if_pos hk, if_pos hb]; rfl
            rw [eG]
            refine Cn.go (ls := [.ref 65, .float 0]) (by decide +kernel) rfl (Nat.le_of_ble_eq_true rfl) ?_
            refine r_aload_n (pc2 := 1) 0 dX3_readAtom_0 rfl rfl rfl rfl ?_
            refine r_getf (pc2 := 4) (v := .int (nI (ckK tp n p))) fX3_60 dX3_readAtom_1 c65 (by decide) rfl rfl ?_
            refine r_iconst (pc2 := 5) (v := 2) dX3_readAtom_4 (by decide) rfl ?_
            refine r_icmp_ne (tgt := 23) (pc2 := 8) dX3_readAtom_5 (by decide) rfl (fun b5 => ?_) (fun b5 => ?_)
            · skip
              refine r_aload_n (pc2 := 24) 0 dX3_readAtom_23 rfl rfl rfl rfl ?_
              refine r_bipush (pc2 := 26) (v := 40) dX3_readAtom_24 (by decide) rfl ?_
              refine r_callV1 (pc2 := 29) (As := [.int 40]) (st := []) kX3_92 rfl rfl dX3_readAtom_26 c65 (by decide) rfl rfl (Nat.le_of_ble_eq_true rfl) (by omega) (X_signY (k := 5) (j := 35) (by decide) (by decide) rfl hk h26 ht (by omega) hP hT) rfl (fun h2 hq26 => ?_)
              obtain rfl := hq26.symm
              refine r_if_eq (tgt := 62) (pc2 := 32) dX3_readAtom_29 (by decide) rfl (fun b29 => ?_) (fun b29 => ?_)
              · exact absurd b29 (by decide)
              · skip
                refine r_aload_n (pc2 := 33) 0 dX3_readAtom_32 rfl rfl rfl rfl ?_
                refine r_callV1 (pc2 := 36) (As := []) (st := []) kX3_236 rfl rfl dX3_readAtom_33 c65 (by decide) rfl rfl (Nat.le_of_ble_eq_true rfl) (by omega) (X_enter0 heb6 h26 ht (by omega) hP hT) rfl (fun h hq33 => ?_)
                obtain ⟨hxc, hT⟩ := hq33
                have hx := hx.trans hxc (by decide)
                have hP := hP.ex hxc (by decide)
                obtain ⟨t, c, c65, hK, hC⟩ := id hT
                refine r_if_eq (tgt := 121) (pc2 := 39) dX3_readAtom_36 (by decide) rfl (fun b36 => ?_) (fun b36 => ?_)
                · skip
                  exact r_vret rfl dX3_readAtom_121 ⟨rfl, hx, hT⟩
                · exact absurd b36 (by decide)
            · exact absurd ((ck2 ht h26).mp ((nI_eq (a := ckK tp n p) (b := 2) (by have := ck_le (tp := tp) (n := n) (p := p); omega) (by decide)).mp b5)) n24
          · have heb6 : e < 6 := by omega
            have eG : (lvA tp n rd b p L) = (bnd (bnd (pNx tp n p L) (sub1 tp n rd b)) (pEat tp n 36)) := by unfold lvA pAtom pIn; rw [if_neg n24, if_neg hw, if_pos hk, if_neg hb]
            rw [eG]
            refine Cn.go (ls := [.ref 65, .float 0]) (by decide +kernel) rfl (Nat.le_of_ble_eq_true rfl) ?_
            refine r_aload_n (pc2 := 1) 0 dX3_readAtom_0 rfl rfl rfl rfl ?_
            refine r_getf (pc2 := 4) (v := .int (nI (ckK tp n p))) fX3_60 dX3_readAtom_1 c65 (by decide) rfl rfl ?_
            refine r_iconst (pc2 := 5) (v := 2) dX3_readAtom_4 (by decide) rfl ?_
            refine r_icmp_ne (tgt := 23) (pc2 := 8) dX3_readAtom_5 (by decide) rfl (fun b5 => ?_) (fun b5 => ?_)
            · skip
              refine r_aload_n (pc2 := 24) 0 dX3_readAtom_23 rfl rfl rfl rfl ?_
              refine r_bipush (pc2 := 26) (v := 40) dX3_readAtom_24 (by decide) rfl ?_
              refine r_callV1 (pc2 := 29) (As := [.int 40]) (st := []) kX3_92 rfl rfl dX3_readAtom_26 c65 (by decide) rfl rfl (Nat.le_of_ble_eq_true rfl) (by omega) (X_signY (k := 5) (j := 35) (by decide) (by decide) rfl hk h26 ht (by omega) hP hT) rfl (fun h2 hq26 => ?_)
              obtain rfl := hq26.symm
              refine r_if_eq (tgt := 62) (pc2 := 32) dX3_readAtom_29 (by decide) rfl (fun b29 => ?_) (fun b29 => ?_)
              · exact absurd b29 (by decide)
              · skip
                refine r_aload_n (pc2 := 33) 0 dX3_readAtom_32 rfl rfl rfl rfl ?_
                refine r_callV1 (pc2 := 36) (As := []) (st := []) kX3_236 rfl rfl dX3_readAtom_33 c65 (by decide) rfl rfl (Nat.le_of_ble_eq_true rfl) (by omega) (X_enter1 heb6 h26 (by rw [hk]; decide) ht (by omega) hP hT) rfl (fun h hq33 => ?_)
                obtain ⟨hxc, hT⟩ := hq33
                have hx := hx.trans hxc (by decide)
                have hP := hP.ex hxc (by decide)
                obtain ⟨t, c, c65, hK, hC⟩ := id hT
                refine r_if_eq (tgt := 121) (pc2 := 39) dX3_readAtom_36 (by decide) rfl (fun b36 => ?_) (fun b36 => ?_)
                · exact absurd b36 (by decide)
                · skip
                  refine r_aload_n (pc2 := 40) 0 dX3_readAtom_39 rfl rfl rfl rfl ?_
                  refine r_callV0 (pc2 := 43) (As := []) (st := []) kX3_216 rfl rfl dX3_readAtom_40 c65 (by decide) rfl rfl (Nat.le_of_ble_eq_true rfl) (by omega) (hS hb _ (by omega) _ (pNx tp n p L) (hI.nx (tp := tp) (by rw [hk]; decide)).w1 hT hP) rfl (fun h hq40 => ?_)
                  obtain ⟨hxc, hT⟩ := hq40
                  have hx := hx.trans hxc (by decide)
                  have hP := hP.ex hxc (by decide)
                  obtain ⟨t, c, c65, hK, hC⟩ := id hT
                  refine r_aload_n (pc2 := 44) 0 dX3_readAtom_43 rfl rfl rfl rfl ?_
                  refine r_bipush (pc2 := 46) (v := 41) dX3_readAtom_44 (by decide) rfl ?_
                  refine r_callV0 (pc2 := 49) (As := [.int 41]) (st := []) kX3_131 rfl rfl dX3_readAtom_46 c65 (by decide) rfl rfl (Nat.le_of_ble_eq_true rfl) (by omega) (X_eatS (k := 6) (x := (bnd (pNx tp n p L) (sub1 tp n rd b))) (by decide) (by decide) ht (by omega) hP hT) rfl (fun h hq46 => ?_)
                  obtain ⟨hxc, hT⟩ := hq46
                  have hx := hx.trans hxc (by decide)
                  have hP := hP.ex hxc (by decide)
                  obtain ⟨t, c, c65, hK, hC⟩ := id hT
                  refine r_aload_n (pc2 := 50) 0 dX3_readAtom_49 rfl rfl rfl rfl ?_
                  refine r_dup (pc2 := 51) dX3_readAtom_50 rfl rfl ?_
                  refine r_getf (pc2 := 54) (v := .int (nI (e + 1))) fX3_210 dX3_readAtom_51 c65 (by decide) rfl rfl ?_
                  refine r_iconst (pc2 := 55) (v := 1) dX3_readAtom_54 (by decide) rfl ?_
                  refine r_isub (pc2 := 56) dX3_readAtom_55 rfl ?_
                  refine r_cast (nI e) ((pk_sub (b := 1) (by omega)).trans (congrArg nI (Nat.add_sub_cancel e 1))) ?_
                  refine r_putfX (pc2 := 59) [.int t.1, .int t.2.1, .int u.1, .ref 66, .int (nI n), .int t.2.2.1, .int t.2.2.2.1, .int t.2.2.2.2, .int (nI e), .int u.2.1, .int u.2.2.1, .ref 67, .int (nI c), u.2.2.2] fX3_210 dX3_readAtom_56 c65 (by decide) (Nat.le_of_ble_eq_true rfl) rfl rfl rfl (fun h z56 o56 c65 => ?_)
                  have hx := hx.step (a := 65) (by decide) z56 o56
                  have hxw : Ex [65] _ h := ⟨z56, fun y hy => o56 y (by simpa using hy)⟩
                  have hT : RLw tp n u e (s + 1 + 1) (bnd (bnd (pNx tp n p L) (sub1 tp n rd b)) (pEat tp n 36)) h := ⟨t, c, c65, hK, hC.ex hxw⟩
                  have hT := hT.dn
                  refine r_goto (pc2 := 121) dX3_readAtom_59 (by decide) ?_
                  exact r_vret rfl dX3_readAtom_121 ⟨rfl, hx, hT⟩
            · exact absurd ((ck2 ht h26).mp ((nI_eq (a := ckK tp n p) (b := 2) (by have := ck_le (tp := tp) (n := n) (p := p); omega) (by decide)).mp b5)) n24
        · have n35 := hk
          by_cases hk : lxK tp n p = 13
          · by_cases hb : b = 0
            · have heb6 : e = 6 := by omega
              have eG : (lvA tp n rd b p L) = pFl tp n 4 p := by unfold lvA pAtom pIf pIn; rw [if_neg n24, if_neg hw, if_neg n35, if_pos hk, if_pos hb]; rfl
              rw [eG]
              refine Cn.go (ls := [.ref 65, .float 0]) (by decide +kernel) rfl (Nat.le_of_ble_eq_true rfl) ?_
              refine r_aload_n (pc2 := 1) 0 dX3_readAtom_0 rfl rfl rfl rfl ?_
              refine r_getf (pc2 := 4) (v := .int (nI (ckK tp n p))) fX3_60 dX3_readAtom_1 c65 (by decide) rfl rfl ?_
              refine r_iconst (pc2 := 5) (v := 2) dX3_readAtom_4 (by decide) rfl ?_
              refine r_icmp_ne (tgt := 23) (pc2 := 8) dX3_readAtom_5 (by decide) rfl (fun b5 => ?_) (fun b5 => ?_)
              · skip
                refine r_aload_n (pc2 := 24) 0 dX3_readAtom_23 rfl rfl rfl rfl ?_
                refine r_bipush (pc2 := 26) (v := 40) dX3_readAtom_24 (by decide) rfl ?_
                refine r_callV1 (pc2 := 29) (As := [.int 40]) (st := []) kX3_92 rfl rfl dX3_readAtom_26 c65 (by decide) rfl rfl (Nat.le_of_ble_eq_true rfl) (by omega) (X_signN (k := 5) (j := 35) (by decide) (by decide) rfl (by rw [hk]; decide) h26 ht (by omega) hP hT) rfl (fun h2 hq26 => ?_)
                obtain rfl := hq26.symm
                refine r_if_eq (tgt := 62) (pc2 := 32) dX3_readAtom_29 (by decide) rfl (fun b29 => ?_) (fun b29 => ?_)
                · skip
                  refine r_aload_n (pc2 := 63) 0 dX3_readAtom_62 rfl rfl rfl rfl ?_
                  refine r_ldcS (pc2 := 65) 13 (by decide) rfl rfl dX3_readAtom_63 rfl ?_
                  refine r_callV1 (pc2 := 68) (As := [.ref 13]) (st := []) kX3_88 rfl rfl dX3_readAtom_65 c65 (by decide) rfl rfl (Nat.le_of_ble_eq_true rfl) (by omega) (X_wordY (w := 13) (k := 13) (by decide) rfl hk h26 ht (by omega) hP hT) rfl (fun h2 hq65 => ?_)
                  obtain rfl := hq65.symm
                  refine r_if_eq (tgt := 95) (pc2 := 71) dX3_readAtom_68 (by decide) rfl (fun b68 => ?_) (fun b68 => ?_)
                  · exact absurd b68 (by decide)
                  · skip
                    refine r_aload_n (pc2 := 72) 0 dX3_readAtom_71 rfl rfl rfl rfl ?_
                    refine r_callV1 (pc2 := 75) (As := []) (st := []) kX3_236 rfl rfl dX3_readAtom_72 c65 (by decide) rfl rfl (Nat.le_of_ble_eq_true rfl) (by omega) (X_enter0 heb6 h26 ht (by omega) hP hT) rfl (fun h hq72 => ?_)
                    obtain ⟨hxc, hT⟩ := hq72
                    have hx := hx.trans hxc (by decide)
                    have hP := hP.ex hxc (by decide)
                    obtain ⟨t, c, c65, hK, hC⟩ := id hT
                    refine r_if_eq (tgt := 121) (pc2 := 78) dX3_readAtom_75 (by decide) rfl (fun b75 => ?_) (fun b75 => ?_)
                    · skip
                      exact r_vret rfl dX3_readAtom_121 ⟨rfl, hx, hT⟩
                    · exact absurd b75 (by decide)
                · exact absurd b29 (by decide)
              · exact absurd ((ck2 ht h26).mp ((nI_eq (a := ckK tp n p) (b := 2) (by have := ck_le (tp := tp) (n := n) (p := p); omega) (by decide)).mp b5)) n24
            · have heb6 : e < 6 := by omega
              have eG : (lvA tp n rd b p L) = (bnd (bnd (bnd (bnd (bnd (bnd (bnd (pNx tp n p L) (sub2 tp n rd b)) (pEat tp n 14)) (sub1 tp n rd b)) (pEat tp n 15)) (sub1 tp n rd b)) (pEat tp n 16)) (pCo 3009)) := by unfold lvA pAtom pIf pIn; rw [if_neg n24, if_neg hw, if_neg n35, if_pos hk, if_neg hb]
              rw [eG]
              refine Cn.go (ls := [.ref 65, .float 0]) (by decide +kernel) rfl (Nat.le_of_ble_eq_true rfl) ?_
              refine r_aload_n (pc2 := 1) 0 dX3_readAtom_0 rfl rfl rfl rfl ?_
              refine r_getf (pc2 := 4) (v := .int (nI (ckK tp n p))) fX3_60 dX3_readAtom_1 c65 (by decide) rfl rfl ?_
              refine r_iconst (pc2 := 5) (v := 2) dX3_readAtom_4 (by decide) rfl ?_
              refine r_icmp_ne (tgt := 23) (pc2 := 8) dX3_readAtom_5 (by decide) rfl (fun b5 => ?_) (fun b5 => ?_)
              · skip
                refine r_aload_n (pc2 := 24) 0 dX3_readAtom_23 rfl rfl rfl rfl ?_
                refine r_bipush (pc2 := 26) (v := 40) dX3_readAtom_24 (by decide) rfl ?_
                refine r_callV1 (pc2 := 29) (As := [.int 40]) (st := []) kX3_92 rfl rfl dX3_readAtom_26 c65 (by decide) rfl rfl (Nat.le_of_ble_eq_true rfl) (by omega) (X_signN (k := 5) (j := 35) (by decide) (by decide) rfl (by rw [hk]; decide) h26 ht (by omega) hP hT) rfl (fun h2 hq26 => ?_)
                obtain rfl := hq26.symm
                refine r_if_eq (tgt := 62) (pc2 := 32) dX3_readAtom_29 (by decide) rfl (fun b29 => ?_) (fun b29 => ?_)
                · skip
                  refine r_aload_n (pc2 := 63) 0 dX3_readAtom_62 rfl rfl rfl rfl ?_
                  refine r_ldcS (pc2 := 65) 13 (by decide) rfl rfl dX3_readAtom_63 rfl ?_
                  refine r_callV1 (pc2 := 68) (As := [.ref 13]) (st := []) kX3_88 rfl rfl dX3_readAtom_65 c65 (by decide) rfl rfl (Nat.le_of_ble_eq_true rfl) (by omega) (X_wordY (w := 13) (k := 13) (by decide) rfl hk h26 ht (by omega) hP hT) rfl (fun h2 hq65 => ?_)
                  obtain rfl := hq65.symm
                  refine r_if_eq (tgt := 95) (pc2 := 71) dX3_readAtom_68 (by decide) rfl (fun b68 => ?_) (fun b68 => ?_)
                  · exact absurd b68 (by decide)
                  · skip
                    refine r_aload_n (pc2 := 72) 0 dX3_readAtom_71 rfl rfl rfl rfl ?_
                    refine r_callV1 (pc2 := 75) (As := []) (st := []) kX3_236 rfl rfl dX3_readAtom_72 c65 (by decide) rfl rfl (Nat.le_of_ble_eq_true rfl) (by omega) (X_enter1 heb6 h26 (by rw [hk]; decide) ht (by omega) hP hT) rfl (fun h hq72 => ?_)
                    obtain ⟨hxc, hT⟩ := hq72
                    have hx := hx.trans hxc (by decide)
                    have hP := hP.ex hxc (by decide)
                    obtain ⟨t, c, c65, hK, hC⟩ := id hT
                    refine r_if_eq (tgt := 121) (pc2 := 78) dX3_readAtom_75 (by decide) rfl (fun b75 => ?_) (fun b75 => ?_)
                    · exact absurd b75 (by decide)
                    · skip
                      refine r_aload_n (pc2 := 79) 0 dX3_readAtom_78 rfl rfl rfl rfl ?_
                      refine r_callV0 (pc2 := 82) (As := []) (st := []) kX3_242 rfl rfl dX3_readAtom_79 c65 (by decide) rfl rfl (Nat.le_of_ble_eq_true rfl) (by omega) (K_choice (rd := rd) (b := b) (x := (pNx tp n p L)) hb ht (by omega) hS hU ((hI.nx (tp := tp) (by rw [hk]; decide)).mono (Nat.le_refl _) (Nat.zero_le _)) hT hP) rfl (fun h hq79 => ?_)
                      obtain ⟨hxc, hT⟩ := hq79
                      have hx := hx.trans hxc (by decide)
                      have hP := hP.ex hxc (by decide)
                      obtain ⟨t, c, c65, hK, hC⟩ := id hT
                      refine r_aload_n (pc2 := 83) 0 dX3_readAtom_82 rfl rfl rfl rfl ?_
                      refine r_dup (pc2 := 84) dX3_readAtom_83 rfl rfl ?_
                      refine r_getf (pc2 := 87) (v := .int (nI (e + 1))) fX3_210 dX3_readAtom_84 c65 (by decide) rfl rfl ?_
                      refine r_iconst (pc2 := 88) (v := 1) dX3_readAtom_87 (by decide) rfl ?_
                      refine r_isub (pc2 := 89) dX3_readAtom_88 rfl ?_
                      refine r_cast (nI e) ((pk_sub (b := 1) (by omega)).trans (congrArg nI (Nat.add_sub_cancel e 1))) ?_
                      refine r_putfX (pc2 := 92) [.int t.1, .int t.2.1, .int u.1, .ref 66, .int (nI n), .int t.2.2.1, .int t.2.2.2.1, .int t.2.2.2.2, .int (nI e), .int u.2.1, .int u.2.2.1, .ref 67, .int (nI c), u.2.2.2] fX3_210 dX3_readAtom_89 c65 (by decide) (Nat.le_of_ble_eq_true rfl) rfl rfl rfl (fun h z89 o89 c65 => ?_)
                      have hx := hx.step (a := 65) (by decide) z89 o89
                      have hxw : Ex [65] _ h := ⟨z89, fun y hy => o89 y (by simpa using hy)⟩
                      have hT : RLw tp n u e (s + 1) (bnd (bnd (bnd (bnd (bnd (bnd (bnd (pNx tp n p L) (sub2 tp n rd b)) (pEat tp n 14)) (sub1 tp n rd b)) (pEat tp n 15)) (sub1 tp n rd b)) (pEat tp n 16)) (pCo 3009)) h := ⟨t, c, c65, hK, hC.ex hxw⟩
                      refine r_goto (pc2 := 121) dX3_readAtom_92 (by decide) ?_
                      exact r_vret rfl dX3_readAtom_121 ⟨rfl, hx, hT⟩
                · exact absurd b29 (by decide)
              · exact absurd ((ck2 ht h26).mp ((nI_eq (a := ckK tp n p) (b := 2) (by have := ck_le (tp := tp) (n := n) (p := p); omega) (by decide)).mp b5)) n24
          · have n13 := hk
            have eG : (lvA tp n rd b p L) = pFl tp n 2 p := by unfold lvA pAtom; rw [if_neg n24, if_neg hw, if_neg n35, if_neg n13]
            rw [eG]
            refine Cn.go (ls := [.ref 65, .float 0]) (by decide +kernel) rfl (Nat.le_of_ble_eq_true rfl) ?_
            refine r_aload_n (pc2 := 1) 0 dX3_readAtom_0 rfl rfl rfl rfl ?_
            refine r_getf (pc2 := 4) (v := .int (nI (ckK tp n p))) fX3_60 dX3_readAtom_1 c65 (by decide) rfl rfl ?_
            refine r_iconst (pc2 := 5) (v := 2) dX3_readAtom_4 (by decide) rfl ?_
            refine r_icmp_ne (tgt := 23) (pc2 := 8) dX3_readAtom_5 (by decide) rfl (fun b5 => ?_) (fun b5 => ?_)
            · skip
              refine r_aload_n (pc2 := 24) 0 dX3_readAtom_23 rfl rfl rfl rfl ?_
              refine r_bipush (pc2 := 26) (v := 40) dX3_readAtom_24 (by decide) rfl ?_
              refine r_callV1 (pc2 := 29) (As := [.int 40]) (st := []) kX3_92 rfl rfl dX3_readAtom_26 c65 (by decide) rfl rfl (Nat.le_of_ble_eq_true rfl) (by omega) (X_signN (k := 5) (j := 35) (by decide) (by decide) rfl n35 h26 ht (by omega) hP hT) rfl (fun h2 hq26 => ?_)
              obtain rfl := hq26.symm
              refine r_if_eq (tgt := 62) (pc2 := 32) dX3_readAtom_29 (by decide) rfl (fun b29 => ?_) (fun b29 => ?_)
              · skip
                refine r_aload_n (pc2 := 63) 0 dX3_readAtom_62 rfl rfl rfl rfl ?_
                refine r_ldcS (pc2 := 65) 13 (by decide) rfl rfl dX3_readAtom_63 rfl ?_
                refine r_callV1 (pc2 := 68) (As := [.ref 13]) (st := []) kX3_88 rfl rfl dX3_readAtom_65 c65 (by decide) rfl rfl (Nat.le_of_ble_eq_true rfl) (by omega) (X_wordN (w := 13) (k := 13) (by decide) rfl n13 h26 ht (by omega) hP hT) rfl (fun h2 hq65 => ?_)
                obtain rfl := hq65.symm
                refine r_if_eq (tgt := 95) (pc2 := 71) dX3_readAtom_68 (by decide) rfl (fun b68 => ?_) (fun b68 => ?_)
                · skip
                  refine r_aload_n (pc2 := 96) 0 dX3_readAtom_95 rfl rfl rfl rfl ?_
                  refine r_callV1 (pc2 := 99) (As := []) (st := []) kX3_245 rfl rfl dX3_readAtom_96 c65 (by decide) rfl rfl (Nat.le_of_ble_eq_true rfl) (by omega) ((c_lawWord (rd := rd) (b := b) hin h26 ht (by omega) hP hT).mono fun r h2 q => ⟨q.1.trans (by unfold lwV; rw [if_neg hw]), q.2⟩) rfl (fun h2 hq96 => ?_)
                  obtain rfl := hq96.symm
                  refine r_istore_n (pc2 := 100) (ls2 := [.ref 65, .int 0]) 1 dX3_readAtom_99 rfl (by decide) rfl rfl rfl ?_
                  refine r_iload_n (pc2 := 101) 1 dX3_readAtom_100 rfl rfl rfl ?_
                  refine r_if_ne (tgt := 112) (pc2 := 104) dX3_readAtom_101 (by decide) rfl (fun b101 => ?_) (fun b101 => ?_)
                  · exact absurd b101 (by decide)
                  · skip
                    refine r_aload_n (pc2 := 105) 0 dX3_readAtom_104 rfl rfl rfl rfl ?_
                    refine r_iconst (pc2 := 106) (v := 2) dX3_readAtom_105 (by decide) rfl ?_
                    refine r_callV0 (pc2 := 109) (As := [.int 2]) (st := []) kX3_76 rfl rfl dX3_readAtom_106 c65 (by decide) rfl rfl (Nat.le_of_ble_eq_true rfl) (by omega) (X_ref (f := 2) h26 (by decide) (by decide) rfl ht hT) rfl (fun h hq106 => ?_)
                    obtain ⟨hxc, hT⟩ := hq106
                    have hx := hx.trans hxc (by decide)
                    have hP := hP.ex hxc (by decide)
                    obtain ⟨t, c, c65, hK, hC⟩ := id hT
                    refine r_goto (pc2 := 121) dX3_readAtom_109 (by decide) ?_
                    exact r_vret rfl dX3_readAtom_121 ⟨rfl, hx, hT⟩
                · exact absurd b68 (by decide)
              · exact absurd b29 (by decide)
            · exact absurd ((ck2 ht h26).mp ((nI_eq (a := ckK tp n p) (b := 2) (by have := ck_le (tp := tp) (n := n) (p := p); omega) (by decide)).mp b5)) n24
