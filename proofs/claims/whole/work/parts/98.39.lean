/-! the class's reader: comparisons, units, all levels -/
theorem x_ci {tp : Nat → Nat} {n : Nat} {u : RLT} {s e : Nat} {F : PF} {R : Hp → (PX (List Nat)) → Prop} {h0 : Hp} {x : PX (List Nat)} (hI : IV n 0 0 x) (hB : Bs tp n F) (hR : ∀ x y g, yo tp n x = .error g → yo tp n y = .error g → R h0 x → R h0 y) (hT : RLw tp n u e s x h0) (h1 : ∀ w a, IV n 0 0 (.error (w, a)) → RLw tp n u e s (.error (w, a)) h0 → R h0 (.error (w, a))) (h2 : ∀ p L, x = .ok (p, L) → lxK tp n p ≠ 26 → RLw tp n u e s (.ok (p, L)) h0 → R h0 (F p L)) : R h0 (bnd x F) := by
  match x, hI, hT, h2 with
  | .error (w, a), hI, hT, _ => exact h1 w a hI hT
  | .ok (p, L), hI, hT, h2 =>
    by_cases h26 : lxK tp n p = 26
    · exact hR (.error (1, lxS tp n p)) _ _ rfl (hB p L h26) (h1 _ _ ⟨by decide, by decide, lxS_n hI.2.1⟩ (hT.nrm (yo_26 h26) rfl))
    · exact h2 p L rfl h26 hT
def pCm (tp : Nat → Nat) (n : Nat) (S : PF) : PF := fun p L => bnd (S p L) (pOrd tp n S)
set_option maxRecDepth 20000 in
set_option maxHeartbeats 1000000 in
theorem K_cmp {E : EnvT} {d : Nat} {tp : Nat → Nat} {n : Nat} {u : RLT} {e : Nat} {S : PF} (ht : TOk tp n) (hd : 6 ≤ d) (gS : Good n S) (hSm : CR E tp n u mX3_readSum (d - 1) e S) : CR E tp n u mX3_readComparison d e (pCm tp n S) := by
  intro s h0 x hI hT hP
  have hx : Ex [65, 67] h0 h0 := Ex.rf
  obtain ⟨t, c, c65, hK, hC⟩ := id hT
  have eF : bnd x (pCm tp n S) = bnd (bnd x S) (pOrd tp n S) := by cases x <;> rfl
  rw [eF]
  have k6 : ∀ (x : PX (List Nat)), IV n 0 0 x → ∀ (h : Hp), Ex [65, 67] h0 h → RLw tp n u e (s + 1) x h → TPo tp h → Fr E mX3_readComparison d 6 [.ref 65, .int 0] [] h (RLQ tp n u e (s + 1) h0 none (bnd x (pOrd tp n S))) := by
    intro x hI h hx hT hP
    refine x_ci (u := u) (e := e) (F := pOrd tp n S) (R := fun h x => Fr E mX3_readComparison d 6 [.ref 65, .int 0] [] h (RLQ tp n u e (s + 1) h0 none x)) hI b_ord (fun x y g => Fr.nrm x y g) hT (fun we ae _ hT => ?_) (fun p L ex h26 hT => ?_)
    · obtain ⟨t, c, c65, hK, hC⟩ := id hT
      refine r_aload_n (pc2 := 7) 0 dX3_readComparison_6 rfl rfl rfl rfl ?_
      refine r_bipush (pc2 := 9) (v := 61) dX3_readComparison_7 (by decide) rfl ?_
      refine r_callV1 (pc2 := 12) (As := [.int 61]) (st := []) kX3_92 rfl rfl dX3_readComparison_9 c65 (by decide) rfl rfl (Nat.le_of_ble_eq_true rfl) (by omega) (X_signE (k := 9) (by decide) (by decide) ht (by omega) hP hT) rfl (fun h2 hq9 => ?_)
      obtain rfl := hq9.symm
      refine r_if_eq (tgt := 21) (pc2 := 15) dX3_readComparison_12 (by decide) rfl (fun b12 => ?_) (fun b12 => ?_)
      · skip
        refine r_aload_n (pc2 := 22) 0 dX3_readComparison_21 rfl rfl rfl rfl ?_
        refine r_bipush (pc2 := 24) (v := 60) dX3_readComparison_22 (by decide) rfl ?_
        refine r_callV1 (pc2 := 27) (As := [.int 60]) (st := []) kX3_92 rfl rfl dX3_readComparison_24 c65 (by decide) rfl rfl (Nat.le_of_ble_eq_true rfl) (by omega) (X_signE (k := 10) (by decide) (by decide) ht (by omega) hP hT) rfl (fun h2 hq24 => ?_)
        obtain rfl := hq24.symm
        refine r_if_eq (tgt := 36) (pc2 := 30) dX3_readComparison_27 (by decide) rfl (fun b27 => ?_) (fun b27 => ?_)
        · skip
          refine r_aload_n (pc2 := 37) 0 dX3_readComparison_36 rfl rfl rfl rfl ?_
          refine r_bipush (pc2 := 39) (v := 62) dX3_readComparison_37 (by decide) rfl ?_
          refine r_callV1 (pc2 := 42) (As := [.int 62]) (st := []) kX3_92 rfl rfl dX3_readComparison_39 c65 (by decide) rfl rfl (Nat.le_of_ble_eq_true rfl) (by omega) (X_signE (k := 11) (by decide) (by decide) ht (by omega) hP hT) rfl (fun h2 hq39 => ?_)
          obtain rfl := hq39.symm
          refine r_if_eq (tgt := 48) (pc2 := 45) dX3_readComparison_42 (by decide) rfl (fun b42 => ?_) (fun b42 => ?_)
          · skip
            refine r_iload_n (pc2 := 49) 1 dX3_readComparison_48 rfl rfl rfl ?_
            refine r_if_ne (tgt := 58) (pc2 := 52) dX3_readComparison_49 (by decide) rfl (fun b49 => ?_) (fun b49 => ?_)
            · exact absurd b49 (by decide)
            · skip
              refine r_aload_n (pc2 := 53) 0 dX3_readComparison_52 rfl rfl rfl rfl ?_
              refine r_iconst (pc2 := 54) (v := 2) dX3_readComparison_53 (by decide) rfl ?_
              refine r_callV0 (pc2 := 57) (As := [.int 2]) (st := []) kX3_76 rfl rfl dX3_readComparison_54 c65 (by decide) rfl rfl (Nat.le_of_ble_eq_true rfl) (by omega) (X_refE (f := 2) (by decide) (by decide) rfl ht hT) rfl (fun h hq54 => ?_)
              obtain ⟨hxc, hT⟩ := hq54
              have hx := hx.trans hxc (by decide)
              have hP := hP.ex hxc (by decide)
              obtain ⟨t, c, c65, hK, hC⟩ := id hT
              exact r_vret rfl dX3_readComparison_57 ⟨rfl, hx, hT⟩
          · exact absurd b42 (by decide)
        · exact absurd b27 (by decide)
      · exact absurd b12 (by decide)
    · subst ex
      obtain ⟨t, c, c65, hK, hC⟩ := id hT
      by_cases hk : lxK tp n p = 39
      · have eL : pOrd tp n S p L = bnd (bnd (pNx tp n p L) S) (pCo 3003) := by unfold pOrd pCmp; rw [if_pos (Or.inl hk), hk]; rfl
        rw [eL]
        refine r_aload_n (pc2 := 7) 0 dX3_readComparison_6 rfl rfl rfl rfl ?_
        refine r_bipush (pc2 := 9) (v := 61) dX3_readComparison_7 (by decide) rfl ?_
        refine r_callV1 (pc2 := 12) (As := [.int 61]) (st := []) kX3_92 rfl rfl dX3_readComparison_9 c65 (by decide) rfl rfl (Nat.le_of_ble_eq_true rfl) (by omega) (X_signY (k := 9) (j := 39) (by decide) (by decide) rfl hk h26 ht (by omega) hP hT) rfl (fun h2 hq9 => ?_)
        obtain rfl := hq9.symm
        refine r_if_eq (tgt := 21) (pc2 := 15) dX3_readComparison_12 (by decide) rfl (fun b12 => ?_) (fun b12 => ?_)
        · exact absurd b12 (by decide)
        · skip
          refine r_bipush (pc2 := 17) (v := -14) dX3_readComparison_15 (by decide) rfl ?_
          refine r_istore_n (pc2 := 18) (ls2 := [.ref 65, .int (-14)]) 1 dX3_readComparison_17 rfl (by decide) rfl rfl rfl ?_
          refine r_goto (pc2 := 48) dX3_readComparison_18 (by decide) ?_
          refine r_iload_n (pc2 := 49) 1 dX3_readComparison_48 rfl rfl rfl ?_
          refine r_if_ne (tgt := 58) (pc2 := 52) dX3_readComparison_49 (by decide) rfl (fun b49 => ?_) (fun b49 => ?_)
          · skip
            refine r_aload_n (pc2 := 59) 0 dX3_readComparison_58 rfl rfl rfl rfl ?_
            refine r_callV0 (pc2 := 62) (As := []) (st := []) kX3_54 rfl rfl dX3_readComparison_59 c65 (by decide) rfl rfl (Nat.le_of_ble_eq_true rfl) (by omega) (X_adv (p := p) (L := L) h26 (by rw [hk]; decide) ht (by omega) hP hT) rfl (fun h hq59 => ?_)
            obtain ⟨hxc, hT⟩ := hq59
            have hx := hx.trans hxc (by decide)
            have hP := hP.ex hxc (by decide)
            obtain ⟨t, c, c65, hK, hC⟩ := id hT
            refine r_aload_n (pc2 := 63) 0 dX3_readComparison_62 rfl rfl rfl rfl ?_
            refine r_callV0 (pc2 := 66) (As := []) (st := []) kX3_216 rfl rfl dX3_readComparison_63 c65 (by decide) rfl rfl (Nat.le_of_ble_eq_true rfl) (by omega) (hSm _ (pNx tp n p L) (hI.nx (tp := tp) (by rw [hk]; decide)).w1 hT hP) rfl (fun h hq63 => ?_)
            obtain ⟨hxc, hT⟩ := hq63
            have hx := hx.trans hxc (by decide)
            have hP := hP.ex hxc (by decide)
            obtain ⟨t, c, c65, hK, hC⟩ := id hT
            refine r_aload_n (pc2 := 67) 0 dX3_readComparison_66 rfl rfl rfl rfl ?_
            refine r_iload_n (pc2 := 68) 1 dX3_readComparison_67 rfl rfl rfl ?_
            refine r_callV0 (pc2 := 71) (As := [.int (-14)]) (st := []) kX3_230 rfl rfl dX3_readComparison_68 c65 (by decide) rfl rfl (Nat.le_of_ble_eq_true rfl) (by omega) (X_emit (x := bnd (pNx tp n p L) S) (co := 3003) (fun p2 L2 z => by have := ((hI.nx (tp := tp) (by rw [hk]; decide)).b gS).len ht.1 p2 L2 z; omega) (by decide) hT) rfl (fun h hq68 => ?_)
            obtain ⟨hxc, hT⟩ := hq68
            have hx := hx.trans hxc (by decide)
            have hP := hP.ex hxc (by decide)
            obtain ⟨t, c, c65, hK, hC⟩ := id hT
            exact r_vret rfl dX3_readComparison_71 ⟨rfl, hx, hT⟩
          · exact absurd b49 (by decide)
      · have n39 := hk
        by_cases hk : lxK tp n p = 40
        · have eL : pOrd tp n S p L = bnd (bnd (pNx tp n p L) S) (pCo 3004) := by unfold pOrd pCmp; rw [if_pos (Or.inr (Or.inl hk)), hk]; rfl
          rw [eL]
          refine r_aload_n (pc2 := 7) 0 dX3_readComparison_6 rfl rfl rfl rfl ?_
          refine r_bipush (pc2 := 9) (v := 61) dX3_readComparison_7 (by decide) rfl ?_
          refine r_callV1 (pc2 := 12) (As := [.int 61]) (st := []) kX3_92 rfl rfl dX3_readComparison_9 c65 (by decide) rfl rfl (Nat.le_of_ble_eq_true rfl) (by omega) (X_signN (k := 9) (j := 39) (by decide) (by decide) rfl (by rw [hk]; decide) h26 ht (by omega) hP hT) rfl (fun h2 hq9 => ?_)
          obtain rfl := hq9.symm
          refine r_if_eq (tgt := 21) (pc2 := 15) dX3_readComparison_12 (by decide) rfl (fun b12 => ?_) (fun b12 => ?_)
          · skip
            refine r_aload_n (pc2 := 22) 0 dX3_readComparison_21 rfl rfl rfl rfl ?_
            refine r_bipush (pc2 := 24) (v := 60) dX3_readComparison_22 (by decide) rfl ?_
            refine r_callV1 (pc2 := 27) (As := [.int 60]) (st := []) kX3_92 rfl rfl dX3_readComparison_24 c65 (by decide) rfl rfl (Nat.le_of_ble_eq_true rfl) (by omega) (X_signY (k := 10) (j := 40) (by decide) (by decide) rfl hk h26 ht (by omega) hP hT) rfl (fun h2 hq24 => ?_)
            obtain rfl := hq24.symm
            refine r_if_eq (tgt := 36) (pc2 := 30) dX3_readComparison_27 (by decide) rfl (fun b27 => ?_) (fun b27 => ?_)
            · exact absurd b27 (by decide)
            · skip
              refine r_bipush (pc2 := 32) (v := -15) dX3_readComparison_30 (by decide) rfl ?_
              refine r_istore_n (pc2 := 33) (ls2 := [.ref 65, .int (-15)]) 1 dX3_readComparison_32 rfl (by decide) rfl rfl rfl ?_
              refine r_goto (pc2 := 48) dX3_readComparison_33 (by decide) ?_
              refine r_iload_n (pc2 := 49) 1 dX3_readComparison_48 rfl rfl rfl ?_
              refine r_if_ne (tgt := 58) (pc2 := 52) dX3_readComparison_49 (by decide) rfl (fun b49 => ?_) (fun b49 => ?_)
              · skip
                refine r_aload_n (pc2 := 59) 0 dX3_readComparison_58 rfl rfl rfl rfl ?_
                refine r_callV0 (pc2 := 62) (As := []) (st := []) kX3_54 rfl rfl dX3_readComparison_59 c65 (by decide) rfl rfl (Nat.le_of_ble_eq_true rfl) (by omega) (X_adv (p := p) (L := L) h26 (by rw [hk]; decide) ht (by omega) hP hT) rfl (fun h hq59 => ?_)
                obtain ⟨hxc, hT⟩ := hq59
                have hx := hx.trans hxc (by decide)
                have hP := hP.ex hxc (by decide)
                obtain ⟨t, c, c65, hK, hC⟩ := id hT
                refine r_aload_n (pc2 := 63) 0 dX3_readComparison_62 rfl rfl rfl rfl ?_
                refine r_callV0 (pc2 := 66) (As := []) (st := []) kX3_216 rfl rfl dX3_readComparison_63 c65 (by decide) rfl rfl (Nat.le_of_ble_eq_true rfl) (by omega) (hSm _ (pNx tp n p L) (hI.nx (tp := tp) (by rw [hk]; decide)).w1 hT hP) rfl (fun h hq63 => ?_)
                obtain ⟨hxc, hT⟩ := hq63
                have hx := hx.trans hxc (by decide)
                have hP := hP.ex hxc (by decide)
                obtain ⟨t, c, c65, hK, hC⟩ := id hT
                refine r_aload_n (pc2 := 67) 0 dX3_readComparison_66 rfl rfl rfl rfl ?_
                refine r_iload_n (pc2 := 68) 1 dX3_readComparison_67 rfl rfl rfl ?_
                refine r_callV0 (pc2 := 71) (As := [.int (-15)]) (st := []) kX3_230 rfl rfl dX3_readComparison_68 c65 (by decide) rfl rfl (Nat.le_of_ble_eq_true rfl) (by omega) (X_emit (x := bnd (pNx tp n p L) S) (co := 3004) (fun p2 L2 z => by have := ((hI.nx (tp := tp) (by rw [hk]; decide)).b gS).len ht.1 p2 L2 z; omega) (by decide) hT) rfl (fun h hq68 => ?_)
                obtain ⟨hxc, hT⟩ := hq68
                have hx := hx.trans hxc (by decide)
                have hP := hP.ex hxc (by decide)
                obtain ⟨t, c, c65, hK, hC⟩ := id hT
                exact r_vret rfl dX3_readComparison_71 ⟨rfl, hx, hT⟩
              · exact absurd b49 (by decide)
          · exact absurd b12 (by decide)
        · have n40 := hk
          by_cases hk : lxK tp n p = 41
          · have eL : pOrd tp n S p L = bnd (bnd (pNx tp n p L) S) (pCo 3005) := by unfold pOrd pCmp; rw [if_pos (Or.inr (Or.inr hk)), hk]; rfl
            rw [eL]
            refine r_aload_n (pc2 := 7) 0 dX3_readComparison_6 rfl rfl rfl rfl ?_
            refine r_bipush (pc2 := 9) (v := 61) dX3_readComparison_7 (by decide) rfl ?_
            refine r_callV1 (pc2 := 12) (As := [.int 61]) (st := []) kX3_92 rfl rfl dX3_readComparison_9 c65 (by decide) rfl rfl (Nat.le_of_ble_eq_true rfl) (by omega) (X_signN (k := 9) (j := 39) (by decide) (by decide) rfl (by rw [hk]; decide) h26 ht (by omega) hP hT) rfl (fun h2 hq9 => ?_)
            obtain rfl := hq9.symm
            refine r_if_eq (tgt := 21) (pc2 := 15) dX3_readComparison_12 (by decide) rfl (fun b12 => ?_) (fun b12 => ?_)
            · skip
              refine r_aload_n (pc2 := 22) 0 dX3_readComparison_21 rfl rfl rfl rfl ?_
              refine r_bipush (pc2 := 24) (v := 60) dX3_readComparison_22 (by decide) rfl ?_
              refine r_callV1 (pc2 := 27) (As := [.int 60]) (st := []) kX3_92 rfl rfl dX3_readComparison_24 c65 (by decide) rfl rfl (Nat.le_of_ble_eq_true rfl) (by omega) (X_signN (k := 10) (j := 40) (by decide) (by decide) rfl (by rw [hk]; decide) h26 ht (by omega) hP hT) rfl (fun h2 hq24 => ?_)
              obtain rfl := hq24.symm
              refine r_if_eq (tgt := 36) (pc2 := 30) dX3_readComparison_27 (by decide) rfl (fun b27 => ?_) (fun b27 => ?_)
              · skip
                refine r_aload_n (pc2 := 37) 0 dX3_readComparison_36 rfl rfl rfl rfl ?_
                refine r_bipush (pc2 := 39) (v := 62) dX3_readComparison_37 (by decide) rfl ?_
                refine r_callV1 (pc2 := 42) (As := [.int 62]) (st := []) kX3_92 rfl rfl dX3_readComparison_39 c65 (by decide) rfl rfl (Nat.le_of_ble_eq_true rfl) (by omega) (X_signY (k := 11) (j := 41) (by decide) (by decide) rfl hk h26 ht (by omega) hP hT) rfl (fun h2 hq39 => ?_)
                obtain rfl := hq39.symm
                refine r_if_eq (tgt := 48) (pc2 := 45) dX3_readComparison_42 (by decide) rfl (fun b42 => ?_) (fun b42 => ?_)
                · exact absurd b42 (by decide)
                · skip
                  refine r_bipush (pc2 := 47) (v := -16) dX3_readComparison_45 (by decide) rfl ?_
                  refine r_istore_n (pc2 := 48) (ls2 := [.ref 65, .int (-16)]) 1 dX3_readComparison_47 rfl (by decide) rfl rfl rfl ?_
                  refine r_iload_n (pc2 := 49) 1 dX3_readComparison_48 rfl rfl rfl ?_
                  refine r_if_ne (tgt := 58) (pc2 := 52) dX3_readComparison_49 (by decide) rfl (fun b49 => ?_) (fun b49 => ?_)
                  · skip
                    refine r_aload_n (pc2 := 59) 0 dX3_readComparison_58 rfl rfl rfl rfl ?_
                    refine r_callV0 (pc2 := 62) (As := []) (st := []) kX3_54 rfl rfl dX3_readComparison_59 c65 (by decide) rfl rfl (Nat.le_of_ble_eq_true rfl) (by omega) (X_adv (p := p) (L := L) h26 (by rw [hk]; decide) ht (by omega) hP hT) rfl (fun h hq59 => ?_)
                    obtain ⟨hxc, hT⟩ := hq59
                    have hx := hx.trans hxc (by decide)
                    have hP := hP.ex hxc (by decide)
                    obtain ⟨t, c, c65, hK, hC⟩ := id hT
                    refine r_aload_n (pc2 := 63) 0 dX3_readComparison_62 rfl rfl rfl rfl ?_
                    refine r_callV0 (pc2 := 66) (As := []) (st := []) kX3_216 rfl rfl dX3_readComparison_63 c65 (by decide) rfl rfl (Nat.le_of_ble_eq_true rfl) (by omega) (hSm _ (pNx tp n p L) (hI.nx (tp := tp) (by rw [hk]; decide)).w1 hT hP) rfl (fun h hq63 => ?_)
                    obtain ⟨hxc, hT⟩ := hq63
                    have hx := hx.trans hxc (by decide)
                    have hP := hP.ex hxc (by decide)
                    obtain ⟨t, c, c65, hK, hC⟩ := id hT
                    refine r_aload_n (pc2 := 67) 0 dX3_readComparison_66 rfl rfl rfl rfl ?_
                    refine r_iload_n (pc2 := 68) 1 dX3_readComparison_67 rfl rfl rfl ?_
                    refine r_callV0 (pc2 := 71) (As := [.int (-16)]) (st := []) kX3_230 rfl rfl dX3_readComparison_68 c65 (by decide) rfl rfl (Nat.le_of_ble_eq_true rfl) (by omega) (X_emit (x := bnd (pNx tp n p L) S) (co := 3005) (fun p2 L2 z => by have := ((hI.nx (tp := tp) (by rw [hk]; decide)).b gS).len ht.1 p2 L2 z; omega) (by decide) hT) rfl (fun h hq68 => ?_)
                    obtain ⟨hxc, hT⟩ := hq68
                    have hx := hx.trans hxc (by decide)
                    have hP := hP.ex hxc (by decide)
                    obtain ⟨t, c, c65, hK, hC⟩ := id hT
                    exact r_vret rfl dX3_readComparison_71 ⟨rfl, hx, hT⟩
                  · exact absurd b49 (by decide)
              · exact absurd b27 (by decide)
            · exact absurd b12 (by decide)
          · have n41 := hk
            have eL : pOrd tp n S p L = pFl tp n 2 p := by unfold pOrd pCmp; rw [if_neg (show ¬ (lxK tp n p = 39 ∨ lxK tp n p = 40 ∨ lxK tp n p = 41) from fun z => Or.elim z n39 (fun z => Or.elim z n40 n41))]; rfl
            rw [eL]
            refine r_aload_n (pc2 := 7) 0 dX3_readComparison_6 rfl rfl rfl rfl ?_
            refine r_bipush (pc2 := 9) (v := 61) dX3_readComparison_7 (by decide) rfl ?_
            refine r_callV1 (pc2 := 12) (As := [.int 61]) (st := []) kX3_92 rfl rfl dX3_readComparison_9 c65 (by decide) rfl rfl (Nat.le_of_ble_eq_true rfl) (by omega) (X_signN (k := 9) (j := 39) (by decide) (by decide) rfl n39 h26 ht (by omega) hP hT) rfl (fun h2 hq9 => ?_)
            obtain rfl := hq9.symm
            refine r_if_eq (tgt := 21) (pc2 := 15) dX3_readComparison_12 (by decide) rfl (fun b12 => ?_) (fun b12 => ?_)
            · skip
              refine r_aload_n (pc2 := 22) 0 dX3_readComparison_21 rfl rfl rfl rfl ?_
              refine r_bipush (pc2 := 24) (v := 60) dX3_readComparison_22 (by decide) rfl ?_
              refine r_callV1 (pc2 := 27) (As := [.int 60]) (st := []) kX3_92 rfl rfl dX3_readComparison_24 c65 (by decide) rfl rfl (Nat.le_of_ble_eq_true rfl) (by omega) (X_signN (k := 10) (j := 40) (by decide) (by decide) rfl n40 h26 ht (by omega) hP hT) rfl (fun h2 hq24 => ?_)
              obtain rfl := hq24.symm
              refine r_if_eq (tgt := 36) (pc2 := 30) dX3_readComparison_27 (by decide) rfl (fun b27 => ?_) (fun b27 => ?_)
              · skip
                refine r_aload_n (pc2 := 37) 0 dX3_readComparison_36 rfl rfl rfl rfl ?_
                refine r_bipush (pc2 := 39) (v := 62) dX3_readComparison_37 (by decide) rfl ?_
                refine r_callV1 (pc2 := 42) (As := [.int 62]) (st := []) kX3_92 rfl rfl dX3_readComparison_39 c65 (by decide) rfl rfl (Nat.le_of_ble_eq_true rfl) (by omega) (X_signN (k := 11) (j := 41) (by decide) (by decide) rfl n41 h26 ht (by omega) hP hT) rfl (fun h2 hq39 => ?_)
                obtain rfl := hq39.symm
                refine r_if_eq (tgt := 48) (pc2 := 45) dX3_readComparison_42 (by decide) rfl (fun b42 => ?_) (fun b42 => ?_)
                · skip
                  refine r_iload_n (pc2 := 49) 1 dX3_readComparison_48 rfl rfl rfl ?_
                  refine r_if_ne (tgt := 58) (pc2 := 52) dX3_readComparison_49 (by decide) rfl (fun b49 => ?_) (fun b49 => ?_)
                  · exact absurd b49 (by decide)
                  · skip
                    refine r_aload_n (pc2 := 53) 0 dX3_readComparison_52 rfl rfl rfl rfl ?_
                    refine r_iconst (pc2 := 54) (v := 2) dX3_readComparison_53 (by decide) rfl ?_
                    refine r_callV0 (pc2 := 57) (As := [.int 2]) (st := []) kX3_76 rfl rfl dX3_readComparison_54 c65 (by decide) rfl rfl (Nat.le_of_ble_eq_true rfl) (by omega) (X_ref (f := 2) h26 (by decide) (by decide) rfl ht hT) rfl (fun h hq54 => ?_)
                    obtain ⟨hxc, hT⟩ := hq54
                    have hx := hx.trans hxc (by decide)
                    have hP := hP.ex hxc (by decide)
                    obtain ⟨t, c, c65, hK, hC⟩ := id hT
                    exact r_vret rfl dX3_readComparison_57 ⟨rfl, hx, hT⟩
                · exact absurd b42 (by decide)
              · exact absurd b27 (by decide)
            · exact absurd b12 (by decide)
  refine Cn.go (ls := [.ref 65, .float 0]) (by decide +kernel) rfl (Nat.le_of_ble_eq_true rfl) ?_
  refine r_aload_n (pc2 := 1) 0 dX3_readComparison_0 rfl rfl rfl rfl ?_
  refine r_callV0 (pc2 := 4) (As := []) (st := []) kX3_216 rfl rfl dX3_readComparison_1 c65 (by decide) rfl rfl (Nat.le_of_ble_eq_true rfl) (by omega) (hSm _ x hI hT hP) rfl (fun h hq1 => ?_)
  obtain ⟨hxc, hT⟩ := hq1
  have hx := hx.trans hxc (by decide)
  have hP := hP.ex hxc (by decide)
  obtain ⟨t, c, c65, hK, hC⟩ := id hT
  refine r_iconst (pc2 := 5) (v := 0) dX3_readComparison_4 (by decide) rfl ?_
  refine r_istore_n (pc2 := 6) (ls2 := [.ref 65, .int 0]) 1 dX3_readComparison_5 rfl (by decide) rfl rfl rfl ?_
  exact k6 _ (hI.b gS) h hx hT hP
set_option maxRecDepth 20000 in
set_option maxHeartbeats 1000000 in
theorem K_unit {E : EnvT} {d : Nat} {tp : Nat → Nat} {n : Nat} {u : RLT} {rd b e : Nat} {S : PF} (heb : e + b = 6) (ht : TOk tp n) (hd : 8 * b + 7 ≤ d) (bS : Bs tp n S) (hCm : CR E tp n u mX3_readComparison (d - 1) e (pCm tp n S)) (hU : b ≠ 0 → ∀ d, 8 * b + 5 ≤ d → CR E tp n u mX3_readTruth d (e + 1) (sub2 tp n rd b)) (hV : b ≠ 0 → ∀ d, 8 * b + 3 ≤ d → CR E tp n u mX3_readUnit d (e + 1) (sub3 tp n rd b)) : CR E tp n u mX3_readUnit d e (pUnit tp n b S (sub2 tp n rd b) (sub3 tp n rd b)) := by
  intro s h0 x hI hT hP
  have hx : Ex [65, 67] h0 h0 := Ex.rf
  refine x_ci (u := u) (e := e) (F := pUnit tp n b S (sub2 tp n rd b) (sub3 tp n rd b)) (R := fun h x => Cn E mX3_readUnit d [.ref 65] h (RLQ tp n u e (s + 1) h0 none x)) hI (b_unit bS) (fun x y g => RLQ.nrm x y g) hT (fun we ae hIe hT => ?_) (fun p L ex h26 hT => ?_)
  · obtain ⟨t, c, c65, hK, hC⟩ := id hT
    refine Cn.go (ls := [.ref 65]) (by decide +kernel) rfl (Nat.le_of_ble_eq_true rfl) ?_
    refine r_aload_n (pc2 := 1) 0 dX3_readUnit_0 rfl rfl rfl rfl ?_
    refine r_ldcS (pc2 := 3) 9 (by decide) rfl rfl dX3_readUnit_1 rfl ?_
    refine r_callV1 (pc2 := 6) (As := [.ref 9]) (st := []) kX3_88 rfl rfl dX3_readUnit_3 c65 (by decide) rfl rfl (Nat.le_of_ble_eq_true rfl) (by omega) (X_wordE (w := 9) (by decide) ht (by omega) hP hT) rfl (fun h2 hq3 => ?_)
    obtain rfl := hq3.symm
    refine r_if_eq (tgt := 39) (pc2 := 9) dX3_readUnit_6 (by decide) rfl (fun b6 => ?_) (fun b6 => ?_)
    · skip
      refine r_aload_n (pc2 := 40) 0 dX3_readUnit_39 rfl rfl rfl rfl ?_
      refine r_bipush (pc2 := 42) (v := 91) dX3_readUnit_40 (by decide) rfl ?_
      refine r_callV1 (pc2 := 45) (As := [.int 91]) (st := []) kX3_92 rfl rfl dX3_readUnit_42 c65 (by decide) rfl rfl (Nat.le_of_ble_eq_true rfl) (by omega) (X_signE (k := 7) (by decide) (by decide) ht (by omega) hP hT) rfl (fun h2 hq42 => ?_)
      obtain rfl := hq42.symm
      refine r_if_eq (tgt := 78) (pc2 := 48) dX3_readUnit_45 (by decide) rfl (fun b45 => ?_) (fun b45 => ?_)
      · skip
        refine r_aload_n (pc2 := 79) 0 dX3_readUnit_78 rfl rfl rfl rfl ?_
        refine r_callV0 (pc2 := 82) (As := []) (st := []) kX3_272 rfl rfl dX3_readUnit_79 c65 (by decide) rfl rfl (Nat.le_of_ble_eq_true rfl) (by omega) (hCm _ (.error (we, ae) : PX (List Nat)) hIe hT hP) rfl (fun h hq79 => ?_)
        obtain ⟨hxc, hT⟩ := hq79
        have hx := hx.trans hxc (by decide)
        have hP := hP.ex hxc (by decide)
        obtain ⟨t, c, c65, hK, hC⟩ := id hT
        exact r_vret rfl dX3_readUnit_82 ⟨rfl, hx, hT⟩
      · exact absurd b45 (by decide)
    · exact absurd b6 (by decide)
  · subst ex
    obtain ⟨t, c, c65, hK, hC⟩ := id hT
    by_cases hk : lxK tp n p = 22
    · by_cases hb : b = 0
      · have heb6 : e = 6 := by omega
        have eG : (pUnit tp n b S (sub2 tp n rd b) (sub3 tp n rd b) p L) = pFl tp n 4 p := by unfold pUnit pIn; rw [if_pos hk, if_pos hb]; rfl
        rw [eG]
        refine Cn.go (ls := [.ref 65]) (by decide +kernel) rfl (Nat.le_of_ble_eq_true rfl) ?_
        refine r_aload_n (pc2 := 1) 0 dX3_readUnit_0 rfl rfl rfl rfl ?_
        refine r_ldcS (pc2 := 3) 9 (by decide) rfl rfl dX3_readUnit_1 rfl ?_
        refine r_callV1 (pc2 := 6) (As := [.ref 9]) (st := []) kX3_88 rfl rfl dX3_readUnit_3 c65 (by decide) rfl rfl (Nat.le_of_ble_eq_true rfl) (by omega) (X_wordY (w := 9) (k := 22) (by decide) rfl hk h26 ht (by omega) hP hT) rfl (fun h2 hq3 => ?_)
        obtain rfl := hq3.symm
        refine r_if_eq (tgt := 39) (pc2 := 9) dX3_readUnit_6 (by decide) rfl (fun b6 => ?_) (fun b6 => ?_)
        · exact absurd b6 (by decide)
        · skip
          refine r_aload_n (pc2 := 10) 0 dX3_readUnit_9 rfl rfl rfl rfl ?_
          refine r_callV1 (pc2 := 13) (As := []) (st := []) kX3_236 rfl rfl dX3_readUnit_10 c65 (by decide) rfl rfl (Nat.le_of_ble_eq_true rfl) (by omega) (X_enter0 heb6 h26 ht (by omega) hP hT) rfl (fun h hq10 => ?_)
          obtain ⟨hxc, hT⟩ := hq10
          have hx := hx.trans hxc (by decide)
          have hP := hP.ex hxc (by decide)
          obtain ⟨t, c, c65, hK, hC⟩ := id hT
          refine r_if_eq (tgt := 82) (pc2 := 16) dX3_readUnit_13 (by decide) rfl (fun b13 => ?_) (fun b13 => ?_)
          · skip
            exact r_vret rfl dX3_readUnit_82 ⟨rfl, hx, hT⟩
          · exact absurd b13 (by decide)
      · have heb6 : e < 6 := by omega
        have eG : (pUnit tp n b S (sub2 tp n rd b) (sub3 tp n rd b) p L) = (bnd (bnd (pNx tp n p L) (sub3 tp n rd b)) (pCo 3006)) := by unfold pUnit pIn; rw [if_pos hk, if_neg hb]
        rw [eG]
        refine Cn.go (ls := [.ref 65]) (by decide +kernel) rfl (Nat.le_of_ble_eq_true rfl) ?_
        refine r_aload_n (pc2 := 1) 0 dX3_readUnit_0 rfl rfl rfl rfl ?_
        refine r_ldcS (pc2 := 3) 9 (by decide) rfl rfl dX3_readUnit_1 rfl ?_
        refine r_callV1 (pc2 := 6) (As := [.ref 9]) (st := []) kX3_88 rfl rfl dX3_readUnit_3 c65 (by decide) rfl rfl (Nat.le_of_ble_eq_true rfl) (by omega) (X_wordY (w := 9) (k := 22) (by decide) rfl hk h26 ht (by omega) hP hT) rfl (fun h2 hq3 => ?_)
        obtain rfl := hq3.symm
        refine r_if_eq (tgt := 39) (pc2 := 9) dX3_readUnit_6 (by decide) rfl (fun b6 => ?_) (fun b6 => ?_)
        · exact absurd b6 (by decide)
        · skip
          refine r_aload_n (pc2 := 10) 0 dX3_readUnit_9 rfl rfl rfl rfl ?_
          refine r_callV1 (pc2 := 13) (As := []) (st := []) kX3_236 rfl rfl dX3_readUnit_10 c65 (by decide) rfl rfl (Nat.le_of_ble_eq_true rfl) (by omega) (X_enter1 heb6 h26 (by rw [hk]; decide) ht (by omega) hP hT) rfl (fun h hq10 => ?_)
          obtain ⟨hxc, hT⟩ := hq10
          have hx := hx.trans hxc (by decide)
          have hP := hP.ex hxc (by decide)
          obtain ⟨t, c, c65, hK, hC⟩ := id hT
          refine r_if_eq (tgt := 82) (pc2 := 16) dX3_readUnit_13 (by decide) rfl (fun b13 => ?_) (fun b13 => ?_)
          · exact absurd b13 (by decide)
          · skip
            refine r_aload_n (pc2 := 17) 0 dX3_readUnit_16 rfl rfl rfl rfl ?_
            refine r_callV0 (pc2 := 20) (As := []) (st := []) kX3_267 rfl rfl dX3_readUnit_17 c65 (by decide) rfl rfl (Nat.le_of_ble_eq_true rfl) (by omega) (hV hb _ (by omega) _ (pNx tp n p L) (hI.nx (tp := tp) (by rw [hk]; decide)).w1 hT hP) rfl (fun h hq17 => ?_)
            obtain ⟨hxc, hT⟩ := hq17
            have hx := hx.trans hxc (by decide)
            have hP := hP.ex hxc (by decide)
            obtain ⟨t, c, c65, hK, hC⟩ := id hT
            refine r_aload_n (pc2 := 21) 0 dX3_readUnit_20 rfl rfl rfl rfl ?_
            refine r_bipush (pc2 := 23) (v := -17) dX3_readUnit_21 (by decide) rfl ?_
            refine r_callV0 (pc2 := 26) (As := [.int (-17)]) (st := []) kX3_230 rfl rfl dX3_readUnit_23 c65 (by decide) rfl rfl (Nat.le_of_ble_eq_true rfl) (by omega) (X_emit (x := (bnd (pNx tp n p L) (sub3 tp n rd b))) (co := 3006) (fun p2 L2 z => by have := ((hI.nx (tp := tp) (by rw [hk]; decide)).b (g_sub3 tp n rd b)).len ht.1 p2 L2 z; omega) (by decide) hT) rfl (fun h hq23 => ?_)
            obtain ⟨hxc, hT⟩ := hq23
            have hx := hx.trans hxc (by decide)
            have hP := hP.ex hxc (by decide)
            obtain ⟨t, c, c65, hK, hC⟩ := id hT
            refine r_aload_n (pc2 := 27) 0 dX3_readUnit_26 rfl rfl rfl rfl ?_
            refine r_dup (pc2 := 28) dX3_readUnit_27 rfl rfl ?_
            refine r_getf (pc2 := 31) (v := .int (nI (e + 1))) fX3_210 dX3_readUnit_28 c65 (by decide) rfl rfl ?_
            refine r_iconst (pc2 := 32) (v := 1) dX3_readUnit_31 (by decide) rfl ?_
            refine r_isub (pc2 := 33) dX3_readUnit_32 rfl ?_
            refine r_cast (nI e) ((pk_sub (b := 1) (by omega)).trans (congrArg nI (Nat.add_sub_cancel e 1))) ?_
            refine r_putfX (pc2 := 36) [.int t.1, .int t.2.1, .int u.1, .ref 66, .int (nI n), .int t.2.2.1, .int t.2.2.2.1, .int t.2.2.2.2, .int (nI e), .int u.2.1, .int u.2.2.1, .ref 67, .int (nI c), u.2.2.2] fX3_210 dX3_readUnit_33 c65 (by decide) (Nat.le_of_ble_eq_true rfl) rfl rfl rfl (fun h z33 o33 c65 => ?_)
            have hx := hx.step (a := 65) (by decide) z33 o33
            have hxw : Ex [65] _ h := ⟨z33, fun y hy => o33 y (by simpa using hy)⟩
            have hT : RLw tp n u e (s + 1) (bnd (bnd (pNx tp n p L) (sub3 tp n rd b)) (pCo 3006)) h := ⟨t, c, c65, hK, hC.ex hxw⟩
            refine r_goto (pc2 := 82) dX3_readUnit_36 (by decide) ?_
            exact r_vret rfl dX3_readUnit_82 ⟨rfl, hx, hT⟩
    · have n22 := hk
      by_cases hk : lxK tp n p = 37
      · by_cases hb : b = 0
        · have heb6 : e = 6 := by omega
          have eG : (pUnit tp n b S (sub2 tp n rd b) (sub3 tp n rd b) p L) = pFl tp n 4 p := by unfold pUnit pIn; rw [if_neg n22, if_pos hk, if_pos hb]; rfl
          rw [eG]
          refine Cn.go (ls := [.ref 65]) (by decide +kernel) rfl (Nat.le_of_ble_eq_true rfl) ?_
          refine r_aload_n (pc2 := 1) 0 dX3_readUnit_0 rfl rfl rfl rfl ?_
          refine r_ldcS (pc2 := 3) 9 (by decide) rfl rfl dX3_readUnit_1 rfl ?_
          refine r_callV1 (pc2 := 6) (As := [.ref 9]) (st := []) kX3_88 rfl rfl dX3_readUnit_3 c65 (by decide) rfl rfl (Nat.le_of_ble_eq_true rfl) (by omega) (X_wordN (w := 9) (k := 22) (by decide) rfl (by rw [hk]; decide) h26 ht (by omega) hP hT) rfl (fun h2 hq3 => ?_)
          obtain rfl := hq3.symm
          refine r_if_eq (tgt := 39) (pc2 := 9) dX3_readUnit_6 (by decide) rfl (fun b6 => ?_) (fun b6 => ?_)
          · skip
            refine r_aload_n (pc2 := 40) 0 dX3_readUnit_39 rfl rfl rfl rfl ?_
            refine r_bipush (pc2 := 42) (v := 91) dX3_readUnit_40 (by decide) rfl ?_
            refine r_callV1 (pc2 := 45) (As := [.int 91]) (st := []) kX3_92 rfl rfl dX3_readUnit_42 c65 (by decide) rfl rfl (Nat.le_of_ble_eq_true rfl) (by omega) (X_signY (k := 7) (j := 37) (by decide) (by decide) rfl hk h26 ht (by omega) hP hT) rfl (fun h2 hq42 => ?_)
            obtain rfl := hq42.symm
            refine r_if_eq (tgt := 78) (pc2 := 48) dX3_readUnit_45 (by decide) rfl (fun b45 => ?_) (fun b45 => ?_)
            · exact absurd b45 (by decide)
            · skip
              refine r_aload_n (pc2 := 49) 0 dX3_readUnit_48 rfl rfl rfl rfl ?_
              refine r_callV1 (pc2 := 52) (As := []) (st := []) kX3_236 rfl rfl dX3_readUnit_49 c65 (by decide) rfl rfl (Nat.le_of_ble_eq_true rfl) (by omega) (X_enter0 heb6 h26 ht (by omega) hP hT) rfl (fun h hq49 => ?_)
              obtain ⟨hxc, hT⟩ := hq49
              have hx := hx.trans hxc (by decide)
              have hP := hP.ex hxc (by decide)
              obtain ⟨t, c, c65, hK, hC⟩ := id hT
              refine r_if_eq (tgt := 82) (pc2 := 55) dX3_readUnit_52 (by decide) rfl (fun b52 => ?_) (fun b52 => ?_)
              · skip
                exact r_vret rfl dX3_readUnit_82 ⟨rfl, hx, hT⟩
              · exact absurd b52 (by decide)
          · exact absurd b6 (by decide)
        · have heb6 : e < 6 := by omega
          have eG : (pUnit tp n b S (sub2 tp n rd b) (sub3 tp n rd b) p L) = (bnd (bnd (pNx tp n p L) (sub2 tp n rd b)) (pEat tp n 38)) := by unfold pUnit pIn; rw [if_neg n22, if_pos hk, if_neg hb]
          rw [eG]
          refine Cn.go (ls := [.ref 65]) (by decide +kernel) rfl (Nat.le_of_ble_eq_true rfl) ?_
          refine r_aload_n (pc2 := 1) 0 dX3_readUnit_0 rfl rfl rfl rfl ?_
          refine r_ldcS (pc2 := 3) 9 (by decide) rfl rfl dX3_readUnit_1 rfl ?_
          refine r_callV1 (pc2 := 6) (As := [.ref 9]) (st := []) kX3_88 rfl rfl dX3_readUnit_3 c65 (by decide) rfl rfl (Nat.le_of_ble_eq_true rfl) (by omega) (X_wordN (w := 9) (k := 22) (by decide) rfl (by rw [hk]; decide) h26 ht (by omega) hP hT) rfl (fun h2 hq3 => ?_)
          obtain rfl := hq3.symm
          refine r_if_eq (tgt := 39) (pc2 := 9) dX3_readUnit_6 (by decide) rfl (fun b6 => ?_) (fun b6 => ?_)
          · skip
            refine r_aload_n (pc2 := 40) 0 dX3_readUnit_39 rfl rfl rfl rfl ?_
            refine r_bipush (pc2 := 42) (v := 91) dX3_readUnit_40 (by decide) rfl ?_
            refine r_callV1 (pc2 := 45) (As := [.int 91]) (st := []) kX3_92 rfl rfl dX3_readUnit_42 c65 (by decide) rfl rfl (Nat.le_of_ble_eq_true rfl) (by omega) (X_signY (k := 7) (j := 37) (by decide) (by decide) rfl hk h26 ht (by omega) hP hT) rfl (fun h2 hq42 => ?_)
            obtain rfl := hq42.symm
            refine r_if_eq (tgt := 78) (pc2 := 48) dX3_readUnit_45 (by decide) rfl (fun b45 => ?_) (fun b45 => ?_)
            · exact absurd b45 (by decide)
            · skip
              refine r_aload_n (pc2 := 49) 0 dX3_readUnit_48 rfl rfl rfl rfl ?_
              refine r_callV1 (pc2 := 52) (As := []) (st := []) kX3_236 rfl rfl dX3_readUnit_49 c65 (by decide) rfl rfl (Nat.le_of_ble_eq_true rfl) (by omega) (X_enter1 heb6 h26 (by rw [hk]; decide) ht (by omega) hP hT) rfl (fun h hq49 => ?_)
              obtain ⟨hxc, hT⟩ := hq49
              have hx := hx.trans hxc (by decide)
              have hP := hP.ex hxc (by decide)
              obtain ⟨t, c, c65, hK, hC⟩ := id hT
              refine r_if_eq (tgt := 82) (pc2 := 55) dX3_readUnit_52 (by decide) rfl (fun b52 => ?_) (fun b52 => ?_)
              · exact absurd b52 (by decide)
              · skip
                refine r_aload_n (pc2 := 56) 0 dX3_readUnit_55 rfl rfl rfl rfl ?_
                refine r_callV0 (pc2 := 59) (As := []) (st := []) kX3_248 rfl rfl dX3_readUnit_56 c65 (by decide) rfl rfl (Nat.le_of_ble_eq_true rfl) (by omega) (hU hb _ (by omega) _ (pNx tp n p L) (hI.nx (tp := tp) (by rw [hk]; decide)).w1 hT hP) rfl (fun h hq56 => ?_)
                obtain ⟨hxc, hT⟩ := hq56
                have hx := hx.trans hxc (by decide)
                have hP := hP.ex hxc (by decide)
                obtain ⟨t, c, c65, hK, hC⟩ := id hT
                refine r_aload_n (pc2 := 60) 0 dX3_readUnit_59 rfl rfl rfl rfl ?_
                refine r_bipush (pc2 := 62) (v := 93) dX3_readUnit_60 (by decide) rfl ?_
                refine r_callV0 (pc2 := 65) (As := [.int 93]) (st := []) kX3_131 rfl rfl dX3_readUnit_62 c65 (by decide) rfl rfl (Nat.le_of_ble_eq_true rfl) (by omega) (X_eatS (k := 8) (x := (bnd (pNx tp n p L) (sub2 tp n rd b))) (by decide) (by decide) ht (by omega) hP hT) rfl (fun h hq62 => ?_)
                obtain ⟨hxc, hT⟩ := hq62
                have hx := hx.trans hxc (by decide)
                have hP := hP.ex hxc (by decide)
                obtain ⟨t, c, c65, hK, hC⟩ := id hT
                refine r_aload_n (pc2 := 66) 0 dX3_readUnit_65 rfl rfl rfl rfl ?_
                refine r_dup (pc2 := 67) dX3_readUnit_66 rfl rfl ?_
                refine r_getf (pc2 := 70) (v := .int (nI (e + 1))) fX3_210 dX3_readUnit_67 c65 (by decide) rfl rfl ?_
                refine r_iconst (pc2 := 71) (v := 1) dX3_readUnit_70 (by decide) rfl ?_
                refine r_isub (pc2 := 72) dX3_readUnit_71 rfl ?_
                refine r_cast (nI e) ((pk_sub (b := 1) (by omega)).trans (congrArg nI (Nat.add_sub_cancel e 1))) ?_
                refine r_putfX (pc2 := 75) [.int t.1, .int t.2.1, .int u.1, .ref 66, .int (nI n), .int t.2.2.1, .int t.2.2.2.1, .int t.2.2.2.2, .int (nI e), .int u.2.1, .int u.2.2.1, .ref 67, .int (nI c), u.2.2.2] fX3_210 dX3_readUnit_72 c65 (by decide) (Nat.le_of_ble_eq_true rfl) rfl rfl rfl (fun h z72 o72 c65 => ?_)
                have hx := hx.step (a := 65) (by decide) z72 o72
                have hxw : Ex [65] _ h := ⟨z72, fun y hy => o72 y (by simpa using hy)⟩
                have hT : RLw tp n u e (s + 1 + 1) (bnd (bnd (pNx tp n p L) (sub2 tp n rd b)) (pEat tp n 38)) h := ⟨t, c, c65, hK, hC.ex hxw⟩
                have hT := hT.dn
                refine r_goto (pc2 := 82) dX3_readUnit_75 (by decide) ?_
                exact r_vret rfl dX3_readUnit_82 ⟨rfl, hx, hT⟩
          · exact absurd b6 (by decide)
      · have n37 := hk
        have eG : (pUnit tp n b S (sub2 tp n rd b) (sub3 tp n rd b) p L) = bnd (.ok (p, L) : PX (List Nat)) (pCm tp n S) := by unfold pUnit; rw [if_neg n22, if_neg n37]; rfl
        rw [eG]
        refine Cn.go (ls := [.ref 65]) (by decide +kernel) rfl (Nat.le_of_ble_eq_true rfl) ?_
        refine r_aload_n (pc2 := 1) 0 dX3_readUnit_0 rfl rfl rfl rfl ?_
        refine r_ldcS (pc2 := 3) 9 (by decide) rfl rfl dX3_readUnit_1 rfl ?_
        refine r_callV1 (pc2 := 6) (As := [.ref 9]) (st := []) kX3_88 rfl rfl dX3_readUnit_3 c65 (by decide) rfl rfl (Nat.le_of_ble_eq_true rfl) (by omega) (X_wordN (w := 9) (k := 22) (by decide) rfl n22 h26 ht (by omega) hP hT) rfl (fun h2 hq3 => ?_)
        obtain rfl := hq3.symm
        refine r_if_eq (tgt := 39) (pc2 := 9) dX3_readUnit_6 (by decide) rfl (fun b6 => ?_) (fun b6 => ?_)
        · skip
          refine r_aload_n (pc2 := 40) 0 dX3_readUnit_39 rfl rfl rfl rfl ?_
          refine r_bipush (pc2 := 42) (v := 91) dX3_readUnit_40 (by decide) rfl ?_
          refine r_callV1 (pc2 := 45) (As := [.int 91]) (st := []) kX3_92 rfl rfl dX3_readUnit_42 c65 (by decide) rfl rfl (Nat.le_of_ble_eq_true rfl) (by omega) (X_signN (k := 7) (j := 37) (by decide) (by decide) rfl n37 h26 ht (by omega) hP hT) rfl (fun h2 hq42 => ?_)
          obtain rfl := hq42.symm
          refine r_if_eq (tgt := 78) (pc2 := 48) dX3_readUnit_45 (by decide) rfl (fun b45 => ?_) (fun b45 => ?_)
          · skip
            refine r_aload_n (pc2 := 79) 0 dX3_readUnit_78 rfl rfl rfl rfl ?_
            refine r_callV0 (pc2 := 82) (As := []) (st := []) kX3_272 rfl rfl dX3_readUnit_79 c65 (by decide) rfl rfl (Nat.le_of_ble_eq_true rfl) (by omega) (hCm _ (.ok (p, L) : PX (List Nat)) hI hT hP) rfl (fun h hq79 => ?_)
            obtain ⟨hxc, hT⟩ := hq79
            have hx := hx.trans hxc (by decide)
            have hP := hP.ex hxc (by decide)
            obtain ⟨t, c, c65, hK, hC⟩ := id hT
            exact r_vret rfl dX3_readUnit_82 ⟨rfl, hx, hT⟩
          · exact absurd b45 (by decide)
        · exact absurd b6 (by decide)
def LVk (E : EnvT) (tp : Nat → Nat) (n : Nat) (u : RLT) (rd b : Nat) : Prop := ∀ e d, e + b = 6 → (8 * b + 9 ≤ d → CR E tp n u mX3_readSum d e (lvl tp n rd b).1) ∧ (8 * b + 13 ≤ d → CR E tp n u mX3_readTruth d e (lvl tp n rd b).2.1) ∧ (8 * b + 11 ≤ d → CR E tp n u mX3_readUnit d e (lvl tp n rd b).2.2)
theorem b_lvl (tp : Nat → Nat) (n rd b : Nat) : Bs tp n (lvl tp n rd b).1 := by rw [lvl_S]; exact b_sum (b_lvA tp n rd b)
theorem K_lvl {E : EnvT} {tp : Nat → Nat} {n : Nat} {u : RLT} {rd : Nat} (hin : inOk rd u.2.1) (ht : TOk tp n) : ∀ b, LVk E tp n u rd b := by
  have step : ∀ b, (b ≠ 0 → LVk E tp n u rd (b - 1)) → LVk E tp n u rd b := by
    intro b hp e d heb
    have s1 : b ≠ 0 → ∀ d, 8 * b + 1 ≤ d → CR E tp n u mX3_readSum d (e + 1) (sub1 tp n rd b) := fun hb d hd => by
      have := (hp hb (e + 1) d (by omega)).1 (by omega)
      match b, hb, this with
      | b + 1, _, z => exact z
    have s2 : b ≠ 0 → ∀ d, 8 * b + 5 ≤ d → CR E tp n u mX3_readTruth d (e + 1) (sub2 tp n rd b) := fun hb d hd => by
      have := (hp hb (e + 1) d (by omega)).2.1 (by omega)
      match b, hb, this with
      | b + 1, _, z => exact z
    have s3 : b ≠ 0 → ∀ d, 8 * b + 3 ≤ d → CR E tp n u mX3_readUnit d (e + 1) (sub3 tp n rd b) := fun hb d hd => by
      have := (hp hb (e + 1) d (by omega)).2.2 (by omega)
      match b, hb, this with
      | b + 1, _, z => exact z
    have hsum : ∀ d, 8 * b + 9 ≤ d → CR E tp n u mX3_readSum d e (lvl tp n rd b).1 := fun d hd => by
      rw [lvl_S]
      exact K_sum ht (by omega) (g_term (g_lvA tp n rd b)) (K_term ht (by omega) (g_lvA tp n rd b) (K_atom hin heb ht (by omega) s1 s2))
    have hunit : ∀ d, 8 * b + 11 ≤ d → CR E tp n u mX3_readUnit d e (lvl tp n rd b).2.2 := fun d hd => by
      rw [lvl_U]
      exact K_unit heb ht (by omega) (b_lvl tp n rd b) (K_cmp ht (by omega) (g_lvl tp n rd b).1 (hsum (d - 1 - 1) (by omega))) s2 s3
    refine ⟨hsum d, fun hd => ?_, hunit d⟩
    rw [lvl_T]
    exact K_truth0 (A := pBoth tp n (lvl tp n rd b).2.2) ht (by omega) (g_both (g_lvl tp n rd b).2.2) (K_both ht (by omega) (g_lvl tp n rd b).2.2 (hunit (d - 1 - 1) (by omega)))
  intro b
  induction b with
  | zero => exact step 0 (fun h => absurd rfl h)
  | succ b ih => exact step (b + 1) (fun _ => ih)
