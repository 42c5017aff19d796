theorem RQ.cast {α : Type} {tp : Nat → Nat} {n : Nat} {rep : α → Nat → Nat} {v0 : Nat → Int32} {h0 h2 : Hp} {r0 r1 r : Option Value} {x y : PX α} (h : RQ tp n rep v0 h0 r0 x r h2) (e1 : r0 = r1) (e2 : x = y) : RQ tp n rep v0 h0 r1 y r h2 := by
  subst e1
  subst e2
  exact h
theorem pRep_s (tp : Nat → Nat) (n k c : Nat) (A : PF) (m p : Nat) (L : List Nat) : pRep tp n k c A (m + 1) p L = if lxK tp n p = k then bnd (bnd (bnd (pNx tp n p L) A) (pCo c)) (pRep tp n k c A m) else .ok (p, L) := rfl
theorem pAdd_s (tp : Nat → Nat) (n : Nat) (A : PF) (m p : Nat) (L : List Nat) : pAdd tp n A (m + 1) p L = if lxK tp n p = 32 ∨ lxK tp n p = 33 then bnd (bnd (bnd (pNx tp n p L) A) (pCo (if lxK tp n p = 32 then 3000 else 3001))) (pAdd tp n A m) else .ok (p, L) := rfl
theorem iteB1 {c : Bool} (h : ¬ (if c = true then (1 : Int32) else 0) = 0) : c = true := by
  cases c
  · exact absurd rfl h
  · rfl
theorem iteB0 {c : Bool} (h : (if c = true then (1 : Int32) else 0) = 0) : ¬ c = true := by
  cases c
  · exact fun z => Bool.noConfusion z
  · exact absurd h (by decide)
theorem pEat_t {α : Type} {tp : Nat → Nat} {n k : Nat} {x : PX α} (h : isB tp n x k = true) : bnd x (pEat tp n k) = bnd x (pNx tp n) := by
  match x, h with
  | .ok (p, L), h => show pEat tp n k p L = pNx tp n p L; unfold pEat; rw [if_pos (eq_of_beq h)]
theorem pEat_f {α : Type} {tp : Nat → Nat} {n k : Nat} {x : PX α} (h : ¬ isB tp n x k = true) : bnd x (pEat tp n k) = bnd x (fun p _ => pFl tp n 2 p) := by
  match x, h with
  | .ok (p, L), h => show pEat tp n k p L = pFl tp n 2 p; unfold pEat; rw [if_neg (fun e => h (isB_y e))]
  | .error e, h => rfl
/-- a reader of the reference does as F -/
def CS (E : EnvT) (tp : Nat → Nat) (n : Nat) (fr : Nat → Nat) (c0 : Nat) (v0 : Nat → Int32) (M : MD) (d e : Nat) (F : PF) : Prop := ∀ (h0 : Hp) (x : PX (List Nat)), IV n c0 0 x → RT tp n (frL fr c0) v0 x h0 → Cn E M d [.ref 117, .int (nI e)] h0 (RQ tp n (frL fr c0) v0 h0 none (bnd x F))
theorem IV.w0 {n c q : Nat} {x : PX (List Nat)} (h : IV n c q x) : IV n c 0 x := h.mono (Nat.le_refl _) (Nat.zero_le _)
theorem IV.w1 {n c q : Nat} {x : PX (List Nat)} (h : IV n (c + 1) q x) : IV n c 0 x := h.mono (Nat.le_succ _) (Nat.zero_le _)
set_option maxRecDepth 20000 in
set_option maxHeartbeats 1000000 in
theorem C_if {E : EnvT} {d : Nat} {tp : Nat → Nat} {n : Nat} {fr : Nat → Nat} {c0 : Nat} {v0 : Nat → Int32} {rd b e : Nat} {h0 : Hp} {p : Nat} {L : List Nat} (heb : e + b = 6) (ht : TOk tp n) (hd : 7 * b + 9 ≤ d) (hS : b ≠ 0 → ∀ d, 7 * b + 5 ≤ d → CS E tp n fr c0 v0 mX10_readSum d (e + 1) (sub1 tp n rd b)) (hU : b ≠ 0 → ∀ d, 7 * b + 8 ≤ d → CS E tp n fr c0 v0 mX10_readTruth d (e + 1) (sub2 tp n rd b)) (hk : lxK tp n p = 13) (hI : IV n c0 0 (.ok (p, L))) (hT : RT tp n (frL fr c0) v0 (.ok (p, L)) h0) : Cn E mX10_readIf d [.ref 117, .int (nI e)] h0 (RQ tp n (frL fr c0) v0 h0 none (pIf tp n b (sub1 tp n rd b) (sub2 tp n rd b) p L)) := by
  have hx : Ex [117, 121] h0 h0 := Ex.rf
  have hTo := hT
  obtain ⟨v, g, c117, c120, c121, hN, hR⟩ := hTo
  by_cases hb : b = 0
  · have ep : pIn tp n b p L = pFl tp n 4 p := by unfold pIn; rw [if_pos hb]
    have eG : (pIf tp n b (sub1 tp n rd b) (sub2 tp n rd b) p L) = pFl tp n 4 p := by unfold pIf; rw [ep]; rfl
    rw [eG]
    refine Cn.go (ls := [.ref 117, .int (nI e)]) (by decide +kernel) rfl (Nat.le_of_ble_eq_true rfl) ?_
    refine r_aload_n (pc2 := 1) 0 dX10_readIf_0 rfl rfl rfl rfl ?_
    refine r_iload_n (pc2 := 2) 1 dX10_readIf_1 rfl rfl rfl ?_
    refine r_callV1 (pc2 := 5) (As := [.int (nI e)]) (st := []) kX10_165 rfl rfl dX10_readIf_2 c117 (by decide) rfl rfl (Nat.le_of_ble_eq_true rfl) (by omega) ((G_goesIn (p := p) (b := b) (L := L) heb ht (by omega) hT).mono fun r h2 q => RQ.cast (r1 := some (.int 0)) (y := pFl tp n 4 p) q (congrArg (fun z : PX (List Nat) => some (Value.int (if okB z = true then (1 : Int32) else 0))) ep) ep) rfl (fun h hq2 => ?_)
    obtain ⟨hxc, hT⟩ := hq2
    have hx := hx.trans hxc (by decide)
    have hTo := hT
    obtain ⟨v, g, c117, c120, c121, hN, hR⟩ := hTo
    refine r_if_ne (tgt := 9) (pc2 := 8) dX10_readIf_5 (by decide) rfl (fun b5 => ?_) (fun b5 => ?_)
    · exact absurd b5 (by decide)
    · skip
      exact r_vret rfl dX10_readIf_8 ⟨rfl, hx, hT⟩
  · have ep : pIn tp n b p L = pNx tp n p L := by unfold pIn; rw [if_neg hb]
    have eG : (pIf tp n b (sub1 tp n rd b) (sub2 tp n rd b) p L) = bnd (bnd (bnd (bnd (bnd (bnd (bnd (pNx tp n p L) (sub2 tp n rd b)) (pEat tp n 14)) (sub1 tp n rd b)) (pEat tp n 15)) (sub1 tp n rd b)) (pEat tp n 16)) (pCo 3009) := by unfold pIf; rw [ep]
    have i0 : IV n (c0 + 1) (0 + 1) (pNx tp n p L) := hI.nx (by rw [hk]; decide)
    have i1 : IV n (c0 + 1) (0 + 1) (bnd (pNx tp n p L) (sub2 tp n rd b)) := i0.b (g_sub2 tp n rd b)
    have i2 : IV n (c0 + 1) (0 + 1) (bnd (bnd (pNx tp n p L) (sub2 tp n rd b)) (pEat tp n 14)) := i1.b g_eat
    have i3 : IV n (c0 + 1) (0 + 1) (bnd (bnd (bnd (pNx tp n p L) (sub2 tp n rd b)) (pEat tp n 14)) (sub1 tp n rd b)) := i2.b (g_sub1 tp n rd b)
    have i4 : IV n (c0 + 1) (0 + 1) (bnd (bnd (bnd (bnd (pNx tp n p L) (sub2 tp n rd b)) (pEat tp n 14)) (sub1 tp n rd b)) (pEat tp n 15)) := i3.b g_eat
    have i5 : IV n (c0 + 1) (0 + 1) (bnd (bnd (bnd (bnd (bnd (pNx tp n p L) (sub2 tp n rd b)) (pEat tp n 14)) (sub1 tp n rd b)) (pEat tp n 15)) (sub1 tp n rd b)) := i4.b (g_sub1 tp n rd b)
    have i6 : IV n (c0 + 1) (0 + 1) (bnd (bnd (bnd (bnd (bnd (bnd (pNx tp n p L) (sub2 tp n rd b)) (pEat tp n 14)) (sub1 tp n rd b)) (pEat tp n 15)) (sub1 tp n rd b)) (pEat tp n 16)) := i5.b g_eat
    have k72 : ∀ h : Hp, Ex [117, 121] h0 h → RT tp n (frL fr c0) v0 (bnd (bnd (bnd (bnd (bnd (bnd (pNx tp n p L) (sub2 tp n rd b)) (pEat tp n 14)) (sub1 tp n rd b)) (pEat tp n 15)) (sub1 tp n rd b)) (pEat tp n 16)) h → Fr E mX10_readIf d 72 [.ref 117, .int (nI e)] [] h (RQ tp n (frL fr c0) v0 h0 none (pIf tp n b (sub1 tp n rd b) (sub2 tp n rd b) p L)) := by
      intro h hx hT
      have hTo := hT
      obtain ⟨v, g, c117, c120, c121, hN, hR⟩ := hTo
      refine r_aload_n (pc2 := 73) 0 dX10_readIf_72 rfl rfl rfl rfl ?_
      refine r_sipush (pc2 := 76) (v := 3009) dX10_readIf_73 (by decide) rfl ?_
      refine r_callV0 (pc2 := 79) (As := [.int 3009]) (st := []) kX10_159 rfl rfl dX10_readIf_76 c117 (by decide) rfl rfl (Nat.le_of_ble_eq_true rfl) (by omega) (G_codes (x := (bnd (bnd (bnd (bnd (bnd (bnd (pNx tp n p L) (sub2 tp n rd b)) (pEat tp n 14)) (sub1 tp n rd b)) (pEat tp n 15)) (sub1 tp n rd b)) (pEat tp n 16))) (c := 3009) (i6.len ht.1) hT) rfl (fun h hq76 => ?_)
      obtain ⟨hxc, hT⟩ := hq76
      have hx := hx.trans hxc (by decide)
      have hTo := hT
      obtain ⟨v, g, c117, c120, c121, hN, hR⟩ := hTo
      exact r_vret rfl dX10_readIf_79 ⟨rfl, hx, by rw [eG]; exact hT⟩
    have k51 : ∀ h : Hp, Ex [117, 121] h0 h → RT tp n (frL fr c0) v0 (bnd (bnd (bnd (bnd (pNx tp n p L) (sub2 tp n rd b)) (pEat tp n 14)) (sub1 tp n rd b)) (pEat tp n 15)) h → Fr E mX10_readIf d 51 [.ref 117, .int (nI e)] [] h (RQ tp n (frL fr c0) v0 h0 none (pIf tp n b (sub1 tp n rd b) (sub2 tp n rd b) p L)) := by
      intro h hx hT
      have hTo := hT
      obtain ⟨v, g, c117, c120, c121, hN, hR⟩ := hTo
      refine r_aload_n (pc2 := 52) 0 dX10_readIf_51 rfl rfl rfl rfl ?_
      refine r_iload_n (pc2 := 53) 1 dX10_readIf_52 rfl rfl rfl ?_
      refine r_iconst (pc2 := 54) (v := 1) dX10_readIf_53 (by decide) rfl ?_
      refine r_iadd (pc2 := 55) dX10_readIf_54 rfl ?_
      refine r_cast (nI (e + 1)) (nI_1 e) ?_
      refine r_callV0 (pc2 := 58) (As := [.int (nI (e + 1))]) (st := []) kX10_168 rfl rfl dX10_readIf_55 c117 (by decide) rfl rfl (Nat.le_of_ble_eq_true rfl) (by omega) (hS hb _ (by omega) _ (bnd (bnd (bnd (bnd (pNx tp n p L) (sub2 tp n rd b)) (pEat tp n 14)) (sub1 tp n rd b)) (pEat tp n 15)) i4.w1 hT) rfl (fun h hq55 => ?_)
      obtain ⟨hxc, hT⟩ := hq55
      have hx := hx.trans hxc (by decide)
      have hTo := hT
      obtain ⟨v, g, c117, c120, c121, hN, hR⟩ := hTo
      refine r_aload_n (pc2 := 59) 0 dX10_readIf_58 rfl rfl rfl rfl ?_
      refine r_bipush (pc2 := 61) (v := 16) dX10_readIf_59 (by decide) rfl ?_
      refine r_callV1 (pc2 := 64) (As := [.int 16]) (st := []) kX10_171 rfl rfl dX10_readIf_61 c117 (by decide) rfl rfl (Nat.le_of_ble_eq_true rfl) (by omega) (G_eats (x := (bnd (bnd (bnd (bnd (bnd (pNx tp n p L) (sub2 tp n rd b)) (pEat tp n 14)) (sub1 tp n rd b)) (pEat tp n 15)) (sub1 tp n rd b))) (k := 16) (by decide) ht (by omega) hT) rfl (fun h hq61 => ?_)
      obtain ⟨hxc, hT⟩ := hq61
      have hx := hx.trans hxc (by decide)
      have hTo := hT
      obtain ⟨v, g, c117, c120, c121, hN, hR⟩ := hTo
      refine r_if_ne (tgt := 72) (pc2 := 67) dX10_readIf_64 (by decide) rfl (fun b64 => ?_) (fun b64 => ?_)
      · skip
        exact k72 _ hx (by rw [pEat_t (iteB1 b64)]; rw [if_pos (iteB1 b64)] at hT; exact hT)
      · skip
        rw [if_neg (iteB0 b64)] at hT
        refine r_aload_n (pc2 := 68) 0 dX10_readIf_67 rfl rfl rfl rfl ?_
        refine r_iconst (pc2 := 69) (v := 2) dX10_readIf_68 (by decide) rfl ?_
        refine r_callV0 (pc2 := 72) (As := [.int 2]) (st := []) kX10_148 rfl rfl dX10_readIf_69 c117 (by decide) rfl rfl (Nat.le_of_ble_eq_true rfl) (by omega) (G_fails (x := (bnd (bnd (bnd (bnd (bnd (pNx tp n p L) (sub2 tp n rd b)) (pEat tp n 14)) (sub1 tp n rd b)) (pEat tp n 15)) (sub1 tp n rd b))) (f := 2) (by decide) (by decide) hT) rfl (fun h hq69 => ?_)
        obtain ⟨hxc, hT⟩ := hq69
        have hx := hx.trans hxc (by decide)
        have hTo := hT
        obtain ⟨v, g, c117, c120, c121, hN, hR⟩ := hTo
        exact k72 _ hx (by rw [pEat_f (iteB0 b64)]; exact hT)
    have k30 : ∀ h : Hp, Ex [117, 121] h0 h → RT tp n (frL fr c0) v0 (bnd (bnd (pNx tp n p L) (sub2 tp n rd b)) (pEat tp n 14)) h → Fr E mX10_readIf d 30 [.ref 117, .int (nI e)] [] h (RQ tp n (frL fr c0) v0 h0 none (pIf tp n b (sub1 tp n rd b) (sub2 tp n rd b) p L)) := by
      intro h hx hT
      have hTo := hT
      obtain ⟨v, g, c117, c120, c121, hN, hR⟩ := hTo
      refine r_aload_n (pc2 := 31) 0 dX10_readIf_30 rfl rfl rfl rfl ?_
      refine r_iload_n (pc2 := 32) 1 dX10_readIf_31 rfl rfl rfl ?_
      refine r_iconst (pc2 := 33) (v := 1) dX10_readIf_32 (by decide) rfl ?_
      refine r_iadd (pc2 := 34) dX10_readIf_33 rfl ?_
      refine r_cast (nI (e + 1)) (nI_1 e) ?_
      refine r_callV0 (pc2 := 37) (As := [.int (nI (e + 1))]) (st := []) kX10_168 rfl rfl dX10_readIf_34 c117 (by decide) rfl rfl (Nat.le_of_ble_eq_true rfl) (by omega) (hS hb _ (by omega) _ (bnd (bnd (pNx tp n p L) (sub2 tp n rd b)) (pEat tp n 14)) i2.w1 hT) rfl (fun h hq34 => ?_)
      obtain ⟨hxc, hT⟩ := hq34
      have hx := hx.trans hxc (by decide)
      have hTo := hT
      obtain ⟨v, g, c117, c120, c121, hN, hR⟩ := hTo
      refine r_aload_n (pc2 := 38) 0 dX10_readIf_37 rfl rfl rfl rfl ?_
      refine r_bipush (pc2 := 40) (v := 15) dX10_readIf_38 (by decide) rfl ?_
      refine r_callV1 (pc2 := 43) (As := [.int 15]) (st := []) kX10_171 rfl rfl dX10_readIf_40 c117 (by decide) rfl rfl (Nat.le_of_ble_eq_true rfl) (by omega) (G_eats (x := (bnd (bnd (bnd (pNx tp n p L) (sub2 tp n rd b)) (pEat tp n 14)) (sub1 tp n rd b))) (k := 15) (by decide) ht (by omega) hT) rfl (fun h hq40 => ?_)
      obtain ⟨hxc, hT⟩ := hq40
      have hx := hx.trans hxc (by decide)
      have hTo := hT
      obtain ⟨v, g, c117, c120, c121, hN, hR⟩ := hTo
      refine r_if_ne (tgt := 51) (pc2 := 46) dX10_readIf_43 (by decide) rfl (fun b43 => ?_) (fun b43 => ?_)
      · skip
        exact k51 _ hx (by rw [pEat_t (iteB1 b43)]; rw [if_pos (iteB1 b43)] at hT; exact hT)
      · skip
        rw [if_neg (iteB0 b43)] at hT
        refine r_aload_n (pc2 := 47) 0 dX10_readIf_46 rfl rfl rfl rfl ?_
        refine r_iconst (pc2 := 48) (v := 2) dX10_readIf_47 (by decide) rfl ?_
        refine r_callV0 (pc2 := 51) (As := [.int 2]) (st := []) kX10_148 rfl rfl dX10_readIf_48 c117 (by decide) rfl rfl (Nat.le_of_ble_eq_true rfl) (by omega) (G_fails (x := (bnd (bnd (bnd (pNx tp n p L) (sub2 tp n rd b)) (pEat tp n 14)) (sub1 tp n rd b))) (f := 2) (by decide) (by decide) hT) rfl (fun h hq48 => ?_)
        obtain ⟨hxc, hT⟩ := hq48
        have hx := hx.trans hxc (by decide)
        have hTo := hT
        obtain ⟨v, g, c117, c120, c121, hN, hR⟩ := hTo
        exact k51 _ hx (by rw [pEat_f (iteB0 b43)]; exact hT)
    refine Cn.go (ls := [.ref 117, .int (nI e)]) (by decide +kernel) rfl (Nat.le_of_ble_eq_true rfl) ?_
    refine r_aload_n (pc2 := 1) 0 dX10_readIf_0 rfl rfl rfl rfl ?_
    refine r_iload_n (pc2 := 2) 1 dX10_readIf_1 rfl rfl rfl ?_
    refine r_callV1 (pc2 := 5) (As := [.int (nI e)]) (st := []) kX10_165 rfl rfl dX10_readIf_2 c117 (by decide) rfl rfl (Nat.le_of_ble_eq_true rfl) (by omega) ((G_goesIn (p := p) (b := b) (L := L) heb ht (by omega) hT).mono fun r h2 q => RQ.cast (r1 := some (.int 1)) (y := pNx tp n p L) q (congrArg (fun z : PX (List Nat) => some (Value.int (if okB z = true then (1 : Int32) else 0))) ep) ep) rfl (fun h hq2 => ?_)
    obtain ⟨hxc, hT⟩ := hq2
    have hx := hx.trans hxc (by decide)
    have hTo := hT
    obtain ⟨v, g, c117, c120, c121, hN, hR⟩ := hTo
    refine r_if_ne (tgt := 9) (pc2 := 8) dX10_readIf_5 (by decide) rfl (fun b5 => ?_) (fun b5 => ?_)
    · skip
      refine r_aload_n (pc2 := 10) 0 dX10_readIf_9 rfl rfl rfl rfl ?_
      refine r_iload_n (pc2 := 11) 1 dX10_readIf_10 rfl rfl rfl ?_
      refine r_iconst (pc2 := 12) (v := 1) dX10_readIf_11 (by decide) rfl ?_
      refine r_iadd (pc2 := 13) dX10_readIf_12 rfl ?_
      refine r_cast (nI (e + 1)) (nI_1 e) ?_
      refine r_callV0 (pc2 := 16) (As := [.int (nI (e + 1))]) (st := []) kX10_177 rfl rfl dX10_readIf_13 c117 (by decide) rfl rfl (Nat.le_of_ble_eq_true rfl) (by omega) (hU hb _ (by omega) _ (pNx tp n p L) i0.w1 hT) rfl (fun h hq13 => ?_)
      obtain ⟨hxc, hT⟩ := hq13
      have hx := hx.trans hxc (by decide)
      have hTo := hT
      obtain ⟨v, g, c117, c120, c121, hN, hR⟩ := hTo
      refine r_aload_n (pc2 := 17) 0 dX10_readIf_16 rfl rfl rfl rfl ?_
      refine r_bipush (pc2 := 19) (v := 14) dX10_readIf_17 (by decide) rfl ?_
      refine r_callV1 (pc2 := 22) (As := [.int 14]) (st := []) kX10_171 rfl rfl dX10_readIf_19 c117 (by decide) rfl rfl (Nat.le_of_ble_eq_true rfl) (by omega) (G_eats (x := (bnd (pNx tp n p L) (sub2 tp n rd b))) (k := 14) (by decide) ht (by omega) hT) rfl (fun h hq19 => ?_)
      obtain ⟨hxc, hT⟩ := hq19
      have hx := hx.trans hxc (by decide)
      have hTo := hT
      obtain ⟨v, g, c117, c120, c121, hN, hR⟩ := hTo
      refine r_if_ne (tgt := 30) (pc2 := 25) dX10_readIf_22 (by decide) rfl (fun b22 => ?_) (fun b22 => ?_)
      · skip
        exact k30 _ hx (by rw [pEat_t (iteB1 b22)]; rw [if_pos (iteB1 b22)] at hT; exact hT)
      · skip
        rw [if_neg (iteB0 b22)] at hT
        refine r_aload_n (pc2 := 26) 0 dX10_readIf_25 rfl rfl rfl rfl ?_
        refine r_iconst (pc2 := 27) (v := 2) dX10_readIf_26 (by decide) rfl ?_
        refine r_callV0 (pc2 := 30) (As := [.int 2]) (st := []) kX10_148 rfl rfl dX10_readIf_27 c117 (by decide) rfl rfl (Nat.le_of_ble_eq_true rfl) (by omega) (G_fails (x := (bnd (pNx tp n p L) (sub2 tp n rd b))) (f := 2) (by decide) (by decide) hT) rfl (fun h hq27 => ?_)
        obtain ⟨hxc, hT⟩ := hq27
        have hx := hx.trans hxc (by decide)
        have hTo := hT
        obtain ⟨v, g, c117, c120, c121, hN, hR⟩ := hTo
        exact k30 _ hx (by rw [pEat_f (iteB0 b22)]; exact hT)
    · exact absurd b5 (by decide)
set_option maxRecDepth 20000 in
set_option maxHeartbeats 1000000 in
theorem C_atom {E : EnvT} {d : Nat} {tp : Nat → Nat} {n : Nat} {fr : Nat → Nat} {c0 : Nat} {v0 : Nat → Int32} {rd b e : Nat} (hrd : rd < 2) (h15 : v0 15 = nI rd) (heb : e + b = 6) (ht : TOk tp n) (hd : 7 * b + 10 ≤ d) (hS : b ≠ 0 → ∀ d, 7 * b + 5 ≤ d → CS E tp n fr c0 v0 mX10_readSum d (e + 1) (sub1 tp n rd b)) (hU : b ≠ 0 → ∀ d, 7 * b + 8 ≤ d → CS E tp n fr c0 v0 mX10_readTruth d (e + 1) (sub2 tp n rd b)) : CS E tp n fr c0 v0 mX10_readAtom d e (lvA tp n rd b) := by
  intro h0 x hI hT
  have hx : Ex [117, 121] h0 h0 := Ex.rf
  have hTo := hT
  obtain ⟨v, g, c117, c120, c121, hN, hR⟩ := hTo
  match x, hI, hT, hR with
  | .error (we, ae), hI, hT, hR =>
    have hw : ¬ v 11 = 0 := fun z => nI_w0 hR.1.1 hR.1.2.1 (hR.2.1.symm.trans z)
    show Cn E mX10_readAtom d [.ref 117, .int (nI e)] h0 (RQ tp n (frL fr c0) v0 h0 none (.error (we, ae) : PX (List Nat)))
    refine Cn.go (ls := [.ref 117, .int (nI e)]) (by decide +kernel) rfl (Nat.le_of_ble_eq_true rfl) ?_
    refine r_aload_n (pc2 := 1) 0 dX10_readAtom_0 rfl rfl rfl rfl ?_
    refine r_bipush (pc2 := 3) (v := 24) dX10_readAtom_1 (by decide) rfl ?_
    refine r_callV1 (pc2 := 6) (As := [.int 24]) (st := []) kX10_142 rfl rfl dX10_readAtom_3 c117 (by decide) rfl rfl (Nat.le_of_ble_eq_true rfl) (by omega) ((G_is (k := 24) (by decide) hT).mono fun r h2 q => ⟨q.1.trans (by rw [if_neg (isB_e)]), q.2⟩) rfl (fun h2 hq3 => ?_)
    subst hq3
    refine r_if_eq (tgt := 24) (pc2 := 9) dX10_readAtom_6 (by decide) rfl (fun b6 => ?_) (fun b6 => ?_)
    · skip
      refine r_aload_n (pc2 := 25) 0 dX10_readAtom_24 rfl rfl rfl rfl ?_
      refine r_getf (pc2 := 28) (v := .int (v 11)) fX10_136 dX10_readAtom_25 c117 (by decide) rfl rfl ?_
      refine r_if_ne (tgt := 66) (pc2 := 31) dX10_readAtom_28 (by decide) rfl (fun b28 => ?_) (fun b28 => ?_)
      · skip
        refine r_aload_n (pc2 := 67) 0 dX10_readAtom_66 rfl rfl rfl rfl ?_
        refine r_bipush (pc2 := 69) (v := 35) dX10_readAtom_67 (by decide) rfl ?_
        refine r_callV1 (pc2 := 72) (As := [.int 35]) (st := []) kX10_142 rfl rfl dX10_readAtom_69 c117 (by decide) rfl rfl (Nat.le_of_ble_eq_true rfl) (by omega) ((G_is (k := 35) (by decide) hT).mono fun r h2 q => ⟨q.1.trans (by rw [if_neg (isB_e)]), q.2⟩) rfl (fun h2 hq69 => ?_)
        subst hq69
        refine r_if_eq (tgt := 108) (pc2 := 75) dX10_readAtom_72 (by decide) rfl (fun b72 => ?_) (fun b72 => ?_)
        · skip
          refine r_aload_n (pc2 := 109) 0 dX10_readAtom_108 rfl rfl rfl rfl ?_
          refine r_bipush (pc2 := 111) (v := 13) dX10_readAtom_109 (by decide) rfl ?_
          refine r_callV1 (pc2 := 114) (As := [.int 13]) (st := []) kX10_142 rfl rfl dX10_readAtom_111 c117 (by decide) rfl rfl (Nat.le_of_ble_eq_true rfl) (by omega) ((G_is (k := 13) (by decide) hT).mono fun r h2 q => ⟨q.1.trans (by rw [if_neg (isB_e)]), q.2⟩) rfl (fun h2 hq111 => ?_)
          subst hq111
          refine r_if_eq (tgt := 125) (pc2 := 117) dX10_readAtom_114 (by decide) rfl (fun b114 => ?_) (fun b114 => ?_)
          · skip
            refine r_aload_n (pc2 := 126) 0 dX10_readAtom_125 rfl rfl rfl rfl ?_
            refine r_iconst (pc2 := 127) (v := 2) dX10_readAtom_126 (by decide) rfl ?_
            refine r_callV0 (pc2 := 130) (As := [.int 2]) (st := []) kX10_148 rfl rfl dX10_readAtom_127 c117 (by decide) rfl rfl (Nat.le_of_ble_eq_true rfl) (by omega) (G_fails (x := (.error (we, ae) : PX (List Nat))) (f := 2) (by decide) (by decide) hT) rfl (fun h hq127 => ?_)
            obtain ⟨hxc, hT⟩ := hq127
            have hx := hx.trans hxc (by decide)
            have hTo := hT
            obtain ⟨v, g, c117, c120, c121, hN, hR⟩ := hTo
            exact r_vret rfl dX10_readAtom_130 ⟨rfl, hx, hT⟩
          · exact absurd b114 (by decide)
        · exact absurd b72 (by decide)
      · exact absurd b28 hw
    · exact absurd b6 (by decide)
  | .ok (p, L), hI, hT, hR =>
    show Cn E mX10_readAtom d [.ref 117, .int (nI e)] h0 (RQ tp n (frL fr c0) v0 h0 none (lvA tp n rd b p L))
    have hle := lxS_le tp n p
    by_cases hk : lxK tp n p = 24
    · have eG : (lvA tp n rd b p L) = pNx tp n p (L ++ [lxN tp n p]) := by unfold lvA pAtom; rw [if_pos hk]
      have hlen : c0 + L.length < 900 := by have := lxK_25 (tp := tp) (n := n) (p := p) (by rw [hk]; decide); have := hI.2.2; have := ht.1; omega
      rw [eG]
      refine Cn.go (ls := [.ref 117, .int (nI e)]) (by decide +kernel) rfl (Nat.le_of_ble_eq_true rfl) ?_
      refine r_aload_n (pc2 := 1) 0 dX10_readAtom_0 rfl rfl rfl rfl ?_
      refine r_bipush (pc2 := 3) (v := 24) dX10_readAtom_1 (by decide) rfl ?_
      refine r_callV1 (pc2 := 6) (As := [.int 24]) (st := []) kX10_142 rfl rfl dX10_readAtom_3 c117 (by decide) rfl rfl (Nat.le_of_ble_eq_true rfl) (by omega) ((G_is (k := 24) (by decide) hT).mono fun r h2 q => ⟨q.1.trans (by rw [if_pos (isB_y hk)]), q.2⟩) rfl (fun h2 hq3 => ?_)
      subst hq3
      refine r_if_eq (tgt := 24) (pc2 := 9) dX10_readAtom_6 (by decide) rfl (fun b6 => ?_) (fun b6 => ?_)
      · exact absurd b6 (by decide)
      · skip
        refine r_aload_n (pc2 := 10) 0 dX10_readAtom_9 rfl rfl rfl rfl ?_
        refine r_aload_n (pc2 := 11) 0 dX10_readAtom_10 rfl rfl rfl rfl ?_
        refine r_getf (pc2 := 14) (v := .int (v 10)) fX10_131 dX10_readAtom_11 c117 (by decide) rfl rfl ?_
        refine r_cast (nI (lxN tp n p)) (hR.2.1.2.2.2.2.2 hk) ?_
        refine r_callV0 (pc2 := 17) (As := [.int (nI (lxN tp n p))]) (st := []) kX10_159 rfl rfl dX10_readAtom_14 c117 (by decide) rfl rfl (Nat.le_of_ble_eq_true rfl) (by omega) (G_codes (x := (.ok (p, L))) (c := (lxN tp n p)) (fun p2 L2 z => by cases z; exact hlen) hT) rfl (fun h hq14 => ?_)
        obtain ⟨hxc, hT⟩ := hq14
        have hx := hx.trans hxc (by decide)
        have hTo := hT
        obtain ⟨v, g, c117, c120, c121, hN, hR⟩ := hTo
        refine r_aload_n (pc2 := 18) 0 dX10_readAtom_17 rfl rfl rfl rfl ?_
        refine r_callV0 (pc2 := 21) (As := []) (st := []) kX10_145 rfl rfl dX10_readAtom_18 c117 (by decide) rfl rfl (Nat.le_of_ble_eq_true rfl) (by omega) (G_next ht (by omega) (p := p) (L := (L ++ [lxN tp n p])) hT) rfl (fun h hq18 => ?_)
        obtain ⟨hxc, hT⟩ := hq18
        have hx := hx.trans hxc (by decide)
        have hTo := hT
        obtain ⟨v, g, c117, c120, c121, hN, hR⟩ := hTo
        refine r_goto (pc2 := 130) dX10_readAtom_21 (by decide) ?_
        exact r_vret rfl dX10_readAtom_130 ⟨rfl, hx, hT⟩
    · have n24 := hk
      by_cases hw : wordN rd (lxK tp n p) < 9
      · have eG : (lvA tp n rd b p L) = pNx tp n p (L ++ [1000 + wordN rd (lxK tp n p)]) := by unfold lvA pAtom; rw [if_neg n24, if_pos hw]
        have n25 : lxK tp n p ≠ 25 := fun z => by rw [z] at hw; revert hw; unfold wordN; by_cases r : rd = 1 <;> simp [r]
        have hlen : c0 + L.length < 900 := by have := lxK_25 n25; have := hI.2.2; have := ht.1; omega
        have ew : wordI rd (lxK tp n p) = nI (wordN rd (lxK tp n p)) := if_pos hw
        have hwn : ¬ nI (wordN rd (lxK tp n p)) = -1 := fun z => absurd (show nI (wordN rd (lxK tp n p)) < 0 by rw [z]; decide) (nI_pos (by omega))
        rw [eG]
        refine Cn.go (ls := [.ref 117, .int (nI e)]) (by decide +kernel) rfl (Nat.le_of_ble_eq_true rfl) ?_
        refine r_aload_n (pc2 := 1) 0 dX10_readAtom_0 rfl rfl rfl rfl ?_
        refine r_bipush (pc2 := 3) (v := 24) dX10_readAtom_1 (by decide) rfl ?_
        refine r_callV1 (pc2 := 6) (As := [.int 24]) (st := []) kX10_142 rfl rfl dX10_readAtom_3 c117 (by decide) rfl rfl (Nat.le_of_ble_eq_true rfl) (by omega) ((G_is (k := 24) (by decide) hT).mono fun r h2 q => ⟨q.1.trans (by rw [if_neg (isB_n n24)]), q.2⟩) rfl (fun h2 hq3 => ?_)
        subst hq3
        refine r_if_eq (tgt := 24) (pc2 := 9) dX10_readAtom_6 (by decide) rfl (fun b6 => ?_) (fun b6 => ?_)
        · skip
          refine r_aload_n (pc2 := 25) 0 dX10_readAtom_24 rfl rfl rfl rfl ?_
          refine r_getf (pc2 := 28) (v := .int (v 11)) fX10_136 dX10_readAtom_25 c117 (by decide) rfl rfl ?_
          refine r_if_ne (tgt := 66) (pc2 := 31) dX10_readAtom_28 (by decide) rfl (fun b28 => ?_) (fun b28 => ?_)
          · exact absurd hR.2.1.2.1 b28
          · skip
            refine r_aload_n (pc2 := 32) 0 dX10_readAtom_31 rfl rfl rfl rfl ?_
            refine r_aload_n (pc2 := 33) 0 dX10_readAtom_32 rfl rfl rfl rfl ?_
            refine r_getf (pc2 := 36) (v := .int (v 9)) fX10_118 dX10_readAtom_33 c117 (by decide) rfl rfl ?_
            refine r_cast (nI (lxK tp n p)) (hR.2.1.2.2.2.2.1) ?_
            refine r_callV1 (pc2 := 39) (As := [.int (nI (lxK tp n p))]) (st := []) kX10_162 rfl rfl dX10_readAtom_36 c117 (by decide) rfl rfl (Nat.le_of_ble_eq_true rfl) (by omega) ((c_wordOf (rd := rd) (k := lxK tp n p) c117 ((hN 15 (by decide) (by decide) (by decide) (by decide) (by decide) (by decide)).trans h15) hrd (lxK_le tp n p)).mono fun r h2 q => ⟨q.1.trans (by rw [ew]), q.2⟩) rfl (fun h2 hq36 => ?_)
            subst hq36
            refine r_iconst (pc2 := 40) (v := -1) dX10_readAtom_39 (by decide) rfl ?_
            refine r_icmp_eq (tgt := 66) (pc2 := 43) dX10_readAtom_40 (by decide) rfl (fun b40 => ?_) (fun b40 => ?_)
            · exact absurd b40 hwn
            · skip
              refine r_aload_n (pc2 := 44) 0 dX10_readAtom_43 rfl rfl rfl rfl ?_
              refine r_sipush (pc2 := 47) (v := 1000) dX10_readAtom_44 (by decide) rfl ?_
              refine r_aload_n (pc2 := 48) 0 dX10_readAtom_47 rfl rfl rfl rfl ?_
              refine r_aload_n (pc2 := 49) 0 dX10_readAtom_48 rfl rfl rfl rfl ?_
              refine r_getf (pc2 := 52) (v := .int (v 9)) fX10_118 dX10_readAtom_49 c117 (by decide) rfl rfl ?_
              refine r_cast (nI (lxK tp n p)) (hR.2.1.2.2.2.2.1) ?_
              refine r_callV1 (pc2 := 55) (As := [.int (nI (lxK tp n p))]) (st := [.int 1000, .ref 117]) kX10_162 rfl rfl dX10_readAtom_52 c117 (by decide) rfl rfl (Nat.le_of_ble_eq_true rfl) (by omega) ((c_wordOf (rd := rd) (k := lxK tp n p) c117 ((hN 15 (by decide) (by decide) (by decide) (by decide) (by decide) (by decide)).trans h15) hrd (lxK_le tp n p)).mono fun r h2 q => ⟨q.1.trans (by rw [ew]), q.2⟩) rfl (fun h2 hq52 => ?_)
              subst hq52
              refine r_iadd (pc2 := 56) dX10_readAtom_55 rfl ?_
              refine r_cast (nI (1000 + wordN rd (lxK tp n p))) (nI_add 1000 _) ?_
              refine r_callV0 (pc2 := 59) (As := [.int (nI (1000 + wordN rd (lxK tp n p)))]) (st := []) kX10_159 rfl rfl dX10_readAtom_56 c117 (by decide) rfl rfl (Nat.le_of_ble_eq_true rfl) (by omega) (G_codes (x := (.ok (p, L))) (c := (1000 + wordN rd (lxK tp n p))) (fun p2 L2 z => by cases z; exact hlen) hT) rfl (fun h hq56 => ?_)
              obtain ⟨hxc, hT⟩ := hq56
              have hx := hx.trans hxc (by decide)
              have hTo := hT
              obtain ⟨v, g, c117, c120, c121, hN, hR⟩ := hTo
              refine r_aload_n (pc2 := 60) 0 dX10_readAtom_59 rfl rfl rfl rfl ?_
              refine r_callV0 (pc2 := 63) (As := []) (st := []) kX10_145 rfl rfl dX10_readAtom_60 c117 (by decide) rfl rfl (Nat.le_of_ble_eq_true rfl) (by omega) (G_next ht (by omega) (p := p) (L := (L ++ [1000 + wordN rd (lxK tp n p)])) hT) rfl (fun h hq60 => ?_)
              obtain ⟨hxc, hT⟩ := hq60
              have hx := hx.trans hxc (by decide)
              have hTo := hT
              obtain ⟨v, g, c117, c120, c121, hN, hR⟩ := hTo
              refine r_goto (pc2 := 130) dX10_readAtom_63 (by decide) ?_
              exact r_vret rfl dX10_readAtom_130 ⟨rfl, hx, hT⟩
        · exact absurd b6 (by decide)
      · have ew : wordI rd (lxK tp n p) = -1 := if_neg hw
        by_cases hk : lxK tp n p = 35
        · by_cases hb : b = 0
          · have ep : pIn tp n b p L = pFl tp n 4 p := by unfold pIn; rw [if_pos hb]
            have eG : (lvA tp n rd b p L) = pFl tp n 4 p := by unfold lvA pAtom; rw [if_neg n24, if_neg hw, if_pos hk, ep]; rfl
            rw [eG]
            refine Cn.go (ls := [.ref 117, .int (nI e)]) (by decide +kernel) rfl (Nat.le_of_ble_eq_true rfl) ?_
            refine r_aload_n (pc2 := 1) 0 dX10_readAtom_0 rfl rfl rfl rfl ?_
            refine r_bipush (pc2 := 3) (v := 24) dX10_readAtom_1 (by decide) rfl ?_
            refine r_callV1 (pc2 := 6) (As := [.int 24]) (st := []) kX10_142 rfl rfl dX10_readAtom_3 c117 (by decide) rfl rfl (Nat.le_of_ble_eq_true rfl) (by omega) ((G_is (k := 24) (by decide) hT).mono fun r h2 q => ⟨q.1.trans (by rw [if_neg (isB_n n24)]), q.2⟩) rfl (fun h2 hq3 => ?_)
            subst hq3
            refine r_if_eq (tgt := 24) (pc2 := 9) dX10_readAtom_6 (by decide) rfl (fun b6 => ?_) (fun b6 => ?_)
            · skip
              refine r_aload_n (pc2 := 25) 0 dX10_readAtom_24 rfl rfl rfl rfl ?_
              refine r_getf (pc2 := 28) (v := .int (v 11)) fX10_136 dX10_readAtom_25 c117 (by decide) rfl rfl ?_
              refine r_if_ne (tgt := 66) (pc2 := 31) dX10_readAtom_28 (by decide) rfl (fun b28 => ?_) (fun b28 => ?_)
              · exact absurd hR.2.1.2.1 b28
              · skip
                refine r_aload_n (pc2 := 32) 0 dX10_readAtom_31 rfl rfl rfl rfl ?_
                refine r_aload_n (pc2 := 33) 0 dX10_readAtom_32 rfl rfl rfl rfl ?_
                refine r_getf (pc2 := 36) (v := .int (v 9)) fX10_118 dX10_readAtom_33 c117 (by decide) rfl rfl ?_
                refine r_cast (nI (lxK tp n p)) (hR.2.1.2.2.2.2.1) ?_
                refine r_callV1 (pc2 := 39) (As := [.int (nI (lxK tp n p))]) (st := []) kX10_162 rfl rfl dX10_readAtom_36 c117 (by decide) rfl rfl (Nat.le_of_ble_eq_true rfl) (by omega) ((c_wordOf (rd := rd) (k := lxK tp n p) c117 ((hN 15 (by decide) (by decide) (by decide) (by decide) (by decide) (by decide)).trans h15) hrd (lxK_le tp n p)).mono fun r h2 q => ⟨q.1.trans (by rw [ew]), q.2⟩) rfl (fun h2 hq36 => ?_)
                subst hq36
                refine r_iconst (pc2 := 40) (v := -1) dX10_readAtom_39 (by decide) rfl ?_
                refine r_icmp_eq (tgt := 66) (pc2 := 43) dX10_readAtom_40 (by decide) rfl (fun b40 => ?_) (fun b40 => ?_)
                · skip
                  refine r_aload_n (pc2 := 67) 0 dX10_readAtom_66 rfl rfl rfl rfl ?_
                  refine r_bipush (pc2 := 69) (v := 35) dX10_readAtom_67 (by decide) rfl ?_
                  refine r_callV1 (pc2 := 72) (As := [.int 35]) (st := []) kX10_142 rfl rfl dX10_readAtom_69 c117 (by decide) rfl rfl (Nat.le_of_ble_eq_true rfl) (by omega) ((G_is (k := 35) (by decide) hT).mono fun r h2 q => ⟨q.1.trans (by rw [if_pos (isB_y hk)]), q.2⟩) rfl (fun h2 hq69 => ?_)
                  subst hq69
                  refine r_if_eq (tgt := 108) (pc2 := 75) dX10_readAtom_72 (by decide) rfl (fun b72 => ?_) (fun b72 => ?_)
                  · exact absurd b72 (by decide)
                  · skip
                    refine r_aload_n (pc2 := 76) 0 dX10_readAtom_75 rfl rfl rfl rfl ?_
                    refine r_iload_n (pc2 := 77) 1 dX10_readAtom_76 rfl rfl rfl ?_
                    refine r_callV1 (pc2 := 80) (As := [.int (nI e)]) (st := []) kX10_165 rfl rfl dX10_readAtom_77 c117 (by decide) rfl rfl (Nat.le_of_ble_eq_true rfl) (by omega) ((G_goesIn (p := p) (b := b) (L := L) heb ht (by omega) hT).mono fun r h2 q => RQ.cast (r1 := some (.int 0)) (y := pFl tp n 4 p) q (congrArg (fun z : PX (List Nat) => some (Value.int (if okB z = true then (1 : Int32) else 0))) ep) ep) rfl (fun h hq77 => ?_)
                    obtain ⟨hxc, hT⟩ := hq77
                    have hx := hx.trans hxc (by decide)
                    have hTo := hT
                    obtain ⟨v, g, c117, c120, c121, hN, hR⟩ := hTo
                    refine r_if_ne (tgt := 84) (pc2 := 83) dX10_readAtom_80 (by decide) rfl (fun b80 => ?_) (fun b80 => ?_)
                    · exact absurd b80 (by decide)
                    · skip
                      exact r_vret rfl dX10_readAtom_83 ⟨rfl, hx, hT⟩
                · exact absurd b40 (by decide)
            · exact absurd b6 (by decide)
          · have ep : pIn tp n b p L = pNx tp n p L := by unfold pIn; rw [if_neg hb]
            have eG : (lvA tp n rd b p L) = bnd (bnd (pNx tp n p L) (sub1 tp n rd b)) (pEat tp n 36) := by unfold lvA pAtom; rw [if_neg n24, if_neg hw, if_pos hk, ep]
            rw [eG]
            have k130 : ∀ h : Hp, Ex [117, 121] h0 h → RT tp n (frL fr c0) v0 (bnd (bnd (pNx tp n p L) (sub1 tp n rd b)) (pEat tp n 36)) h → Fr E mX10_readAtom d 130 [.ref 117, .int (nI e)] [] h (RQ tp n (frL fr c0) v0 h0 none (bnd (bnd (pNx tp n p L) (sub1 tp n rd b)) (pEat tp n 36))) := by
              intro h hx hT
              have hTo := hT
              obtain ⟨v, g, c117, c120, c121, hN, hR⟩ := hTo
              exact r_vret rfl dX10_readAtom_130 ⟨rfl, hx, hT⟩
            refine Cn.go (ls := [.ref 117, .int (nI e)]) (by decide +kernel) rfl (Nat.le_of_ble_eq_true rfl) ?_
            refine r_aload_n (pc2 := 1) 0 dX10_readAtom_0 rfl rfl rfl rfl ?_
            refine r_bipush (pc2 := 3) (v := 24) dX10_readAtom_1 (by decide) rfl ?_
            refine r_callV1 (pc2 := 6) (As := [.int 24]) (st := []) kX10_142 rfl rfl dX10_readAtom_3 c117 (by decide) rfl rfl (Nat.le_of_ble_eq_true rfl) (by omega) ((G_is (k := 24) (by decide) hT).mono fun r h2 q => ⟨q.1.trans (by rw [if_neg (isB_n n24)]), q.2⟩) rfl (fun h2 hq3 => ?_)
            subst hq3
            refine r_if_eq (tgt := 24) (pc2 := 9) dX10_readAtom_6 (by decide) rfl (fun b6 => ?_) (fun b6 => ?_)
            · skip
              refine r_aload_n (pc2 := 25) 0 dX10_readAtom_24 rfl rfl rfl rfl ?_
              refine r_getf (pc2 := 28) (v := .int (v 11)) fX10_136 dX10_readAtom_25 c117 (by decide) rfl rfl ?_
              refine r_if_ne (tgt := 66) (pc2 := 31) dX10_readAtom_28 (by decide) rfl (fun b28 => ?_) (fun b28 => ?_)
              · exact absurd hR.2.1.2.1 b28
              · skip
                refine r_aload_n (pc2 := 32) 0 dX10_readAtom_31 rfl rfl rfl rfl ?_
                refine r_aload_n (pc2 := 33) 0 dX10_readAtom_32 rfl rfl rfl rfl ?_
                refine r_getf (pc2 := 36) (v := .int (v 9)) fX10_118 dX10_readAtom_33 c117 (by decide) rfl rfl ?_
                refine r_cast (nI (lxK tp n p)) (hR.2.1.2.2.2.2.1) ?_
                refine r_callV1 (pc2 := 39) (As := [.int (nI (lxK tp n p))]) (st := []) kX10_162 rfl rfl dX10_readAtom_36 c117 (by decide) rfl rfl (Nat.le_of_ble_eq_true rfl) (by omega) ((c_wordOf (rd := rd) (k := lxK tp n p) c117 ((hN 15 (by decide) (by decide) (by decide) (by decide) (by decide) (by decide)).trans h15) hrd (lxK_le tp n p)).mono fun r h2 q => ⟨q.1.trans (by rw [ew]), q.2⟩) rfl (fun h2 hq36 => ?_)
                subst hq36
                refine r_iconst (pc2 := 40) (v := -1) dX10_readAtom_39 (by decide) rfl ?_
                refine r_icmp_eq (tgt := 66) (pc2 := 43) dX10_readAtom_40 (by decide) rfl (fun b40 => ?_) (fun b40 => ?_)
                · skip
                  refine r_aload_n (pc2 := 67) 0 dX10_readAtom_66 rfl rfl rfl rfl ?_
                  refine r_bipush (pc2 := 69) (v := 35) dX10_readAtom_67 (by decide) rfl ?_
                  refine r_callV1 (pc2 := 72) (As := [.int 35]) (st := []) kX10_142 rfl rfl dX10_readAtom_69 c117 (by decide) rfl rfl (Nat.le_of_ble_eq_true rfl) (by omega) ((G_is (k := 35) (by decide) hT).mono fun r h2 q => ⟨q.1.trans (by rw [if_pos (isB_y hk)]), q.2⟩) rfl (fun h2 hq69 => ?_)
                  subst hq69
                  refine r_if_eq (tgt := 108) (pc2 := 75) dX10_readAtom_72 (by decide) rfl (fun b72 => ?_) (fun b72 => ?_)
                  · exact absurd b72 (by decide)
                  · skip
                    refine r_aload_n (pc2 := 76) 0 dX10_readAtom_75 rfl rfl rfl rfl ?_
                    refine r_iload_n (pc2 := 77) 1 dX10_readAtom_76 rfl rfl rfl ?_
                    refine r_callV1 (pc2 := 80) (As := [.int (nI e)]) (st := []) kX10_165 rfl rfl dX10_readAtom_77 c117 (by decide) rfl rfl (Nat.le_of_ble_eq_true rfl) (by omega) ((G_goesIn (p := p) (b := b) (L := L) heb ht (by omega) hT).mono fun r h2 q => RQ.cast (r1 := some (.int 1)) (y := pNx tp n p L) q (congrArg (fun z : PX (List Nat) => some (Value.int (if okB z = true then (1 : Int32) else 0))) ep) ep) rfl (fun h hq77 => ?_)
                    obtain ⟨hxc, hT⟩ := hq77
                    have hx := hx.trans hxc (by decide)
                    have hTo := hT
                    obtain ⟨v, g, c117, c120, c121, hN, hR⟩ := hTo
                    refine r_if_ne (tgt := 84) (pc2 := 83) dX10_readAtom_80 (by decide) rfl (fun b80 => ?_) (fun b80 => ?_)
                    · skip
                      refine r_aload_n (pc2 := 85) 0 dX10_readAtom_84 rfl rfl rfl rfl ?_
                      refine r_iload_n (pc2 := 86) 1 dX10_readAtom_85 rfl rfl rfl ?_
                      refine r_iconst (pc2 := 87) (v := 1) dX10_readAtom_86 (by decide) rfl ?_
                      refine r_iadd (pc2 := 88) dX10_readAtom_87 rfl ?_
                      refine r_cast (nI (e + 1)) (nI_1 e) ?_
                      refine r_callV0 (pc2 := 91) (As := [.int (nI (e + 1))]) (st := []) kX10_168 rfl rfl dX10_readAtom_88 c117 (by decide) rfl rfl (Nat.le_of_ble_eq_true rfl) (by omega) (hS hb _ (by omega) _ (pNx tp n p L) (hI.nx (by rw [hk]; decide)).w1 hT) rfl (fun h hq88 => ?_)
                      obtain ⟨hxc, hT⟩ := hq88
                      have hx := hx.trans hxc (by decide)
                      have hTo := hT
                      obtain ⟨v, g, c117, c120, c121, hN, hR⟩ := hTo
                      refine r_aload_n (pc2 := 92) 0 dX10_readAtom_91 rfl rfl rfl rfl ?_
                      refine r_bipush (pc2 := 94) (v := 36) dX10_readAtom_92 (by decide) rfl ?_
                      refine r_callV1 (pc2 := 97) (As := [.int 36]) (st := []) kX10_171 rfl rfl dX10_readAtom_94 c117 (by decide) rfl rfl (Nat.le_of_ble_eq_true rfl) (by omega) (G_eats (x := (bnd (pNx tp n p L) (sub1 tp n rd b))) (k := 36) (by decide) ht (by omega) hT) rfl (fun h hq94 => ?_)
                      obtain ⟨hxc, hT⟩ := hq94
                      have hx := hx.trans hxc (by decide)
                      have hTo := hT
                      obtain ⟨v, g, c117, c120, c121, hN, hR⟩ := hTo
                      refine r_if_ne (tgt := 130) (pc2 := 100) dX10_readAtom_97 (by decide) rfl (fun b97 => ?_) (fun b97 => ?_)
                      · skip
                        exact k130 _ hx (by rw [pEat_t (iteB1 b97)]; rw [if_pos (iteB1 b97)] at hT; exact hT)
                      · skip
                        rw [if_neg (iteB0 b97)] at hT
                        refine r_aload_n (pc2 := 101) 0 dX10_readAtom_100 rfl rfl rfl rfl ?_
                        refine r_iconst (pc2 := 102) (v := 2) dX10_readAtom_101 (by decide) rfl ?_
                        refine r_callV0 (pc2 := 105) (As := [.int 2]) (st := []) kX10_148 rfl rfl dX10_readAtom_102 c117 (by decide) rfl rfl (Nat.le_of_ble_eq_true rfl) (by omega) (G_fails (x := (bnd (pNx tp n p L) (sub1 tp n rd b))) (f := 2) (by decide) (by decide) hT) rfl (fun h hq102 => ?_)
                        obtain ⟨hxc, hT⟩ := hq102
                        have hx := hx.trans hxc (by decide)
                        have hTo := hT
                        obtain ⟨v, g, c117, c120, c121, hN, hR⟩ := hTo
                        refine r_goto (pc2 := 130) dX10_readAtom_105 (by decide) ?_
                        exact k130 _ hx (by rw [pEat_f (iteB0 b97)]; exact hT)
                    · exact absurd b80 (by decide)
                · exact absurd b40 (by decide)
            · exact absurd b6 (by decide)
        · have n35 := hk
          by_cases hk : lxK tp n p = 13
          · have eG : (lvA tp n rd b p L) = pIf tp n b (sub1 tp n rd b) (sub2 tp n rd b) p L := by unfold lvA pAtom; rw [if_neg n24, if_neg hw, if_neg n35, if_pos hk]
            rw [eG]
            refine Cn.go (ls := [.ref 117, .int (nI e)]) (by decide +kernel) rfl (Nat.le_of_ble_eq_true rfl) ?_
            refine r_aload_n (pc2 := 1) 0 dX10_readAtom_0 rfl rfl rfl rfl ?_
            refine r_bipush (pc2 := 3) (v := 24) dX10_readAtom_1 (by decide) rfl ?_
            refine r_callV1 (pc2 := 6) (As := [.int 24]) (st := []) kX10_142 rfl rfl dX10_readAtom_3 c117 (by decide) rfl rfl (Nat.le_of_ble_eq_true rfl) (by omega) ((G_is (k := 24) (by decide) hT).mono fun r h2 q => ⟨q.1.trans (by rw [if_neg (isB_n n24)]), q.2⟩) rfl (fun h2 hq3 => ?_)
            subst hq3
            refine r_if_eq (tgt := 24) (pc2 := 9) dX10_readAtom_6 (by decide) rfl (fun b6 => ?_) (fun b6 => ?_)
            · skip
              refine r_aload_n (pc2 := 25) 0 dX10_readAtom_24 rfl rfl rfl rfl ?_
              refine r_getf (pc2 := 28) (v := .int (v 11)) fX10_136 dX10_readAtom_25 c117 (by decide) rfl rfl ?_
              refine r_if_ne (tgt := 66) (pc2 := 31) dX10_readAtom_28 (by decide) rfl (fun b28 => ?_) (fun b28 => ?_)
              · exact absurd hR.2.1.2.1 b28
              · skip
                refine r_aload_n (pc2 := 32) 0 dX10_readAtom_31 rfl rfl rfl rfl ?_
                refine r_aload_n (pc2 := 33) 0 dX10_readAtom_32 rfl rfl rfl rfl ?_
                refine r_getf (pc2 := 36) (v := .int (v 9)) fX10_118 dX10_readAtom_33 c117 (by decide) rfl rfl ?_
                refine r_cast (nI (lxK tp n p)) (hR.2.1.2.2.2.2.1) ?_
                refine r_callV1 (pc2 := 39) (As := [.int (nI (lxK tp n p))]) (st := []) kX10_162 rfl rfl dX10_readAtom_36 c117 (by decide) rfl rfl (Nat.le_of_ble_eq_true rfl) (by omega) ((c_wordOf (rd := rd) (k := lxK tp n p) c117 ((hN 15 (by decide) (by decide) (by decide) (by decide) (by decide) (by decide)).trans h15) hrd (lxK_le tp n p)).mono fun r h2 q => ⟨q.1.trans (by rw [ew]), q.2⟩) rfl (fun h2 hq36 => ?_)
                subst hq36
                refine r_iconst (pc2 := 40) (v := -1) dX10_readAtom_39 (by decide) rfl ?_
                refine r_icmp_eq (tgt := 66) (pc2 := 43) dX10_readAtom_40 (by decide) rfl (fun b40 => ?_) (fun b40 => ?_)
                · skip
                  refine r_aload_n (pc2 := 67) 0 dX10_readAtom_66 rfl rfl rfl rfl ?_
                  refine r_bipush (pc2 := 69) (v := 35) dX10_readAtom_67 (by decide) rfl ?_
                  refine r_callV1 (pc2 := 72) (As := [.int 35]) (st := []) kX10_142 rfl rfl dX10_readAtom_69 c117 (by decide) rfl rfl (Nat.le_of_ble_eq_true rfl) (by omega) ((G_is (k := 35) (by decide) hT).mono fun r h2 q => ⟨q.1.trans (by rw [if_neg (isB_n n35)]), q.2⟩) rfl (fun h2 hq69 => ?_)
                  subst hq69
                  refine r_if_eq (tgt := 108) (pc2 := 75) dX10_readAtom_72 (by decide) rfl (fun b72 => ?_) (fun b72 => ?_)
                  · skip
                    refine r_aload_n (pc2 := 109) 0 dX10_readAtom_108 rfl rfl rfl rfl ?_
                    refine r_bipush (pc2 := 111) (v := 13) dX10_readAtom_109 (by decide) rfl ?_
                    refine r_callV1 (pc2 := 114) (As := [.int 13]) (st := []) kX10_142 rfl rfl dX10_readAtom_111 c117 (by decide) rfl rfl (Nat.le_of_ble_eq_true rfl) (by omega) ((G_is (k := 13) (by decide) hT).mono fun r h2 q => ⟨q.1.trans (by rw [if_pos (isB_y hk)]), q.2⟩) rfl (fun h2 hq111 => ?_)
                    subst hq111
                    refine r_if_eq (tgt := 125) (pc2 := 117) dX10_readAtom_114 (by decide) rfl (fun b114 => ?_) (fun b114 => ?_)
                    · exact absurd b114 (by decide)
                    · skip
                      refine r_aload_n (pc2 := 118) 0 dX10_readAtom_117 rfl rfl rfl rfl ?_
                      refine r_iload_n (pc2 := 119) 1 dX10_readAtom_118 rfl rfl rfl ?_
                      refine r_callV0 (pc2 := 122) (As := [.int (nI e)]) (st := []) kX10_174 rfl rfl dX10_readAtom_119 c117 (by decide) rfl rfl (Nat.le_of_ble_eq_true rfl) (by omega) (C_if (rd := rd) (b := b) heb ht (by omega) hS hU hk hI hT) rfl (fun h hq119 => ?_)
                      obtain ⟨hxc, hT⟩ := hq119
                      have hx := hx.trans hxc (by decide)
                      have hTo := hT
                      obtain ⟨v, g, c117, c120, c121, hN, hR⟩ := hTo
                      refine r_goto (pc2 := 130) dX10_readAtom_122 (by decide) ?_
                      exact r_vret rfl dX10_readAtom_130 ⟨rfl, hx, hT⟩
                  · exact absurd b72 (by decide)
                · exact absurd b40 (by decide)
            · exact absurd b6 (by decide)
          · have n13 := hk
            have eG : (lvA tp n rd b p L) = pFl tp n 2 p := by unfold lvA pAtom; rw [if_neg n24, if_neg hw, if_neg n35, if_neg n13]
            rw [eG]
            refine Cn.go (ls := [.ref 117, .int (nI e)]) (by decide +kernel) rfl (Nat.le_of_ble_eq_true rfl) ?_
            refine r_aload_n (pc2 := 1) 0 dX10_readAtom_0 rfl rfl rfl rfl ?_
            refine r_bipush (pc2 := 3) (v := 24) dX10_readAtom_1 (by decide) rfl ?_
            refine r_callV1 (pc2 := 6) (As := [.int 24]) (st := []) kX10_142 rfl rfl dX10_readAtom_3 c117 (by decide) rfl rfl (Nat.le_of_ble_eq_true rfl) (by omega) ((G_is (k := 24) (by decide) hT).mono fun r h2 q => ⟨q.1.trans (by rw [if_neg (isB_n n24)]), q.2⟩) rfl (fun h2 hq3 => ?_)
            subst hq3
            refine r_if_eq (tgt := 24) (pc2 := 9) dX10_readAtom_6 (by decide) rfl (fun b6 => ?_) (fun b6 => ?_)
            · skip
              refine r_aload_n (pc2 := 25) 0 dX10_readAtom_24 rfl rfl rfl rfl ?_
              refine r_getf (pc2 := 28) (v := .int (v 11)) fX10_136 dX10_readAtom_25 c117 (by decide) rfl rfl ?_
              refine r_if_ne (tgt := 66) (pc2 := 31) dX10_readAtom_28 (by decide) rfl (fun b28 => ?_) (fun b28 => ?_)
              · exact absurd hR.2.1.2.1 b28
              · skip
                refine r_aload_n (pc2 := 32) 0 dX10_readAtom_31 rfl rfl rfl rfl ?_
                refine r_aload_n (pc2 := 33) 0 dX10_readAtom_32 rfl rfl rfl rfl ?_
                refine r_getf (pc2 := 36) (v := .int (v 9)) fX10_118 dX10_readAtom_33 c117 (by decide) rfl rfl ?_
                refine r_cast (nI (lxK tp n p)) (hR.2.1.2.2.2.2.1) ?_
                refine r_callV1 (pc2 := 39) (As := [.int (nI (lxK tp n p))]) (st := []) kX10_162 rfl rfl dX10_readAtom_36 c117 (by decide) rfl rfl (Nat.le_of_ble_eq_true rfl) (by omega) ((c_wordOf (rd := rd) (k := lxK tp n p) c117 ((hN 15 (by decide) (by decide) (by decide) (by decide) (by decide) (by decide)).trans h15) hrd (lxK_le tp n p)).mono fun r h2 q => ⟨q.1.trans (by rw [ew]), q.2⟩) rfl (fun h2 hq36 => ?_)
                subst hq36
                refine r_iconst (pc2 := 40) (v := -1) dX10_readAtom_39 (by decide) rfl ?_
                refine r_icmp_eq (tgt := 66) (pc2 := 43) dX10_readAtom_40 (by decide) rfl (fun b40 => ?_) (fun b40 => ?_)
                · skip
                  refine r_aload_n (pc2 := 67) 0 dX10_readAtom_66 rfl rfl rfl rfl ?_
                  refine r_bipush (pc2 := 69) (v := 35) dX10_readAtom_67 (by decide) rfl ?_
                  refine r_callV1 (pc2 := 72) (As := [.int 35]) (st := []) kX10_142 rfl rfl dX10_readAtom_69 c117 (by decide) rfl rfl (Nat.le_of_ble_eq_true rfl) (by omega) ((G_is (k := 35) (by decide) hT).mono fun r h2 q => ⟨q.1.trans (by rw [if_neg (isB_n n35)]), q.2⟩) rfl (fun h2 hq69 => ?_)
                  subst hq69
                  refine r_if_eq (tgt := 108) (pc2 := 75) dX10_readAtom_72 (by decide) rfl (fun b72 => ?_) (fun b72 => ?_)
                  · skip
                    refine r_aload_n (pc2 := 109) 0 dX10_readAtom_108 rfl rfl rfl rfl ?_
                    refine r_bipush (pc2 := 111) (v := 13) dX10_readAtom_109 (by decide) rfl ?_
                    refine r_callV1 (pc2 := 114) (As := [.int 13]) (st := []) kX10_142 rfl rfl dX10_readAtom_111 c117 (by decide) rfl rfl (Nat.le_of_ble_eq_true rfl) (by omega) ((G_is (k := 13) (by decide) hT).mono fun r h2 q => ⟨q.1.trans (by rw [if_neg (isB_n n13)]), q.2⟩) rfl (fun h2 hq111 => ?_)
                    subst hq111
                    refine r_if_eq (tgt := 125) (pc2 := 117) dX10_readAtom_114 (by decide) rfl (fun b114 => ?_) (fun b114 => ?_)
                    · skip
                      refine r_aload_n (pc2 := 126) 0 dX10_readAtom_125 rfl rfl rfl rfl ?_
                      refine r_iconst (pc2 := 127) (v := 2) dX10_readAtom_126 (by decide) rfl ?_
                      refine r_callV0 (pc2 := 130) (As := [.int 2]) (st := []) kX10_148 rfl rfl dX10_readAtom_127 c117 (by decide) rfl rfl (Nat.le_of_ble_eq_true rfl) (by omega) (G_fails (x := (.ok (p, L))) (f := 2) (by decide) (by decide) hT) rfl (fun h hq127 => ?_)
                      obtain ⟨hxc, hT⟩ := hq127
                      have hx := hx.trans hxc (by decide)
                      have hTo := hT
                      obtain ⟨v, g, c117, c120, c121, hN, hR⟩ := hTo
                      exact r_vret rfl dX10_readAtom_130 ⟨rfl, hx, hT⟩
                    · exact absurd b114 (by decide)
                  · exact absurd b72 (by decide)
                · exact absurd b40 (by decide)
            · exact absurd b6 (by decide)
set_option maxRecDepth 20000 in
set_option maxHeartbeats 1000000 in
theorem C_term {E : EnvT} {d : Nat} {tp : Nat → Nat} {n : Nat} {fr : Nat → Nat} {c0 : Nat} {v0 : Nat → Int32} {e : Nat} {A : PF} (ht : TOk tp n) (hd : 8 ≤ d) (gA : Good n A) (hA : CS E tp n fr c0 v0 mX10_readAtom (d - 1) e A) : CS E tp n fr c0 v0 mX10_readTerm d e (pTerm tp n A) := by
  intro h0 x hI hT
  have hx : Ex [117, 121] h0 h0 := Ex.rf
  have hTo := hT
  obtain ⟨v, g, c117, c120, c121, hN, hR⟩ := hTo
  have eF : bnd x (pTerm tp n A) = bnd (bnd x A) (pRep tp n 34 3002 A 901) := by cases x <;> rfl
  rw [eF]
  have lpE : ∀ (we ae : Nat) (h : Hp), Ex [117, 121] h0 h → RT tp n (frL fr c0) v0 (.error (we, ae) : PX (List Nat)) h → Fr E mX10_readTerm d 5 [.ref 117, .int (nI e)] [] h (RQ tp n (frL fr c0) v0 h0 none (.error (we, ae) : PX (List Nat))) := by
    intro we ae h hx hT
    have hTo := hT
    obtain ⟨v, g, c117, c120, c121, hN, hR⟩ := hTo
    refine r_aload_n (pc2 := 6) 0 dX10_readTerm_5 rfl rfl rfl rfl ?_
    refine r_bipush (pc2 := 8) (v := 34) dX10_readTerm_6 (by decide) rfl ?_
    refine r_callV1 (pc2 := 11) (As := [.int 34]) (st := []) kX10_171 rfl rfl dX10_readTerm_8 c117 (by decide) rfl rfl (Nat.le_of_ble_eq_true rfl) (by omega) ((G_eats (x := (.error (we, ae) : PX (List Nat))) (k := 34) (by decide) ht (by omega) hT).mono fun r h2 q => RQ.cast (r1 := some (.int 0)) (y := (.error (we, ae) : PX (List Nat))) q (by rw [if_neg (isB_e)]) (if_neg (isB_e))) rfl (fun h hq8 => ?_)
    obtain ⟨hxc, hT⟩ := hq8
    have hx := hx.trans hxc (by decide)
    have hTo := hT
    obtain ⟨v, g, c117, c120, c121, hN, hR⟩ := hTo
    refine r_if_eq (tgt := 29) (pc2 := 14) dX10_readTerm_11 (by decide) rfl (fun b11 => ?_) (fun b11 => ?_)
    · skip
      exact r_vret rfl dX10_readTerm_29 ⟨rfl, hx, hT⟩
    · exact absurd b11 (by decide)
  have loop : ∀ (m : Nat) (x : PX (List Nat)) (h : Hp), Ex [117, 121] h0 h → IV n c0 0 x → (∀ p L, x = .ok (p, L) → n < m + p) → RT tp n (frL fr c0) v0 x h → Fr E mX10_readTerm d 5 [.ref 117, .int (nI e)] [] h (RQ tp n (frL fr c0) v0 h0 none (bnd x (pRep tp n 34 3002 A m))) := by
    intro m
    induction m with
    | zero =>
      intro x h hx hI hq hT
      match x, hI, hq, hT with
      | .error (we, ae), hI, hq, hT => exact lpE we ae h hx hT
      | .ok (p, L), hI, hq, hT => exact absurd (hq p L rfl) (by have := hI.2.1; omega)
    | succ m ih =>
      intro x h hx hI hq hT
      match x, hI, hq, hT with
      | .error (we, ae), hI, hq, hT => exact lpE we ae h hx hT
      | .ok (p, L), hI, hq, hT =>
        have hTo := hT
        obtain ⟨v, g, c117, c120, c121, hN, hR⟩ := hTo
        have hq2 := hq p L rfl
        show Fr E mX10_readTerm d 5 [.ref 117, .int (nI e)] [] h (RQ tp n (frL fr c0) v0 h0 none (pRep tp n 34 3002 A (m + 1) p L))
        by_cases hk : lxK tp n p = 34
        · have i2 : IV n c0 (p + 1) (bnd (bnd (pNx tp n p L) A) (pCo 3002)) := (((show IV n c0 p (.ok (p, L)) from ⟨Nat.le_refl _, hI.2.1, hI.2.2⟩).nx (by rw [hk]; decide)).b gA).co
          have eL : pRep tp n 34 3002 A (m + 1) p L = bnd (bnd (bnd (pNx tp n p L) A) (pCo 3002)) (pRep tp n 34 3002 A m) := by rw [pRep_s, if_pos hk]
          rw [eL]
          refine r_aload_n (pc2 := 6) 0 dX10_readTerm_5 rfl rfl rfl rfl ?_
          refine r_bipush (pc2 := 8) (v := 34) dX10_readTerm_6 (by decide) rfl ?_
          refine r_callV1 (pc2 := 11) (As := [.int 34]) (st := []) kX10_171 rfl rfl dX10_readTerm_8 c117 (by decide) rfl rfl (Nat.le_of_ble_eq_true rfl) (by omega) ((G_eats (x := .ok (p, L)) (k := 34) (by decide) ht (by omega) hT).mono fun r h2 q => RQ.cast (r1 := some (.int 1)) (y := pNx tp n p L) q (by rw [if_pos (isB_y hk)]) (if_pos (isB_y hk))) rfl (fun h hq8 => ?_)
          obtain ⟨hxc, hT⟩ := hq8
          have hx := hx.trans hxc (by decide)
          have hTo := hT
          obtain ⟨v, g, c117, c120, c121, hN, hR⟩ := hTo
          refine r_if_eq (tgt := 29) (pc2 := 14) dX10_readTerm_11 (by decide) rfl (fun b11 => ?_) (fun b11 => ?_)
          · exact absurd b11 (by decide)
          · skip
            refine r_aload_n (pc2 := 15) 0 dX10_readTerm_14 rfl rfl rfl rfl ?_
            refine r_iload_n (pc2 := 16) 1 dX10_readTerm_15 rfl rfl rfl ?_
            refine r_callV0 (pc2 := 19) (As := [.int (nI e)]) (st := []) kX10_180 rfl rfl dX10_readTerm_16 c117 (by decide) rfl rfl (Nat.le_of_ble_eq_true rfl) (by omega) (hA _ (pNx tp n p L) (hI.nx (by rw [hk]; decide)).w1 hT) rfl (fun h hq16 => ?_)
            obtain ⟨hxc, hT⟩ := hq16
            have hx := hx.trans hxc (by decide)
            have hTo := hT
            obtain ⟨v, g, c117, c120, c121, hN, hR⟩ := hTo
            refine r_aload_n (pc2 := 20) 0 dX10_readTerm_19 rfl rfl rfl rfl ?_
            refine r_sipush (pc2 := 23) (v := 3002) dX10_readTerm_20 (by decide) rfl ?_
            refine r_callV0 (pc2 := 26) (As := [.int 3002]) (st := []) kX10_159 rfl rfl dX10_readTerm_23 c117 (by decide) rfl rfl (Nat.le_of_ble_eq_true rfl) (by omega) (G_codes (x := (bnd (pNx tp n p L) A)) (c := 3002) (((hI.nx (by rw [hk]; decide)).b gA).len ht.1) hT) rfl (fun h hq23 => ?_)
            obtain ⟨hxc, hT⟩ := hq23
            have hx := hx.trans hxc (by decide)
            have hTo := hT
            obtain ⟨v, g, c117, c120, c121, hN, hR⟩ := hTo
            refine r_goto (pc2 := 5) dX10_readTerm_26 (by decide) ?_
            exact ih (bnd (bnd (pNx tp n p L) A) (pCo 3002)) _ hx i2.w0 (fun p2 L2 z => by rw [z] at i2; have := i2.1; omega) hT
        · have eL : pRep tp n 34 3002 A (m + 1) p L = .ok (p, L) := by rw [pRep_s, if_neg hk]
          rw [eL]
          refine r_aload_n (pc2 := 6) 0 dX10_readTerm_5 rfl rfl rfl rfl ?_
          refine r_bipush (pc2 := 8) (v := 34) dX10_readTerm_6 (by decide) rfl ?_
          refine r_callV1 (pc2 := 11) (As := [.int 34]) (st := []) kX10_171 rfl rfl dX10_readTerm_8 c117 (by decide) rfl rfl (Nat.le_of_ble_eq_true rfl) (by omega) ((G_eats (x := (.ok (p, L))) (k := 34) (by decide) ht (by omega) hT).mono fun r h2 q => RQ.cast (r1 := some (.int 0)) (y := (.ok (p, L))) q (by rw [if_neg (isB_n hk)]) (if_neg (isB_n hk))) rfl (fun h hq8 => ?_)
          obtain ⟨hxc, hT⟩ := hq8
          have hx := hx.trans hxc (by decide)
          have hTo := hT
          obtain ⟨v, g, c117, c120, c121, hN, hR⟩ := hTo
          refine r_if_eq (tgt := 29) (pc2 := 14) dX10_readTerm_11 (by decide) rfl (fun b11 => ?_) (fun b11 => ?_)
          · skip
            exact r_vret rfl dX10_readTerm_29 ⟨rfl, hx, hT⟩
          · exact absurd b11 (by decide)
  refine Cn.go (ls := [.ref 117, .int (nI e)]) (by decide +kernel) rfl (Nat.le_of_ble_eq_true rfl) ?_
  refine r_aload_n (pc2 := 1) 0 dX10_readTerm_0 rfl rfl rfl rfl ?_
  refine r_iload_n (pc2 := 2) 1 dX10_readTerm_1 rfl rfl rfl ?_
  refine r_callV0 (pc2 := 5) (As := [.int (nI e)]) (st := []) kX10_180 rfl rfl dX10_readTerm_2 c117 (by decide) rfl rfl (Nat.le_of_ble_eq_true rfl) (by omega) (hA _ x hI hT) rfl (fun h hq2 => ?_)
  obtain ⟨hxc, hT⟩ := hq2
  have hx := hx.trans hxc (by decide)
  have hTo := hT
  obtain ⟨v, g, c117, c120, c121, hN, hR⟩ := hTo
  exact loop 901 (bnd x A) _ hx (hI.b gA) (fun p2 L2 z => by have := ht.1; omega) hT
set_option maxRecDepth 20000 in
set_option maxHeartbeats 1000000 in
theorem C_both {E : EnvT} {d : Nat} {tp : Nat → Nat} {n : Nat} {fr : Nat → Nat} {c0 : Nat} {v0 : Nat → Int32} {e : Nat} {A : PF} (ht : TOk tp n) (hd : 8 ≤ d) (gA : Good n A) (hA : CS E tp n fr c0 v0 mX10_readUnit (d - 1) e A) : CS E tp n fr c0 v0 mX10_readBoth d e (pBoth tp n A) := by
  intro h0 x hI hT
  have hx : Ex [117, 121] h0 h0 := Ex.rf
  have hTo := hT
  obtain ⟨v, g, c117, c120, c121, hN, hR⟩ := hTo
  have eF : bnd x (pBoth tp n A) = bnd (bnd x A) (pRep tp n 20 3007 A 901) := by cases x <;> rfl
  rw [eF]
  have lpE : ∀ (we ae : Nat) (h : Hp), Ex [117, 121] h0 h → RT tp n (frL fr c0) v0 (.error (we, ae) : PX (List Nat)) h → Fr E mX10_readBoth d 5 [.ref 117, .int (nI e)] [] h (RQ tp n (frL fr c0) v0 h0 none (.error (we, ae) : PX (List Nat))) := by
    intro we ae h hx hT
    have hTo := hT
    obtain ⟨v, g, c117, c120, c121, hN, hR⟩ := hTo
    refine r_aload_n (pc2 := 6) 0 dX10_readBoth_5 rfl rfl rfl rfl ?_
    refine r_bipush (pc2 := 8) (v := 20) dX10_readBoth_6 (by decide) rfl ?_
    refine r_callV1 (pc2 := 11) (As := [.int 20]) (st := []) kX10_171 rfl rfl dX10_readBoth_8 c117 (by decide) rfl rfl (Nat.le_of_ble_eq_true rfl) (by omega) ((G_eats (x := (.error (we, ae) : PX (List Nat))) (k := 20) (by decide) ht (by omega) hT).mono fun r h2 q => RQ.cast (r1 := some (.int 0)) (y := (.error (we, ae) : PX (List Nat))) q (by rw [if_neg (isB_e)]) (if_neg (isB_e))) rfl (fun h hq8 => ?_)
    obtain ⟨hxc, hT⟩ := hq8
    have hx := hx.trans hxc (by decide)
    have hTo := hT
    obtain ⟨v, g, c117, c120, c121, hN, hR⟩ := hTo
    refine r_if_eq (tgt := 29) (pc2 := 14) dX10_readBoth_11 (by decide) rfl (fun b11 => ?_) (fun b11 => ?_)
    · skip
      exact r_vret rfl dX10_readBoth_29 ⟨rfl, hx, hT⟩
    · exact absurd b11 (by decide)
  have loop : ∀ (m : Nat) (x : PX (List Nat)) (h : Hp), Ex [117, 121] h0 h → IV n c0 0 x → (∀ p L, x = .ok (p, L) → n < m + p) → RT tp n (frL fr c0) v0 x h → Fr E mX10_readBoth d 5 [.ref 117, .int (nI e)] [] h (RQ tp n (frL fr c0) v0 h0 none (bnd x (pRep tp n 20 3007 A m))) := by
    intro m
    induction m with
    | zero =>
      intro x h hx hI hq hT
      match x, hI, hq, hT with
      | .error (we, ae), hI, hq, hT => exact lpE we ae h hx hT
      | .ok (p, L), hI, hq, hT => exact absurd (hq p L rfl) (by have := hI.2.1; omega)
    | succ m ih =>
      intro x h hx hI hq hT
      match x, hI, hq, hT with
      | .error (we, ae), hI, hq, hT => exact lpE we ae h hx hT
      | .ok (p, L), hI, hq, hT =>
        have hTo := hT
        obtain ⟨v, g, c117, c120, c121, hN, hR⟩ := hTo
        have hq2 := hq p L rfl
        show Fr E mX10_readBoth d 5 [.ref 117, .int (nI e)] [] h (RQ tp n (frL fr c0) v0 h0 none (pRep tp n 20 3007 A (m + 1) p L))
        by_cases hk : lxK tp n p = 20
        · have i2 : IV n c0 (p + 1) (bnd (bnd (pNx tp n p L) A) (pCo 3007)) := (((show IV n c0 p (.ok (p, L)) from ⟨Nat.le_refl _, hI.2.1, hI.2.2⟩).nx (by rw [hk]; decide)).b gA).co
          have eL : pRep tp n 20 3007 A (m + 1) p L = bnd (bnd (bnd (pNx tp n p L) A) (pCo 3007)) (pRep tp n 20 3007 A m) := by rw [pRep_s, if_pos hk]
          rw [eL]
          refine r_aload_n (pc2 := 6) 0 dX10_readBoth_5 rfl rfl rfl rfl ?_
          refine r_bipush (pc2 := 8) (v := 20) dX10_readBoth_6 (by decide) rfl ?_
          refine r_callV1 (pc2 := 11) (As := [.int 20]) (st := []) kX10_171 rfl rfl dX10_readBoth_8 c117 (by decide) rfl rfl (Nat.le_of_ble_eq_true rfl) (by omega) ((G_eats (x := .ok (p, L)) (k := 20) (by decide) ht (by omega) hT).mono fun r h2 q => RQ.cast (r1 := some (.int 1)) (y := pNx tp n p L) q (by rw [if_pos (isB_y hk)]) (if_pos (isB_y hk))) rfl (fun h hq8 => ?_)
          obtain ⟨hxc, hT⟩ := hq8
          have hx := hx.trans hxc (by decide)
          have hTo := hT
          obtain ⟨v, g, c117, c120, c121, hN, hR⟩ := hTo
          refine r_if_eq (tgt := 29) (pc2 := 14) dX10_readBoth_11 (by decide) rfl (fun b11 => ?_) (fun b11 => ?_)
          · exact absurd b11 (by decide)
          · skip
            refine r_aload_n (pc2 := 15) 0 dX10_readBoth_14 rfl rfl rfl rfl ?_
            refine r_iload_n (pc2 := 16) 1 dX10_readBoth_15 rfl rfl rfl ?_
            refine r_callV0 (pc2 := 19) (As := [.int (nI e)]) (st := []) kX10_186 rfl rfl dX10_readBoth_16 c117 (by decide) rfl rfl (Nat.le_of_ble_eq_true rfl) (by omega) (hA _ (pNx tp n p L) (hI.nx (by rw [hk]; decide)).w1 hT) rfl (fun h hq16 => ?_)
            obtain ⟨hxc, hT⟩ := hq16
            have hx := hx.trans hxc (by decide)
            have hTo := hT
            obtain ⟨v, g, c117, c120, c121, hN, hR⟩ := hTo
            refine r_aload_n (pc2 := 20) 0 dX10_readBoth_19 rfl rfl rfl rfl ?_
            refine r_sipush (pc2 := 23) (v := 3007) dX10_readBoth_20 (by decide) rfl ?_
            refine r_callV0 (pc2 := 26) (As := [.int 3007]) (st := []) kX10_159 rfl rfl dX10_readBoth_23 c117 (by decide) rfl rfl (Nat.le_of_ble_eq_true rfl) (by omega) (G_codes (x := (bnd (pNx tp n p L) A)) (c := 3007) (((hI.nx (by rw [hk]; decide)).b gA).len ht.1) hT) rfl (fun h hq23 => ?_)
            obtain ⟨hxc, hT⟩ := hq23
            have hx := hx.trans hxc (by decide)
            have hTo := hT
            obtain ⟨v, g, c117, c120, c121, hN, hR⟩ := hTo
            refine r_goto (pc2 := 5) dX10_readBoth_26 (by decide) ?_
            exact ih (bnd (bnd (pNx tp n p L) A) (pCo 3007)) _ hx i2.w0 (fun p2 L2 z => by rw [z] at i2; have := i2.1; omega) hT
        · have eL : pRep tp n 20 3007 A (m + 1) p L = .ok (p, L) := by rw [pRep_s, if_neg hk]
          rw [eL]
          refine r_aload_n (pc2 := 6) 0 dX10_readBoth_5 rfl rfl rfl rfl ?_
          refine r_bipush (pc2 := 8) (v := 20) dX10_readBoth_6 (by decide) rfl ?_
          refine r_callV1 (pc2 := 11) (As := [.int 20]) (st := []) kX10_171 rfl rfl dX10_readBoth_8 c117 (by decide) rfl rfl (Nat.le_of_ble_eq_true rfl) (by omega) ((G_eats (x := (.ok (p, L))) (k := 20) (by decide) ht (by omega) hT).mono fun r h2 q => RQ.cast (r1 := some (.int 0)) (y := (.ok (p, L))) q (by rw [if_neg (isB_n hk)]) (if_neg (isB_n hk))) rfl (fun h hq8 => ?_)
          obtain ⟨hxc, hT⟩ := hq8
          have hx := hx.trans hxc (by decide)
          have hTo := hT
          obtain ⟨v, g, c117, c120, c121, hN, hR⟩ := hTo
          refine r_if_eq (tgt := 29) (pc2 := 14) dX10_readBoth_11 (by decide) rfl (fun b11 => ?_) (fun b11 => ?_)
          · skip
            exact r_vret rfl dX10_readBoth_29 ⟨rfl, hx, hT⟩
          · exact absurd b11 (by decide)
  refine Cn.go (ls := [.ref 117, .int (nI e)]) (by decide +kernel) rfl (Nat.le_of_ble_eq_true rfl) ?_
  refine r_aload_n (pc2 := 1) 0 dX10_readBoth_0 rfl rfl rfl rfl ?_
  refine r_iload_n (pc2 := 2) 1 dX10_readBoth_1 rfl rfl rfl ?_
  refine r_callV0 (pc2 := 5) (As := [.int (nI e)]) (st := []) kX10_186 rfl rfl dX10_readBoth_2 c117 (by decide) rfl rfl (Nat.le_of_ble_eq_true rfl) (by omega) (hA _ x hI hT) rfl (fun h hq2 => ?_)
  obtain ⟨hxc, hT⟩ := hq2
  have hx := hx.trans hxc (by decide)
  have hTo := hT
  obtain ⟨v, g, c117, c120, c121, hN, hR⟩ := hTo
  exact loop 901 (bnd x A) _ hx (hI.b gA) (fun p2 L2 z => by have := ht.1; omega) hT
set_option maxRecDepth 20000 in
set_option maxHeartbeats 1000000 in
theorem C_truth0 {E : EnvT} {d : Nat} {tp : Nat → Nat} {n : Nat} {fr : Nat → Nat} {c0 : Nat} {v0 : Nat → Int32} {e : Nat} {A : PF} (ht : TOk tp n) (hd : 8 ≤ d) (gA : Good n A) (hA : CS E tp n fr c0 v0 mX10_readBoth (d - 1) e A) : CS E tp n fr c0 v0 mX10_readTruth d e ((fun tp n A => fun p L => bnd (A p L) (pRep tp n 21 3008 A 901)) tp n A) := by
  intro h0 x hI hT
  have hx : Ex [117, 121] h0 h0 := Ex.rf
  have hTo := hT
  obtain ⟨v, g, c117, c120, c121, hN, hR⟩ := hTo
  have eF : bnd x ((fun tp n A => fun p L => bnd (A p L) (pRep tp n 21 3008 A 901)) tp n A) = bnd (bnd x A) (pRep tp n 21 3008 A 901) := by cases x <;> rfl
  rw [eF]
  have lpE : ∀ (we ae : Nat) (h : Hp), Ex [117, 121] h0 h → RT tp n (frL fr c0) v0 (.error (we, ae) : PX (List Nat)) h → Fr E mX10_readTruth d 5 [.ref 117, .int (nI e)] [] h (RQ tp n (frL fr c0) v0 h0 none (.error (we, ae) : PX (List Nat))) := by
    intro we ae h hx hT
    have hTo := hT
    obtain ⟨v, g, c117, c120, c121, hN, hR⟩ := hTo
    refine r_aload_n (pc2 := 6) 0 dX10_readTruth_5 rfl rfl rfl rfl ?_
    refine r_bipush (pc2 := 8) (v := 21) dX10_readTruth_6 (by decide) rfl ?_
    refine r_callV1 (pc2 := 11) (As := [.int 21]) (st := []) kX10_171 rfl rfl dX10_readTruth_8 c117 (by decide) rfl rfl (Nat.le_of_ble_eq_true rfl) (by omega) ((G_eats (x := (.error (we, ae) : PX (List Nat))) (k := 21) (by decide) ht (by omega) hT).mono fun r h2 q => RQ.cast (r1 := some (.int 0)) (y := (.error (we, ae) : PX (List Nat))) q (by rw [if_neg (isB_e)]) (if_neg (isB_e))) rfl (fun h hq8 => ?_)
    obtain ⟨hxc, hT⟩ := hq8
    have hx := hx.trans hxc (by decide)
    have hTo := hT
    obtain ⟨v, g, c117, c120, c121, hN, hR⟩ := hTo
    refine r_if_eq (tgt := 29) (pc2 := 14) dX10_readTruth_11 (by decide) rfl (fun b11 => ?_) (fun b11 => ?_)
    · skip
      exact r_vret rfl dX10_readTruth_29 ⟨rfl, hx, hT⟩
    · exact absurd b11 (by decide)
  have loop : ∀ (m : Nat) (x : PX (List Nat)) (h : Hp), Ex [117, 121] h0 h → IV n c0 0 x → (∀ p L, x = .ok (p, L) → n < m + p) → RT tp n (frL fr c0) v0 x h → Fr E mX10_readTruth d 5 [.ref 117, .int (nI e)] [] h (RQ tp n (frL fr c0) v0 h0 none (bnd x (pRep tp n 21 3008 A m))) := by
    intro m
    induction m with
    | zero =>
      intro x h hx hI hq hT
      match x, hI, hq, hT with
      | .error (we, ae), hI, hq, hT => exact lpE we ae h hx hT
      | .ok (p, L), hI, hq, hT => exact absurd (hq p L rfl) (by have := hI.2.1; omega)
    | succ m ih =>
      intro x h hx hI hq hT
      match x, hI, hq, hT with
      | .error (we, ae), hI, hq, hT => exact lpE we ae h hx hT
      | .ok (p, L), hI, hq, hT =>
        have hTo := hT
        obtain ⟨v, g, c117, c120, c121, hN, hR⟩ := hTo
        have hq2 := hq p L rfl
        show Fr E mX10_readTruth d 5 [.ref 117, .int (nI e)] [] h (RQ tp n (frL fr c0) v0 h0 none (pRep tp n 21 3008 A (m + 1) p L))
        by_cases hk : lxK tp n p = 21
        · have i2 : IV n c0 (p + 1) (bnd (bnd (pNx tp n p L) A) (pCo 3008)) := (((show IV n c0 p (.ok (p, L)) from ⟨Nat.le_refl _, hI.2.1, hI.2.2⟩).nx (by rw [hk]; decide)).b gA).co
          have eL : pRep tp n 21 3008 A (m + 1) p L = bnd (bnd (bnd (pNx tp n p L) A) (pCo 3008)) (pRep tp n 21 3008 A m) := by rw [pRep_s, if_pos hk]
          rw [eL]
          refine r_aload_n (pc2 := 6) 0 dX10_readTruth_5 rfl rfl rfl rfl ?_
          refine r_bipush (pc2 := 8) (v := 21) dX10_readTruth_6 (by decide) rfl ?_
          refine r_callV1 (pc2 := 11) (As := [.int 21]) (st := []) kX10_171 rfl rfl dX10_readTruth_8 c117 (by decide) rfl rfl (Nat.le_of_ble_eq_true rfl) (by omega) ((G_eats (x := .ok (p, L)) (k := 21) (by decide) ht (by omega) hT).mono fun r h2 q => RQ.cast (r1 := some (.int 1)) (y := pNx tp n p L) q (by rw [if_pos (isB_y hk)]) (if_pos (isB_y hk))) rfl (fun h hq8 => ?_)
          obtain ⟨hxc, hT⟩ := hq8
          have hx := hx.trans hxc (by decide)
          have hTo := hT
          obtain ⟨v, g, c117, c120, c121, hN, hR⟩ := hTo
          refine r_if_eq (tgt := 29) (pc2 := 14) dX10_readTruth_11 (by decide) rfl (fun b11 => ?_) (fun b11 => ?_)
          · exact absurd b11 (by decide)
          · skip
            refine r_aload_n (pc2 := 15) 0 dX10_readTruth_14 rfl rfl rfl rfl ?_
            refine r_iload_n (pc2 := 16) 1 dX10_readTruth_15 rfl rfl rfl ?_
            refine r_callV0 (pc2 := 19) (As := [.int (nI e)]) (st := []) kX10_189 rfl rfl dX10_readTruth_16 c117 (by decide) rfl rfl (Nat.le_of_ble_eq_true rfl) (by omega) (hA _ (pNx tp n p L) (hI.nx (by rw [hk]; decide)).w1 hT) rfl (fun h hq16 => ?_)
            obtain ⟨hxc, hT⟩ := hq16
            have hx := hx.trans hxc (by decide)
            have hTo := hT
            obtain ⟨v, g, c117, c120, c121, hN, hR⟩ := hTo
            refine r_aload_n (pc2 := 20) 0 dX10_readTruth_19 rfl rfl rfl rfl ?_
            refine r_sipush (pc2 := 23) (v := 3008) dX10_readTruth_20 (by decide) rfl ?_
            refine r_callV0 (pc2 := 26) (As := [.int 3008]) (st := []) kX10_159 rfl rfl dX10_readTruth_23 c117 (by decide) rfl rfl (Nat.le_of_ble_eq_true rfl) (by omega) (G_codes (x := (bnd (pNx tp n p L) A)) (c := 3008) (((hI.nx (by rw [hk]; decide)).b gA).len ht.1) hT) rfl (fun h hq23 => ?_)
            obtain ⟨hxc, hT⟩ := hq23
            have hx := hx.trans hxc (by decide)
            have hTo := hT
            obtain ⟨v, g, c117, c120, c121, hN, hR⟩ := hTo
            refine r_goto (pc2 := 5) dX10_readTruth_26 (by decide) ?_
            exact ih (bnd (bnd (pNx tp n p L) A) (pCo 3008)) _ hx i2.w0 (fun p2 L2 z => by rw [z] at i2; have := i2.1; omega) hT
        · have eL : pRep tp n 21 3008 A (m + 1) p L = .ok (p, L) := by rw [pRep_s, if_neg hk]
          rw [eL]
          refine r_aload_n (pc2 := 6) 0 dX10_readTruth_5 rfl rfl rfl rfl ?_
          refine r_bipush (pc2 := 8) (v := 21) dX10_readTruth_6 (by decide) rfl ?_
          refine r_callV1 (pc2 := 11) (As := [.int 21]) (st := []) kX10_171 rfl rfl dX10_readTruth_8 c117 (by decide) rfl rfl (Nat.le_of_ble_eq_true rfl) (by omega) ((G_eats (x := (.ok (p, L))) (k := 21) (by decide) ht (by omega) hT).mono fun r h2 q => RQ.cast (r1 := some (.int 0)) (y := (.ok (p, L))) q (by rw [if_neg (isB_n hk)]) (if_neg (isB_n hk))) rfl (fun h hq8 => ?_)
          obtain ⟨hxc, hT⟩ := hq8
          have hx := hx.trans hxc (by decide)
          have hTo := hT
          obtain ⟨v, g, c117, c120, c121, hN, hR⟩ := hTo
          refine r_if_eq (tgt := 29) (pc2 := 14) dX10_readTruth_11 (by decide) rfl (fun b11 => ?_) (fun b11 => ?_)
          · skip
            exact r_vret rfl dX10_readTruth_29 ⟨rfl, hx, hT⟩
          · exact absurd b11 (by decide)
  refine Cn.go (ls := [.ref 117, .int (nI e)]) (by decide +kernel) rfl (Nat.le_of_ble_eq_true rfl) ?_
  refine r_aload_n (pc2 := 1) 0 dX10_readTruth_0 rfl rfl rfl rfl ?_
  refine r_iload_n (pc2 := 2) 1 dX10_readTruth_1 rfl rfl rfl ?_
  refine r_callV0 (pc2 := 5) (As := [.int (nI e)]) (st := []) kX10_189 rfl rfl dX10_readTruth_2 c117 (by decide) rfl rfl (Nat.le_of_ble_eq_true rfl) (by omega) (hA _ x hI hT) rfl (fun h hq2 => ?_)
  obtain ⟨hxc, hT⟩ := hq2
  have hx := hx.trans hxc (by decide)
  have hTo := hT
  obtain ⟨v, g, c117, c120, c121, hN, hR⟩ := hTo
  exact loop 901 (bnd x A) _ hx (hI.b gA) (fun p2 L2 z => by have := ht.1; omega) hT
set_option maxRecDepth 20000 in
set_option maxHeartbeats 1000000 in
theorem C_sum {E : EnvT} {d : Nat} {tp : Nat → Nat} {n : Nat} {fr : Nat → Nat} {c0 : Nat} {v0 : Nat → Int32} {e : Nat} {B : PF} (ht : TOk tp n) (hd : 8 ≤ d) (gA : Good n (pTerm tp n B)) (hA : CS E tp n fr c0 v0 mX10_readTerm (d - 1) e (pTerm tp n B)) : CS E tp n fr c0 v0 mX10_readSum d e (pSum tp n B) := by
  intro h0 x hI hT
  have hx : Ex [117, 121] h0 h0 := Ex.rf
  have hTo := hT
  obtain ⟨v, g, c117, c120, c121, hN, hR⟩ := hTo
  have eF : bnd x (pSum tp n B) = bnd (bnd x (pTerm tp n B)) (pAdd tp n (pTerm tp n B) 901) := by cases x <;> rfl
  rw [eF]
  have lpE : ∀ (we ae : Nat) (u2 : Value) (h : Hp), Ex [117, 121] h0 h → RT tp n (frL fr c0) v0 (.error (we, ae) : PX (List Nat)) h → Fr E mX10_readSum d 5 [.ref 117, .int (nI e), u2] [] h (RQ tp n (frL fr c0) v0 h0 none (.error (we, ae) : PX (List Nat))) := by
    intro we ae u2 h hx hT
    have hTo := hT
    obtain ⟨v, g, c117, c120, c121, hN, hR⟩ := hTo
    refine r_aload_n (pc2 := 6) 0 dX10_readSum_5 rfl rfl rfl rfl ?_
    refine r_bipush (pc2 := 8) (v := 32) dX10_readSum_6 (by decide) rfl ?_
    refine r_callV1 (pc2 := 11) (As := [.int 32]) (st := []) kX10_142 rfl rfl dX10_readSum_8 c117 (by decide) rfl rfl (Nat.le_of_ble_eq_true rfl) (by omega) ((G_is (k := 32) (by decide) hT).mono fun r h2 q => ⟨q.1.trans (by rw [if_neg (isB_e)]), q.2⟩) rfl (fun h2 hq8 => ?_)
    subst hq8
    refine r_if_ne (tgt := 23) (pc2 := 14) dX10_readSum_11 (by decide) rfl (fun b11 => ?_) (fun b11 => ?_)
    · exact absurd b11 (by decide)
    · skip
      refine r_aload_n (pc2 := 15) 0 dX10_readSum_14 rfl rfl rfl rfl ?_
      refine r_bipush (pc2 := 17) (v := 33) dX10_readSum_15 (by decide) rfl ?_
      refine r_callV1 (pc2 := 20) (As := [.int 33]) (st := []) kX10_142 rfl rfl dX10_readSum_17 c117 (by decide) rfl rfl (Nat.le_of_ble_eq_true rfl) (by omega) ((G_is (k := 33) (by decide) hT).mono fun r h2 q => ⟨q.1.trans (by rw [if_neg (isB_e)]), q.2⟩) rfl (fun h2 hq17 => ?_)
      subst hq17
      refine r_if_eq (tgt := 59) (pc2 := 23) dX10_readSum_20 (by decide) rfl (fun b20 => ?_) (fun b20 => ?_)
      · skip
        exact r_vret rfl dX10_readSum_59 ⟨rfl, hx, hT⟩
      · exact absurd b20 (by decide)
  have loop : ∀ (m : Nat) (x : PX (List Nat)) (u2 : Value) (h : Hp), Ex [117, 121] h0 h → IV n c0 0 x → (∀ p L, x = .ok (p, L) → n < m + p) → RT tp n (frL fr c0) v0 x h → Fr E mX10_readSum d 5 [.ref 117, .int (nI e), u2] [] h (RQ tp n (frL fr c0) v0 h0 none (bnd x (pAdd tp n (pTerm tp n B) m))) := by
    intro m
    induction m with
    | zero =>
      intro x u2 h hx hI hq hT
      match x, hI, hq, hT with
      | .error (we, ae), hI, hq, hT => exact lpE we ae u2 h hx hT
      | .ok (p, L), hI, hq, hT => exact absurd (hq p L rfl) (by have := hI.2.1; omega)
    | succ m ih =>
      intro x u2 h hx hI hq hT
      match x, hI, hq, hT with
      | .error (we, ae), hI, hq, hT => exact lpE we ae u2 h hx hT
      | .ok (p, L), hI, hq, hT =>
        have hTo := hT
        obtain ⟨v, g, c117, c120, c121, hN, hR⟩ := hTo
        have hq2 := hq p L rfl
        show Fr E mX10_readSum d 5 [.ref 117, .int (nI e), u2] [] h (RQ tp n (frL fr c0) v0 h0 none (pAdd tp n (pTerm tp n B) (m + 1) p L))
        by_cases hk : lxK tp n p = 32
        · have i2 : IV n c0 (p + 1) (bnd (bnd (pNx tp n p L) (pTerm tp n B)) (pCo 3000)) := (((show IV n c0 p (.ok (p, L)) from ⟨Nat.le_refl _, hI.2.1, hI.2.2⟩).nx (by rw [hk]; decide)).b gA).co
          have eL : pAdd tp n (pTerm tp n B) (m + 1) p L = bnd (bnd (bnd (pNx tp n p L) (pTerm tp n B)) (pCo 3000)) (pAdd tp n (pTerm tp n B) m) := by rw [pAdd_s, if_pos (Or.inl hk), if_pos hk]
          rw [eL]
          refine r_aload_n (pc2 := 6) 0 dX10_readSum_5 rfl rfl rfl rfl ?_
          refine r_bipush (pc2 := 8) (v := 32) dX10_readSum_6 (by decide) rfl ?_
          refine r_callV1 (pc2 := 11) (As := [.int 32]) (st := []) kX10_142 rfl rfl dX10_readSum_8 c117 (by decide) rfl rfl (Nat.le_of_ble_eq_true rfl) (by omega) ((G_is (k := 32) (by decide) hT).mono fun r h2 q => ⟨q.1.trans (by rw [if_pos (isB_y hk)]), q.2⟩) rfl (fun h2 hq8 => ?_)
          subst hq8
          refine r_if_ne (tgt := 23) (pc2 := 14) dX10_readSum_11 (by decide) rfl (fun b11 => ?_) (fun b11 => ?_)
          · skip
            refine r_aload_n (pc2 := 24) 0 dX10_readSum_23 rfl rfl rfl rfl ?_
            refine r_getf (pc2 := 27) (v := .int (v 9)) fX10_118 dX10_readSum_24 c117 (by decide) rfl rfl ?_
            refine r_cast (nI (lxK tp n p)) (hR.2.1.2.2.2.2.1) ?_
            refine r_bipush (pc2 := 29) (v := 32) dX10_readSum_27 (by decide) rfl ?_
            refine r_icmp_ne (tgt := 38) (pc2 := 32) dX10_readSum_29 (by decide) rfl (fun b29 => ?_) (fun b29 => ?_)
            · exact absurd (show nI (lxK tp n p) = nI 32 by rw [hk]) b29
            · skip
              refine r_sipush (pc2 := 35) (v := 3000) dX10_readSum_32 (by decide) rfl ?_
              refine r_goto (pc2 := 41) dX10_readSum_35 (by decide) ?_
              refine r_istore_n (pc2 := 42) (ls2 := [.ref 117, .int (nI e), .int 3000]) 2 dX10_readSum_41 rfl (by decide) rfl rfl rfl ?_
              refine r_aload_n (pc2 := 43) 0 dX10_readSum_42 rfl rfl rfl rfl ?_
              refine r_callV0 (pc2 := 46) (As := []) (st := []) kX10_145 rfl rfl dX10_readSum_43 c117 (by decide) rfl rfl (Nat.le_of_ble_eq_true rfl) (by omega) (G_next ht (by omega) (p := p) (L := L) hT) rfl (fun h hq43 => ?_)
              obtain ⟨hxc, hT⟩ := hq43
              have hx := hx.trans hxc (by decide)
              have hTo := hT
              obtain ⟨v, g, c117, c120, c121, hN, hR⟩ := hTo
              refine r_aload_n (pc2 := 47) 0 dX10_readSum_46 rfl rfl rfl rfl ?_
              refine r_iload_n (pc2 := 48) 1 dX10_readSum_47 rfl rfl rfl ?_
              refine r_callV0 (pc2 := 51) (As := [.int (nI e)]) (st := []) kX10_183 rfl rfl dX10_readSum_48 c117 (by decide) rfl rfl (Nat.le_of_ble_eq_true rfl) (by omega) (hA _ (pNx tp n p L) (hI.nx (by rw [hk]; decide)).w1 hT) rfl (fun h hq48 => ?_)
              obtain ⟨hxc, hT⟩ := hq48
              have hx := hx.trans hxc (by decide)
              have hTo := hT
              obtain ⟨v, g, c117, c120, c121, hN, hR⟩ := hTo
              refine r_aload_n (pc2 := 52) 0 dX10_readSum_51 rfl rfl rfl rfl ?_
              refine r_iload_n (pc2 := 53) 2 dX10_readSum_52 rfl rfl rfl ?_
              refine r_cast (nI 3000) (rfl) ?_
              refine r_callV0 (pc2 := 56) (As := [.int (nI 3000)]) (st := []) kX10_159 rfl rfl dX10_readSum_53 c117 (by decide) rfl rfl (Nat.le_of_ble_eq_true rfl) (by omega) (G_codes (x := (bnd (pNx tp n p L) (pTerm tp n B))) (c := 3000) (((hI.nx (by rw [hk]; decide)).b gA).len ht.1) hT) rfl (fun h hq53 => ?_)
              obtain ⟨hxc, hT⟩ := hq53
              have hx := hx.trans hxc (by decide)
              have hTo := hT
              obtain ⟨v, g, c117, c120, c121, hN, hR⟩ := hTo
              refine r_goto (pc2 := 5) dX10_readSum_56 (by decide) ?_
              exact ih (bnd (bnd (pNx tp n p L) (pTerm tp n B)) (pCo 3000)) _ _ hx i2.w0 (fun p2 L2 z => by rw [z] at i2; have := i2.1; omega) hT
          · exact absurd b11 (by decide)
        · have n32 := hk
          by_cases hk : lxK tp n p = 33
          · have i2 : IV n c0 (p + 1) (bnd (bnd (pNx tp n p L) (pTerm tp n B)) (pCo 3001)) := (((show IV n c0 p (.ok (p, L)) from ⟨Nat.le_refl _, hI.2.1, hI.2.2⟩).nx (by rw [hk]; decide)).b gA).co
            have eL : pAdd tp n (pTerm tp n B) (m + 1) p L = bnd (bnd (bnd (pNx tp n p L) (pTerm tp n B)) (pCo 3001)) (pAdd tp n (pTerm tp n B) m) := by rw [pAdd_s, if_pos (Or.inr hk), if_neg n32]
            rw [eL]
            refine r_aload_n (pc2 := 6) 0 dX10_readSum_5 rfl rfl rfl rfl ?_
            refine r_bipush (pc2 := 8) (v := 32) dX10_readSum_6 (by decide) rfl ?_
            refine r_callV1 (pc2 := 11) (As := [.int 32]) (st := []) kX10_142 rfl rfl dX10_readSum_8 c117 (by decide) rfl rfl (Nat.le_of_ble_eq_true rfl) (by omega) ((G_is (k := 32) (by decide) hT).mono fun r h2 q => ⟨q.1.trans (by rw [if_neg (isB_n n32)]), q.2⟩) rfl (fun h2 hq8 => ?_)
            subst hq8
            refine r_if_ne (tgt := 23) (pc2 := 14) dX10_readSum_11 (by decide) rfl (fun b11 => ?_) (fun b11 => ?_)
            · exact absurd b11 (by decide)
            · skip
              refine r_aload_n (pc2 := 15) 0 dX10_readSum_14 rfl rfl rfl rfl ?_
              refine r_bipush (pc2 := 17) (v := 33) dX10_readSum_15 (by decide) rfl ?_
              refine r_callV1 (pc2 := 20) (As := [.int 33]) (st := []) kX10_142 rfl rfl dX10_readSum_17 c117 (by decide) rfl rfl (Nat.le_of_ble_eq_true rfl) (by omega) ((G_is (k := 33) (by decide) hT).mono fun r h2 q => ⟨q.1.trans (by rw [if_pos (isB_y hk)]), q.2⟩) rfl (fun h2 hq17 => ?_)
              subst hq17
              refine r_if_eq (tgt := 59) (pc2 := 23) dX10_readSum_20 (by decide) rfl (fun b20 => ?_) (fun b20 => ?_)
              · exact absurd b20 (by decide)
              · skip
                refine r_aload_n (pc2 := 24) 0 dX10_readSum_23 rfl rfl rfl rfl ?_
                refine r_getf (pc2 := 27) (v := .int (v 9)) fX10_118 dX10_readSum_24 c117 (by decide) rfl rfl ?_
                refine r_cast (nI (lxK tp n p)) (hR.2.1.2.2.2.2.1) ?_
                refine r_bipush (pc2 := 29) (v := 32) dX10_readSum_27 (by decide) rfl ?_
                refine r_icmp_ne (tgt := 38) (pc2 := 32) dX10_readSum_29 (by decide) rfl (fun b29 => ?_) (fun b29 => ?_)
                · skip
                  refine r_sipush (pc2 := 41) (v := 3001) dX10_readSum_38 (by decide) rfl ?_
                  refine r_istore_n (pc2 := 42) (ls2 := [.ref 117, .int (nI e), .int 3001]) 2 dX10_readSum_41 rfl (by decide) rfl rfl rfl ?_
                  refine r_aload_n (pc2 := 43) 0 dX10_readSum_42 rfl rfl rfl rfl ?_
                  refine r_callV0 (pc2 := 46) (As := []) (st := []) kX10_145 rfl rfl dX10_readSum_43 c117 (by decide) rfl rfl (Nat.le_of_ble_eq_true rfl) (by omega) (G_next ht (by omega) (p := p) (L := L) hT) rfl (fun h hq43 => ?_)
                  obtain ⟨hxc, hT⟩ := hq43
                  have hx := hx.trans hxc (by decide)
                  have hTo := hT
                  obtain ⟨v, g, c117, c120, c121, hN, hR⟩ := hTo
                  refine r_aload_n (pc2 := 47) 0 dX10_readSum_46 rfl rfl rfl rfl ?_
                  refine r_iload_n (pc2 := 48) 1 dX10_readSum_47 rfl rfl rfl ?_
                  refine r_callV0 (pc2 := 51) (As := [.int (nI e)]) (st := []) kX10_183 rfl rfl dX10_readSum_48 c117 (by decide) rfl rfl (Nat.le_of_ble_eq_true rfl) (by omega) (hA _ (pNx tp n p L) (hI.nx (by rw [hk]; decide)).w1 hT) rfl (fun h hq48 => ?_)
                  obtain ⟨hxc, hT⟩ := hq48
                  have hx := hx.trans hxc (by decide)
                  have hTo := hT
                  obtain ⟨v, g, c117, c120, c121, hN, hR⟩ := hTo
                  refine r_aload_n (pc2 := 52) 0 dX10_readSum_51 rfl rfl rfl rfl ?_
                  refine r_iload_n (pc2 := 53) 2 dX10_readSum_52 rfl rfl rfl ?_
                  refine r_cast (nI 3001) (rfl) ?_
                  refine r_callV0 (pc2 := 56) (As := [.int (nI 3001)]) (st := []) kX10_159 rfl rfl dX10_readSum_53 c117 (by decide) rfl rfl (Nat.le_of_ble_eq_true rfl) (by omega) (G_codes (x := (bnd (pNx tp n p L) (pTerm tp n B))) (c := 3001) (((hI.nx (by rw [hk]; decide)).b gA).len ht.1) hT) rfl (fun h hq53 => ?_)
                  obtain ⟨hxc, hT⟩ := hq53
                  have hx := hx.trans hxc (by decide)
                  have hTo := hT
                  obtain ⟨v, g, c117, c120, c121, hN, hR⟩ := hTo
                  refine r_goto (pc2 := 5) dX10_readSum_56 (by decide) ?_
                  exact ih (bnd (bnd (pNx tp n p L) (pTerm tp n B)) (pCo 3001)) _ _ hx i2.w0 (fun p2 L2 z => by rw [z] at i2; have := i2.1; omega) hT
                · exact absurd ((nI_k (k := 32) (lxK_le tp n p) (by decide)).mp b29) n32
          · have eL : pAdd tp n (pTerm tp n B) (m + 1) p L = .ok (p, L) := by rw [pAdd_s, if_neg (show ¬ (lxK tp n p = 32 ∨ lxK tp n p = 33) from fun z => Or.elim z n32 hk)]
            rw [eL]
            refine r_aload_n (pc2 := 6) 0 dX10_readSum_5 rfl rfl rfl rfl ?_
            refine r_bipush (pc2 := 8) (v := 32) dX10_readSum_6 (by decide) rfl ?_
            refine r_callV1 (pc2 := 11) (As := [.int 32]) (st := []) kX10_142 rfl rfl dX10_readSum_8 c117 (by decide) rfl rfl (Nat.le_of_ble_eq_true rfl) (by omega) ((G_is (k := 32) (by decide) hT).mono fun r h2 q => ⟨q.1.trans (by rw [if_neg (isB_n n32)]), q.2⟩) rfl (fun h2 hq8 => ?_)
            subst hq8
            refine r_if_ne (tgt := 23) (pc2 := 14) dX10_readSum_11 (by decide) rfl (fun b11 => ?_) (fun b11 => ?_)
            · exact absurd b11 (by decide)
            · skip
              refine r_aload_n (pc2 := 15) 0 dX10_readSum_14 rfl rfl rfl rfl ?_
              refine r_bipush (pc2 := 17) (v := 33) dX10_readSum_15 (by decide) rfl ?_
              refine r_callV1 (pc2 := 20) (As := [.int 33]) (st := []) kX10_142 rfl rfl dX10_readSum_17 c117 (by decide) rfl rfl (Nat.le_of_ble_eq_true rfl) (by omega) ((G_is (k := 33) (by decide) hT).mono fun r h2 q => ⟨q.1.trans (by rw [if_neg (isB_n hk)]), q.2⟩) rfl (fun h2 hq17 => ?_)
              subst hq17
              refine r_if_eq (tgt := 59) (pc2 := 23) dX10_readSum_20 (by decide) rfl (fun b20 => ?_) (fun b20 => ?_)
              · skip
                exact r_vret rfl dX10_readSum_59 ⟨rfl, hx, hT⟩
              · exact absurd b20 (by decide)
  refine Cn.go (ls := [.ref 117, .int (nI e), .float 0]) (by decide +kernel) rfl (Nat.le_of_ble_eq_true rfl) ?_
  refine r_aload_n (pc2 := 1) 0 dX10_readSum_0 rfl rfl rfl rfl ?_
  refine r_iload_n (pc2 := 2) 1 dX10_readSum_1 rfl rfl rfl ?_
  refine r_callV0 (pc2 := 5) (As := [.int (nI e)]) (st := []) kX10_183 rfl rfl dX10_readSum_2 c117 (by decide) rfl rfl (Nat.le_of_ble_eq_true rfl) (by omega) (hA _ x hI hT) rfl (fun h hq2 => ?_)
  obtain ⟨hxc, hT⟩ := hq2
  have hx := hx.trans hxc (by decide)
  have hTo := hT
  obtain ⟨v, g, c117, c120, c121, hN, hR⟩ := hTo
  exact loop 901 (bnd x (pTerm tp n B)) _ _ hx (hI.b gA) (fun p2 L2 z => by have := ht.1; omega) hT
set_option maxRecDepth 20000 in
set_option maxHeartbeats 1000000 in
theorem C_unit {E : EnvT} {d : Nat} {tp : Nat → Nat} {n : Nat} {fr : Nat → Nat} {c0 : Nat} {v0 : Nat → Int32} {rd b e : Nat} {S : PF} (heb : e + b = 6) (ht : TOk tp n) (hd : 7 * b + 9 ≤ d) (gS : Good n S) (hSm : CS E tp n fr c0 v0 mX10_readSum (d - 1) e S) (hU : b ≠ 0 → ∀ d, 7 * b + 8 ≤ d → CS E tp n fr c0 v0 mX10_readTruth d (e + 1) (sub2 tp n rd b)) (hV : b ≠ 0 → ∀ d, 7 * b + 6 ≤ d → CS E tp n fr c0 v0 mX10_readUnit d (e + 1) (sub3 tp n rd b)) : CS E tp n fr c0 v0 mX10_readUnit d e (pUnit tp n b S (sub2 tp n rd b) (sub3 tp n rd b)) := by
  intro h0 x hI hT
  have hx : Ex [117, 121] h0 h0 := Ex.rf
  have hTo := hT
  obtain ⟨v, g, c117, c120, c121, hN, hR⟩ := hTo
  have k78E : ∀ (we ae : Nat) (h : Hp) (u2 : Value), Ex [117, 121] h0 h → RT tp n (frL fr c0) v0 (.error (we, ae) : PX (List Nat)) h → Fr E mX10_readUnit d 78 [.ref 117, .int (nI e), u2] [] h (RQ tp n (frL fr c0) v0 h0 none (.error (we, ae) : PX (List Nat))) := by
    intro we ae h u2 hx hT
    have hTo := hT
    obtain ⟨v, g, c117, c120, c121, hN, hR⟩ := hTo
    have hRe := hR.1
    refine r_aload_n (pc2 := 79) 0 dX10_readUnit_78 rfl rfl rfl rfl ?_
    refine r_bipush (pc2 := 81) (v := 39) dX10_readUnit_79 (by decide) rfl ?_
    refine r_callV1 (pc2 := 84) (As := [.int 39]) (st := []) kX10_142 rfl rfl dX10_readUnit_81 c117 (by decide) rfl rfl (Nat.le_of_ble_eq_true rfl) (by omega) ((G_is (k := 39) (by decide) hT).mono fun r h2 q => ⟨q.1.trans (by rw [if_neg (isB_e)]), q.2⟩) rfl (fun h2 hq81 => ?_)
    subst hq81
    refine r_if_eq (tgt := 93) (pc2 := 87) dX10_readUnit_84 (by decide) rfl (fun b84 => ?_) (fun b84 => ?_)
    · skip
      refine r_aload_n (pc2 := 94) 0 dX10_readUnit_93 rfl rfl rfl rfl ?_
      refine r_bipush (pc2 := 96) (v := 40) dX10_readUnit_94 (by decide) rfl ?_
      refine r_callV1 (pc2 := 99) (As := [.int 40]) (st := []) kX10_142 rfl rfl dX10_readUnit_96 c117 (by decide) rfl rfl (Nat.le_of_ble_eq_true rfl) (by omega) ((G_is (k := 40) (by decide) hT).mono fun r h2 q => ⟨q.1.trans (by rw [if_neg (isB_e)]), q.2⟩) rfl (fun h2 hq96 => ?_)
      subst hq96
      refine r_if_eq (tgt := 108) (pc2 := 102) dX10_readUnit_99 (by decide) rfl (fun b99 => ?_) (fun b99 => ?_)
      · skip
        refine r_sipush (pc2 := 111) (v := 3005) dX10_readUnit_108 (by decide) rfl ?_
        refine r_istore_n (pc2 := 112) (ls2 := [.ref 117, .int (nI e), .int 3005]) 2 dX10_readUnit_111 rfl (by decide) rfl rfl rfl ?_
        refine r_aload_n (pc2 := 113) 0 dX10_readUnit_112 rfl rfl rfl rfl ?_
        refine r_bipush (pc2 := 115) (v := 39) dX10_readUnit_113 (by decide) rfl ?_
        refine r_callV1 (pc2 := 118) (As := [.int 39]) (st := []) kX10_142 rfl rfl dX10_readUnit_115 c117 (by decide) rfl rfl (Nat.le_of_ble_eq_true rfl) (by omega) ((G_is (k := 39) (by decide) hT).mono fun r h2 q => ⟨q.1.trans (by rw [if_neg (isB_e)]), q.2⟩) rfl (fun h2 hq115 => ?_)
        subst hq115
        refine r_if_ne (tgt := 139) (pc2 := 121) dX10_readUnit_118 (by decide) rfl (fun b118 => ?_) (fun b118 => ?_)
        · exact absurd b118 (by decide)
        · skip
          refine r_aload_n (pc2 := 122) 0 dX10_readUnit_121 rfl rfl rfl rfl ?_
          refine r_bipush (pc2 := 124) (v := 40) dX10_readUnit_122 (by decide) rfl ?_
          refine r_callV1 (pc2 := 127) (As := [.int 40]) (st := []) kX10_142 rfl rfl dX10_readUnit_124 c117 (by decide) rfl rfl (Nat.le_of_ble_eq_true rfl) (by omega) ((G_is (k := 40) (by decide) hT).mono fun r h2 q => ⟨q.1.trans (by rw [if_neg (isB_e)]), q.2⟩) rfl (fun h2 hq124 => ?_)
          subst hq124
          refine r_if_ne (tgt := 139) (pc2 := 130) dX10_readUnit_127 (by decide) rfl (fun b127 => ?_) (fun b127 => ?_)
          · exact absurd b127 (by decide)
          · skip
            refine r_aload_n (pc2 := 131) 0 dX10_readUnit_130 rfl rfl rfl rfl ?_
            refine r_bipush (pc2 := 133) (v := 41) dX10_readUnit_131 (by decide) rfl ?_
            refine r_callV1 (pc2 := 136) (As := [.int 41]) (st := []) kX10_142 rfl rfl dX10_readUnit_133 c117 (by decide) rfl rfl (Nat.le_of_ble_eq_true rfl) (by omega) ((G_is (k := 41) (by decide) hT).mono fun r h2 q => ⟨q.1.trans (by rw [if_neg (isB_e)]), q.2⟩) rfl (fun h2 hq133 => ?_)
            subst hq133
            refine r_if_eq (tgt := 146) (pc2 := 139) dX10_readUnit_136 (by decide) rfl (fun b136 => ?_) (fun b136 => ?_)
            · skip
              refine r_aload_n (pc2 := 147) 0 dX10_readUnit_146 rfl rfl rfl rfl ?_
              refine r_iconst (pc2 := 148) (v := 2) dX10_readUnit_147 (by decide) rfl ?_
              refine r_callV0 (pc2 := 151) (As := [.int 2]) (st := []) kX10_148 rfl rfl dX10_readUnit_148 c117 (by decide) rfl rfl (Nat.le_of_ble_eq_true rfl) (by omega) (G_fails (x := (.error (we, ae) : PX (List Nat))) (f := 2) (by decide) (by decide) hT) rfl (fun h hq148 => ?_)
              obtain ⟨hxc, hT⟩ := hq148
              have hx := hx.trans hxc (by decide)
              have hTo := hT
              obtain ⟨v, g, c117, c120, c121, hN, hR⟩ := hTo
              refine r_aload_n (pc2 := 152) 0 dX10_readUnit_151 rfl rfl rfl rfl ?_
              refine r_iload_n (pc2 := 153) 1 dX10_readUnit_152 rfl rfl rfl ?_
              refine r_callV0 (pc2 := 156) (As := [.int (nI e)]) (st := []) kX10_168 rfl rfl dX10_readUnit_153 c117 (by decide) rfl rfl (Nat.le_of_ble_eq_true rfl) (by omega) (hSm _ (.error (we, ae) : PX (List Nat)) ⟨hRe.1, hRe.2.1, hRe.2.2⟩ hT) rfl (fun h hq153 => ?_)
              obtain ⟨hxc, hT⟩ := hq153
              have hx := hx.trans hxc (by decide)
              have hTo := hT
              obtain ⟨v, g, c117, c120, c121, hN, hR⟩ := hTo
              refine r_aload_n (pc2 := 157) 0 dX10_readUnit_156 rfl rfl rfl rfl ?_
              refine r_iload_n (pc2 := 158) 2 dX10_readUnit_157 rfl rfl rfl ?_
              refine r_cast (nI 3005) (rfl) ?_
              refine r_callV0 (pc2 := 161) (As := [.int (nI 3005)]) (st := []) kX10_159 rfl rfl dX10_readUnit_158 c117 (by decide) rfl rfl (Nat.le_of_ble_eq_true rfl) (by omega) (G_codes (x := (.error (we, ae) : PX (List Nat))) (c := 3005) (fun p2 L2 z => by cases z) hT) rfl (fun h hq158 => ?_)
              obtain ⟨hxc, hT⟩ := hq158
              have hx := hx.trans hxc (by decide)
              have hTo := hT
              obtain ⟨v, g, c117, c120, c121, hN, hR⟩ := hTo
              exact r_vret rfl dX10_readUnit_161 ⟨rfl, hx, hT⟩
            · exact absurd b136 (by decide)
      · exact absurd b99 (by decide)
    · exact absurd b84 (by decide)
  have k78 : ∀ (x : PX (List Nat)), IV n c0 0 x → ∀ (h : Hp) (u2 : Value), Ex [117, 121] h0 h → RT tp n (frL fr c0) v0 x h → Fr E mX10_readUnit d 78 [.ref 117, .int (nI e), u2] [] h (RQ tp n (frL fr c0) v0 h0 none (bnd x (pOrd tp n S))) := by
    intro x hI h u2 hx hT
    match x, hI, hT with
    | .error (we, ae), hI, hT => exact k78E we ae h u2 hx hT
    | .ok (p, L), hI, hT =>
      have hTo := hT
      obtain ⟨v, g, c117, c120, c121, hN, hR⟩ := hTo
      show Fr E mX10_readUnit d 78 [.ref 117, .int (nI e), u2] [] h (RQ tp n (frL fr c0) v0 h0 none (pOrd tp n S p L))
      by_cases hk : lxK tp n p = 39
      · have eL : pOrd tp n S p L = bnd (bnd (pNx tp n p L) S) (pCo 3003) := by unfold pOrd pCmp; rw [if_pos (Or.inl hk), hk]; rfl
        rw [eL]
        refine r_aload_n (pc2 := 79) 0 dX10_readUnit_78 rfl rfl rfl rfl ?_
        refine r_bipush (pc2 := 81) (v := 39) dX10_readUnit_79 (by decide) rfl ?_
        refine r_callV1 (pc2 := 84) (As := [.int 39]) (st := []) kX10_142 rfl rfl dX10_readUnit_81 c117 (by decide) rfl rfl (Nat.le_of_ble_eq_true rfl) (by omega) ((G_is (k := 39) (by decide) hT).mono fun r h2 q => ⟨q.1.trans (by rw [if_pos (isB_y hk)]), q.2⟩) rfl (fun h2 hq81 => ?_)
        subst hq81
        refine r_if_eq (tgt := 93) (pc2 := 87) dX10_readUnit_84 (by decide) rfl (fun b84 => ?_) (fun b84 => ?_)
        · exact absurd b84 (by decide)
        · skip
          refine r_sipush (pc2 := 90) (v := 3003) dX10_readUnit_87 (by decide) rfl ?_
          refine r_goto (pc2 := 111) dX10_readUnit_90 (by decide) ?_
          refine r_istore_n (pc2 := 112) (ls2 := [.ref 117, .int (nI e), .int 3003]) 2 dX10_readUnit_111 rfl (by decide) rfl rfl rfl ?_
          refine r_aload_n (pc2 := 113) 0 dX10_readUnit_112 rfl rfl rfl rfl ?_
          refine r_bipush (pc2 := 115) (v := 39) dX10_readUnit_113 (by decide) rfl ?_
          refine r_callV1 (pc2 := 118) (As := [.int 39]) (st := []) kX10_142 rfl rfl dX10_readUnit_115 c117 (by decide) rfl rfl (Nat.le_of_ble_eq_true rfl) (by omega) ((G_is (k := 39) (by decide) hT).mono fun r h2 q => ⟨q.1.trans (by rw [if_pos (isB_y hk)]), q.2⟩) rfl (fun h2 hq115 => ?_)
          subst hq115
          refine r_if_ne (tgt := 139) (pc2 := 121) dX10_readUnit_118 (by decide) rfl (fun b118 => ?_) (fun b118 => ?_)
          · skip
            refine r_aload_n (pc2 := 140) 0 dX10_readUnit_139 rfl rfl rfl rfl ?_
            refine r_callV0 (pc2 := 143) (As := []) (st := []) kX10_145 rfl rfl dX10_readUnit_140 c117 (by decide) rfl rfl (Nat.le_of_ble_eq_true rfl) (by omega) (G_next ht (by omega) (p := p) (L := L) hT) rfl (fun h hq140 => ?_)
            obtain ⟨hxc, hT⟩ := hq140
            have hx := hx.trans hxc (by decide)
            have hTo := hT
            obtain ⟨v, g, c117, c120, c121, hN, hR⟩ := hTo
            refine r_goto (pc2 := 151) dX10_readUnit_143 (by decide) ?_
            refine r_aload_n (pc2 := 152) 0 dX10_readUnit_151 rfl rfl rfl rfl ?_
            refine r_iload_n (pc2 := 153) 1 dX10_readUnit_152 rfl rfl rfl ?_
            refine r_callV0 (pc2 := 156) (As := [.int (nI e)]) (st := []) kX10_168 rfl rfl dX10_readUnit_153 c117 (by decide) rfl rfl (Nat.le_of_ble_eq_true rfl) (by omega) (hSm _ (pNx tp n p L) (hI.nx (by rw [hk]; decide)).w1 hT) rfl (fun h hq153 => ?_)
            obtain ⟨hxc, hT⟩ := hq153
            have hx := hx.trans hxc (by decide)
            have hTo := hT
            obtain ⟨v, g, c117, c120, c121, hN, hR⟩ := hTo
            refine r_aload_n (pc2 := 157) 0 dX10_readUnit_156 rfl rfl rfl rfl ?_
            refine r_iload_n (pc2 := 158) 2 dX10_readUnit_157 rfl rfl rfl ?_
            refine r_cast (nI 3003) (rfl) ?_
            refine r_callV0 (pc2 := 161) (As := [.int (nI 3003)]) (st := []) kX10_159 rfl rfl dX10_readUnit_158 c117 (by decide) rfl rfl (Nat.le_of_ble_eq_true rfl) (by omega) (G_codes (x := (bnd (pNx tp n p L) S)) (c := 3003) (((hI.nx (by rw [hk]; decide)).b gS).len ht.1) hT) rfl (fun h hq158 => ?_)
            obtain ⟨hxc, hT⟩ := hq158
            have hx := hx.trans hxc (by decide)
            have hTo := hT
            obtain ⟨v, g, c117, c120, c121, hN, hR⟩ := hTo
            exact r_vret rfl dX10_readUnit_161 ⟨rfl, hx, hT⟩
          · exact absurd b118 (by decide)
      · have n39 := hk
        by_cases hk : lxK tp n p = 40
        · have eL : pOrd tp n S p L = bnd (bnd (pNx tp n p L) S) (pCo 3004) := by unfold pOrd pCmp; rw [if_pos (Or.inr (Or.inl hk)), hk]; rfl
          rw [eL]
          refine r_aload_n (pc2 := 79) 0 dX10_readUnit_78 rfl rfl rfl rfl ?_
          refine r_bipush (pc2 := 81) (v := 39) dX10_readUnit_79 (by decide) rfl ?_
          refine r_callV1 (pc2 := 84) (As := [.int 39]) (st := []) kX10_142 rfl rfl dX10_readUnit_81 c117 (by decide) rfl rfl (Nat.le_of_ble_eq_true rfl) (by omega) ((G_is (k := 39) (by decide) hT).mono fun r h2 q => ⟨q.1.trans (by rw [if_neg (isB_n n39)]), q.2⟩) rfl (fun h2 hq81 => ?_)
          subst hq81
          refine r_if_eq (tgt := 93) (pc2 := 87) dX10_readUnit_84 (by decide) rfl (fun b84 => ?_) (fun b84 => ?_)
          · skip
            refine r_aload_n (pc2 := 94) 0 dX10_readUnit_93 rfl rfl rfl rfl ?_
            refine r_bipush (pc2 := 96) (v := 40) dX10_readUnit_94 (by decide) rfl ?_
            refine r_callV1 (pc2 := 99) (As := [.int 40]) (st := []) kX10_142 rfl rfl dX10_readUnit_96 c117 (by decide) rfl rfl (Nat.le_of_ble_eq_true rfl) (by omega) ((G_is (k := 40) (by decide) hT).mono fun r h2 q => ⟨q.1.trans (by rw [if_pos (isB_y hk)]), q.2⟩) rfl (fun h2 hq96 => ?_)
            subst hq96
            refine r_if_eq (tgt := 108) (pc2 := 102) dX10_readUnit_99 (by decide) rfl (fun b99 => ?_) (fun b99 => ?_)
            · exact absurd b99 (by decide)
            · skip
              refine r_sipush (pc2 := 105) (v := 3004) dX10_readUnit_102 (by decide) rfl ?_
              refine r_goto (pc2 := 111) dX10_readUnit_105 (by decide) ?_
              refine r_istore_n (pc2 := 112) (ls2 := [.ref 117, .int (nI e), .int 3004]) 2 dX10_readUnit_111 rfl (by decide) rfl rfl rfl ?_
              refine r_aload_n (pc2 := 113) 0 dX10_readUnit_112 rfl rfl rfl rfl ?_
              refine r_bipush (pc2 := 115) (v := 39) dX10_readUnit_113 (by decide) rfl ?_
              refine r_callV1 (pc2 := 118) (As := [.int 39]) (st := []) kX10_142 rfl rfl dX10_readUnit_115 c117 (by decide) rfl rfl (Nat.le_of_ble_eq_true rfl) (by omega) ((G_is (k := 39) (by decide) hT).mono fun r h2 q => ⟨q.1.trans (by rw [if_neg (isB_n n39)]), q.2⟩) rfl (fun h2 hq115 => ?_)
              subst hq115
              refine r_if_ne (tgt := 139) (pc2 := 121) dX10_readUnit_118 (by decide) rfl (fun b118 => ?_) (fun b118 => ?_)
              · exact absurd b118 (by decide)
              · skip
                refine r_aload_n (pc2 := 122) 0 dX10_readUnit_121 rfl rfl rfl rfl ?_
                refine r_bipush (pc2 := 124) (v := 40) dX10_readUnit_122 (by decide) rfl ?_
                refine r_callV1 (pc2 := 127) (As := [.int 40]) (st := []) kX10_142 rfl rfl dX10_readUnit_124 c117 (by decide) rfl rfl (Nat.le_of_ble_eq_true rfl) (by omega) ((G_is (k := 40) (by decide) hT).mono fun r h2 q => ⟨q.1.trans (by rw [if_pos (isB_y hk)]), q.2⟩) rfl (fun h2 hq124 => ?_)
                subst hq124
                refine r_if_ne (tgt := 139) (pc2 := 130) dX10_readUnit_127 (by decide) rfl (fun b127 => ?_) (fun b127 => ?_)
                · skip
                  refine r_aload_n (pc2 := 140) 0 dX10_readUnit_139 rfl rfl rfl rfl ?_
                  refine r_callV0 (pc2 := 143) (As := []) (st := []) kX10_145 rfl rfl dX10_readUnit_140 c117 (by decide) rfl rfl (Nat.le_of_ble_eq_true rfl) (by omega) (G_next ht (by omega) (p := p) (L := L) hT) rfl (fun h hq140 => ?_)
                  obtain ⟨hxc, hT⟩ := hq140
                  have hx := hx.trans hxc (by decide)
                  have hTo := hT
                  obtain ⟨v, g, c117, c120, c121, hN, hR⟩ := hTo
                  refine r_goto (pc2 := 151) dX10_readUnit_143 (by decide) ?_
                  refine r_aload_n (pc2 := 152) 0 dX10_readUnit_151 rfl rfl rfl rfl ?_
                  refine r_iload_n (pc2 := 153) 1 dX10_readUnit_152 rfl rfl rfl ?_
                  refine r_callV0 (pc2 := 156) (As := [.int (nI e)]) (st := []) kX10_168 rfl rfl dX10_readUnit_153 c117 (by decide) rfl rfl (Nat.le_of_ble_eq_true rfl) (by omega) (hSm _ (pNx tp n p L) (hI.nx (by rw [hk]; decide)).w1 hT) rfl (fun h hq153 => ?_)
                  obtain ⟨hxc, hT⟩ := hq153
                  have hx := hx.trans hxc (by decide)
                  have hTo := hT
                  obtain ⟨v, g, c117, c120, c121, hN, hR⟩ := hTo
                  refine r_aload_n (pc2 := 157) 0 dX10_readUnit_156 rfl rfl rfl rfl ?_
                  refine r_iload_n (pc2 := 158) 2 dX10_readUnit_157 rfl rfl rfl ?_
                  refine r_cast (nI 3004) (rfl) ?_
                  refine r_callV0 (pc2 := 161) (As := [.int (nI 3004)]) (st := []) kX10_159 rfl rfl dX10_readUnit_158 c117 (by decide) rfl rfl (Nat.le_of_ble_eq_true rfl) (by omega) (G_codes (x := (bnd (pNx tp n p L) S)) (c := 3004) (((hI.nx (by rw [hk]; decide)).b gS).len ht.1) hT) rfl (fun h hq158 => ?_)
                  obtain ⟨hxc, hT⟩ := hq158
                  have hx := hx.trans hxc (by decide)
                  have hTo := hT
                  obtain ⟨v, g, c117, c120, c121, hN, hR⟩ := hTo
                  exact r_vret rfl dX10_readUnit_161 ⟨rfl, hx, hT⟩
                · exact absurd b127 (by decide)
          · exact absurd b84 (by decide)
        · have n40 := hk
          by_cases hk : lxK tp n p = 41
          · have eL : pOrd tp n S p L = bnd (bnd (pNx tp n p L) S) (pCo 3005) := by unfold pOrd pCmp; rw [if_pos (Or.inr (Or.inr hk)), hk]; rfl
            rw [eL]
            refine r_aload_n (pc2 := 79) 0 dX10_readUnit_78 rfl rfl rfl rfl ?_
            refine r_bipush (pc2 := 81) (v := 39) dX10_readUnit_79 (by decide) rfl ?_
            refine r_callV1 (pc2 := 84) (As := [.int 39]) (st := []) kX10_142 rfl rfl dX10_readUnit_81 c117 (by decide) rfl rfl (Nat.le_of_ble_eq_true rfl) (by omega) ((G_is (k := 39) (by decide) hT).mono fun r h2 q => ⟨q.1.trans (by rw [if_neg (isB_n n39)]), q.2⟩) rfl (fun h2 hq81 => ?_)
            subst hq81
            refine r_if_eq (tgt := 93) (pc2 := 87) dX10_readUnit_84 (by decide) rfl (fun b84 => ?_) (fun b84 => ?_)
            · skip
              refine r_aload_n (pc2 := 94) 0 dX10_readUnit_93 rfl rfl rfl rfl ?_
              refine r_bipush (pc2 := 96) (v := 40) dX10_readUnit_94 (by decide) rfl ?_
              refine r_callV1 (pc2 := 99) (As := [.int 40]) (st := []) kX10_142 rfl rfl dX10_readUnit_96 c117 (by decide) rfl rfl (Nat.le_of_ble_eq_true rfl) (by omega) ((G_is (k := 40) (by decide) hT).mono fun r h2 q => ⟨q.1.trans (by rw [if_neg (isB_n n40)]), q.2⟩) rfl (fun h2 hq96 => ?_)
              subst hq96
              refine r_if_eq (tgt := 108) (pc2 := 102) dX10_readUnit_99 (by decide) rfl (fun b99 => ?_) (fun b99 => ?_)
              · skip
                refine r_sipush (pc2 := 111) (v := 3005) dX10_readUnit_108 (by decide) rfl ?_
                refine r_istore_n (pc2 := 112) (ls2 := [.ref 117, .int (nI e), .int 3005]) 2 dX10_readUnit_111 rfl (by decide) rfl rfl rfl ?_
                refine r_aload_n (pc2 := 113) 0 dX10_readUnit_112 rfl rfl rfl rfl ?_
                refine r_bipush (pc2 := 115) (v := 39) dX10_readUnit_113 (by decide) rfl ?_
                refine r_callV1 (pc2 := 118) (As := [.int 39]) (st := []) kX10_142 rfl rfl dX10_readUnit_115 c117 (by decide) rfl rfl (Nat.le_of_ble_eq_true rfl) (by omega) ((G_is (k := 39) (by decide) hT).mono fun r h2 q => ⟨q.1.trans (by rw [if_neg (isB_n n39)]), q.2⟩) rfl (fun h2 hq115 => ?_)
                subst hq115
                refine r_if_ne (tgt := 139) (pc2 := 121) dX10_readUnit_118 (by decide) rfl (fun b118 => ?_) (fun b118 => ?_)
                · exact absurd b118 (by decide)
                · skip
                  refine r_aload_n (pc2 := 122) 0 dX10_readUnit_121 rfl rfl rfl rfl ?_
                  refine r_bipush (pc2 := 124) (v := 40) dX10_readUnit_122 (by decide) rfl ?_
                  refine r_callV1 (pc2 := 127) (As := [.int 40]) (st := []) kX10_142 rfl rfl dX10_readUnit_124 c117 (by decide) rfl rfl (Nat.le_of_ble_eq_true rfl) (by omega) ((G_is (k := 40) (by decide) hT).mono fun r h2 q => ⟨q.1.trans (by rw [if_neg (isB_n n40)]), q.2⟩) rfl (fun h2 hq124 => ?_)
                  subst hq124
                  refine r_if_ne (tgt := 139) (pc2 := 130) dX10_readUnit_127 (by decide) rfl (fun b127 => ?_) (fun b127 => ?_)
                  · exact absurd b127 (by decide)
                  · skip
                    refine r_aload_n (pc2 := 131) 0 dX10_readUnit_130 rfl rfl rfl rfl ?_
                    refine r_bipush (pc2 := 133) (v := 41) dX10_readUnit_131 (by decide) rfl ?_
                    refine r_callV1 (pc2 := 136) (As := [.int 41]) (st := []) kX10_142 rfl rfl dX10_readUnit_133 c117 (by decide) rfl rfl (Nat.le_of_ble_eq_true rfl) (by omega) ((G_is (k := 41) (by decide) hT).mono fun r h2 q => ⟨q.1.trans (by rw [if_pos (isB_y hk)]), q.2⟩) rfl (fun h2 hq133 => ?_)
                    subst hq133
                    refine r_if_eq (tgt := 146) (pc2 := 139) dX10_readUnit_136 (by decide) rfl (fun b136 => ?_) (fun b136 => ?_)
                    · exact absurd b136 (by decide)
                    · skip
                      refine r_aload_n (pc2 := 140) 0 dX10_readUnit_139 rfl rfl rfl rfl ?_
                      refine r_callV0 (pc2 := 143) (As := []) (st := []) kX10_145 rfl rfl dX10_readUnit_140 c117 (by decide) rfl rfl (Nat.le_of_ble_eq_true rfl) (by omega) (G_next ht (by omega) (p := p) (L := L) hT) rfl (fun h hq140 => ?_)
                      obtain ⟨hxc, hT⟩ := hq140
                      have hx := hx.trans hxc (by decide)
                      have hTo := hT
                      obtain ⟨v, g, c117, c120, c121, hN, hR⟩ := hTo
                      refine r_goto (pc2 := 151) dX10_readUnit_143 (by decide) ?_
                      refine r_aload_n (pc2 := 152) 0 dX10_readUnit_151 rfl rfl rfl rfl ?_
                      refine r_iload_n (pc2 := 153) 1 dX10_readUnit_152 rfl rfl rfl ?_
                      refine r_callV0 (pc2 := 156) (As := [.int (nI e)]) (st := []) kX10_168 rfl rfl dX10_readUnit_153 c117 (by decide) rfl rfl (Nat.le_of_ble_eq_true rfl) (by omega) (hSm _ (pNx tp n p L) (hI.nx (by rw [hk]; decide)).w1 hT) rfl (fun h hq153 => ?_)
                      obtain ⟨hxc, hT⟩ := hq153
                      have hx := hx.trans hxc (by decide)
                      have hTo := hT
                      obtain ⟨v, g, c117, c120, c121, hN, hR⟩ := hTo
                      refine r_aload_n (pc2 := 157) 0 dX10_readUnit_156 rfl rfl rfl rfl ?_
                      refine r_iload_n (pc2 := 158) 2 dX10_readUnit_157 rfl rfl rfl ?_
                      refine r_cast (nI 3005) (rfl) ?_
                      refine r_callV0 (pc2 := 161) (As := [.int (nI 3005)]) (st := []) kX10_159 rfl rfl dX10_readUnit_158 c117 (by decide) rfl rfl (Nat.le_of_ble_eq_true rfl) (by omega) (G_codes (x := (bnd (pNx tp n p L) S)) (c := 3005) (((hI.nx (by rw [hk]; decide)).b gS).len ht.1) hT) rfl (fun h hq158 => ?_)
                      obtain ⟨hxc, hT⟩ := hq158
                      have hx := hx.trans hxc (by decide)
                      have hTo := hT
                      obtain ⟨v, g, c117, c120, c121, hN, hR⟩ := hTo
                      exact r_vret rfl dX10_readUnit_161 ⟨rfl, hx, hT⟩
              · exact absurd b99 (by decide)
            · exact absurd b84 (by decide)
          · have n41 := hk
            have eL : pOrd tp n S p L = pFl tp n 2 p := by unfold pOrd pCmp; rw [if_neg (show ¬ (lxK tp n p = 39 ∨ lxK tp n p = 40 ∨ lxK tp n p = 41) from fun z => Or.elim z n39 (fun z => Or.elim z n40 n41))]; rfl
            rw [eL]
            refine r_aload_n (pc2 := 79) 0 dX10_readUnit_78 rfl rfl rfl rfl ?_
            refine r_bipush (pc2 := 81) (v := 39) dX10_readUnit_79 (by decide) rfl ?_
            refine r_callV1 (pc2 := 84) (As := [.int 39]) (st := []) kX10_142 rfl rfl dX10_readUnit_81 c117 (by decide) rfl rfl (Nat.le_of_ble_eq_true rfl) (by omega) ((G_is (k := 39) (by decide) hT).mono fun r h2 q => ⟨q.1.trans (by rw [if_neg (isB_n n39)]), q.2⟩) rfl (fun h2 hq81 => ?_)
            subst hq81
            refine r_if_eq (tgt := 93) (pc2 := 87) dX10_readUnit_84 (by decide) rfl (fun b84 => ?_) (fun b84 => ?_)
            · skip
              refine r_aload_n (pc2 := 94) 0 dX10_readUnit_93 rfl rfl rfl rfl ?_
              refine r_bipush (pc2 := 96) (v := 40) dX10_readUnit_94 (by decide) rfl ?_
              refine r_callV1 (pc2 := 99) (As := [.int 40]) (st := []) kX10_142 rfl rfl dX10_readUnit_96 c117 (by decide) rfl rfl (Nat.le_of_ble_eq_true rfl) (by omega) ((G_is (k := 40) (by decide) hT).mono fun r h2 q => ⟨q.1.trans (by rw [if_neg (isB_n n40)]), q.2⟩) rfl (fun h2 hq96 => ?_)
              subst hq96
              refine r_if_eq (tgt := 108) (pc2 := 102) dX10_readUnit_99 (by decide) rfl (fun b99 => ?_) (fun b99 => ?_)
              · skip
                refine r_sipush (pc2 := 111) (v := 3005) dX10_readUnit_108 (by decide) rfl ?_
                refine r_istore_n (pc2 := 112) (ls2 := [.ref 117, .int (nI e), .int 3005]) 2 dX10_readUnit_111 rfl (by decide) rfl rfl rfl ?_
                refine r_aload_n (pc2 := 113) 0 dX10_readUnit_112 rfl rfl rfl rfl ?_
                refine r_bipush (pc2 := 115) (v := 39) dX10_readUnit_113 (by decide) rfl ?_
                refine r_callV1 (pc2 := 118) (As := [.int 39]) (st := []) kX10_142 rfl rfl dX10_readUnit_115 c117 (by decide) rfl rfl (Nat.le_of_ble_eq_true rfl) (by omega) ((G_is (k := 39) (by decide) hT).mono fun r h2 q => ⟨q.1.trans (by rw [if_neg (isB_n n39)]), q.2⟩) rfl (fun h2 hq115 => ?_)
                subst hq115
                refine r_if_ne (tgt := 139) (pc2 := 121) dX10_readUnit_118 (by decide) rfl (fun b118 => ?_) (fun b118 => ?_)
                · exact absurd b118 (by decide)
                · skip
                  refine r_aload_n (pc2 := 122) 0 dX10_readUnit_121 rfl rfl rfl rfl ?_
                  refine r_bipush (pc2 := 124) (v := 40) dX10_readUnit_122 (by decide) rfl ?_
                  refine r_callV1 (pc2 := 127) (As := [.int 40]) (st := []) kX10_142 rfl rfl dX10_readUnit_124 c117 (by decide) rfl rfl (Nat.le_of_ble_eq_true rfl) (by omega) ((G_is (k := 40) (by decide) hT).mono fun r h2 q => ⟨q.1.trans (by rw [if_neg (isB_n n40)]), q.2⟩) rfl (fun h2 hq124 => ?_)
                  subst hq124
                  refine r_if_ne (tgt := 139) (pc2 := 130) dX10_readUnit_127 (by decide) rfl (fun b127 => ?_) (fun b127 => ?_)
                  · exact absurd b127 (by decide)
                  · skip
                    refine r_aload_n (pc2 := 131) 0 dX10_readUnit_130 rfl rfl rfl rfl ?_
                    refine r_bipush (pc2 := 133) (v := 41) dX10_readUnit_131 (by decide) rfl ?_
                    refine r_callV1 (pc2 := 136) (As := [.int 41]) (st := []) kX10_142 rfl rfl dX10_readUnit_133 c117 (by decide) rfl rfl (Nat.le_of_ble_eq_true rfl) (by omega) ((G_is (k := 41) (by decide) hT).mono fun r h2 q => ⟨q.1.trans (by rw [if_neg (isB_n n41)]), q.2⟩) rfl (fun h2 hq133 => ?_)
                    subst hq133
                    refine r_if_eq (tgt := 146) (pc2 := 139) dX10_readUnit_136 (by decide) rfl (fun b136 => ?_) (fun b136 => ?_)
                    · skip
                      refine r_aload_n (pc2 := 147) 0 dX10_readUnit_146 rfl rfl rfl rfl ?_
                      refine r_iconst (pc2 := 148) (v := 2) dX10_readUnit_147 (by decide) rfl ?_
                      refine r_callV0 (pc2 := 151) (As := [.int 2]) (st := []) kX10_148 rfl rfl dX10_readUnit_148 c117 (by decide) rfl rfl (Nat.le_of_ble_eq_true rfl) (by omega) (G_fails (x := (.ok (p, L))) (f := 2) (by decide) (by decide) hT) rfl (fun h hq148 => ?_)
                      obtain ⟨hxc, hT⟩ := hq148
                      have hx := hx.trans hxc (by decide)
                      have hTo := hT
                      obtain ⟨v, g, c117, c120, c121, hN, hR⟩ := hTo
                      refine r_aload_n (pc2 := 152) 0 dX10_readUnit_151 rfl rfl rfl rfl ?_
                      refine r_iload_n (pc2 := 153) 1 dX10_readUnit_152 rfl rfl rfl ?_
                      refine r_callV0 (pc2 := 156) (As := [.int (nI e)]) (st := []) kX10_168 rfl rfl dX10_readUnit_153 c117 (by decide) rfl rfl (Nat.le_of_ble_eq_true rfl) (by omega) (hSm _ (pFl tp n 2 p) (hI.fl (by decide) (by decide)) hT) rfl (fun h hq153 => ?_)
                      obtain ⟨hxc, hT⟩ := hq153
                      have hx := hx.trans hxc (by decide)
                      have hTo := hT
                      obtain ⟨v, g, c117, c120, c121, hN, hR⟩ := hTo
                      refine r_aload_n (pc2 := 157) 0 dX10_readUnit_156 rfl rfl rfl rfl ?_
                      refine r_iload_n (pc2 := 158) 2 dX10_readUnit_157 rfl rfl rfl ?_
                      refine r_cast (nI 3005) (rfl) ?_
                      refine r_callV0 (pc2 := 161) (As := [.int (nI 3005)]) (st := []) kX10_159 rfl rfl dX10_readUnit_158 c117 (by decide) rfl rfl (Nat.le_of_ble_eq_true rfl) (by omega) (G_codes (x := (bnd (pFl tp n 2 p) S)) (c := 3005) (fun p2 L2 z => by cases z) hT) rfl (fun h hq158 => ?_)
                      obtain ⟨hxc, hT⟩ := hq158
                      have hx := hx.trans hxc (by decide)
                      have hTo := hT
                      obtain ⟨v, g, c117, c120, c121, hN, hR⟩ := hTo
                      exact r_vret rfl dX10_readUnit_161 ⟨rfl, hx, hT⟩
                    · exact absurd b136 (by decide)
              · exact absurd b99 (by decide)
            · exact absurd b84 (by decide)
  match x, hI, hT, hR with
  | .error (we, ae), hI, hT, hR =>
    show Cn E mX10_readUnit d [.ref 117, .int (nI e)] h0 (RQ tp n (frL fr c0) v0 h0 none (.error (we, ae) : PX (List Nat)))
    refine Cn.go (ls := [.ref 117, .int (nI e), .float 0]) (by decide +kernel) rfl (Nat.le_of_ble_eq_true rfl) ?_
    refine r_aload_n (pc2 := 1) 0 dX10_readUnit_0 rfl rfl rfl rfl ?_
    refine r_bipush (pc2 := 3) (v := 22) dX10_readUnit_1 (by decide) rfl ?_
    refine r_callV1 (pc2 := 6) (As := [.int 22]) (st := []) kX10_142 rfl rfl dX10_readUnit_3 c117 (by decide) rfl rfl (Nat.le_of_ble_eq_true rfl) (by omega) ((G_is (k := 22) (by decide) hT).mono fun r h2 q => ⟨q.1.trans (by rw [if_neg (isB_e)]), q.2⟩) rfl (fun h2 hq3 => ?_)
    subst hq3
    refine r_if_eq (tgt := 33) (pc2 := 9) dX10_readUnit_6 (by decide) rfl (fun b6 => ?_) (fun b6 => ?_)
    · skip
      refine r_aload_n (pc2 := 34) 0 dX10_readUnit_33 rfl rfl rfl rfl ?_
      refine r_bipush (pc2 := 36) (v := 37) dX10_readUnit_34 (by decide) rfl ?_
      refine r_callV1 (pc2 := 39) (As := [.int 37]) (st := []) kX10_142 rfl rfl dX10_readUnit_36 c117 (by decide) rfl rfl (Nat.le_of_ble_eq_true rfl) (by omega) ((G_is (k := 37) (by decide) hT).mono fun r h2 q => ⟨q.1.trans (by rw [if_neg (isB_e)]), q.2⟩) rfl (fun h2 hq36 => ?_)
      subst hq36
      refine r_if_eq (tgt := 73) (pc2 := 42) dX10_readUnit_39 (by decide) rfl (fun b39 => ?_) (fun b39 => ?_)
      · skip
        refine r_aload_n (pc2 := 74) 0 dX10_readUnit_73 rfl rfl rfl rfl ?_
        refine r_iload_n (pc2 := 75) 1 dX10_readUnit_74 rfl rfl rfl ?_
        refine r_callV0 (pc2 := 78) (As := [.int (nI e)]) (st := []) kX10_168 rfl rfl dX10_readUnit_75 c117 (by decide) rfl rfl (Nat.le_of_ble_eq_true rfl) (by omega) (hSm _ (.error (we, ae) : PX (List Nat)) hI hT) rfl (fun h hq75 => ?_)
        obtain ⟨hxc, hT⟩ := hq75
        have hx := hx.trans hxc (by decide)
        have hTo := hT
        obtain ⟨v, g, c117, c120, c121, hN, hR⟩ := hTo
        exact k78E we ae h _ hx hT
      · exact absurd b39 (by decide)
    · exact absurd b6 (by decide)
  | .ok (p, L), hI, hT, hR =>
    show Cn E mX10_readUnit d [.ref 117, .int (nI e)] h0 (RQ tp n (frL fr c0) v0 h0 none (pUnit tp n b S (sub2 tp n rd b) (sub3 tp n rd b) p L))
    by_cases hk : lxK tp n p = 22
    · by_cases hb : b = 0
      · have ep : pIn tp n b p L = pFl tp n 4 p := by unfold pIn; rw [if_pos hb]
        have eG : (pUnit tp n b S (sub2 tp n rd b) (sub3 tp n rd b) p L) = pFl tp n 4 p := by unfold pUnit; rw [if_pos hk, ep]; rfl
        rw [eG]
        refine Cn.go (ls := [.ref 117, .int (nI e), .float 0]) (by decide +kernel) rfl (Nat.le_of_ble_eq_true rfl) ?_
        refine r_aload_n (pc2 := 1) 0 dX10_readUnit_0 rfl rfl rfl rfl ?_
        refine r_bipush (pc2 := 3) (v := 22) dX10_readUnit_1 (by decide) rfl ?_
        refine r_callV1 (pc2 := 6) (As := [.int 22]) (st := []) kX10_142 rfl rfl dX10_readUnit_3 c117 (by decide) rfl rfl (Nat.le_of_ble_eq_true rfl) (by omega) ((G_is (k := 22) (by decide) hT).mono fun r h2 q => ⟨q.1.trans (by rw [if_pos (isB_y hk)]), q.2⟩) rfl (fun h2 hq3 => ?_)
        subst hq3
        refine r_if_eq (tgt := 33) (pc2 := 9) dX10_readUnit_6 (by decide) rfl (fun b6 => ?_) (fun b6 => ?_)
        · exact absurd b6 (by decide)
        · skip
          refine r_aload_n (pc2 := 10) 0 dX10_readUnit_9 rfl rfl rfl rfl ?_
          refine r_iload_n (pc2 := 11) 1 dX10_readUnit_10 rfl rfl rfl ?_
          refine r_callV1 (pc2 := 14) (As := [.int (nI e)]) (st := []) kX10_165 rfl rfl dX10_readUnit_11 c117 (by decide) rfl rfl (Nat.le_of_ble_eq_true rfl) (by omega) ((G_goesIn (p := p) (b := b) (L := L) heb ht (by omega) hT).mono fun r h2 q => RQ.cast (r1 := some (.int 0)) (y := pFl tp n 4 p) q (congrArg (fun z : PX (List Nat) => some (Value.int (if okB z = true then (1 : Int32) else 0))) ep) ep) rfl (fun h hq11 => ?_)
          obtain ⟨hxc, hT⟩ := hq11
          have hx := hx.trans hxc (by decide)
          have hTo := hT
          obtain ⟨v, g, c117, c120, c121, hN, hR⟩ := hTo
          refine r_if_ne (tgt := 18) (pc2 := 17) dX10_readUnit_14 (by decide) rfl (fun b14 => ?_) (fun b14 => ?_)
          · exact absurd b14 (by decide)
          · skip
            exact r_vret rfl dX10_readUnit_17 ⟨rfl, hx, hT⟩
      · have ep : pIn tp n b p L = pNx tp n p L := by unfold pIn; rw [if_neg hb]
        have eG : (pUnit tp n b S (sub2 tp n rd b) (sub3 tp n rd b) p L) = bnd (bnd (pNx tp n p L) (sub3 tp n rd b)) (pCo 3006) := by unfold pUnit; rw [if_pos hk, ep]
        rw [eG]
        refine Cn.go (ls := [.ref 117, .int (nI e), .float 0]) (by decide +kernel) rfl (Nat.le_of_ble_eq_true rfl) ?_
        refine r_aload_n (pc2 := 1) 0 dX10_readUnit_0 rfl rfl rfl rfl ?_
        refine r_bipush (pc2 := 3) (v := 22) dX10_readUnit_1 (by decide) rfl ?_
        refine r_callV1 (pc2 := 6) (As := [.int 22]) (st := []) kX10_142 rfl rfl dX10_readUnit_3 c117 (by decide) rfl rfl (Nat.le_of_ble_eq_true rfl) (by omega) ((G_is (k := 22) (by decide) hT).mono fun r h2 q => ⟨q.1.trans (by rw [if_pos (isB_y hk)]), q.2⟩) rfl (fun h2 hq3 => ?_)
        subst hq3
        refine r_if_eq (tgt := 33) (pc2 := 9) dX10_readUnit_6 (by decide) rfl (fun b6 => ?_) (fun b6 => ?_)
        · exact absurd b6 (by decide)
        · skip
          refine r_aload_n (pc2 := 10) 0 dX10_readUnit_9 rfl rfl rfl rfl ?_
          refine r_iload_n (pc2 := 11) 1 dX10_readUnit_10 rfl rfl rfl ?_
          refine r_callV1 (pc2 := 14) (As := [.int (nI e)]) (st := []) kX10_165 rfl rfl dX10_readUnit_11 c117 (by decide) rfl rfl (Nat.le_of_ble_eq_true rfl) (by omega) ((G_goesIn (p := p) (b := b) (L := L) heb ht (by omega) hT).mono fun r h2 q => RQ.cast (r1 := some (.int 1)) (y := pNx tp n p L) q (congrArg (fun z : PX (List Nat) => some (Value.int (if okB z = true then (1 : Int32) else 0))) ep) ep) rfl (fun h hq11 => ?_)
          obtain ⟨hxc, hT⟩ := hq11
          have hx := hx.trans hxc (by decide)
          have hTo := hT
          obtain ⟨v, g, c117, c120, c121, hN, hR⟩ := hTo
          refine r_if_ne (tgt := 18) (pc2 := 17) dX10_readUnit_14 (by decide) rfl (fun b14 => ?_) (fun b14 => ?_)
          · skip
            refine r_aload_n (pc2 := 19) 0 dX10_readUnit_18 rfl rfl rfl rfl ?_
            refine r_iload_n (pc2 := 20) 1 dX10_readUnit_19 rfl rfl rfl ?_
            refine r_iconst (pc2 := 21) (v := 1) dX10_readUnit_20 (by decide) rfl ?_
            refine r_iadd (pc2 := 22) dX10_readUnit_21 rfl ?_
            refine r_cast (nI (e + 1)) (nI_1 e) ?_
            refine r_callV0 (pc2 := 25) (As := [.int (nI (e + 1))]) (st := []) kX10_186 rfl rfl dX10_readUnit_22 c117 (by decide) rfl rfl (Nat.le_of_ble_eq_true rfl) (by omega) (hV hb _ (by omega) _ (pNx tp n p L) (hI.nx (by rw [hk]; decide)).w1 hT) rfl (fun h hq22 => ?_)
            obtain ⟨hxc, hT⟩ := hq22
            have hx := hx.trans hxc (by decide)
            have hTo := hT
            obtain ⟨v, g, c117, c120, c121, hN, hR⟩ := hTo
            refine r_aload_n (pc2 := 26) 0 dX10_readUnit_25 rfl rfl rfl rfl ?_
            refine r_sipush (pc2 := 29) (v := 3006) dX10_readUnit_26 (by decide) rfl ?_
            refine r_callV0 (pc2 := 32) (As := [.int 3006]) (st := []) kX10_159 rfl rfl dX10_readUnit_29 c117 (by decide) rfl rfl (Nat.le_of_ble_eq_true rfl) (by omega) (G_codes (x := (bnd (pNx tp n p L) (sub3 tp n rd b))) (c := 3006) (((hI.nx (by rw [hk]; decide)).b (g_sub3 tp n rd b)).len ht.1) hT) rfl (fun h hq29 => ?_)
            obtain ⟨hxc, hT⟩ := hq29
            have hx := hx.trans hxc (by decide)
            have hTo := hT
            obtain ⟨v, g, c117, c120, c121, hN, hR⟩ := hTo
            exact r_vret rfl dX10_readUnit_32 ⟨rfl, hx, hT⟩
          · exact absurd b14 (by decide)
    · have n22 := hk
      by_cases hk : lxK tp n p = 37
      · by_cases hb : b = 0
        · have ep : pIn tp n b p L = pFl tp n 4 p := by unfold pIn; rw [if_pos hb]
          have eG : (pUnit tp n b S (sub2 tp n rd b) (sub3 tp n rd b) p L) = pFl tp n 4 p := by unfold pUnit; rw [if_neg n22, if_pos hk, ep]; rfl
          rw [eG]
          refine Cn.go (ls := [.ref 117, .int (nI e), .float 0]) (by decide +kernel) rfl (Nat.le_of_ble_eq_true rfl) ?_
          refine r_aload_n (pc2 := 1) 0 dX10_readUnit_0 rfl rfl rfl rfl ?_
          refine r_bipush (pc2 := 3) (v := 22) dX10_readUnit_1 (by decide) rfl ?_
          refine r_callV1 (pc2 := 6) (As := [.int 22]) (st := []) kX10_142 rfl rfl dX10_readUnit_3 c117 (by decide) rfl rfl (Nat.le_of_ble_eq_true rfl) (by omega) ((G_is (k := 22) (by decide) hT).mono fun r h2 q => ⟨q.1.trans (by rw [if_neg (isB_n n22)]), q.2⟩) rfl (fun h2 hq3 => ?_)
          subst hq3
          refine r_if_eq (tgt := 33) (pc2 := 9) dX10_readUnit_6 (by decide) rfl (fun b6 => ?_) (fun b6 => ?_)
          · skip
            refine r_aload_n (pc2 := 34) 0 dX10_readUnit_33 rfl rfl rfl rfl ?_
            refine r_bipush (pc2 := 36) (v := 37) dX10_readUnit_34 (by decide) rfl ?_
            refine r_callV1 (pc2 := 39) (As := [.int 37]) (st := []) kX10_142 rfl rfl dX10_readUnit_36 c117 (by decide) rfl rfl (Nat.le_of_ble_eq_true rfl) (by omega) ((G_is (k := 37) (by decide) hT).mono fun r h2 q => ⟨q.1.trans (by rw [if_pos (isB_y hk)]), q.2⟩) rfl (fun h2 hq36 => ?_)
            subst hq36
            refine r_if_eq (tgt := 73) (pc2 := 42) dX10_readUnit_39 (by decide) rfl (fun b39 => ?_) (fun b39 => ?_)
            · exact absurd b39 (by decide)
            · skip
              refine r_aload_n (pc2 := 43) 0 dX10_readUnit_42 rfl rfl rfl rfl ?_
              refine r_iload_n (pc2 := 44) 1 dX10_readUnit_43 rfl rfl rfl ?_
              refine r_callV1 (pc2 := 47) (As := [.int (nI e)]) (st := []) kX10_165 rfl rfl dX10_readUnit_44 c117 (by decide) rfl rfl (Nat.le_of_ble_eq_true rfl) (by omega) ((G_goesIn (p := p) (b := b) (L := L) heb ht (by omega) hT).mono fun r h2 q => RQ.cast (r1 := some (.int 0)) (y := pFl tp n 4 p) q (congrArg (fun z : PX (List Nat) => some (Value.int (if okB z = true then (1 : Int32) else 0))) ep) ep) rfl (fun h hq44 => ?_)
              obtain ⟨hxc, hT⟩ := hq44
              have hx := hx.trans hxc (by decide)
              have hTo := hT
              obtain ⟨v, g, c117, c120, c121, hN, hR⟩ := hTo
              refine r_if_ne (tgt := 51) (pc2 := 50) dX10_readUnit_47 (by decide) rfl (fun b47 => ?_) (fun b47 => ?_)
              · exact absurd b47 (by decide)
              · skip
                exact r_vret rfl dX10_readUnit_50 ⟨rfl, hx, hT⟩
          · exact absurd b6 (by decide)
        · have ep : pIn tp n b p L = pNx tp n p L := by unfold pIn; rw [if_neg hb]
          have eG : (pUnit tp n b S (sub2 tp n rd b) (sub3 tp n rd b) p L) = bnd (bnd (pNx tp n p L) (sub2 tp n rd b)) (pEat tp n 38) := by unfold pUnit; rw [if_neg n22, if_pos hk, ep]
          rw [eG]
          have k72 : ∀ h : Hp, Ex [117, 121] h0 h → RT tp n (frL fr c0) v0 (bnd (bnd (pNx tp n p L) (sub2 tp n rd b)) (pEat tp n 38)) h → Fr E mX10_readUnit d 72 [.ref 117, .int (nI e), .float 0] [] h (RQ tp n (frL fr c0) v0 h0 none (bnd (bnd (pNx tp n p L) (sub2 tp n rd b)) (pEat tp n 38))) := by
            intro h hx hT
            have hTo := hT
            obtain ⟨v, g, c117, c120, c121, hN, hR⟩ := hTo
            exact r_vret rfl dX10_readUnit_72 ⟨rfl, hx, hT⟩
          refine Cn.go (ls := [.ref 117, .int (nI e), .float 0]) (by decide +kernel) rfl (Nat.le_of_ble_eq_true rfl) ?_
          refine r_aload_n (pc2 := 1) 0 dX10_readUnit_0 rfl rfl rfl rfl ?_
          refine r_bipush (pc2 := 3) (v := 22) dX10_readUnit_1 (by decide) rfl ?_
          refine r_callV1 (pc2 := 6) (As := [.int 22]) (st := []) kX10_142 rfl rfl dX10_readUnit_3 c117 (by decide) rfl rfl (Nat.le_of_ble_eq_true rfl) (by omega) ((G_is (k := 22) (by decide) hT).mono fun r h2 q => ⟨q.1.trans (by rw [if_neg (isB_n n22)]), q.2⟩) rfl (fun h2 hq3 => ?_)
          subst hq3
          refine r_if_eq (tgt := 33) (pc2 := 9) dX10_readUnit_6 (by decide) rfl (fun b6 => ?_) (fun b6 => ?_)
          · skip
            refine r_aload_n (pc2 := 34) 0 dX10_readUnit_33 rfl rfl rfl rfl ?_
            refine r_bipush (pc2 := 36) (v := 37) dX10_readUnit_34 (by decide) rfl ?_
            refine r_callV1 (pc2 := 39) (As := [.int 37]) (st := []) kX10_142 rfl rfl dX10_readUnit_36 c117 (by decide) rfl rfl (Nat.le_of_ble_eq_true rfl) (by omega) ((G_is (k := 37) (by decide) hT).mono fun r h2 q => ⟨q.1.trans (by rw [if_pos (isB_y hk)]), q.2⟩) rfl (fun h2 hq36 => ?_)
            subst hq36
            refine r_if_eq (tgt := 73) (pc2 := 42) dX10_readUnit_39 (by decide) rfl (fun b39 => ?_) (fun b39 => ?_)
            · exact absurd b39 (by decide)
            · skip
              refine r_aload_n (pc2 := 43) 0 dX10_readUnit_42 rfl rfl rfl rfl ?_
              refine r_iload_n (pc2 := 44) 1 dX10_readUnit_43 rfl rfl rfl ?_
              refine r_callV1 (pc2 := 47) (As := [.int (nI e)]) (st := []) kX10_165 rfl rfl dX10_readUnit_44 c117 (by decide) rfl rfl (Nat.le_of_ble_eq_true rfl) (by omega) ((G_goesIn (p := p) (b := b) (L := L) heb ht (by omega) hT).mono fun r h2 q => RQ.cast (r1 := some (.int 1)) (y := pNx tp n p L) q (congrArg (fun z : PX (List Nat) => some (Value.int (if okB z = true then (1 : Int32) else 0))) ep) ep) rfl (fun h hq44 => ?_)
              obtain ⟨hxc, hT⟩ := hq44
              have hx := hx.trans hxc (by decide)
              have hTo := hT
              obtain ⟨v, g, c117, c120, c121, hN, hR⟩ := hTo
              refine r_if_ne (tgt := 51) (pc2 := 50) dX10_readUnit_47 (by decide) rfl (fun b47 => ?_) (fun b47 => ?_)
              · skip
                refine r_aload_n (pc2 := 52) 0 dX10_readUnit_51 rfl rfl rfl rfl ?_
                refine r_iload_n (pc2 := 53) 1 dX10_readUnit_52 rfl rfl rfl ?_
                refine r_iconst (pc2 := 54) (v := 1) dX10_readUnit_53 (by decide) rfl ?_
                refine r_iadd (pc2 := 55) dX10_readUnit_54 rfl ?_
                refine r_cast (nI (e + 1)) (nI_1 e) ?_
                refine r_callV0 (pc2 := 58) (As := [.int (nI (e + 1))]) (st := []) kX10_177 rfl rfl dX10_readUnit_55 c117 (by decide) rfl rfl (Nat.le_of_ble_eq_true rfl) (by omega) (hU hb _ (by omega) _ (pNx tp n p L) (hI.nx (by rw [hk]; decide)).w1 hT) rfl (fun h hq55 => ?_)
                obtain ⟨hxc, hT⟩ := hq55
                have hx := hx.trans hxc (by decide)
                have hTo := hT
                obtain ⟨v, g, c117, c120, c121, hN, hR⟩ := hTo
                refine r_aload_n (pc2 := 59) 0 dX10_readUnit_58 rfl rfl rfl rfl ?_
                refine r_bipush (pc2 := 61) (v := 38) dX10_readUnit_59 (by decide) rfl ?_
                refine r_callV1 (pc2 := 64) (As := [.int 38]) (st := []) kX10_171 rfl rfl dX10_readUnit_61 c117 (by decide) rfl rfl (Nat.le_of_ble_eq_true rfl) (by omega) (G_eats (x := (bnd (pNx tp n p L) (sub2 tp n rd b))) (k := 38) (by decide) ht (by omega) hT) rfl (fun h hq61 => ?_)
                obtain ⟨hxc, hT⟩ := hq61
                have hx := hx.trans hxc (by decide)
                have hTo := hT
                obtain ⟨v, g, c117, c120, c121, hN, hR⟩ := hTo
                refine r_if_ne (tgt := 72) (pc2 := 67) dX10_readUnit_64 (by decide) rfl (fun b64 => ?_) (fun b64 => ?_)
                · skip
                  exact k72 _ hx (by rw [pEat_t (iteB1 b64)]; rw [if_pos (iteB1 b64)] at hT; exact hT)
                · skip
                  rw [if_neg (iteB0 b64)] at hT
                  refine r_aload_n (pc2 := 68) 0 dX10_readUnit_67 rfl rfl rfl rfl ?_
                  refine r_iconst (pc2 := 69) (v := 2) dX10_readUnit_68 (by decide) rfl ?_
                  refine r_callV0 (pc2 := 72) (As := [.int 2]) (st := []) kX10_148 rfl rfl dX10_readUnit_69 c117 (by decide) rfl rfl (Nat.le_of_ble_eq_true rfl) (by omega) (G_fails (x := (bnd (pNx tp n p L) (sub2 tp n rd b))) (f := 2) (by decide) (by decide) hT) rfl (fun h hq69 => ?_)
                  obtain ⟨hxc, hT⟩ := hq69
                  have hx := hx.trans hxc (by decide)
                  have hTo := hT
                  obtain ⟨v, g, c117, c120, c121, hN, hR⟩ := hTo
                  exact k72 _ hx (by rw [pEat_f (iteB0 b64)]; exact hT)
              · exact absurd b47 (by decide)
          · exact absurd b6 (by decide)
      · have n37 := hk
        have eG : (pUnit tp n b S (sub2 tp n rd b) (sub3 tp n rd b) p L) = bnd (S p L) (pOrd tp n S) := by unfold pUnit; rw [if_neg n22, if_neg n37]
        rw [eG]
        refine Cn.go (ls := [.ref 117, .int (nI e), .float 0]) (by decide +kernel) rfl (Nat.le_of_ble_eq_true rfl) ?_
        refine r_aload_n (pc2 := 1) 0 dX10_readUnit_0 rfl rfl rfl rfl ?_
        refine r_bipush (pc2 := 3) (v := 22) dX10_readUnit_1 (by decide) rfl ?_
        refine r_callV1 (pc2 := 6) (As := [.int 22]) (st := []) kX10_142 rfl rfl dX10_readUnit_3 c117 (by decide) rfl rfl (Nat.le_of_ble_eq_true rfl) (by omega) ((G_is (k := 22) (by decide) hT).mono fun r h2 q => ⟨q.1.trans (by rw [if_neg (isB_n n22)]), q.2⟩) rfl (fun h2 hq3 => ?_)
        subst hq3
        refine r_if_eq (tgt := 33) (pc2 := 9) dX10_readUnit_6 (by decide) rfl (fun b6 => ?_) (fun b6 => ?_)
        · skip
          refine r_aload_n (pc2 := 34) 0 dX10_readUnit_33 rfl rfl rfl rfl ?_
          refine r_bipush (pc2 := 36) (v := 37) dX10_readUnit_34 (by decide) rfl ?_
          refine r_callV1 (pc2 := 39) (As := [.int 37]) (st := []) kX10_142 rfl rfl dX10_readUnit_36 c117 (by decide) rfl rfl (Nat.le_of_ble_eq_true rfl) (by omega) ((G_is (k := 37) (by decide) hT).mono fun r h2 q => ⟨q.1.trans (by rw [if_neg (isB_n n37)]), q.2⟩) rfl (fun h2 hq36 => ?_)
          subst hq36
          refine r_if_eq (tgt := 73) (pc2 := 42) dX10_readUnit_39 (by decide) rfl (fun b39 => ?_) (fun b39 => ?_)
          · skip
            refine r_aload_n (pc2 := 74) 0 dX10_readUnit_73 rfl rfl rfl rfl ?_
            refine r_iload_n (pc2 := 75) 1 dX10_readUnit_74 rfl rfl rfl ?_
            refine r_callV0 (pc2 := 78) (As := [.int (nI e)]) (st := []) kX10_168 rfl rfl dX10_readUnit_75 c117 (by decide) rfl rfl (Nat.le_of_ble_eq_true rfl) (by omega) (hSm _ (.ok (p, L)) hI hT) rfl (fun h hq75 => ?_)
            obtain ⟨hxc, hT⟩ := hq75
            have hx := hx.trans hxc (by decide)
            have hTo := hT
            obtain ⟨v, g, c117, c120, c121, hN, hR⟩ := hTo
            exact k78 _ (hI.b gS) h _ hx hT
          · exact absurd b39 (by decide)
        · exact absurd b6 (by decide)
def LVok (E : EnvT) (tp : Nat → Nat) (n : Nat) (fr : Nat → Nat) (c0 : Nat) (v0 : Nat → Int32) (rd b : Nat) : Prop := ∀ e d, e + b = 6 → (7 * b + 12 ≤ d → CS E tp n fr c0 v0 mX10_readSum d e (lvl tp n rd b).1) ∧ (7 * b + 15 ≤ d → CS E tp n fr c0 v0 mX10_readTruth d e (lvl tp n rd b).2.1) ∧ (7 * b + 13 ≤ d → CS E tp n fr c0 v0 mX10_readUnit d e (lvl tp n rd b).2.2)
theorem C_lvl {E : EnvT} {tp : Nat → Nat} {n : Nat} {fr : Nat → Nat} {c0 : Nat} {v0 : Nat → Int32} {rd : Nat} (hrd : rd < 2) (h15 : v0 15 = nI rd) (ht : TOk tp n) : ∀ b, LVok E tp n fr c0 v0 rd b := by
  have step : ∀ b, (b ≠ 0 → LVok E tp n fr c0 v0 rd (b - 1)) → LVok E tp n fr c0 v0 rd b := by
    intro b hp e d heb
    have s1 : b ≠ 0 → ∀ d, 7 * b + 5 ≤ d → CS E tp n fr c0 v0 mX10_readSum d (e + 1) (sub1 tp n rd b) := fun hb d hd => by
      have := (hp hb (e + 1) d (by omega)).1 (by omega)
      match b, hb, this with
      | b + 1, _, z => exact z
    have s2 : b ≠ 0 → ∀ d, 7 * b + 8 ≤ d → CS E tp n fr c0 v0 mX10_readTruth d (e + 1) (sub2 tp n rd b) := fun hb d hd => by
      have := (hp hb (e + 1) d (by omega)).2.1 (by omega)
      match b, hb, this with
      | b + 1, _, z => exact z
    have s3 : b ≠ 0 → ∀ d, 7 * b + 6 ≤ d → CS E tp n fr c0 v0 mX10_readUnit d (e + 1) (sub3 tp n rd b) := fun hb d hd => by
      have := (hp hb (e + 1) d (by omega)).2.2 (by omega)
      match b, hb, this with
      | b + 1, _, z => exact z
    have hsum : ∀ d, 7 * b + 12 ≤ d → CS E tp n fr c0 v0 mX10_readSum d e (lvl tp n rd b).1 := fun d hd => by
      rw [lvl_S]
      exact C_sum ht (by omega) (g_term (g_lvA tp n rd b)) (C_term ht (by omega) (g_lvA tp n rd b) (C_atom hrd h15 heb ht (by omega) s1 s2))
    have hunit : ∀ d, 7 * b + 13 ≤ d → CS E tp n fr c0 v0 mX10_readUnit d e (lvl tp n rd b).2.2 := fun d hd => by
      rw [lvl_U]
      exact C_unit heb ht (by omega) (g_lvl tp n rd b).1 (hsum (d - 1) (by omega)) s2 s3
    refine ⟨hsum d, fun hd => ?_, hunit d⟩
    rw [lvl_T]
    exact C_truth0 (A := pBoth tp n (lvl tp n rd b).2.2) ht (by omega) (g_both (g_lvl tp n rd b).2.2) (C_both ht (by omega) (g_lvl tp n rd b).2.2 (hunit (d - 1 - 1) (by omega)))
  intro b
  induction b with
  | zero => exact step 0 (fun h => absurd rfl h)
  | succ b ih => exact step (b + 1) (fun _ => ih)
