/-! the class: outcome, byStep, bestOf -/
theorem own_or0 : ∀ G, G < 5 → ∀ t, t < 16 → t < 2 ^ G → t ||| dif (2 ^ G - 1) t = 2 ^ G - 1 := by decide +kernel
theorem dif_all0 : ∀ G, G < 5 → ∀ p, p < 16 → p < 2 ^ G → (dif (2 ^ G - 1) p = 0 ↔ p = 2 ^ G - 1) := by decide +kernel
theorem dif_and0 : ∀ G, G < 5 → ∀ o, o < 16 → o < 2 ^ G → ∀ p, p < 16 → dif (2 ^ G - 1) p &&& o = dif o p := by decide +kernel
theorem pw_lt : ∀ G, G < 5 → 2 ^ G - 1 < 16 := by decide
theorem DRI.ex {Z : Nat → Prop} {reg : Nat → FR} {ns s sg kd : Nat} {a b : FR} {q st sp : Nat} {kn : Nat → Int32} {h h2 : Hp} (x : DRI Z reg ns s sg kd a b q st sp kn h) (e : Ex [87, 88, 89, kd] h h2) (hW : WD Z kd q) (hL : LQ Z h2 reg ns s sg (a 27) kd b) : DRI Z reg ns s sg kd a b q st sp kn h2 := by
  obtain ⟨x1, ⟨f, x2, x3⟩, x4, x5, x6, _⟩ := x
  have := hW.1
  have := hW.2.1
  exact ⟨e.get (by simp <;> omega) x1, ⟨f, e.get (by simp <;> omega) x2, x3⟩, e.get (by simp <;> omega) x4, x5, x6, hL⟩
theorem shK_2 {g : Nat} (hg : g < 4) : shK (2 ^ g) 4 = 7 ^ g := by rw [shK_sB, sB_one, if_pos hg]
theorem KnB.up {kn : Nat → Int32} {sp p v : Nat} (h : KnB kn sp) (hv : v < 4) : KnB (upd kn p (nI (4 * sp + v))) sp := fun p2 hp => by
  by_cases z : p2 = p
  · exact ⟨sp, v, if_pos z, hv, Nat.le_refl _⟩
  · obtain ⟨k, w, e, e2⟩ := h p2 hp
    exact ⟨k, w, (if_neg z).trans e, e2⟩
theorem KnV.up {a : FR} {st sp : Nat} {kn : Nat → Int32} {x f v : Nat} (h : KnV a st sp kn) (hC : a 1 ≤ 6) (hs : SG a x) (hf : f ≤ 1) (hsp : sp < 10000) (hv : v < 4) (e : nI v - 1 = dV a x (ownS a st f)) : KnV a st sp (upd kn (2 * cst x + f) (nI (4 * sp + v))) := fun y g hy hd hg he => by
  by_cases z : 2 * cst y + g = 2 * cst x + f
  · have hgf : g = f := by omega
    have hyx : y = x := cst_inj hy hs hC (by omega)
    subst hgf hyx
    rw [show upd kn (2 * cst y + g) (nI (4 * sp + v)) (2 * cst y + g) = nI (4 * sp + v) from if_pos rfl, unp2 hsp hv]
    exact e
  · rw [show upd kn (2 * cst x + f) (nI (4 * sp + v)) (2 * cst y + g) = kn (2 * cst y + g) from if_neg z] at he ⊢
    exact h y g hy hd hg he
set_option maxRecDepth 20000 in
set_option maxHeartbeats 1000000 in
theorem d_outcome {E : EnvT} {Z : Nat → Prop} {reg : Nat → FR} {ns s sg kd : Nat} {a b : FR} {q st sp : Nat} {r : Nat} (hX : DCx Z reg ns s sg kd a b q st sp) (ih : BST E Z reg ns s sg kd a b q st sp r) : OUT E Z reg ns s sg kd a b q st sp r := by
  intro x f lv d h9 kn hs hdz hf hrm hlv hd hI
  obtain ⟨cq, ⟨fs, csd, hf0, hf1⟩, ckn, hKB, hKV, hL⟩ := id hI
  obtain ⟨hA, hst, hW, hst9, hsp⟩ := id hX
  have hq139 := hW.1
  have hqk := hW.2.1
  have hqs := hW.2.2 s hL.2.2.2.2.2.2.2.2.1
  have hG := hA.G
  have hC6 := hA.C
  have hk0 := hL.dv.k0
  have hzs := hL.dv.zs
  have hs64 := hL.dv.s64
  have hd9 := hs.dep
  have htl := hs.tl hC6
  have hcl := cst_lt hs hC6
  have hp16 := pw16 hG
  have hpl : pastN (a 1) x (a 3) < 2 ^ (a 3) := pastN_lt _ _ _
  obtain ⟨lo, so9, sa, nl, sl, cs⟩ := hL.dv.cs
  have hL9 := hL
  have hol : (ownS a st f) < 2 ^ (a 3) := ownS_lt hst9
  have hff : fs f = nI (ownS a st f) := by
    match f, hf with
    | 0, _ => exact hf0
    | 1, _ => exact hf1
  by_cases hpa : (pastN (a 1) x (a 3)) = (2 ^ (a 3) - 1)
  · skip
    refine Cn.go (ls := [.ref q, .int (nI (tws x)), .int (nI (x / 4096)), .int (nI f), .int (nI lv), .float 0, .float 0]) (by decide +kernel) rfl (Nat.le_of_ble_eq_true rfl) ?_
    refine r_aload_n (pc2 := 1) 0 dX0_outcome_0 rfl rfl rfl rfl ?_
    refine r_getf (pc2 := 4) (v := .ref (q + 1)) fX0_9 dX0_outcome_1 cq (by omega) rfl rfl ?_
    refine r_iconst (pc2 := 5) (v := 0) dX0_outcome_4 (by decide) rfl ?_
    refine r_ialdN (pc2 := 6) 0 dX0_outcome_5 csd (by omega) rfl (by decide) (by decide) rfl ?_
    refine r_cast (nI (ownS a st 0)) (hf0) ?_
    refine r_aload_n (pc2 := 7) 0 dX0_outcome_6 rfl rfl rfl rfl ?_
    refine r_getf (pc2 := 10) (v := .ref (q + 1)) fX0_9 dX0_outcome_7 cq (by omega) rfl rfl ?_
    refine r_iconst (pc2 := 11) (v := 1) dX0_outcome_10 (by decide) rfl ?_
    refine r_ialdN (pc2 := 12) 1 dX0_outcome_11 csd (by omega) rfl (by decide) (by decide) rfl ?_
    refine r_cast (nI (ownS a st 1)) (hf1) ?_
    refine r_ior (pc2 := 13) dX0_outcome_12 rfl ?_
    refine r_cast (nI (2 ^ (a 3) - 1)) (by rw [nI_or]; exact congrArg nI (own_or0 (a 3) (by omega) st (by omega) hst9)) ?_
    refine r_aload_n (pc2 := 14) 0 dX0_outcome_13 rfl rfl rfl rfl ?_
    refine r_getf (pc2 := 17) (v := .ref s) fX0_29 dX0_outcome_14 cq (by omega) rfl rfl ?_
    refine r_iload_n (pc2 := 18) 1 dX0_outcome_17 rfl rfl rfl ?_
    refine r_callV1 (pc2 := 21) (As := [.int (nI (tws x))]) (st := [.int (nI (2 ^ (a 3) - 1))]) kX0_43 rfl rfl dX0_outcome_18 cs hs64 rfl rfl (Nat.le_of_ble_eq_true rfl) (by omega) (c_pastQ (s := x) hL.dv hst hs.2.1 rfl) rfl (fun h2 hq18 => ?_)
    obtain rfl := hq18.symm
    refine r_iconst (pc2 := 22) (v := -1) dX0_outcome_21 (by decide) rfl ?_
    refine r_ixor (pc2 := 23) dX0_outcome_22 rfl ?_
    refine r_iand (pc2 := 24) dX0_outcome_23 rfl ?_
    refine r_cast (nI (dif (2 ^ (a 3) - 1) (pastN (a 1) x (a 3)))) (dif_nI _ (pw_lt (a 3) (by omega)) _ (by omega)) ?_
    refine r_istore (pc2 := 26) (ls2 := [.ref q, .int (nI (tws x)), .int (nI (x / 4096)), .int (nI f), .int (nI lv), .int (nI (dif (2 ^ (a 3) - 1) (pastN (a 1) x (a 3)))), .float 0]) 5 dX0_outcome_24 (by decide) rfl rfl rfl ?_
    refine r_iload (pc2 := 28) 5 dX0_outcome_26 rfl rfl ?_
    refine r_if_eq (tgt := 38) (pc2 := 31) dX0_outcome_28 (by decide) rfl (fun b28 => ?_) (fun b28 => ?_)
    · skip
      refine r_iconst (pc2 := 39) (v := 0) dX0_outcome_38 (by decide) rfl ?_
      exact r_iret rfl dX0_outcome_39 ⟨by rw [dV_past hs hA hdz hol hpa], kn, hI, GQ.rf⟩
    · exact absurd (congrArg nI ((dif_all0 (a 3) (by omega) _ (by omega) hpl).mpr hpa)) b28
  · by_cases hop : dOp a x (ownS a st f) = 0
    · have ho0 := okS_0 (a := a) hdz
      have hts : SG a (nxS a x 0) := hs.next hG hC6 ho0
      have hdg := dgS_nx0 hs hG hC6 hdz
      have ht9 := hts.dep
      by_cases hz2 : (nxS a x 0) / 4096 = 0
      · skip
        refine Cn.go (ls := [.ref q, .int (nI (tws x)), .int (nI (x / 4096)), .int (nI f), .int (nI lv), .float 0, .float 0]) (by decide +kernel) rfl (Nat.le_of_ble_eq_true rfl) ?_
        refine r_aload_n (pc2 := 1) 0 dX0_outcome_0 rfl rfl rfl rfl ?_
        refine r_getf (pc2 := 4) (v := .ref (q + 1)) fX0_9 dX0_outcome_1 cq (by omega) rfl rfl ?_
        refine r_iconst (pc2 := 5) (v := 0) dX0_outcome_4 (by decide) rfl ?_
        refine r_ialdN (pc2 := 6) 0 dX0_outcome_5 csd (by omega) rfl (by decide) (by decide) rfl ?_
        refine r_cast (nI (ownS a st 0)) (hf0) ?_
        refine r_aload_n (pc2 := 7) 0 dX0_outcome_6 rfl rfl rfl rfl ?_
        refine r_getf (pc2 := 10) (v := .ref (q + 1)) fX0_9 dX0_outcome_7 cq (by omega) rfl rfl ?_
        refine r_iconst (pc2 := 11) (v := 1) dX0_outcome_10 (by decide) rfl ?_
        refine r_ialdN (pc2 := 12) 1 dX0_outcome_11 csd (by omega) rfl (by decide) (by decide) rfl ?_
        refine r_cast (nI (ownS a st 1)) (hf1) ?_
        refine r_ior (pc2 := 13) dX0_outcome_12 rfl ?_
        refine r_cast (nI (2 ^ (a 3) - 1)) (by rw [nI_or]; exact congrArg nI (own_or0 (a 3) (by omega) st (by omega) hst9)) ?_
        refine r_aload_n (pc2 := 14) 0 dX0_outcome_13 rfl rfl rfl rfl ?_
        refine r_getf (pc2 := 17) (v := .ref s) fX0_29 dX0_outcome_14 cq (by omega) rfl rfl ?_
        refine r_iload_n (pc2 := 18) 1 dX0_outcome_17 rfl rfl rfl ?_
        refine r_callV1 (pc2 := 21) (As := [.int (nI (tws x))]) (st := [.int (nI (2 ^ (a 3) - 1))]) kX0_43 rfl rfl dX0_outcome_18 cs hs64 rfl rfl (Nat.le_of_ble_eq_true rfl) (by omega) (c_pastQ (s := x) hL.dv hst hs.2.1 rfl) rfl (fun h2 hq18 => ?_)
        obtain rfl := hq18.symm
        refine r_iconst (pc2 := 22) (v := -1) dX0_outcome_21 (by decide) rfl ?_
        refine r_ixor (pc2 := 23) dX0_outcome_22 rfl ?_
        refine r_iand (pc2 := 24) dX0_outcome_23 rfl ?_
        refine r_cast (nI (dif (2 ^ (a 3) - 1) (pastN (a 1) x (a 3)))) (dif_nI _ (pw_lt (a 3) (by omega)) _ (by omega)) ?_
        refine r_istore (pc2 := 26) (ls2 := [.ref q, .int (nI (tws x)), .int (nI (x / 4096)), .int (nI f), .int (nI lv), .int (nI (dif (2 ^ (a 3) - 1) (pastN (a 1) x (a 3)))), .float 0]) 5 dX0_outcome_24 (by decide) rfl rfl rfl ?_
        refine r_iload (pc2 := 28) 5 dX0_outcome_26 rfl rfl ?_
        refine r_if_eq (tgt := 38) (pc2 := 31) dX0_outcome_28 (by decide) rfl (fun b28 => ?_) (fun b28 => ?_)
        · exact absurd ((dif_all0 (a 3) (by omega) _ (by omega) hpl).mp (nI_z0 (by have := dif_le (2 ^ (a 3) - 1) (pastN (a 1) x (a 3)); omega) b28)) hpa
        · skip
          refine r_iload (pc2 := 33) 4 dX0_outcome_31 rfl rfl ?_
          refine r_bipush (pc2 := 35) (v := 40) dX0_outcome_33 (by decide) rfl ?_
          refine r_icmp_le (tgt := 40) (pc2 := 38) dX0_outcome_35 (by decide) rfl (fun b35 => ?_) (fun b35 => ?_)
          · skip
            refine r_iload (pc2 := 42) 5 dX0_outcome_40 rfl rfl ?_
            refine r_aload_n (pc2 := 43) 0 dX0_outcome_42 rfl rfl rfl rfl ?_
            refine r_getf (pc2 := 46) (v := .ref (q + 1)) fX0_9 dX0_outcome_43 cq (by omega) rfl rfl ?_
            refine r_iload_n (pc2 := 47) 3 dX0_outcome_46 rfl rfl rfl ?_
            refine r_iconst (pc2 := 48) (v := 1) dX0_outcome_47 (by decide) rfl ?_
            refine r_iand (pc2 := 49) dX0_outcome_48 rfl ?_
            refine r_cast (nI f) (and1 f hf) ?_
            refine r_ialdN (pc2 := 50) f dX0_outcome_49 csd (by omega) rfl (by omega) (by decide) rfl ?_
            refine r_cast (nI (ownS a st f)) (hff) ?_
            refine r_iand (pc2 := 51) dX0_outcome_50 rfl ?_
            refine r_cast (nI (dOp a x (ownS a st f))) (by rw [nI_and]; exact congrArg nI (dif_and0 (a 3) (by omega) _ (by omega) hol _ (by omega))) ?_
            refine r_if_eq (tgt := 64) (pc2 := 54) dX0_outcome_51 (by decide) rfl (fun b51 => ?_) (fun b51 => ?_)
            · skip
              refine r_aload_n (pc2 := 65) 0 dX0_outcome_64 rfl rfl rfl rfl ?_
              refine r_getf (pc2 := 68) (v := .ref 82) fX0_19 dX0_outcome_65 cq (by omega) rfl rfl ?_
              refine r_iload_n (pc2 := 69) 1 dX0_outcome_68 rfl rfl rfl ?_
              refine r_iload_n (pc2 := 70) 2 dX0_outcome_69 rfl rfl rfl ?_
              refine r_iconst (pc2 := 71) (v := 0) dX0_outcome_70 (by decide) rfl ?_
              refine r_iconst (pc2 := 72) (v := 0) dX0_outcome_71 (by decide) rfl ?_
              refine r_callV1 (pc2 := 75) (As := [.int (nI (tws x)), .int (nI (x / 4096)), .int 0, .int 0]) (st := []) kX0_51 rfl rfl dX0_outcome_72 hL.1.1 (by decide) rfl rfl (Nat.le_of_ble_eq_true rfl) (by omega) ((c_depthQ (a := a) (s := x) (sn := 0) (o := 0) hL hst hs.2.1 hd9 (by omega) (fun g _ z => no_bit0 g z) (by omega) rfl rfl rfl rfl (by omega)).mono fun r h2 z => ⟨z.1.trans (by rw [show hourN a x 0 0 (a 27) / 4096 = ((nxS a x 0) / 4096) from (by rfl)]), z.2⟩) rfl (fun h hq72 => ?_)
              obtain ⟨hxd, hL⟩ := hq72
              have cq := hxd.get (by simp <;> omega) cq
              have csd := hxd.get (by simp <;> omega) csd
              have ckn := hxd.get (by simp <;> omega) ckn
              have cs := hxd.get (by simp <;> omega) cs
              have hQ := (GQ.rf (S := [q + 2]) (kd := kd) (h := h9)).dp hxd
              have hI := hI.ex hxd hW hL
              refine r_istore (pc2 := 77) (ls2 := [.ref q, .int (nI (tws x)), .int (nI (x / 4096)), .int (nI f), .int (nI lv), .int (nI (dif (2 ^ (a 3) - 1) (pastN (a 1) x (a 3)))), .int (nI ((nxS a x 0) / 4096))]) 6 dX0_outcome_75 (by decide) rfl rfl rfl ?_
              refine r_iload (pc2 := 79) 6 dX0_outcome_77 rfl rfl ?_
              refine r_if_ne (tgt := 86) (pc2 := 82) dX0_outcome_79 (by decide) rfl (fun b79 => ?_) (fun b79 => ?_)
              · exact absurd (congrArg nI hz2) b79
              · skip
                refine r_iconst (pc2 := 83) (v := -1) dX0_outcome_82 (by decide) rfl ?_
                refine r_goto (pc2 := 99) dX0_outcome_83 (by decide) ?_
                exact r_iret rfl dX0_outcome_99 ⟨by rw [dV_none hs hA hdz hol hpa hop]; unfold dBy; rw [if_pos hz2], kn, hI, hQ⟩
            · exact absurd (congrArg nI hop) b51
          · exact absurd (nI_le (b := 40) (by omega) (by decide)) b35
      · have hop2 : dOp a (nxS a x 0) (ownS a st (1 - f)) ≠ 0 := by
          rw [← ownS_o hG hf hst9]
          unfold dOp at hop ⊢
          rw [hdg.2]
          exact dif_oth (a 3) hG _ hol _ hpl hpa hop
        refine Cn.go (ls := [.ref q, .int (nI (tws x)), .int (nI (x / 4096)), .int (nI f), .int (nI lv), .float 0, .float 0]) (by decide +kernel) rfl (Nat.le_of_ble_eq_true rfl) ?_
        refine r_aload_n (pc2 := 1) 0 dX0_outcome_0 rfl rfl rfl rfl ?_
        refine r_getf (pc2 := 4) (v := .ref (q + 1)) fX0_9 dX0_outcome_1 cq (by omega) rfl rfl ?_
        refine r_iconst (pc2 := 5) (v := 0) dX0_outcome_4 (by decide) rfl ?_
        refine r_ialdN (pc2 := 6) 0 dX0_outcome_5 csd (by omega) rfl (by decide) (by decide) rfl ?_
        refine r_cast (nI (ownS a st 0)) (hf0) ?_
        refine r_aload_n (pc2 := 7) 0 dX0_outcome_6 rfl rfl rfl rfl ?_
        refine r_getf (pc2 := 10) (v := .ref (q + 1)) fX0_9 dX0_outcome_7 cq (by omega) rfl rfl ?_
        refine r_iconst (pc2 := 11) (v := 1) dX0_outcome_10 (by decide) rfl ?_
        refine r_ialdN (pc2 := 12) 1 dX0_outcome_11 csd (by omega) rfl (by decide) (by decide) rfl ?_
        refine r_cast (nI (ownS a st 1)) (hf1) ?_
        refine r_ior (pc2 := 13) dX0_outcome_12 rfl ?_
        refine r_cast (nI (2 ^ (a 3) - 1)) (by rw [nI_or]; exact congrArg nI (own_or0 (a 3) (by omega) st (by omega) hst9)) ?_
        refine r_aload_n (pc2 := 14) 0 dX0_outcome_13 rfl rfl rfl rfl ?_
        refine r_getf (pc2 := 17) (v := .ref s) fX0_29 dX0_outcome_14 cq (by omega) rfl rfl ?_
        refine r_iload_n (pc2 := 18) 1 dX0_outcome_17 rfl rfl rfl ?_
        refine r_callV1 (pc2 := 21) (As := [.int (nI (tws x))]) (st := [.int (nI (2 ^ (a 3) - 1))]) kX0_43 rfl rfl dX0_outcome_18 cs hs64 rfl rfl (Nat.le_of_ble_eq_true rfl) (by omega) (c_pastQ (s := x) hL.dv hst hs.2.1 rfl) rfl (fun h2 hq18 => ?_)
        obtain rfl := hq18.symm
        refine r_iconst (pc2 := 22) (v := -1) dX0_outcome_21 (by decide) rfl ?_
        refine r_ixor (pc2 := 23) dX0_outcome_22 rfl ?_
        refine r_iand (pc2 := 24) dX0_outcome_23 rfl ?_
        refine r_cast (nI (dif (2 ^ (a 3) - 1) (pastN (a 1) x (a 3)))) (dif_nI _ (pw_lt (a 3) (by omega)) _ (by omega)) ?_
        refine r_istore (pc2 := 26) (ls2 := [.ref q, .int (nI (tws x)), .int (nI (x / 4096)), .int (nI f), .int (nI lv), .int (nI (dif (2 ^ (a 3) - 1) (pastN (a 1) x (a 3)))), .float 0]) 5 dX0_outcome_24 (by decide) rfl rfl rfl ?_
        refine r_iload (pc2 := 28) 5 dX0_outcome_26 rfl rfl ?_
        refine r_if_eq (tgt := 38) (pc2 := 31) dX0_outcome_28 (by decide) rfl (fun b28 => ?_) (fun b28 => ?_)
        · exact absurd ((dif_all0 (a 3) (by omega) _ (by omega) hpl).mp (nI_z0 (by have := dif_le (2 ^ (a 3) - 1) (pastN (a 1) x (a 3)); omega) b28)) hpa
        · skip
          refine r_iload (pc2 := 33) 4 dX0_outcome_31 rfl rfl ?_
          refine r_bipush (pc2 := 35) (v := 40) dX0_outcome_33 (by decide) rfl ?_
          refine r_icmp_le (tgt := 40) (pc2 := 38) dX0_outcome_35 (by decide) rfl (fun b35 => ?_) (fun b35 => ?_)
          · skip
            refine r_iload (pc2 := 42) 5 dX0_outcome_40 rfl rfl ?_
            refine r_aload_n (pc2 := 43) 0 dX0_outcome_42 rfl rfl rfl rfl ?_
            refine r_getf (pc2 := 46) (v := .ref (q + 1)) fX0_9 dX0_outcome_43 cq (by omega) rfl rfl ?_
            refine r_iload_n (pc2 := 47) 3 dX0_outcome_46 rfl rfl rfl ?_
            refine r_iconst (pc2 := 48) (v := 1) dX0_outcome_47 (by decide) rfl ?_
            refine r_iand (pc2 := 49) dX0_outcome_48 rfl ?_
            refine r_cast (nI f) (and1 f hf) ?_
            refine r_ialdN (pc2 := 50) f dX0_outcome_49 csd (by omega) rfl (by omega) (by decide) rfl ?_
            refine r_cast (nI (ownS a st f)) (hff) ?_
            refine r_iand (pc2 := 51) dX0_outcome_50 rfl ?_
            refine r_cast (nI (dOp a x (ownS a st f))) (by rw [nI_and]; exact congrArg nI (dif_and0 (a 3) (by omega) _ (by omega) hol _ (by omega))) ?_
            refine r_if_eq (tgt := 64) (pc2 := 54) dX0_outcome_51 (by decide) rfl (fun b51 => ?_) (fun b51 => ?_)
            · skip
              refine r_aload_n (pc2 := 65) 0 dX0_outcome_64 rfl rfl rfl rfl ?_
              refine r_getf (pc2 := 68) (v := .ref 82) fX0_19 dX0_outcome_65 cq (by omega) rfl rfl ?_
              refine r_iload_n (pc2 := 69) 1 dX0_outcome_68 rfl rfl rfl ?_
              refine r_iload_n (pc2 := 70) 2 dX0_outcome_69 rfl rfl rfl ?_
              refine r_iconst (pc2 := 71) (v := 0) dX0_outcome_70 (by decide) rfl ?_
              refine r_iconst (pc2 := 72) (v := 0) dX0_outcome_71 (by decide) rfl ?_
              refine r_callV1 (pc2 := 75) (As := [.int (nI (tws x)), .int (nI (x / 4096)), .int 0, .int 0]) (st := []) kX0_51 rfl rfl dX0_outcome_72 hL.1.1 (by decide) rfl rfl (Nat.le_of_ble_eq_true rfl) (by omega) ((c_depthQ (a := a) (s := x) (sn := 0) (o := 0) hL hst hs.2.1 hd9 (by omega) (fun g _ z => no_bit0 g z) (by omega) rfl rfl rfl rfl (by omega)).mono fun r h2 z => ⟨z.1.trans (by rw [show hourN a x 0 0 (a 27) / 4096 = ((nxS a x 0) / 4096) from (by rfl)]), z.2⟩) rfl (fun h hq72 => ?_)
              obtain ⟨hxd, hL⟩ := hq72
              have cq := hxd.get (by simp <;> omega) cq
              have csd := hxd.get (by simp <;> omega) csd
              have ckn := hxd.get (by simp <;> omega) ckn
              have cs := hxd.get (by simp <;> omega) cs
              have hQ := (GQ.rf (S := [q + 2]) (kd := kd) (h := h9)).dp hxd
              have hI := hI.ex hxd hW hL
              refine r_istore (pc2 := 77) (ls2 := [.ref q, .int (nI (tws x)), .int (nI (x / 4096)), .int (nI f), .int (nI lv), .int (nI (dif (2 ^ (a 3) - 1) (pastN (a 1) x (a 3)))), .int (nI ((nxS a x 0) / 4096))]) 6 dX0_outcome_75 (by decide) rfl rfl rfl ?_
              refine r_iload (pc2 := 79) 6 dX0_outcome_77 rfl rfl ?_
              refine r_if_ne (tgt := 86) (pc2 := 82) dX0_outcome_79 (by decide) rfl (fun b79 => ?_) (fun b79 => ?_)
              · skip
                refine r_aload_n (pc2 := 87) 0 dX0_outcome_86 rfl rfl rfl rfl ?_
                refine r_iload_n (pc2 := 88) 1 dX0_outcome_87 rfl rfl rfl ?_
                refine r_cast (nI (tws (nxS a x 0))) (congrArg nI (tws_mod (hourN_mod0 a x 0 (a 27))).symm) ?_
                refine r_iload (pc2 := 90) 6 dX0_outcome_88 rfl rfl ?_
                refine r_iconst (pc2 := 91) (v := 1) dX0_outcome_90 (by decide) rfl ?_
                refine r_iload_n (pc2 := 92) 3 dX0_outcome_91 rfl rfl rfl ?_
                refine r_isub (pc2 := 93) dX0_outcome_92 rfl ?_
                refine r_cast (nI (1 - f)) (one_sub f hf) ?_
                refine r_iload (pc2 := 95) 4 dX0_outcome_93 rfl rfl ?_
                refine r_callV1 (pc2 := 98) (As := [.int (nI (tws (nxS a x 0))), .int (nI ((nxS a x 0) / 4096)), .int (nI (1 - f)), .int (nI lv)]) (st := []) kX0_47 rfl rfl dX0_outcome_95 cq (by omega) rfl rfl (Nat.le_of_ble_eq_true rfl) (by omega) (ih (nxS a x 0) (1 - f) lv (d - 1) _ kn hts hz2 (by omega) hop2 (by unfold rm9 at hrm ⊢; rw [hdg.1]; exact hrm) (by unfold rm9 at hlv ⊢; rw [hdg.1]; exact hlv) (by omega) hI) rfl (fun h hq95 => ?_)
                obtain ⟨kn2, hI2, hQ2⟩ := hq95
                refine r_ineg (pc2 := 99) dX0_outcome_98 rfl ?_
                exact r_iret rfl dX0_outcome_99 ⟨by rw [dV_none hs hA hdz hol hpa hop]; unfold dBy; rw [if_neg hz2, ownS_o hG hf hst9], kn2, hI2, hQ.trans hQ2 hL9.dv.n⟩
              · exact absurd (nI_z0 (by omega) b79) hz2
            · exact absurd (congrArg nI hop) b51
          · exact absurd (nI_le (b := 40) (by omega) (by decide)) b35
    · skip
      refine Cn.go (ls := [.ref q, .int (nI (tws x)), .int (nI (x / 4096)), .int (nI f), .int (nI lv), .float 0, .float 0]) (by decide +kernel) rfl (Nat.le_of_ble_eq_true rfl) ?_
      refine r_aload_n (pc2 := 1) 0 dX0_outcome_0 rfl rfl rfl rfl ?_
      refine r_getf (pc2 := 4) (v := .ref (q + 1)) fX0_9 dX0_outcome_1 cq (by omega) rfl rfl ?_
      refine r_iconst (pc2 := 5) (v := 0) dX0_outcome_4 (by decide) rfl ?_
      refine r_ialdN (pc2 := 6) 0 dX0_outcome_5 csd (by omega) rfl (by decide) (by decide) rfl ?_
      refine r_cast (nI (ownS a st 0)) (hf0) ?_
      refine r_aload_n (pc2 := 7) 0 dX0_outcome_6 rfl rfl rfl rfl ?_
      refine r_getf (pc2 := 10) (v := .ref (q + 1)) fX0_9 dX0_outcome_7 cq (by omega) rfl rfl ?_
      refine r_iconst (pc2 := 11) (v := 1) dX0_outcome_10 (by decide) rfl ?_
      refine r_ialdN (pc2 := 12) 1 dX0_outcome_11 csd (by omega) rfl (by decide) (by decide) rfl ?_
      refine r_cast (nI (ownS a st 1)) (hf1) ?_
      refine r_ior (pc2 := 13) dX0_outcome_12 rfl ?_
      refine r_cast (nI (2 ^ (a 3) - 1)) (by rw [nI_or]; exact congrArg nI (own_or0 (a 3) (by omega) st (by omega) hst9)) ?_
      refine r_aload_n (pc2 := 14) 0 dX0_outcome_13 rfl rfl rfl rfl ?_
      refine r_getf (pc2 := 17) (v := .ref s) fX0_29 dX0_outcome_14 cq (by omega) rfl rfl ?_
      refine r_iload_n (pc2 := 18) 1 dX0_outcome_17 rfl rfl rfl ?_
      refine r_callV1 (pc2 := 21) (As := [.int (nI (tws x))]) (st := [.int (nI (2 ^ (a 3) - 1))]) kX0_43 rfl rfl dX0_outcome_18 cs hs64 rfl rfl (Nat.le_of_ble_eq_true rfl) (by omega) (c_pastQ (s := x) hL.dv hst hs.2.1 rfl) rfl (fun h2 hq18 => ?_)
      obtain rfl := hq18.symm
      refine r_iconst (pc2 := 22) (v := -1) dX0_outcome_21 (by decide) rfl ?_
      refine r_ixor (pc2 := 23) dX0_outcome_22 rfl ?_
      refine r_iand (pc2 := 24) dX0_outcome_23 rfl ?_
      refine r_cast (nI (dif (2 ^ (a 3) - 1) (pastN (a 1) x (a 3)))) (dif_nI _ (pw_lt (a 3) (by omega)) _ (by omega)) ?_
      refine r_istore (pc2 := 26) (ls2 := [.ref q, .int (nI (tws x)), .int (nI (x / 4096)), .int (nI f), .int (nI lv), .int (nI (dif (2 ^ (a 3) - 1) (pastN (a 1) x (a 3)))), .float 0]) 5 dX0_outcome_24 (by decide) rfl rfl rfl ?_
      refine r_iload (pc2 := 28) 5 dX0_outcome_26 rfl rfl ?_
      refine r_if_eq (tgt := 38) (pc2 := 31) dX0_outcome_28 (by decide) rfl (fun b28 => ?_) (fun b28 => ?_)
      · exact absurd ((dif_all0 (a 3) (by omega) _ (by omega) hpl).mp (nI_z0 (by have := dif_le (2 ^ (a 3) - 1) (pastN (a 1) x (a 3)); omega) b28)) hpa
      · skip
        refine r_iload (pc2 := 33) 4 dX0_outcome_31 rfl rfl ?_
        refine r_bipush (pc2 := 35) (v := 40) dX0_outcome_33 (by decide) rfl ?_
        refine r_icmp_le (tgt := 40) (pc2 := 38) dX0_outcome_35 (by decide) rfl (fun b35 => ?_) (fun b35 => ?_)
        · skip
          refine r_iload (pc2 := 42) 5 dX0_outcome_40 rfl rfl ?_
          refine r_aload_n (pc2 := 43) 0 dX0_outcome_42 rfl rfl rfl rfl ?_
          refine r_getf (pc2 := 46) (v := .ref (q + 1)) fX0_9 dX0_outcome_43 cq (by omega) rfl rfl ?_
          refine r_iload_n (pc2 := 47) 3 dX0_outcome_46 rfl rfl rfl ?_
          refine r_iconst (pc2 := 48) (v := 1) dX0_outcome_47 (by decide) rfl ?_
          refine r_iand (pc2 := 49) dX0_outcome_48 rfl ?_
          refine r_cast (nI f) (and1 f hf) ?_
          refine r_ialdN (pc2 := 50) f dX0_outcome_49 csd (by omega) rfl (by omega) (by decide) rfl ?_
          refine r_cast (nI (ownS a st f)) (hff) ?_
          refine r_iand (pc2 := 51) dX0_outcome_50 rfl ?_
          refine r_cast (nI (dOp a x (ownS a st f))) (by rw [nI_and]; exact congrArg nI (dif_and0 (a 3) (by omega) _ (by omega) hol _ (by omega))) ?_
          refine r_if_eq (tgt := 64) (pc2 := 54) dX0_outcome_51 (by decide) rfl (fun b51 => ?_) (fun b51 => ?_)
          · exact absurd (nI_z0 (by have := dOp_lt (a := a) (s := x) (own := (ownS a st f)) (by omega); omega) b51) hop
          · skip
            refine r_aload_n (pc2 := 55) 0 dX0_outcome_54 rfl rfl rfl rfl ?_
            refine r_iload_n (pc2 := 56) 1 dX0_outcome_55 rfl rfl rfl ?_
            refine r_iload_n (pc2 := 57) 2 dX0_outcome_56 rfl rfl rfl ?_
            refine r_iload_n (pc2 := 58) 3 dX0_outcome_57 rfl rfl rfl ?_
            refine r_iload (pc2 := 60) 4 dX0_outcome_58 rfl rfl ?_
            refine r_callV1 (pc2 := 63) (As := [.int (nI (tws x)), .int (nI (x / 4096)), .int (nI f), .int (nI lv)]) (st := []) kX0_47 rfl rfl dX0_outcome_60 cq (by omega) rfl rfl (Nat.le_of_ble_eq_true rfl) (by omega) (ih x f lv (d - 1) _ kn hs hdz hf hop hrm hlv (by omega) hI) rfl (fun h hq60 => ?_)
            obtain ⟨kn2, hI2, hQ2⟩ := hq60
            exact r_iret rfl dX0_outcome_63 ⟨rfl, kn2, hI2, hQ2⟩
        · exact absurd (nI_le (b := 40) (by omega) (by decide)) b35
set_option maxRecDepth 20000 in
set_option maxHeartbeats 1000000 in
theorem d_byStep {E : EnvT} {Z : Nat → Prop} {reg : Nat → FR} {ns s sg kd : Nat} {a b : FR} {q st sp : Nat} {r : Nat} (hX : DCx Z reg ns s sg kd a b q st sp) (ho : OUT E Z reg ns s sg kd a b q st sp r) : STP E Z reg ns s sg kd a b q st sp r := by
  intro x f g lv d h9 kn hs hf hg hok hrm hlv hd hI
  obtain ⟨cq, ⟨fs, csd, hf0, hf1⟩, ckn, hKB, hKV, hL⟩ := id hI
  obtain ⟨hA, hst, hW, hst9, hsp⟩ := id hX
  have hq139 := hW.1
  have hqk := hW.2.1
  have hqs := hW.2.2 s hL.2.2.2.2.2.2.2.2.1
  have hG := hA.G
  have hC6 := hA.C
  have hk0 := hL.dv.k0
  have hzs := hL.dv.zs
  have hs64 := hL.dv.s64
  have hd9 := hs.dep
  have htl := hs.tl hC6
  have hcl := cst_lt hs hC6
  have hp16 := pw16 hG
  have hpl : pastN (a 1) x (a 3) < 2 ^ (a 3) := pastN_lt _ _ _
  obtain ⟨lo, so9, sa, nl, sl, cs⟩ := hL.dv.cs
  have hL9 := hL
  have hod := okS_dig hs hG hok
  have hg16 : 2 ^ g < 16 := Nat.pow_lt_pow_right (a := 2) (by decide) (show g < 4 by omega)
  have hts : SG a (nxS a x (2 ^ g)) := hs.next hG hC6 hok
  have ht9 := hts.dep
  have hdg := dgS_nxg hs hG hC6 hg hok
  have hdl := dgS_le hts
  by_cases hz2 : (nxS a x (2 ^ g)) / 4096 = 0
  · skip
    refine Cn.go (ls := [.ref q, .int (nI (tws x)), .int (nI (x / 4096)), .int (nI f), .int (nI g), .int (nI lv), .float 0]) (by decide +kernel) rfl (Nat.le_of_ble_eq_true rfl) ?_
    refine r_aload_n (pc2 := 1) 0 dX0_byStep_0 rfl rfl rfl rfl ?_
    refine r_getf (pc2 := 4) (v := .ref 82) fX0_19 dX0_byStep_1 cq (by omega) rfl rfl ?_
    refine r_iload_n (pc2 := 5) 1 dX0_byStep_4 rfl rfl rfl ?_
    refine r_iload_n (pc2 := 6) 2 dX0_byStep_5 rfl rfl rfl ?_
    refine r_iconst (pc2 := 7) (v := 1) dX0_byStep_6 (by decide) rfl ?_
    refine r_iload (pc2 := 9) 4 dX0_byStep_7 rfl rfl ?_
    refine r_ishl (pc2 := 10) dX0_byStep_9 rfl ?_
    refine r_cast (nI (2 ^ g)) (shl1 g (by omega)) ?_
    refine r_iconst (pc2 := 11) (v := 0) dX0_byStep_10 (by decide) rfl ?_
    refine r_callV1 (pc2 := 14) (As := [.int (nI (tws x)), .int (nI (x / 4096)), .int (nI (2 ^ g)), .int 0]) (st := []) kX0_51 rfl rfl dX0_byStep_11 hL.1.1 (by decide) rfl rfl (Nat.le_of_ble_eq_true rfl) (by omega) ((c_depthQ (a := a) (s := x) (sn := (2 ^ g)) (o := 0) hL hst hs.2.1 hd9 hg16 hod.1 (by omega) rfl rfl rfl rfl (by omega)).mono fun r h2 z => ⟨z.1.trans (by rw [show hourN a x (2 ^ g) 0 (a 27) / 4096 = ((nxS a x (2 ^ g)) / 4096) from (by rfl)]), z.2⟩) rfl (fun h hq11 => ?_)
    obtain ⟨hxd, hL⟩ := hq11
    have cq := hxd.get (by simp <;> omega) cq
    have csd := hxd.get (by simp <;> omega) csd
    have ckn := hxd.get (by simp <;> omega) ckn
    have cs := hxd.get (by simp <;> omega) cs
    have hQ := (GQ.rf (S := [q + 2]) (kd := kd) (h := h9)).dp hxd
    have hI := hI.ex hxd hW hL
    refine r_istore (pc2 := 16) (ls2 := [.ref q, .int (nI (tws x)), .int (nI (x / 4096)), .int (nI f), .int (nI g), .int (nI lv), .int (nI ((nxS a x (2 ^ g)) / 4096))]) 6 dX0_byStep_14 (by decide) rfl rfl rfl ?_
    refine r_iload (pc2 := 18) 6 dX0_byStep_16 rfl rfl ?_
    refine r_if_ne (tgt := 25) (pc2 := 21) dX0_byStep_18 (by decide) rfl (fun b18 => ?_) (fun b18 => ?_)
    · exact absurd (congrArg nI hz2) b18
    · skip
      refine r_iconst (pc2 := 22) (v := -1) dX0_byStep_21 (by decide) rfl ?_
      refine r_goto (pc2 := 47) dX0_byStep_22 (by decide) ?_
      exact r_iret rfl dX0_byStep_47 ⟨by unfold dBy; rw [if_pos hz2], kn, hI, hQ⟩
  · skip
    refine Cn.go (ls := [.ref q, .int (nI (tws x)), .int (nI (x / 4096)), .int (nI f), .int (nI g), .int (nI lv), .float 0]) (by decide +kernel) rfl (Nat.le_of_ble_eq_true rfl) ?_
    refine r_aload_n (pc2 := 1) 0 dX0_byStep_0 rfl rfl rfl rfl ?_
    refine r_getf (pc2 := 4) (v := .ref 82) fX0_19 dX0_byStep_1 cq (by omega) rfl rfl ?_
    refine r_iload_n (pc2 := 5) 1 dX0_byStep_4 rfl rfl rfl ?_
    refine r_iload_n (pc2 := 6) 2 dX0_byStep_5 rfl rfl rfl ?_
    refine r_iconst (pc2 := 7) (v := 1) dX0_byStep_6 (by decide) rfl ?_
    refine r_iload (pc2 := 9) 4 dX0_byStep_7 rfl rfl ?_
    refine r_ishl (pc2 := 10) dX0_byStep_9 rfl ?_
    refine r_cast (nI (2 ^ g)) (shl1 g (by omega)) ?_
    refine r_iconst (pc2 := 11) (v := 0) dX0_byStep_10 (by decide) rfl ?_
    refine r_callV1 (pc2 := 14) (As := [.int (nI (tws x)), .int (nI (x / 4096)), .int (nI (2 ^ g)), .int 0]) (st := []) kX0_51 rfl rfl dX0_byStep_11 hL.1.1 (by decide) rfl rfl (Nat.le_of_ble_eq_true rfl) (by omega) ((c_depthQ (a := a) (s := x) (sn := (2 ^ g)) (o := 0) hL hst hs.2.1 hd9 hg16 hod.1 (by omega) rfl rfl rfl rfl (by omega)).mono fun r h2 z => ⟨z.1.trans (by rw [show hourN a x (2 ^ g) 0 (a 27) / 4096 = ((nxS a x (2 ^ g)) / 4096) from (by rfl)]), z.2⟩) rfl (fun h hq11 => ?_)
    obtain ⟨hxd, hL⟩ := hq11
    have cq := hxd.get (by simp <;> omega) cq
    have csd := hxd.get (by simp <;> omega) csd
    have ckn := hxd.get (by simp <;> omega) ckn
    have cs := hxd.get (by simp <;> omega) cs
    have hQ := (GQ.rf (S := [q + 2]) (kd := kd) (h := h9)).dp hxd
    have hI := hI.ex hxd hW hL
    refine r_istore (pc2 := 16) (ls2 := [.ref q, .int (nI (tws x)), .int (nI (x / 4096)), .int (nI f), .int (nI g), .int (nI lv), .int (nI ((nxS a x (2 ^ g)) / 4096))]) 6 dX0_byStep_14 (by decide) rfl rfl rfl ?_
    refine r_iload (pc2 := 18) 6 dX0_byStep_16 rfl rfl ?_
    refine r_if_ne (tgt := 25) (pc2 := 21) dX0_byStep_18 (by decide) rfl (fun b18 => ?_) (fun b18 => ?_)
    · skip
      refine r_aload_n (pc2 := 26) 0 dX0_byStep_25 rfl rfl rfl rfl ?_
      refine r_iload_n (pc2 := 27) 1 dX0_byStep_26 rfl rfl rfl ?_
      refine r_sWt (pc2 := 30) (Or.inr ⟨_, qX0_64⟩) dX0_byStep_27 rfl ?_
      refine r_iload (pc2 := 32) 4 dX0_byStep_30 rfl rfl ?_
      refine r_wldN (pc2 := 33) g dX0_byStep_32 rfl (by omega) rfl ?_
      refine r_cast (nI (7 ^ g)) (xW7 g (by omega)) ?_
      refine r_iadd (pc2 := 34) dX0_byStep_33 rfl ?_
      refine r_cast (nI (tws (nxS a x (2 ^ g)))) (by rw [nI_add]; exact congrArg nI (by rw [show tws (nxS a x (2 ^ g)) = tws x + shK (2 ^ g) 4 from tws_hour hG hC6 hod.1 hok.1, shK_2 (by omega)])) ?_
      refine r_iload (pc2 := 36) 6 dX0_byStep_34 rfl rfl ?_
      refine r_iconst (pc2 := 37) (v := 1) dX0_byStep_36 (by decide) rfl ?_
      refine r_iload_n (pc2 := 38) 3 dX0_byStep_37 rfl rfl rfl ?_
      refine r_isub (pc2 := 39) dX0_byStep_38 rfl ?_
      refine r_cast (nI (1 - f)) (one_sub f hf) ?_
      refine r_iload (pc2 := 41) 5 dX0_byStep_39 rfl rfl ?_
      refine r_iconst (pc2 := 42) (v := 1) dX0_byStep_41 (by decide) rfl ?_
      refine r_iadd (pc2 := 43) dX0_byStep_42 rfl ?_
      refine r_cast (nI (lv + 1)) (nI_1 _) ?_
      refine r_callV1 (pc2 := 46) (As := [.int (nI (tws (nxS a x (2 ^ g)))), .int (nI ((nxS a x (2 ^ g)) / 4096)), .int (nI (1 - f)), .int (nI (lv + 1))]) (st := []) kX0_67 rfl rfl dX0_byStep_43 cq (by omega) rfl rfl (Nat.le_of_ble_eq_true rfl) (by omega) (ho (nxS a x (2 ^ g)) (1 - f) (lv + 1) (d - 1) _ kn hts hz2 (by omega) (by unfold rm9 at hrm ⊢; omega) (by unfold rm9 at hlv ⊢; omega) (by omega) hI) rfl (fun h hq43 => ?_)
      obtain ⟨kn2, hI2, hQ2⟩ := hq43
      refine r_ineg (pc2 := 47) dX0_byStep_46 rfl ?_
      exact r_iret rfl dX0_byStep_47 ⟨by unfold dBy; rw [if_neg hz2, ownS_o hG hf hst9], kn2, hI2, hQ.trans hQ2 hL9.dv.n⟩
    · exact absurd (nI_z0 (by omega) b18) hz2
