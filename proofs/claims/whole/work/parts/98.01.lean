/-! the class: clause -/
def ClR (W : Nat) (s : Int32 × Nat) (l : Nat) : Prop := (l = s.2 ∨ (s.2 = 268435456 ∧ l = W + 1)) ∧ l ≤ W + 1
theorem maxNN {c d : Nat} (hc : c < 2 ^ 31) (hd : d < 2 ^ 31) : (if nI c < nI d then nI d else nI c) = nI (max c d) := by
  by_cases w : c < d
  · rw [if_pos (nI_lt w hd), Nat.max_eq_right (by omega)]
  · rw [if_neg (nI_nlt (by omega) (by omega)), Nat.max_eq_left (by omega)]
theorem itsW_le {a : FR} {p q : Nat} : itsW a p q ≤ (WL a).length := by
  unfold itsW
  have := cntW_le (a := a) (o := nI p) (q := nI q)
  omega
theorem ClR.less {a : FR} {s : Int32 × Nat} {l p q : Nat} (h8 : a 4 ≤ 8) (x : ClR (WL a).length s l) (h : itsW a p q < l) : clS a s p q = (nI (10 * p + q), itsW a p q) ∧ ClR (WL a).length (clS a s p q) (itsW a p q) := by
  have := itsW_le (a := a) (p := p) (q := q)
  have := WL_len h8
  have e : clS a s p q = (nI (10 * p + q), itsW a p q) := by
    unfold clS
    rw [if_neg (by rcases x.1 with z | z <;> omega)]
  exact ⟨e, by rw [e]; exact ⟨Or.inl rfl, by omega⟩⟩
theorem ClR.more {a : FR} {s : Int32 × Nat} {l p q : Nat} (h8 : a 4 ≤ 8) (x : ClR (WL a).length s l) (h : ¬ itsW a p q < l) : clS a s p q = s := by
  have := itsW_le (a := a) (p := p) (q := q)
  have := WL_len h8
  unfold clS
  rw [if_pos (by rcases x.1 with z | z <;> omega)]
set_option maxRecDepth 20000 in
set_option maxHeartbeats 1000000 in
theorem cl_clause {E : EnvT} {d : Nat} {h0 : Hp} {ns s w1 w2 : Nat} {wk dt : Value} {Z : Nat → Prop} {reg : Nat → FR} {sg kd : Nat} {a b : FR} (hN : NW h0 s ns w1 w2 wk dt a) (hD : DV Z h0 reg ns s sg kd b) (hA : AIN a) (hst : Stat a b) (hY : MY h0) (hd : 14 ≤ d) : Cn E mX9_clause d [.ref 64] h0 (fun r h2 => r = some (.int (clauseF a)) ∧ Ex XS h0 h2 ∧ MY h2) := by
  obtain ⟨c64, c76, h77, hM⟩ := id hN
  obtain ⟨hL, hS, hZ, hb, hreg, hsg, hns, hn, zs⟩ := id hD
  have hs64 := (hZ.zl s zs).1
  obtain ⟨lo, so, sa, nl, sl, _, cs, _⟩ := id hS
  have st4 : a 4 = b 4 := hst 4 (by omega)
  have ha := hA.hb
  have h8 := ha.1
  have hWl := WL_len ha.1
  by_cases he : WL a = []
  · skip
    refine Cn.go (ls := [.ref 64, .float 0, .float 0, .float 0, .float 0, .float 0, .float 0, .float 0]) (by decide +kernel) rfl (Nat.le_of_ble_eq_true rfl) ?_
    refine r_aload_n (pc2 := 1) 0 dX9_clause_0 rfl rfl rfl rfl ?_
    refine r_callV1 (pc2 := 4) (As := []) (st := []) kX9_203 rfl rfl dX9_clause_1 c64 (by decide) rfl rfl (Nat.le_of_ble_eq_true rfl) (by omega) (c_learnSays hN hD hA hst hY (by omega)) rfl (fun h hq1 => ?_)
    obtain ⟨hxl, hSY⟩ := hq1
    have c64 := hxl.get (by decide) c64
    have cs := hxl.get (by have := hZ s zs; simp; omega) cs
    obtain ⟨f, pa, tg, ⟨c90, c91, c92, c93⟩, hf, ht0, htg⟩ := id hSY
    refine r_astore_n (pc2 := 5) (ls2 := [.ref 64, .ref 90, .float 0, .float 0, .float 0, .float 0, .float 0, .float 0]) 1 dX9_clause_4 rfl (by decide) rfl rfl rfl rfl ?_
    refine r_aload_n (pc2 := 6) 1 dX9_clause_5 rfl rfl rfl rfl ?_
    refine r_getf (pc2 := 9) (v := .int (nI (WL a).length)) fX9_207 dX9_clause_6 c90 (by decide) rfl rfl ?_
    refine r_if_ne (tgt := 14) (pc2 := 12) dX9_clause_9 (by decide) rfl (fun b9 => ?_) (fun b9 => ?_)
    · exact absurd (by rw [he]; rfl) b9
    · skip
      refine r_iconst (pc2 := 13) (v := -1) dX9_clause_12 (by decide) rfl ?_
      exact r_iret rfl dX9_clause_13 ⟨by unfold clauseF; rw [if_pos he], hxl, Or.inr ⟨a, ha, hSY⟩⟩
  · have loop : ∀ (h : Hp) (f pa tg : Nat → Int32), Ex XS h0 h → SYd a h → h.1 64 = some (.inr (9, coL s ns (a 45) w1 w2 wk dt)) → h.1 s = some (.inr (6, stL sg b lo so sa nl sl)) → SYq a (a 4) h (WL a).length f pa tg → (∀ p q, p < a 4 → q < a 4 → p ≠ q → tg (8 * p + q) = nI (cntW a (nI p) (nI q))) → ∀ (i p : Nat) (s9 : Int32 × Nat) (l : Nat) (u5 u6 u7 : Value), p + i = a 4 → ClR (WL a).length s9 l → clauseF a = (clI a i p s9).1 → Fr E mX9_clause d 26 [.ref 64, .ref 90, .int s9.1, .int (nI l), .int (nI p), u5, u6, u7] [] h (fun r h2 => r = some (.int (clauseF a)) ∧ Ex XS h0 h2 ∧ MY h2) := by
      intro h f pa tg hxl hSY c64 cs hQ htg i
      obtain ⟨c90, c91, c92, c93⟩ := hQ
      induction i with
      | zero =>
        intro p s9 l u5 u6 u7 hp hR hT
        refine r_iload (pc2 := 28) 4 dX9_clause_26 rfl rfl ?_
        refine r_aload_n (pc2 := 29) 0 dX9_clause_28 rfl rfl rfl rfl ?_
        refine r_getf (pc2 := 32) (v := .ref s) fX9_21 dX9_clause_29 c64 (by decide) rfl rfl ?_
        refine r_getf (pc2 := 35) (v := .int (nI (b 4))) fX9_177 dX9_clause_32 cs hs64 rfl rfl ?_
        refine r_cast (nI (a 4)) (by rw [st4]) ?_
        refine r_icmp_ge (tgt := 110) (pc2 := 38) dX9_clause_35 (by decide) rfl (fun b35 => ?_) (fun b35 => ?_)
        · skip
          refine r_iload_n (pc2 := 111) 2 dX9_clause_110 rfl rfl rfl ?_
          exact r_iret rfl dX9_clause_111 ⟨by rw [hT]; rfl, hxl, Or.inr ⟨a, ha, hSY⟩⟩
        · exact absurd (nI_le (by omega) (by omega)) b35
      | succ i ih =>
        intro p s9 l u5 u6 u7 hp hR hT
        have inner : ∀ (j q : Nat) (s9 : Int32 × Nat) (l : Nat) (u6 u7 : Value), q + j = a 4 → p < q → ClR (WL a).length s9 l → clauseF a = (clI a i (p + 1) (clJ a p j q s9)).1 → Fr E mX9_clause d 44 [.ref 64, .ref 90, .int s9.1, .int (nI l), .int (nI p), .int (nI q), u6, u7] [] h (fun r h2 => r = some (.int (clauseF a)) ∧ Ex XS h0 h2 ∧ MY h2) := by
          intro j
          induction j with
          | zero =>
            intro q s9 l u6 u7 hq hpq hR hT
            refine r_iload (pc2 := 46) 5 dX9_clause_44 rfl rfl ?_
            refine r_aload_n (pc2 := 47) 0 dX9_clause_46 rfl rfl rfl rfl ?_
            refine r_getf (pc2 := 50) (v := .ref s) fX9_21 dX9_clause_47 c64 (by decide) rfl rfl ?_
            refine r_getf (pc2 := 53) (v := .int (nI (b 4))) fX9_177 dX9_clause_50 cs hs64 rfl rfl ?_
            refine r_cast (nI (a 4)) (by rw [st4]) ?_
            refine r_icmp_ge (tgt := 104) (pc2 := 56) dX9_clause_53 (by decide) rfl (fun b53 => ?_) (fun b53 => ?_)
            · skip
              obtain ⟨x104, e104⟩ : ∃ z : Int32, z = (nI p) + (1) := ⟨_, rfl⟩
              refine r_iinc (pc2 := 107) (ls2 := [.ref 64, .ref 90, .int s9.1, .int (nI l), .int x104, .int (nI q), u6, u7]) (v := x104) 4 dX9_clause_104 rfl (by rw [e104]; rfl) rfl rfl rfl ?_
              refine r_goto (pc2 := 26) dX9_clause_107 (by decide) ?_
              rw [e104, nI_1]
              exact ih (p + 1) s9 l _ _ _ (by omega) hR hT
            · exact absurd (nI_le (by omega) (by omega)) b53
          | succ j ih2 =>
            intro q s9 l u6 u7 hq hpq hR hT
            have hcl : cntW a (nI p) (nI q) ≤ (WL a).length := cntW_le
            have hil : itsW a p q ≤ (WL a).length := itsW_le
            have hlW := hR.2
            by_cases hl : itsW a p q < l
            · skip
              refine r_iload (pc2 := 46) 5 dX9_clause_44 rfl rfl ?_
              refine r_aload_n (pc2 := 47) 0 dX9_clause_46 rfl rfl rfl rfl ?_
              refine r_getf (pc2 := 50) (v := .ref s) fX9_21 dX9_clause_47 c64 (by decide) rfl rfl ?_
              refine r_getf (pc2 := 53) (v := .int (nI (b 4))) fX9_177 dX9_clause_50 cs hs64 rfl rfl ?_
              refine r_cast (nI (a 4)) (by rw [st4]) ?_
              refine r_icmp_ge (tgt := 104) (pc2 := 56) dX9_clause_53 (by decide) rfl (fun b53 => ?_) (fun b53 => ?_)
              · exact absurd b53 (nI_ge (by omega) (by omega))
              · skip
                refine r_aload_n (pc2 := 57) 1 dX9_clause_56 rfl rfl rfl rfl ?_
                refine r_iload (pc2 := 59) 4 dX9_clause_57 rfl rfl ?_
                refine r_iload (pc2 := 61) 5 dX9_clause_59 rfl rfl ?_
                refine r_callV1 (pc2 := 64) (As := [.int (nI p), .int (nI q)]) (st := []) kX9_298 rfl rfl dX9_clause_61 c90 (by decide) rfl rfl (Nat.le_of_ble_eq_true rfl) (by omega) ((c_waysWith (p := p) (q := q) c90 c93 (by omega) (by omega)).mono fun r h2 z => ⟨z.1.trans (by rw [htg p q (by omega) (by omega) (by omega)]), z.2⟩) rfl (fun h2 hq61 => ?_)
                subst hq61
                refine r_istore (pc2 := 66) (ls2 := [.ref 64, .ref 90, .int s9.1, .int (nI l), .int (nI p), .int (nI q), .int (nI (cntW a (nI p) (nI q))), u7]) 6 dX9_clause_64 (by decide) rfl rfl rfl ?_
                refine r_iload (pc2 := 68) 6 dX9_clause_66 rfl rfl ?_
                refine r_aload_n (pc2 := 69) 1 dX9_clause_68 rfl rfl rfl rfl ?_
                refine r_getf (pc2 := 72) (v := .int (nI (WL a).length)) fX9_207 dX9_clause_69 c90 (by decide) rfl rfl ?_
                refine r_iload (pc2 := 74) 6 dX9_clause_72 rfl rfl ?_
                refine r_isub (pc2 := 75) dX9_clause_74 rfl ?_
                refine r_cast (nI ((WL a).length - cntW a (nI p) (nI q))) (pk_sub hcl) ?_
                refine r_callS1 (pc2 := 78) (As := [.int (nI (cntW a (nI p) (nI q))), .int (nI ((WL a).length - cntW a (nI p) (nI q)))]) (st := []) kX9_305 dX9_clause_75 rfl rfl (Nat.le_of_ble_eq_true rfl) (by omega) ((c_max _ _).mono fun r h2 z => ⟨z.1.trans (by rw [maxNN (by omega) (by omega)]), z.2⟩) rfl (fun h2 hq75 => ?_)
                subst hq75
                refine r_istore (pc2 := 80) (ls2 := [.ref 64, .ref 90, .int s9.1, .int (nI l), .int (nI p), .int (nI q), .int (nI (cntW a (nI p) (nI q))), .int (nI (itsW a p q))]) 7 dX9_clause_78 (by decide) rfl rfl rfl ?_
                refine r_iload (pc2 := 82) 7 dX9_clause_80 rfl rfl ?_
                refine r_iload_n (pc2 := 83) 3 dX9_clause_82 rfl rfl rfl ?_
                refine r_icmp_ge (tgt := 98) (pc2 := 86) dX9_clause_83 (by decide) rfl (fun b83 => ?_) (fun b83 => ?_)
                · exact absurd b83 (nI_ge hl (by omega))
                · skip
                  refine r_iload (pc2 := 88) 7 dX9_clause_86 rfl rfl ?_
                  refine r_istore_n (pc2 := 89) (ls2 := [.ref 64, .ref 90, .int s9.1, .int (nI (itsW a p q)), .int (nI p), .int (nI q), .int (nI (cntW a (nI p) (nI q))), .int (nI (itsW a p q))]) 3 dX9_clause_88 rfl (by decide) rfl rfl rfl ?_
                  refine r_bipush (pc2 := 91) (v := 10) dX9_clause_89 (by decide) rfl ?_
                  refine r_iload (pc2 := 93) 4 dX9_clause_91 rfl rfl ?_
                  refine r_imul (pc2 := 94) dX9_clause_93 rfl ?_
                  refine r_cast (nI (10 * p)) (pk_mul 10 _) ?_
                  refine r_iload (pc2 := 96) 5 dX9_clause_94 rfl rfl ?_
                  refine r_iadd (pc2 := 97) dX9_clause_96 rfl ?_
                  refine r_cast (nI (10 * p + q)) (nI_add _ _) ?_
                  refine r_istore_n (pc2 := 98) (ls2 := [.ref 64, .ref 90, .int (nI (10 * p + q)), .int (nI (itsW a p q)), .int (nI p), .int (nI q), .int (nI (cntW a (nI p) (nI q))), .int (nI (itsW a p q))]) 2 dX9_clause_97 rfl (by decide) rfl rfl rfl ?_
                  obtain ⟨x98, e98⟩ : ∃ z : Int32, z = (nI q) + (1) := ⟨_, rfl⟩
                  refine r_iinc (pc2 := 101) (ls2 := [.ref 64, .ref 90, .int (nI (10 * p + q)), .int (nI (itsW a p q)), .int (nI p), .int x98, .int (nI (cntW a (nI p) (nI q))), .int (nI (itsW a p q))]) (v := x98) 5 dX9_clause_98 rfl (by rw [e98]; rfl) rfl rfl rfl ?_
                  refine r_goto (pc2 := 44) dX9_clause_101 (by decide) ?_
                  rw [e98, nI_1]
                  have e9 := hR.less (p := p) (q := q) ha.1 hl
                  have g9 := ih2 (q + 1) (clS a s9 p q) (itsW a p q) (.int (nI (cntW a (nI p) (nI q)))) (.int (nI (itsW a p q))) (by omega) (by omega) e9.2 hT
                  rw [e9.1] at g9
                  exact g9
            · skip
              refine r_iload (pc2 := 46) 5 dX9_clause_44 rfl rfl ?_
              refine r_aload_n (pc2 := 47) 0 dX9_clause_46 rfl rfl rfl rfl ?_
              refine r_getf (pc2 := 50) (v := .ref s) fX9_21 dX9_clause_47 c64 (by decide) rfl rfl ?_
              refine r_getf (pc2 := 53) (v := .int (nI (b 4))) fX9_177 dX9_clause_50 cs hs64 rfl rfl ?_
              refine r_cast (nI (a 4)) (by rw [st4]) ?_
              refine r_icmp_ge (tgt := 104) (pc2 := 56) dX9_clause_53 (by decide) rfl (fun b53 => ?_) (fun b53 => ?_)
              · exact absurd b53 (nI_ge (by omega) (by omega))
              · skip
                refine r_aload_n (pc2 := 57) 1 dX9_clause_56 rfl rfl rfl rfl ?_
                refine r_iload (pc2 := 59) 4 dX9_clause_57 rfl rfl ?_
                refine r_iload (pc2 := 61) 5 dX9_clause_59 rfl rfl ?_
                refine r_callV1 (pc2 := 64) (As := [.int (nI p), .int (nI q)]) (st := []) kX9_298 rfl rfl dX9_clause_61 c90 (by decide) rfl rfl (Nat.le_of_ble_eq_true rfl) (by omega) ((c_waysWith (p := p) (q := q) c90 c93 (by omega) (by omega)).mono fun r h2 z => ⟨z.1.trans (by rw [htg p q (by omega) (by omega) (by omega)]), z.2⟩) rfl (fun h2 hq61 => ?_)
                subst hq61
                refine r_istore (pc2 := 66) (ls2 := [.ref 64, .ref 90, .int s9.1, .int (nI l), .int (nI p), .int (nI q), .int (nI (cntW a (nI p) (nI q))), u7]) 6 dX9_clause_64 (by decide) rfl rfl rfl ?_
                refine r_iload (pc2 := 68) 6 dX9_clause_66 rfl rfl ?_
                refine r_aload_n (pc2 := 69) 1 dX9_clause_68 rfl rfl rfl rfl ?_
                refine r_getf (pc2 := 72) (v := .int (nI (WL a).length)) fX9_207 dX9_clause_69 c90 (by decide) rfl rfl ?_
                refine r_iload (pc2 := 74) 6 dX9_clause_72 rfl rfl ?_
                refine r_isub (pc2 := 75) dX9_clause_74 rfl ?_
                refine r_cast (nI ((WL a).length - cntW a (nI p) (nI q))) (pk_sub hcl) ?_
                refine r_callS1 (pc2 := 78) (As := [.int (nI (cntW a (nI p) (nI q))), .int (nI ((WL a).length - cntW a (nI p) (nI q)))]) (st := []) kX9_305 dX9_clause_75 rfl rfl (Nat.le_of_ble_eq_true rfl) (by omega) ((c_max _ _).mono fun r h2 z => ⟨z.1.trans (by rw [maxNN (by omega) (by omega)]), z.2⟩) rfl (fun h2 hq75 => ?_)
                subst hq75
                refine r_istore (pc2 := 80) (ls2 := [.ref 64, .ref 90, .int s9.1, .int (nI l), .int (nI p), .int (nI q), .int (nI (cntW a (nI p) (nI q))), .int (nI (itsW a p q))]) 7 dX9_clause_78 (by decide) rfl rfl rfl ?_
                refine r_iload (pc2 := 82) 7 dX9_clause_80 rfl rfl ?_
                refine r_iload_n (pc2 := 83) 3 dX9_clause_82 rfl rfl rfl ?_
                refine r_icmp_ge (tgt := 98) (pc2 := 86) dX9_clause_83 (by decide) rfl (fun b83 => ?_) (fun b83 => ?_)
                · skip
                  obtain ⟨x98, e98⟩ : ∃ z : Int32, z = (nI q) + (1) := ⟨_, rfl⟩
                  refine r_iinc (pc2 := 101) (ls2 := [.ref 64, .ref 90, .int s9.1, .int (nI l), .int (nI p), .int x98, .int (nI (cntW a (nI p) (nI q))), .int (nI (itsW a p q))]) (v := x98) 5 dX9_clause_98 rfl (by rw [e98]; rfl) rfl rfl rfl ?_
                  refine r_goto (pc2 := 44) dX9_clause_101 (by decide) ?_
                  rw [e98, nI_1]
                  exact ih2 (q + 1) s9 l _ _ (by omega) (by omega) hR (by rw [hT, clJ, hR.more ha.1 hl])
                · exact absurd (nI_le (by omega) (by omega)) b83
        refine r_iload (pc2 := 28) 4 dX9_clause_26 rfl rfl ?_
        refine r_aload_n (pc2 := 29) 0 dX9_clause_28 rfl rfl rfl rfl ?_
        refine r_getf (pc2 := 32) (v := .ref s) fX9_21 dX9_clause_29 c64 (by decide) rfl rfl ?_
        refine r_getf (pc2 := 35) (v := .int (nI (b 4))) fX9_177 dX9_clause_32 cs hs64 rfl rfl ?_
        refine r_cast (nI (a 4)) (by rw [st4]) ?_
        refine r_icmp_ge (tgt := 110) (pc2 := 38) dX9_clause_35 (by decide) rfl (fun b35 => ?_) (fun b35 => ?_)
        · exact absurd b35 (nI_ge (by omega) (by omega))
        · skip
          refine r_iload (pc2 := 40) 4 dX9_clause_38 rfl rfl ?_
          refine r_iconst (pc2 := 41) (v := 1) dX9_clause_40 (by decide) rfl ?_
          refine r_iadd (pc2 := 42) dX9_clause_41 rfl ?_
          refine r_cast (nI (p + 1)) (nI_1 p) ?_
          refine r_istore (pc2 := 44) (ls2 := [.ref 64, .ref 90, .int s9.1, .int (nI l), .int (nI p), .int (nI (p + 1)), u6, u7]) 5 dX9_clause_42 (by decide) rfl rfl rfl ?_
          exact inner i (p + 1) s9 l _ _ (by omega) (by omega) hR hT
    refine Cn.go (ls := [.ref 64, .float 0, .float 0, .float 0, .float 0, .float 0, .float 0, .float 0]) (by decide +kernel) rfl (Nat.le_of_ble_eq_true rfl) ?_
    refine r_aload_n (pc2 := 1) 0 dX9_clause_0 rfl rfl rfl rfl ?_
    refine r_callV1 (pc2 := 4) (As := []) (st := []) kX9_203 rfl rfl dX9_clause_1 c64 (by decide) rfl rfl (Nat.le_of_ble_eq_true rfl) (by omega) (c_learnSays hN hD hA hst hY (by omega)) rfl (fun h hq1 => ?_)
    obtain ⟨hxl, hSY⟩ := hq1
    have c64 := hxl.get (by decide) c64
    have cs := hxl.get (by have := hZ s zs; simp; omega) cs
    obtain ⟨f, pa, tg, ⟨c90, c91, c92, c93⟩, hf, ht0, htg⟩ := id hSY
    refine r_astore_n (pc2 := 5) (ls2 := [.ref 64, .ref 90, .float 0, .float 0, .float 0, .float 0, .float 0, .float 0]) 1 dX9_clause_4 rfl (by decide) rfl rfl rfl rfl ?_
    refine r_aload_n (pc2 := 6) 1 dX9_clause_5 rfl rfl rfl rfl ?_
    refine r_getf (pc2 := 9) (v := .int (nI (WL a).length)) fX9_207 dX9_clause_6 c90 (by decide) rfl rfl ?_
    refine r_if_ne (tgt := 14) (pc2 := 12) dX9_clause_9 (by decide) rfl (fun b9 => ?_) (fun b9 => ?_)
    · skip
      refine r_iconst (pc2 := 15) (v := -1) dX9_clause_14 (by decide) rfl ?_
      refine r_istore_n (pc2 := 16) (ls2 := [.ref 64, .ref 90, .int (-1), .float 0, .float 0, .float 0, .float 0, .float 0]) 2 dX9_clause_15 rfl (by decide) rfl rfl rfl ?_
      refine r_aload_n (pc2 := 17) 1 dX9_clause_16 rfl rfl rfl rfl ?_
      refine r_getf (pc2 := 20) (v := .int (nI (WL a).length)) fX9_207 dX9_clause_17 c90 (by decide) rfl rfl ?_
      refine r_iconst (pc2 := 21) (v := 1) dX9_clause_20 (by decide) rfl ?_
      refine r_iadd (pc2 := 22) dX9_clause_21 rfl ?_
      refine r_cast (nI ((WL a).length + 1)) (nI_1 _) ?_
      refine r_istore_n (pc2 := 23) (ls2 := [.ref 64, .ref 90, .int (-1), .int (nI ((WL a).length + 1)), .float 0, .float 0, .float 0, .float 0]) 3 dX9_clause_22 rfl (by decide) rfl rfl rfl ?_
      refine r_iconst (pc2 := 24) (v := 0) dX9_clause_23 (by decide) rfl ?_
      refine r_cast (nI 0) (rfl) ?_
      refine r_istore (pc2 := 26) (ls2 := [.ref 64, .ref 90, .int (-1), .int (nI ((WL a).length + 1)), .int (nI 0), .float 0, .float 0, .float 0]) 4 dX9_clause_24 (by decide) rfl rfl rfl ?_
      exact loop h f pa tg hxl hSY c64 cs ⟨c90, c91, c92, c93⟩ htg (a 4) 0 (-1, 268435456) _ _ _ _ (by omega) ⟨Or.inr ⟨rfl, rfl⟩, Nat.le_refl _⟩ (by unfold clauseF; rw [if_neg he])
    · exact absurd (List.length_eq_zero_iff.mp ((nI_eq (b := 0) (by have := WL_len ha.1; omega) (by decide)).mp b9)) he
