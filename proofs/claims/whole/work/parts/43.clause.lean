/-! clause -/
def itsW (a : Nat → Nat) (p q : Nat) : Nat := max (cntW a (nI p) (nI q)) ((WL a).length - cntW a (nI p) (nI q))
def clS (a : Nat → Nat) (s : Int32 × Nat) (p q : Nat) : Int32 × Nat := if s.2 ≤ itsW a p q then s else (nI (10 * p + q), itsW a p q)
def clJ (a : Nat → Nat) (p : Nat) : Nat → Nat → Int32 × Nat → Int32 × Nat
  | 0, _, s => s
  | i + 1, j, s => clJ a p i (j + 1) (clS a s p j)
def clI (a : Nat → Nat) : Nat → Nat → Int32 × Nat → Int32 × Nat
  | 0, _, s => s
  | i + 1, p, s => clI a i (p + 1) (clJ a p i (p + 1) s)
def clauseF (a : Nat → Nat) : Int32 := if WL a = [] then -1 else (clI a (a 4) 0 (-1, 268435456)).1
set_option maxRecDepth 20000 in
set_option maxHeartbeats 1000000 in
theorem ref_clause {E : EnvT} {d : Nat} {h0 : Hp} {v : Nat → Int32} {a : Nat → Nat} {hi : Nat → Int32} {tp : Nat → Nat} {rs rm : Nat → Int32} {nu : Nat → Int64} (hR : RS h0 v a hi tp rs rm nu) (hA : AIN a) (hd : 20 ≤ d) : Cn E mX10_clause d [.ref 117] h0 (RP (.int (clauseF a)) h0 v a hi tp rs rm nu) := by
  obtain ⟨k117, k118, k119, k120, ⟨f121, k121⟩, ⟨f122, k122⟩, ⟨f123, k123⟩, ⟨f124, k124⟩, ⟨f125, k125⟩, ⟨f126, k126⟩, ⟨f127, k127⟩, ⟨f128, k128⟩, ⟨f129, k129⟩, ⟨f130, k130⟩, ⟨f131, k131⟩, ⟨f132, k132⟩, ⟨f133, k133⟩, ⟨f134, k134⟩, ⟨f135, k135⟩, k136, k137, k138⟩ := hR
  have c117 := k117
  have c118 := k118
  have c131 := k131
  have c132 := k132
  have c133 := k133
  have hx : Ex [117, 118, 131, 132, 133] h0 h0 := Ex.rf
  have hP := hA.P
  have hln := WL_len hP
  by_cases hL : WL a = []
  · have loop : ∀ (m p : Nat) (u4 u5 : Value) (v1 f1 f2 f3 : Nat → Int32) (h1 : Hp), p + m = a 4 → VK v v1 → Ex [117, 118, 131, 132, 133] h0 h1 → h1.1 117 = some (mO v1) → h1.1 118 = some (aI 3531 (nA a)) → h1.1 131 = some (aI 8 f1) → h1.1 132 = some (aI 8 f2) → h1.1 133 = some (aI 8 f3) → Fr E mX10_clause d 13 [.ref 117, .int (-1), .int 268435456, .int (nI p), u4, u5] [] h1 (RP (.int (clauseF a)) h0 v a hi tp rs rm nu) := by
      intro m
      induction m with
      | zero =>
        intro p u4 u5 v1 f1 f2 f3 h hp hv1 hx c117 c118 c131 c132 c133
        obtain rfl : p = a 4 := by omega
        refine r_iload_n (pc2 := 14) 3 dX10_clause_13 rfl rfl rfl ?_
        refine r_aload_n (pc2 := 15) 0 dX10_clause_14 rfl rfl rfl rfl ?_
        refine r_getf (pc2 := 18) (v := .ref 118) fX10_13 dX10_clause_15 c117 (by decide) rfl rfl ?_
        refine r_iconst (pc2 := 19) (v := 4) dX10_clause_18 (by decide) rfl ?_
        refine r_ialdA (pc2 := 20) 4 dX10_clause_19 c118 (by decide) rfl (by decide) (by decide) rfl ?_
        refine r_icmp_ge (tgt := 117) (pc2 := 23) dX10_clause_20 (by decide) rfl (fun b20 => ?_) (fun b20 => ?_)
        · skip
          refine r_iload_n (pc2 := 118) 1 dX10_clause_117 rfl rfl rfl ?_
          exact r_iret rfl dX10_clause_118 ⟨by rw [clauseF, if_pos hL], v1, ⟨hv1.1, hv1.2.1, hv1.2.2⟩, ⟨c117, c118, hx.get (by decide) k119, hx.get (by decide) k120, ⟨_, hx.get (by decide) k121⟩, ⟨_, hx.get (by decide) k122⟩, ⟨_, hx.get (by decide) k123⟩, ⟨_, hx.get (by decide) k124⟩, ⟨_, hx.get (by decide) k125⟩, ⟨_, hx.get (by decide) k126⟩, ⟨_, hx.get (by decide) k127⟩, ⟨_, hx.get (by decide) k128⟩, ⟨_, hx.get (by decide) k129⟩, ⟨_, hx.get (by decide) k130⟩, ⟨_, c131⟩, ⟨_, c132⟩, ⟨_, c133⟩, ⟨_, hx.get (by decide) k134⟩, ⟨_, hx.get (by decide) k135⟩, hx.get (by decide) k136, hx.get (by decide) k137, hx.get (by decide) k138⟩, hx.mono (by decide)⟩
        · exact absurd (nI_le (Nat.le_refl _) (by omega)) b20
      | succ m ih =>
        intro p u4 u5 v1 f1 f2 f3 h hp hv1 hx c117 c118 c131 c132 c133
        have hlt : p < a 4 := by omega
        by_cases hp1 : p + 1 < a 4
        · skip
          refine r_iload_n (pc2 := 14) 3 dX10_clause_13 rfl rfl rfl ?_
          refine r_aload_n (pc2 := 15) 0 dX10_clause_14 rfl rfl rfl rfl ?_
          refine r_getf (pc2 := 18) (v := .ref 118) fX10_13 dX10_clause_15 c117 (by decide) rfl rfl ?_
          refine r_iconst (pc2 := 19) (v := 4) dX10_clause_18 (by decide) rfl ?_
          refine r_ialdA (pc2 := 20) 4 dX10_clause_19 c118 (by decide) rfl (by decide) (by decide) rfl ?_
          refine r_icmp_ge (tgt := 117) (pc2 := 23) dX10_clause_20 (by decide) rfl (fun b20 => ?_) (fun b20 => ?_)
          · exact absurd b20 (nI_ge hlt (by omega))
          · skip
            refine r_iload_n (pc2 := 24) 3 dX10_clause_23 rfl rfl rfl ?_
            refine r_iconst (pc2 := 25) (v := 1) dX10_clause_24 (by decide) rfl ?_
            refine r_iadd (pc2 := 26) dX10_clause_25 rfl ?_
            refine r_cast (nI (p + 1)) (nI_1 _) ?_
            refine r_istore (pc2 := 28) (ls2 := [.ref 117, .int (-1), .int 268435456, .int (nI p), .int (nI (p + 1)), u5]) 4 dX10_clause_26 (by decide) rfl rfl rfl ?_
            refine r_iload (pc2 := 30) 4 dX10_clause_28 rfl rfl ?_
            refine r_aload_n (pc2 := 31) 0 dX10_clause_30 rfl rfl rfl rfl ?_
            refine r_getf (pc2 := 34) (v := .ref 118) fX10_13 dX10_clause_31 c117 (by decide) rfl rfl ?_
            refine r_iconst (pc2 := 35) (v := 4) dX10_clause_34 (by decide) rfl ?_
            refine r_ialdA (pc2 := 36) 4 dX10_clause_35 c118 (by decide) rfl (by decide) (by decide) rfl ?_
            refine r_icmp_ge (tgt := 111) (pc2 := 39) dX10_clause_36 (by decide) rfl (fun b36 => ?_) (fun b36 => ?_)
            · exact absurd b36 (nI_ge hp1 (by omega))
            · skip
              refine r_aload_n (pc2 := 40) 0 dX10_clause_39 rfl rfl rfl rfl ?_
              refine r_iload_n (pc2 := 41) 3 dX10_clause_40 rfl rfl rfl ?_
              refine r_iload (pc2 := 43) 4 dX10_clause_41 rfl rfl ?_
              refine r_callV1 (pc2 := 46) (As := [.int (nI p), .int (nI (p + 1))]) (st := []) kX10_294 rfl rfl dX10_clause_43 c117 (by decide) rfl rfl (Nat.le_of_ble_eq_true rfl) (by omega) (c_laysWays c117 c118 c131 c132 c133 (Or.inr ⟨_, by omega, rfl⟩) hA.P hA.bd hA.ub (by omega)) rfl (fun h hq43 => ?_)
              obtain ⟨hxl, c117, ⟨f1, c131⟩, ⟨f2, c132, hf2⟩, f3, c133, hf3⟩ := hq43
              have c118 := hxl.get (by decide) c118
              have hx := hx.trans hxl (by decide)
              refine r_if_ne (tgt := 51) (pc2 := 49) dX10_clause_46 (by decide) rfl (fun b46 => ?_) (fun b46 => ?_)
              · exact absurd (by rw [hL]; rfl) b46
              · skip
                refine r_iconst (pc2 := 50) (v := -1) dX10_clause_49 (by decide) rfl ?_
                exact r_iret rfl dX10_clause_50 ⟨by rw [clauseF, if_pos hL], (wvv v1 a (nI p) (nI (p + 1))), ⟨hv1.1, hv1.2.1, hv1.2.2⟩, ⟨c117, c118, hx.get (by decide) k119, hx.get (by decide) k120, ⟨_, hx.get (by decide) k121⟩, ⟨_, hx.get (by decide) k122⟩, ⟨_, hx.get (by decide) k123⟩, ⟨_, hx.get (by decide) k124⟩, ⟨_, hx.get (by decide) k125⟩, ⟨_, hx.get (by decide) k126⟩, ⟨_, hx.get (by decide) k127⟩, ⟨_, hx.get (by decide) k128⟩, ⟨_, hx.get (by decide) k129⟩, ⟨_, hx.get (by decide) k130⟩, ⟨_, c131⟩, ⟨_, c132⟩, ⟨_, c133⟩, ⟨_, hx.get (by decide) k134⟩, ⟨_, hx.get (by decide) k135⟩, hx.get (by decide) k136, hx.get (by decide) k137, hx.get (by decide) k138⟩, hx.mono (by decide)⟩
        · skip
          refine r_iload_n (pc2 := 14) 3 dX10_clause_13 rfl rfl rfl ?_
          refine r_aload_n (pc2 := 15) 0 dX10_clause_14 rfl rfl rfl rfl ?_
          refine r_getf (pc2 := 18) (v := .ref 118) fX10_13 dX10_clause_15 c117 (by decide) rfl rfl ?_
          refine r_iconst (pc2 := 19) (v := 4) dX10_clause_18 (by decide) rfl ?_
          refine r_ialdA (pc2 := 20) 4 dX10_clause_19 c118 (by decide) rfl (by decide) (by decide) rfl ?_
          refine r_icmp_ge (tgt := 117) (pc2 := 23) dX10_clause_20 (by decide) rfl (fun b20 => ?_) (fun b20 => ?_)
          · exact absurd b20 (nI_ge hlt (by omega))
          · skip
            refine r_iload_n (pc2 := 24) 3 dX10_clause_23 rfl rfl rfl ?_
            refine r_iconst (pc2 := 25) (v := 1) dX10_clause_24 (by decide) rfl ?_
            refine r_iadd (pc2 := 26) dX10_clause_25 rfl ?_
            refine r_cast (nI (p + 1)) (nI_1 _) ?_
            refine r_istore (pc2 := 28) (ls2 := [.ref 117, .int (-1), .int 268435456, .int (nI p), .int (nI (p + 1)), u5]) 4 dX10_clause_26 (by decide) rfl rfl rfl ?_
            refine r_iload (pc2 := 30) 4 dX10_clause_28 rfl rfl ?_
            refine r_aload_n (pc2 := 31) 0 dX10_clause_30 rfl rfl rfl rfl ?_
            refine r_getf (pc2 := 34) (v := .ref 118) fX10_13 dX10_clause_31 c117 (by decide) rfl rfl ?_
            refine r_iconst (pc2 := 35) (v := 4) dX10_clause_34 (by decide) rfl ?_
            refine r_ialdA (pc2 := 36) 4 dX10_clause_35 c118 (by decide) rfl (by decide) (by decide) rfl ?_
            refine r_icmp_ge (tgt := 111) (pc2 := 39) dX10_clause_36 (by decide) rfl (fun b36 => ?_) (fun b36 => ?_)
            · skip
              obtain ⟨x111, e111⟩ : ∃ z : Int32, z = (nI p) + (1) := ⟨_, rfl⟩
              refine r_iinc (pc2 := 114) (ls2 := [.ref 117, .int (-1), .int 268435456, .int x111, .int (nI (p + 1)), u5]) (v := x111) 3 dX10_clause_111 rfl (by rw [e111]; rfl) rfl rfl rfl ?_
              refine r_goto (pc2 := 13) dX10_clause_114 (by decide) ?_
              rw [e111, nI_1]
              exact ih (p + 1) _ _ _ _ _ _ _ (by omega) hv1 hx c117 c118 c131 c132 c133
            · exact absurd (nI_le (by omega) (by omega)) b36
    refine Cn.go (ls := [.ref 117, .float 0, .float 0, .float 0, .float 0, .float 0]) (by decide +kernel) rfl (Nat.le_of_ble_eq_true rfl) ?_
    refine r_aload_n (pc2 := 1) 0 dX10_clause_0 rfl rfl rfl rfl ?_
    refine r_iconst (pc2 := 2) (v := 0) dX10_clause_1 (by decide) rfl ?_
    refine r_putfX (pc2 := 5) (moL (upd v 0 0)) fX10_1 dX10_clause_2 c117 (by decide) (Nat.le_of_ble_eq_true rfl) rfl rfl rfl (fun h z2 o2 c117 => ?_)
    have c118 := (o2 118 (by decide)).trans c118
    have c131 := (o2 131 (by decide)).trans c131
    have c132 := (o2 132 (by decide)).trans c132
    have c133 := (o2 133 (by decide)).trans c133
    have hx := hx.step (a := 117) (by decide) z2 o2
    refine r_iconst (pc2 := 6) (v := -1) dX10_clause_5 (by decide) rfl ?_
    refine r_istore_n (pc2 := 7) (ls2 := [.ref 117, .int (-1), .float 0, .float 0, .float 0, .float 0]) 1 dX10_clause_6 rfl (by decide) rfl rfl rfl ?_
    refine r_ldcw (pc2 := 10) (v := 268435456) qX10_350 dX10_clause_7 rfl ?_
    refine r_istore_n (pc2 := 11) (ls2 := [.ref 117, .int (-1), .int 268435456, .float 0, .float 0, .float 0]) 2 dX10_clause_10 rfl (by decide) rfl rfl rfl ?_
    refine r_iconst (pc2 := 12) (v := 0) dX10_clause_11 (by decide) rfl ?_
    refine r_istore_n (pc2 := 13) (ls2 := [.ref 117, .int (-1), .int 268435456, .int 0, .float 0, .float 0]) 3 dX10_clause_12 rfl (by decide) rfl rfl rfl ?_
    exact loop (a 4) 0 _ _ (upd v 0 0) _ _ _ _ (by omega) ⟨rfl, rfl, rfl⟩ hx c117 c118 c131 c132 c133
  · have loop : ∀ (m p : Nat) (b : Int32) (t : Nat) (u4 u5 : Value) (v1 f1 f2 f3 : Nat → Int32) (h1 : Hp), p + m = a 4 → t < 2 ^ 31 → clI a (a 4) 0 (-1, 268435456) = clI a m p (b, t) → VK v v1 → Ex [117, 118, 131, 132, 133] h0 h1 → h1.1 117 = some (mO v1) → h1.1 118 = some (aI 3531 (nA a)) → h1.1 131 = some (aI 8 f1) → h1.1 132 = some (aI 8 f2) → h1.1 133 = some (aI 8 f3) → Fr E mX10_clause d 13 [.ref 117, .int b, .int (nI t), .int (nI p), u4, u5] [] h1 (RP (.int (clauseF a)) h0 v a hi tp rs rm nu) := by
      intro m
      induction m with
      | zero =>
        intro p b t u4 u5 v1 f1 f2 f3 h hp ht hT hv1 hx c117 c118 c131 c132 c133
        obtain rfl : p = a 4 := by omega
        refine r_iload_n (pc2 := 14) 3 dX10_clause_13 rfl rfl rfl ?_
        refine r_aload_n (pc2 := 15) 0 dX10_clause_14 rfl rfl rfl rfl ?_
        refine r_getf (pc2 := 18) (v := .ref 118) fX10_13 dX10_clause_15 c117 (by decide) rfl rfl ?_
        refine r_iconst (pc2 := 19) (v := 4) dX10_clause_18 (by decide) rfl ?_
        refine r_ialdA (pc2 := 20) 4 dX10_clause_19 c118 (by decide) rfl (by decide) (by decide) rfl ?_
        refine r_icmp_ge (tgt := 117) (pc2 := 23) dX10_clause_20 (by decide) rfl (fun b20 => ?_) (fun b20 => ?_)
        · skip
          refine r_iload_n (pc2 := 118) 1 dX10_clause_117 rfl rfl rfl ?_
          exact r_iret rfl dX10_clause_118 ⟨by rw [clauseF, if_neg hL, hT]; rfl, v1, ⟨hv1.1, hv1.2.1, hv1.2.2⟩, ⟨c117, c118, hx.get (by decide) k119, hx.get (by decide) k120, ⟨_, hx.get (by decide) k121⟩, ⟨_, hx.get (by decide) k122⟩, ⟨_, hx.get (by decide) k123⟩, ⟨_, hx.get (by decide) k124⟩, ⟨_, hx.get (by decide) k125⟩, ⟨_, hx.get (by decide) k126⟩, ⟨_, hx.get (by decide) k127⟩, ⟨_, hx.get (by decide) k128⟩, ⟨_, hx.get (by decide) k129⟩, ⟨_, hx.get (by decide) k130⟩, ⟨_, c131⟩, ⟨_, c132⟩, ⟨_, c133⟩, ⟨_, hx.get (by decide) k134⟩, ⟨_, hx.get (by decide) k135⟩, hx.get (by decide) k136, hx.get (by decide) k137, hx.get (by decide) k138⟩, hx.mono (by decide)⟩
        · exact absurd (nI_le (Nat.le_refl _) (by omega)) b20
      | succ m ih =>
        intro p b t u4 u5 v1 f1 f2 f3 h hp ht hT hv1 hx c117 c118 c131 c132 c133
        have hlt : p < a 4 := by omega
        have inner : ∀ (i j : Nat) (b : Int32) (t : Nat) (u5 : Value) (v1 f1 f2 f3 : Nat → Int32) (h1 : Hp), j + i = a 4 → p < j → t < 2 ^ 31 → clI a (a 4) 0 (-1, 268435456) = clI a m (p + 1) (clJ a p i j (b, t)) → VK v v1 → Ex [117, 118, 131, 132, 133] h0 h1 → h1.1 117 = some (mO v1) → h1.1 118 = some (aI 3531 (nA a)) → h1.1 131 = some (aI 8 f1) → h1.1 132 = some (aI 8 f2) → h1.1 133 = some (aI 8 f3) → Fr E mX10_clause d 28 [.ref 117, .int b, .int (nI t), .int (nI p), .int (nI j), u5] [] h1 (RP (.int (clauseF a)) h0 v a hi tp rs rm nu) := by
          intro i
          induction i with
          | zero =>
            intro j b t u5 v1 f1 f2 f3 h hj hpj ht hT hv1 hx c117 c118 c131 c132 c133
            obtain rfl : j = a 4 := by omega
            refine r_iload (pc2 := 30) 4 dX10_clause_28 rfl rfl ?_
            refine r_aload_n (pc2 := 31) 0 dX10_clause_30 rfl rfl rfl rfl ?_
            refine r_getf (pc2 := 34) (v := .ref 118) fX10_13 dX10_clause_31 c117 (by decide) rfl rfl ?_
            refine r_iconst (pc2 := 35) (v := 4) dX10_clause_34 (by decide) rfl ?_
            refine r_ialdA (pc2 := 36) 4 dX10_clause_35 c118 (by decide) rfl (by decide) (by decide) rfl ?_
            refine r_icmp_ge (tgt := 111) (pc2 := 39) dX10_clause_36 (by decide) rfl (fun b36 => ?_) (fun b36 => ?_)
            · skip
              obtain ⟨x111, e111⟩ : ∃ z : Int32, z = (nI p) + (1) := ⟨_, rfl⟩
              refine r_iinc (pc2 := 114) (ls2 := [.ref 117, .int b, .int (nI t), .int x111, .int (nI (a 4)), u5]) (v := x111) 3 dX10_clause_111 rfl (by rw [e111]; rfl) rfl rfl rfl ?_
              refine r_goto (pc2 := 13) dX10_clause_114 (by decide) ?_
              rw [e111, nI_1]
              exact ih (p + 1) b t _ _ _ _ _ _ _ (by omega) ht hT hv1 hx c117 c118 c131 c132 c133
            · exact absurd (nI_le (Nat.le_refl _) (by omega)) b36
          | succ i ih2 =>
            intro j b t u5 v1 f1 f2 f3 h hj hpj ht hT hv1 hx c117 c118 c131 c132 c133
            have hjl : j < a 4 := by omega
            have hcl : cntW a (nI p) (nI j) ≤ (WL a).length := cntW_le
            have hits1 : cntW a (nI p) (nI j) ≤ (WL a).length - cntW a (nI p) (nI j) → itsW a p j = (WL a).length - cntW a (nI p) (nI j) := fun z => Nat.max_eq_right z
            have hits2 : ¬ cntW a (nI p) (nI j) ≤ (WL a).length - cntW a (nI p) (nI j) → itsW a p j = cntW a (nI p) (nI j) := fun z => Nat.max_eq_left (by omega)
            have hitl : itsW a p j ≤ (WL a).length := Nat.max_le.mpr ⟨hcl, Nat.sub_le _ _⟩
            by_cases hle : t ≤ itsW a p j
            · have hcs : clS a (b, t) p j = (b, t) := if_pos hle
              refine r_iload (pc2 := 30) 4 dX10_clause_28 rfl rfl ?_
              refine r_aload_n (pc2 := 31) 0 dX10_clause_30 rfl rfl rfl rfl ?_
              refine r_getf (pc2 := 34) (v := .ref 118) fX10_13 dX10_clause_31 c117 (by decide) rfl rfl ?_
              refine r_iconst (pc2 := 35) (v := 4) dX10_clause_34 (by decide) rfl ?_
              refine r_ialdA (pc2 := 36) 4 dX10_clause_35 c118 (by decide) rfl (by decide) (by decide) rfl ?_
              refine r_icmp_ge (tgt := 111) (pc2 := 39) dX10_clause_36 (by decide) rfl (fun b36 => ?_) (fun b36 => ?_)
              · exact absurd b36 (nI_ge hjl (by omega))
              · skip
                refine r_aload_n (pc2 := 40) 0 dX10_clause_39 rfl rfl rfl rfl ?_
                refine r_iload_n (pc2 := 41) 3 dX10_clause_40 rfl rfl rfl ?_
                refine r_iload (pc2 := 43) 4 dX10_clause_41 rfl rfl ?_
                refine r_callV1 (pc2 := 46) (As := [.int (nI p), .int (nI j)]) (st := []) kX10_294 rfl rfl dX10_clause_43 c117 (by decide) rfl rfl (Nat.le_of_ble_eq_true rfl) (by omega) (c_laysWays c117 c118 c131 c132 c133 (Or.inr ⟨_, by omega, rfl⟩) hA.P hA.bd hA.ub (by omega)) rfl (fun h hq43 => ?_)
                obtain ⟨hxl, c117, ⟨f1, c131⟩, ⟨f2, c132, hf2⟩, f3, c133, hf3⟩ := hq43
                have c118 := hxl.get (by decide) c118
                have hx := hx.trans hxl (by decide)
                refine r_if_ne (tgt := 51) (pc2 := 49) dX10_clause_46 (by decide) rfl (fun b46 => ?_) (fun b46 => ?_)
                · skip
                  refine r_aload_n (pc2 := 52) 0 dX10_clause_51 rfl rfl rfl rfl ?_
                  refine r_getf (pc2 := 55) (v := .int (nI (cntW a (nI p) (nI j)))) fX10_380 dX10_clause_52 c117 (by decide) rfl rfl ?_
                  refine r_aload_n (pc2 := 56) 0 dX10_clause_55 rfl rfl rfl rfl ?_
                  refine r_getf (pc2 := 59) (v := .int (nI (WL a).length)) fX10_371 dX10_clause_56 c117 (by decide) rfl rfl ?_
                  refine r_aload_n (pc2 := 60) 0 dX10_clause_59 rfl rfl rfl rfl ?_
                  refine r_getf (pc2 := 63) (v := .int (nI (cntW a (nI p) (nI j)))) fX10_380 dX10_clause_60 c117 (by decide) rfl rfl ?_
                  refine r_isub (pc2 := 64) dX10_clause_63 rfl ?_
                  refine r_cast (nI ((WL a).length - cntW a (nI p) (nI j))) (pk_sub hcl) ?_
                  refine r_icmp_le (tgt := 74) (pc2 := 67) dX10_clause_64 (by decide) rfl (fun b64 => ?_) (fun b64 => ?_)
                  · skip
                    refine r_aload_n (pc2 := 75) 0 dX10_clause_74 rfl rfl rfl rfl ?_
                    refine r_getf (pc2 := 78) (v := .int (nI (WL a).length)) fX10_371 dX10_clause_75 c117 (by decide) rfl rfl ?_
                    refine r_aload_n (pc2 := 79) 0 dX10_clause_78 rfl rfl rfl rfl ?_
                    refine r_getf (pc2 := 82) (v := .int (nI (cntW a (nI p) (nI j)))) fX10_380 dX10_clause_79 c117 (by decide) rfl rfl ?_
                    refine r_isub (pc2 := 83) dX10_clause_82 rfl ?_
                    refine r_cast (nI (itsW a p j)) (by rw [pk_sub hcl]; exact congrArg nI (hits1 ((nI_leI (by omega) (by omega)).mp b64)).symm) ?_
                    refine r_istore (pc2 := 85) (ls2 := [.ref 117, .int b, .int (nI t), .int (nI p), .int (nI j), .int (nI (itsW a p j))]) 5 dX10_clause_83 (by decide) rfl rfl rfl ?_
                    refine r_iload (pc2 := 87) 5 dX10_clause_85 rfl rfl ?_
                    refine r_iload_n (pc2 := 88) 2 dX10_clause_87 rfl rfl rfl ?_
                    refine r_icmp_lt (tgt := 94) (pc2 := 91) dX10_clause_88 (by decide) rfl (fun b88 => ?_) (fun b88 => ?_)
                    · exact absurd b88 (nI_nlt hle (by omega))
                    · skip
                      refine r_goto (pc2 := 105) dX10_clause_91 (by decide) ?_
                      obtain ⟨x105, e105⟩ : ∃ z : Int32, z = (nI j) + (1) := ⟨_, rfl⟩
                      refine r_iinc (pc2 := 108) (ls2 := [.ref 117, .int b, .int (nI t), .int (nI p), .int x105, .int (nI (itsW a p j))]) (v := x105) 4 dX10_clause_105 rfl (by rw [e105]; rfl) rfl rfl rfl ?_
                      refine r_goto (pc2 := 28) dX10_clause_108 (by decide) ?_
                      rw [e105, nI_1]
                      exact ih2 (j + 1) b t _ (wvv v1 a (nI p) (nI j)) _ _ _ _ (by omega) (by omega) ht (by rw [hT, clJ, hcs]) ⟨hv1.1, hv1.2.1, hv1.2.2⟩ hx c117 c118 c131 c132 c133
                  · skip
                    refine r_aload_n (pc2 := 68) 0 dX10_clause_67 rfl rfl rfl rfl ?_
                    refine r_getf (pc2 := 71) (v := .int (nI (cntW a (nI p) (nI j)))) fX10_380 dX10_clause_68 c117 (by decide) rfl rfl ?_
                    refine r_goto (pc2 := 83) dX10_clause_71 (by decide) ?_
                    refine r_cast (nI (itsW a p j)) (congrArg nI (hits2 (fun z => b64 ((nI_leI (by omega) (by omega)).mpr z))).symm) ?_
                    refine r_istore (pc2 := 85) (ls2 := [.ref 117, .int b, .int (nI t), .int (nI p), .int (nI j), .int (nI (itsW a p j))]) 5 dX10_clause_83 (by decide) rfl rfl rfl ?_
                    refine r_iload (pc2 := 87) 5 dX10_clause_85 rfl rfl ?_
                    refine r_iload_n (pc2 := 88) 2 dX10_clause_87 rfl rfl rfl ?_
                    refine r_icmp_lt (tgt := 94) (pc2 := 91) dX10_clause_88 (by decide) rfl (fun b88 => ?_) (fun b88 => ?_)
                    · exact absurd b88 (nI_nlt hle (by omega))
                    · skip
                      refine r_goto (pc2 := 105) dX10_clause_91 (by decide) ?_
                      obtain ⟨x105, e105⟩ : ∃ z : Int32, z = (nI j) + (1) := ⟨_, rfl⟩
                      refine r_iinc (pc2 := 108) (ls2 := [.ref 117, .int b, .int (nI t), .int (nI p), .int x105, .int (nI (itsW a p j))]) (v := x105) 4 dX10_clause_105 rfl (by rw [e105]; rfl) rfl rfl rfl ?_
                      refine r_goto (pc2 := 28) dX10_clause_108 (by decide) ?_
                      rw [e105, nI_1]
                      exact ih2 (j + 1) b t _ (wvv v1 a (nI p) (nI j)) _ _ _ _ (by omega) (by omega) ht (by rw [hT, clJ, hcs]) ⟨hv1.1, hv1.2.1, hv1.2.2⟩ hx c117 c118 c131 c132 c133
                · exact absurd (len0 (nI_z0 (by omega) b46)) hL
            · have hcs : clS a (b, t) p j = (nI (10 * p + j), itsW a p j) := if_neg hle
              refine r_iload (pc2 := 30) 4 dX10_clause_28 rfl rfl ?_
              refine r_aload_n (pc2 := 31) 0 dX10_clause_30 rfl rfl rfl rfl ?_
              refine r_getf (pc2 := 34) (v := .ref 118) fX10_13 dX10_clause_31 c117 (by decide) rfl rfl ?_
              refine r_iconst (pc2 := 35) (v := 4) dX10_clause_34 (by decide) rfl ?_
              refine r_ialdA (pc2 := 36) 4 dX10_clause_35 c118 (by decide) rfl (by decide) (by decide) rfl ?_
              refine r_icmp_ge (tgt := 111) (pc2 := 39) dX10_clause_36 (by decide) rfl (fun b36 => ?_) (fun b36 => ?_)
              · exact absurd b36 (nI_ge hjl (by omega))
              · skip
                refine r_aload_n (pc2 := 40) 0 dX10_clause_39 rfl rfl rfl rfl ?_
                refine r_iload_n (pc2 := 41) 3 dX10_clause_40 rfl rfl rfl ?_
                refine r_iload (pc2 := 43) 4 dX10_clause_41 rfl rfl ?_
                refine r_callV1 (pc2 := 46) (As := [.int (nI p), .int (nI j)]) (st := []) kX10_294 rfl rfl dX10_clause_43 c117 (by decide) rfl rfl (Nat.le_of_ble_eq_true rfl) (by omega) (c_laysWays c117 c118 c131 c132 c133 (Or.inr ⟨_, by omega, rfl⟩) hA.P hA.bd hA.ub (by omega)) rfl (fun h hq43 => ?_)
                obtain ⟨hxl, c117, ⟨f1, c131⟩, ⟨f2, c132, hf2⟩, f3, c133, hf3⟩ := hq43
                have c118 := hxl.get (by decide) c118
                have hx := hx.trans hxl (by decide)
                refine r_if_ne (tgt := 51) (pc2 := 49) dX10_clause_46 (by decide) rfl (fun b46 => ?_) (fun b46 => ?_)
                · skip
                  refine r_aload_n (pc2 := 52) 0 dX10_clause_51 rfl rfl rfl rfl ?_
                  refine r_getf (pc2 := 55) (v := .int (nI (cntW a (nI p) (nI j)))) fX10_380 dX10_clause_52 c117 (by decide) rfl rfl ?_
                  refine r_aload_n (pc2 := 56) 0 dX10_clause_55 rfl rfl rfl rfl ?_
                  refine r_getf (pc2 := 59) (v := .int (nI (WL a).length)) fX10_371 dX10_clause_56 c117 (by decide) rfl rfl ?_
                  refine r_aload_n (pc2 := 60) 0 dX10_clause_59 rfl rfl rfl rfl ?_
                  refine r_getf (pc2 := 63) (v := .int (nI (cntW a (nI p) (nI j)))) fX10_380 dX10_clause_60 c117 (by decide) rfl rfl ?_
                  refine r_isub (pc2 := 64) dX10_clause_63 rfl ?_
                  refine r_cast (nI ((WL a).length - cntW a (nI p) (nI j))) (pk_sub hcl) ?_
                  refine r_icmp_le (tgt := 74) (pc2 := 67) dX10_clause_64 (by decide) rfl (fun b64 => ?_) (fun b64 => ?_)
                  · skip
                    refine r_aload_n (pc2 := 75) 0 dX10_clause_74 rfl rfl rfl rfl ?_
                    refine r_getf (pc2 := 78) (v := .int (nI (WL a).length)) fX10_371 dX10_clause_75 c117 (by decide) rfl rfl ?_
                    refine r_aload_n (pc2 := 79) 0 dX10_clause_78 rfl rfl rfl rfl ?_
                    refine r_getf (pc2 := 82) (v := .int (nI (cntW a (nI p) (nI j)))) fX10_380 dX10_clause_79 c117 (by decide) rfl rfl ?_
                    refine r_isub (pc2 := 83) dX10_clause_82 rfl ?_
                    refine r_cast (nI (itsW a p j)) (by rw [pk_sub hcl]; exact congrArg nI (hits1 ((nI_leI (by omega) (by omega)).mp b64)).symm) ?_
                    refine r_istore (pc2 := 85) (ls2 := [.ref 117, .int b, .int (nI t), .int (nI p), .int (nI j), .int (nI (itsW a p j))]) 5 dX10_clause_83 (by decide) rfl rfl rfl ?_
                    refine r_iload (pc2 := 87) 5 dX10_clause_85 rfl rfl ?_
                    refine r_iload_n (pc2 := 88) 2 dX10_clause_87 rfl rfl rfl ?_
                    refine r_icmp_lt (tgt := 94) (pc2 := 91) dX10_clause_88 (by decide) rfl (fun b88 => ?_) (fun b88 => ?_)
                    · skip
                      refine r_bipush (pc2 := 96) (v := 10) dX10_clause_94 (by decide) rfl ?_
                      refine r_iload_n (pc2 := 97) 3 dX10_clause_96 rfl rfl rfl ?_
                      refine r_imul (pc2 := 98) dX10_clause_97 rfl ?_
                      refine r_cast (nI (10 * p)) (pk_mul 10 p) ?_
                      refine r_iload (pc2 := 100) 4 dX10_clause_98 rfl rfl ?_
                      refine r_iadd (pc2 := 101) dX10_clause_100 rfl ?_
                      refine r_cast (nI (10 * p + j)) (nI_add _ _) ?_
                      refine r_istore_n (pc2 := 102) (ls2 := [.ref 117, .int (nI (10 * p + j)), .int (nI t), .int (nI p), .int (nI j), .int (nI (itsW a p j))]) 1 dX10_clause_101 rfl (by decide) rfl rfl rfl ?_
                      refine r_iload (pc2 := 104) 5 dX10_clause_102 rfl rfl ?_
                      refine r_istore_n (pc2 := 105) (ls2 := [.ref 117, .int (nI (10 * p + j)), .int (nI (itsW a p j)), .int (nI p), .int (nI j), .int (nI (itsW a p j))]) 2 dX10_clause_104 rfl (by decide) rfl rfl rfl ?_
                      obtain ⟨x105, e105⟩ : ∃ z : Int32, z = (nI j) + (1) := ⟨_, rfl⟩
                      refine r_iinc (pc2 := 108) (ls2 := [.ref 117, .int (nI (10 * p + j)), .int (nI (itsW a p j)), .int (nI p), .int x105, .int (nI (itsW a p j))]) (v := x105) 4 dX10_clause_105 rfl (by rw [e105]; rfl) rfl rfl rfl ?_
                      refine r_goto (pc2 := 28) dX10_clause_108 (by decide) ?_
                      rw [e105, nI_1]
                      exact ih2 (j + 1) _ _ _ (wvv v1 a (nI p) (nI j)) _ _ _ _ (by omega) (by omega) (by omega) (by rw [hT, clJ, hcs]) ⟨hv1.1, hv1.2.1, hv1.2.2⟩ hx c117 c118 c131 c132 c133
                    · exact absurd (nI_lt (Nat.lt_of_not_le hle) (by omega)) b88
                  · skip
                    refine r_aload_n (pc2 := 68) 0 dX10_clause_67 rfl rfl rfl rfl ?_
                    refine r_getf (pc2 := 71) (v := .int (nI (cntW a (nI p) (nI j)))) fX10_380 dX10_clause_68 c117 (by decide) rfl rfl ?_
                    refine r_goto (pc2 := 83) dX10_clause_71 (by decide) ?_
                    refine r_cast (nI (itsW a p j)) (congrArg nI (hits2 (fun z => b64 ((nI_leI (by omega) (by omega)).mpr z))).symm) ?_
                    refine r_istore (pc2 := 85) (ls2 := [.ref 117, .int b, .int (nI t), .int (nI p), .int (nI j), .int (nI (itsW a p j))]) 5 dX10_clause_83 (by decide) rfl rfl rfl ?_
                    refine r_iload (pc2 := 87) 5 dX10_clause_85 rfl rfl ?_
                    refine r_iload_n (pc2 := 88) 2 dX10_clause_87 rfl rfl rfl ?_
                    refine r_icmp_lt (tgt := 94) (pc2 := 91) dX10_clause_88 (by decide) rfl (fun b88 => ?_) (fun b88 => ?_)
                    · skip
                      refine r_bipush (pc2 := 96) (v := 10) dX10_clause_94 (by decide) rfl ?_
                      refine r_iload_n (pc2 := 97) 3 dX10_clause_96 rfl rfl rfl ?_
                      refine r_imul (pc2 := 98) dX10_clause_97 rfl ?_
                      refine r_cast (nI (10 * p)) (pk_mul 10 p) ?_
                      refine r_iload (pc2 := 100) 4 dX10_clause_98 rfl rfl ?_
                      refine r_iadd (pc2 := 101) dX10_clause_100 rfl ?_
                      refine r_cast (nI (10 * p + j)) (nI_add _ _) ?_
                      refine r_istore_n (pc2 := 102) (ls2 := [.ref 117, .int (nI (10 * p + j)), .int (nI t), .int (nI p), .int (nI j), .int (nI (itsW a p j))]) 1 dX10_clause_101 rfl (by decide) rfl rfl rfl ?_
                      refine r_iload (pc2 := 104) 5 dX10_clause_102 rfl rfl ?_
                      refine r_istore_n (pc2 := 105) (ls2 := [.ref 117, .int (nI (10 * p + j)), .int (nI (itsW a p j)), .int (nI p), .int (nI j), .int (nI (itsW a p j))]) 2 dX10_clause_104 rfl (by decide) rfl rfl rfl ?_
                      obtain ⟨x105, e105⟩ : ∃ z : Int32, z = (nI j) + (1) := ⟨_, rfl⟩
                      refine r_iinc (pc2 := 108) (ls2 := [.ref 117, .int (nI (10 * p + j)), .int (nI (itsW a p j)), .int (nI p), .int x105, .int (nI (itsW a p j))]) (v := x105) 4 dX10_clause_105 rfl (by rw [e105]; rfl) rfl rfl rfl ?_
                      refine r_goto (pc2 := 28) dX10_clause_108 (by decide) ?_
                      rw [e105, nI_1]
                      exact ih2 (j + 1) _ _ _ (wvv v1 a (nI p) (nI j)) _ _ _ _ (by omega) (by omega) (by omega) (by rw [hT, clJ, hcs]) ⟨hv1.1, hv1.2.1, hv1.2.2⟩ hx c117 c118 c131 c132 c133
                    · exact absurd (nI_lt (Nat.lt_of_not_le hle) (by omega)) b88
                · exact absurd (len0 (nI_z0 (by omega) b46)) hL
        refine r_iload_n (pc2 := 14) 3 dX10_clause_13 rfl rfl rfl ?_
        refine r_aload_n (pc2 := 15) 0 dX10_clause_14 rfl rfl rfl rfl ?_
        refine r_getf (pc2 := 18) (v := .ref 118) fX10_13 dX10_clause_15 c117 (by decide) rfl rfl ?_
        refine r_iconst (pc2 := 19) (v := 4) dX10_clause_18 (by decide) rfl ?_
        refine r_ialdA (pc2 := 20) 4 dX10_clause_19 c118 (by decide) rfl (by decide) (by decide) rfl ?_
        refine r_icmp_ge (tgt := 117) (pc2 := 23) dX10_clause_20 (by decide) rfl (fun b20 => ?_) (fun b20 => ?_)
        · exact absurd b20 (nI_ge hlt (by omega))
        · skip
          refine r_iload_n (pc2 := 24) 3 dX10_clause_23 rfl rfl rfl ?_
          refine r_iconst (pc2 := 25) (v := 1) dX10_clause_24 (by decide) rfl ?_
          refine r_iadd (pc2 := 26) dX10_clause_25 rfl ?_
          refine r_cast (nI (p + 1)) (nI_1 _) ?_
          refine r_istore (pc2 := 28) (ls2 := [.ref 117, .int b, .int (nI t), .int (nI p), .int (nI (p + 1)), u5]) 4 dX10_clause_26 (by decide) rfl rfl rfl ?_
          exact inner m (p + 1) b t _ _ _ _ _ _ (by omega) (by omega) ht (by rw [hT, clI]) hv1 hx c117 c118 c131 c132 c133
    refine Cn.go (ls := [.ref 117, .float 0, .float 0, .float 0, .float 0, .float 0]) (by decide +kernel) rfl (Nat.le_of_ble_eq_true rfl) ?_
    refine r_aload_n (pc2 := 1) 0 dX10_clause_0 rfl rfl rfl rfl ?_
    refine r_iconst (pc2 := 2) (v := 0) dX10_clause_1 (by decide) rfl ?_
    refine r_putfX (pc2 := 5) (moL (upd v 0 0)) fX10_1 dX10_clause_2 c117 (by decide) (Nat.le_of_ble_eq_true rfl) rfl rfl rfl (fun h z2 o2 c117 => ?_)
    have c118 := (o2 118 (by decide)).trans c118
    have c131 := (o2 131 (by decide)).trans c131
    have c132 := (o2 132 (by decide)).trans c132
    have c133 := (o2 133 (by decide)).trans c133
    have hx := hx.step (a := 117) (by decide) z2 o2
    refine r_iconst (pc2 := 6) (v := -1) dX10_clause_5 (by decide) rfl ?_
    refine r_istore_n (pc2 := 7) (ls2 := [.ref 117, .int (-1), .float 0, .float 0, .float 0, .float 0]) 1 dX10_clause_6 rfl (by decide) rfl rfl rfl ?_
    refine r_ldcw (pc2 := 10) (v := 268435456) qX10_350 dX10_clause_7 rfl ?_
    refine r_cast (nI 268435456) (rfl) ?_
    refine r_istore_n (pc2 := 11) (ls2 := [.ref 117, .int (-1), .int (nI 268435456), .float 0, .float 0, .float 0]) 2 dX10_clause_10 rfl (by decide) rfl rfl rfl ?_
    refine r_iconst (pc2 := 12) (v := 0) dX10_clause_11 (by decide) rfl ?_
    refine r_istore_n (pc2 := 13) (ls2 := [.ref 117, .int (-1), .int (nI 268435456), .int 0, .float 0, .float 0]) 3 dX10_clause_12 rfl (by decide) rfl rfl rfl ?_
    exact loop (a 4) 0 _ _ _ _ (upd v 0 0) _ _ _ _ (by omega) (by decide) rfl ⟨rfl, rfl, rfl⟩ hx c117 c118 c131 c132 c133
