/-! the class's reader: advance -/
theorem kO9_le (c : Nat) : kO9 c ≤ 4 := by
  unfold kO9
  repeat' split
  all_goals omega
theorem smdg : ∀ c, c < 256 → isDg c = true → isSm c = false := by decide +kernel
theorem kO9_sm : ∀ c, c < 256 → (kO9 c = 1 ↔ isSm c = true) := by decide +kernel
theorem kO9_dg : ∀ c, c < 256 → (kO9 c = 2 ↔ isDg c = true) := by decide +kernel
theorem TK_end {tp : Nat → Nat} {n p S : Nat} (hp : p ≤ n) (hS : lxS tp n p = S) (h : n ≤ S) : TK tp n (nrp tp n p) (0, -1, 0, nI S, nI S) := by
  have k : lxK tp n p = 25 := by unfold lxK tkK; rw [hS, if_pos h]
  unfold nrp
  rw [if_neg (by rw [k]; decide)]
  exact ⟨hp, by rw [k]; decide, by unfold ckK lxE tkE; rw [hS, if_pos h, if_pos h]; rfl⟩
theorem TK_sm {tp : Nat → Nat} {n p S : Nat} (hp : p ≤ n) (hS : lxS tp n p = S) (h : S < n) (hc : isSm (tp S) = true) : TK tp n (nrp tp n p) (0, -1, 1, nI S, nI (lxW tp n S)) := by
  have k : lxK tp n p ≠ 26 := by
    unfold lxK tkK
    rw [hS, if_neg (by omega), if_pos hc]
    have := kF_le (wordL tp S (lxW tp n S)) 23 0 (by decide)
    omega
  unfold nrp
  rw [if_neg k]
  exact ⟨hp, k, by unfold ckK lxE tkE kO9; simp only [hS, if_neg (show ¬ n ≤ S by omega), if_pos hc] <;> rfl⟩
theorem TK_dg {tp : Nat → Nat} {n p S : Nat} (hp : p ≤ n) (hS : lxS tp n p = S) (h : S < n) (hm : isSm (tp S) = false) (hc : isDg (tp S) = true) (h3 : ¬ 3 < lxD tp n S - S) : TK tp n (nrp tp n p) (0, -1, 2, nI S, nI (lxD tp n S)) := by
  have hm : ¬ isSm (tp S) = true := by rw [hm]; decide
  have k : lxK tp n p ≠ 26 := by
    unfold lxK tkK
    rw [hS, if_neg (by omega), if_neg hm, if_pos hc, if_neg h3]
    decide
  unfold nrp
  rw [if_neg k]
  exact ⟨hp, k, by unfold ckK lxE tkE kO9; simp only [hS, if_neg (show ¬ n ≤ S by omega), if_neg hm, if_pos hc] <;> rfl⟩
theorem TK_d3 {tp : Nat → Nat} {n p S : Nat} (hp : p ≤ n) (hS : lxS tp n p = S) (hn : n ≤ 900) (h : S < n) (hm : isSm (tp S) = false) (hc : isDg (tp S) = true) (h3 : 3 < lxD tp n S - S) : TK tp n (nrp tp n p) (1, nI S, 0, nI S, nI (lxD tp n S)) := by
  have hm : ¬ isSm (tp S) = true := by rw [hm]; decide
  have k : lxK tp n p = 26 := by
    unfold lxK tkK
    rw [hS, if_neg (by omega), if_neg hm, if_pos hc, if_pos h3]
  unfold nrp
  rw [if_pos k, hS]
  exact ⟨S, lxD tp n S, by omega, by omega, by have := scan_n isDg tp n (n - S) S (by omega); unfold lxD; omega, rfl⟩
theorem TK_sg {tp : Nat → Nat} {n p S : Nat} (hp : p ≤ n) (hS : lxS tp n p = S) (h : S < n) (hm : isSm (tp S) = false) (hc : isDg (tp S) = false) (h3 : ¬ sgF (tp S) 12 = 26) : TK tp n (nrp tp n p) (0, -1, 3, nI S, nI (S + 1)) := by
  have hm : ¬ isSm (tp S) = true := by rw [hm]; decide
  have hc : ¬ isDg (tp S) = true := by rw [hc]; decide
  have k : lxK tp n p ≠ 26 := by
    unfold lxK tkK
    rw [hS, if_neg (by omega), if_neg hm, if_neg hc]
    exact h3
  unfold nrp
  rw [if_neg k]
  exact ⟨hp, k, by unfold ckK lxE tkE kO9; simp only [hS, if_neg (show ¬ n ≤ S by omega), if_neg hm, if_neg hc, if_neg h3] <;> rfl⟩
theorem TK_no {tp : Nat → Nat} {n p S : Nat} (hp : p ≤ n) (hS : lxS tp n p = S) (hn : n ≤ 900) (h : S < n) (hm : isSm (tp S) = false) (hc : isDg (tp S) = false) (h3 : sgF (tp S) 12 = 26) : TK tp n (nrp tp n p) (1, nI S, 0, nI S, nI S) := by
  have hm : ¬ isSm (tp S) = true := by rw [hm]; decide
  have hc : ¬ isDg (tp S) = true := by rw [hc]; decide
  have k : lxK tp n p = 26 := by
    unfold lxK tkK
    rw [hS, if_neg (by omega), if_neg hm, if_neg hc]
    exact h3
  unfold nrp
  rw [if_pos k, hS]
  exact ⟨S, S, by omega, by omega, by omega, rfl⟩
set_option maxRecDepth 20000 in
set_option maxHeartbeats 1000000 in
theorem f_adv1 {E : EnvT} {d : Nat} {h0 : Hp} {n : Nat} {ta ne inz pt cl : Int32} {tv : Value} {tp : Nat → Nat} {fk fp ki e0 : Int32} {Q : Option Value → Hp → Prop} {S0 : Nat} (hP : TPo tp h0) (ht : TOk tp n) (hd : 1 ≤ d) (rest : ∀ h, Ex [65] h0 h → h.1 65 = some (.inr (3, rdL n ta ne inz pt cl tv (fk, fp, ki, nI S0, e0))) → Fr E mX3_advance d 58 [.ref 65] [] h Q) : ∀ m9 k h, n - k = m9 → k ≤ 1000 → scan isWh tp n (n - k) k = S0 → Ex [65] h0 h → h.1 65 = some (.inr (3, rdL n ta ne inz pt cl tv (fk, fp, ki, nI k, e0))) → Fr E mX3_advance d 8 [.ref 65] [] h Q := by
  have hn9 := ht.1
  intro m9
  induction m9 with
  | zero =>
    intro k h hm hk9 hsc hx c65
    refine r_aload_n (pc2 := 9) 0 dX3_advance_8 rfl rfl rfl rfl ?_
    refine r_getf (pc2 := 12) (v := .int (nI k)) fX3_66 dX3_advance_9 c65 (by decide) rfl rfl ?_
    refine r_aload_n (pc2 := 13) 0 dX3_advance_12 rfl rfl rfl rfl ?_
    refine r_getf (pc2 := 16) (v := .int (nI n)) fX3_41 dX3_advance_13 c65 (by decide) rfl rfl ?_
    refine r_icmp_ge (tgt := 58) (pc2 := 19) dX3_advance_16 (by decide) rfl (fun b16 => ?_) (fun b16 => ?_)
    · skip
      exact rest h hx (by rw [← hsc, scan_out (fun z => by omega)]; exact c65)
    · exact absurd (nI_le (by omega) (by omega)) b16
  | succ m9 ih =>
    intro k h hm hk9 hsc hx c65
    have hlt : k < n := by omega
    have hc := ht.2 k (by omega)
    by_cases h10 : tp k = 10
    · skip
      refine r_aload_n (pc2 := 9) 0 dX3_advance_8 rfl rfl rfl rfl ?_
      refine r_getf (pc2 := 12) (v := .int (nI k)) fX3_66 dX3_advance_9 c65 (by decide) rfl rfl ?_
      refine r_aload_n (pc2 := 13) 0 dX3_advance_12 rfl rfl rfl rfl ?_
      refine r_getf (pc2 := 16) (v := .int (nI n)) fX3_41 dX3_advance_13 c65 (by decide) rfl rfl ?_
      refine r_icmp_ge (tgt := 58) (pc2 := 19) dX3_advance_16 (by decide) rfl (fun b16 => ?_) (fun b16 => ?_)
      · exact absurd b16 (nI_ge hlt (by omega))
      · skip
        refine r_aload_n (pc2 := 20) 0 dX3_advance_19 rfl rfl rfl rfl ?_
        refine r_aload_n (pc2 := 21) 0 dX3_advance_20 rfl rfl rfl rfl ?_
        refine r_getf (pc2 := 24) (v := .int (nI k)) fX3_66 dX3_advance_21 c65 (by decide) rfl rfl ?_
        refine r_callV1 (pc2 := 27) (As := [.int (nI k)]) (st := []) kX3_69 rfl rfl dX3_advance_24 c65 (by decide) rfl rfl (Nat.le_of_ble_eq_true rfl) (by omega) (c_byteAt (t := (fk, fp, ki, nI k, e0)) (tp := tp) (j := k) c65 (hP.ex hx (by decide)) ht.1 (by omega)) rfl (fun h2 hq24 => ?_)
        obtain rfl := hq24.symm
        refine r_cast (10) ((if_pos hlt).trans (by rw [h10]; rfl)) ?_
        refine r_bipush (pc2 := 29) (v := 10) dX3_advance_27 (by decide) rfl ?_
        refine r_icmp_eq (tgt := 45) (pc2 := 32) dX3_advance_29 (by decide) rfl (fun b29 => ?_) (fun b29 => ?_)
        · skip
          refine r_aload_n (pc2 := 46) 0 dX3_advance_45 rfl rfl rfl rfl ?_
          refine r_dup (pc2 := 47) dX3_advance_46 rfl rfl ?_
          refine r_getf (pc2 := 50) (v := .int (nI k)) fX3_66 dX3_advance_47 c65 (by decide) rfl rfl ?_
          refine r_iconst (pc2 := 51) (v := 1) dX3_advance_50 (by decide) rfl ?_
          refine r_iadd (pc2 := 52) dX3_advance_51 rfl ?_
          refine r_cast (nI (k + 1)) (nI_1 _) ?_
          refine r_putfX (pc2 := 55) [.int fk, .int fp, .int ta, .ref 66, .int (nI n), .int ki, .int (nI (k + 1)), .int e0, .int ne, .int inz, .int pt, .ref 67, .int cl, tv] fX3_66 dX3_advance_52 c65 (by decide) (Nat.le_of_ble_eq_true rfl) rfl rfl rfl (fun h z52 o52 c65 => ?_)
          have hx := hx.step (a := 65) (by simp) z52 o52
          refine r_goto (pc2 := 8) dX3_advance_55 (by decide) ?_
          exact ih (k + 1) h (by omega) (by omega) (hsc.symm.trans (scan_in hlt (by rw [h10]; rfl))).symm hx c65
        · exact absurd b29 (by decide)
    · by_cases h32 : tp k = 32
      · have h10 : ¬ (32 : Int32) = 10 := by decide
        refine r_aload_n (pc2 := 9) 0 dX3_advance_8 rfl rfl rfl rfl ?_
        refine r_getf (pc2 := 12) (v := .int (nI k)) fX3_66 dX3_advance_9 c65 (by decide) rfl rfl ?_
        refine r_aload_n (pc2 := 13) 0 dX3_advance_12 rfl rfl rfl rfl ?_
        refine r_getf (pc2 := 16) (v := .int (nI n)) fX3_41 dX3_advance_13 c65 (by decide) rfl rfl ?_
        refine r_icmp_ge (tgt := 58) (pc2 := 19) dX3_advance_16 (by decide) rfl (fun b16 => ?_) (fun b16 => ?_)
        · exact absurd b16 (nI_ge hlt (by omega))
        · skip
          refine r_aload_n (pc2 := 20) 0 dX3_advance_19 rfl rfl rfl rfl ?_
          refine r_aload_n (pc2 := 21) 0 dX3_advance_20 rfl rfl rfl rfl ?_
          refine r_getf (pc2 := 24) (v := .int (nI k)) fX3_66 dX3_advance_21 c65 (by decide) rfl rfl ?_
          refine r_callV1 (pc2 := 27) (As := [.int (nI k)]) (st := []) kX3_69 rfl rfl dX3_advance_24 c65 (by decide) rfl rfl (Nat.le_of_ble_eq_true rfl) (by omega) (c_byteAt (t := (fk, fp, ki, nI k, e0)) (tp := tp) (j := k) c65 (hP.ex hx (by decide)) ht.1 (by omega)) rfl (fun h2 hq24 => ?_)
          obtain rfl := hq24.symm
          refine r_cast (32) ((if_pos hlt).trans (by rw [h32]; rfl)) ?_
          refine r_bipush (pc2 := 29) (v := 10) dX3_advance_27 (by decide) rfl ?_
          refine r_icmp_eq (tgt := 45) (pc2 := 32) dX3_advance_29 (by decide) rfl (fun b29 => ?_) (fun b29 => ?_)
          · exact absurd b29 (by decide)
          · skip
            refine r_aload_n (pc2 := 33) 0 dX3_advance_32 rfl rfl rfl rfl ?_
            refine r_aload_n (pc2 := 34) 0 dX3_advance_33 rfl rfl rfl rfl ?_
            refine r_getf (pc2 := 37) (v := .int (nI k)) fX3_66 dX3_advance_34 c65 (by decide) rfl rfl ?_
            refine r_callV1 (pc2 := 40) (As := [.int (nI k)]) (st := []) kX3_69 rfl rfl dX3_advance_37 c65 (by decide) rfl rfl (Nat.le_of_ble_eq_true rfl) (by omega) (c_byteAt (t := (fk, fp, ki, nI k, e0)) (tp := tp) (j := k) c65 (hP.ex hx (by decide)) ht.1 (by omega)) rfl (fun h2 hq37 => ?_)
            obtain rfl := hq37.symm
            refine r_cast (32) ((if_pos hlt).trans (by rw [h32]; rfl)) ?_
            refine r_bipush (pc2 := 42) (v := 32) dX3_advance_40 (by decide) rfl ?_
            refine r_icmp_ne (tgt := 58) (pc2 := 45) dX3_advance_42 (by decide) rfl (fun b42 => ?_) (fun b42 => ?_)
            · exact absurd b42 (by decide)
            · skip
              refine r_aload_n (pc2 := 46) 0 dX3_advance_45 rfl rfl rfl rfl ?_
              refine r_dup (pc2 := 47) dX3_advance_46 rfl rfl ?_
              refine r_getf (pc2 := 50) (v := .int (nI k)) fX3_66 dX3_advance_47 c65 (by decide) rfl rfl ?_
              refine r_iconst (pc2 := 51) (v := 1) dX3_advance_50 (by decide) rfl ?_
              refine r_iadd (pc2 := 52) dX3_advance_51 rfl ?_
              refine r_cast (nI (k + 1)) (nI_1 _) ?_
              refine r_putfX (pc2 := 55) [.int fk, .int fp, .int ta, .ref 66, .int (nI n), .int ki, .int (nI (k + 1)), .int e0, .int ne, .int inz, .int pt, .ref 67, .int cl, tv] fX3_66 dX3_advance_52 c65 (by decide) (Nat.le_of_ble_eq_true rfl) rfl rfl rfl (fun h z52 o52 c65 => ?_)
              have hx := hx.step (a := 65) (by simp) z52 o52
              refine r_goto (pc2 := 8) dX3_advance_55 (by decide) ?_
              exact ih (k + 1) h (by omega) (by omega) (hsc.symm.trans (scan_in hlt (by rw [h32]; rfl))).symm hx c65
      · have hw : ¬ isWh (tp k) = true := by
          unfold isWh
          rw [Bool.or_eq_true]
          intro z
          rcases z with z | z
          · exact h10 (eq_of_beq z)
          · exact h32 (eq_of_beq z)
        refine r_aload_n (pc2 := 9) 0 dX3_advance_8 rfl rfl rfl rfl ?_
        refine r_getf (pc2 := 12) (v := .int (nI k)) fX3_66 dX3_advance_9 c65 (by decide) rfl rfl ?_
        refine r_aload_n (pc2 := 13) 0 dX3_advance_12 rfl rfl rfl rfl ?_
        refine r_getf (pc2 := 16) (v := .int (nI n)) fX3_41 dX3_advance_13 c65 (by decide) rfl rfl ?_
        refine r_icmp_ge (tgt := 58) (pc2 := 19) dX3_advance_16 (by decide) rfl (fun b16 => ?_) (fun b16 => ?_)
        · exact absurd b16 (nI_ge hlt (by omega))
        · skip
          refine r_aload_n (pc2 := 20) 0 dX3_advance_19 rfl rfl rfl rfl ?_
          refine r_aload_n (pc2 := 21) 0 dX3_advance_20 rfl rfl rfl rfl ?_
          refine r_getf (pc2 := 24) (v := .int (nI k)) fX3_66 dX3_advance_21 c65 (by decide) rfl rfl ?_
          refine r_callV1 (pc2 := 27) (As := [.int (nI k)]) (st := []) kX3_69 rfl rfl dX3_advance_24 c65 (by decide) rfl rfl (Nat.le_of_ble_eq_true rfl) (by omega) (c_byteAt (t := (fk, fp, ki, nI k, e0)) (tp := tp) (j := k) c65 (hP.ex hx (by decide)) ht.1 (by omega)) rfl (fun h2 hq24 => ?_)
          obtain rfl := hq24.symm
          refine r_cast (sb (tp k)) (if_pos hlt) ?_
          refine r_bipush (pc2 := 29) (v := 10) dX3_advance_27 (by decide) rfl ?_
          refine r_icmp_eq (tgt := 45) (pc2 := 32) dX3_advance_29 (by decide) rfl (fun b29 => ?_) (fun b29 => ?_)
          · exact absurd ((sbb_lit _ hc).1.mp b29) h10
          · skip
            refine r_aload_n (pc2 := 33) 0 dX3_advance_32 rfl rfl rfl rfl ?_
            refine r_aload_n (pc2 := 34) 0 dX3_advance_33 rfl rfl rfl rfl ?_
            refine r_getf (pc2 := 37) (v := .int (nI k)) fX3_66 dX3_advance_34 c65 (by decide) rfl rfl ?_
            refine r_callV1 (pc2 := 40) (As := [.int (nI k)]) (st := []) kX3_69 rfl rfl dX3_advance_37 c65 (by decide) rfl rfl (Nat.le_of_ble_eq_true rfl) (by omega) (c_byteAt (t := (fk, fp, ki, nI k, e0)) (tp := tp) (j := k) c65 (hP.ex hx (by decide)) ht.1 (by omega)) rfl (fun h2 hq37 => ?_)
            obtain rfl := hq37.symm
            refine r_cast (sb (tp k)) (if_pos hlt) ?_
            refine r_bipush (pc2 := 42) (v := 32) dX3_advance_40 (by decide) rfl ?_
            refine r_icmp_ne (tgt := 58) (pc2 := 45) dX3_advance_42 (by decide) rfl (fun b42 => ?_) (fun b42 => ?_)
            · skip
              exact rest h hx (by rw [← hsc, scan_out (fun z => hw z.2)]; exact c65)
            · exact absurd ((sbb_lit _ hc).2.mp b42) h32
set_option maxRecDepth 20000 in
set_option maxHeartbeats 1000000 in
theorem f_adv2 {E : EnvT} {d : Nat} {h0 : Hp} {n : Nat} {ta ne inz pt cl : Int32} {tv : Value} {tp : Nat → Nat} {fk fp kv s9 : Int32} {Q : Option Value → Hp → Prop} {S0 K : Nat} {q : Nat → Bool} (hP : TPo tp h0) (ht : TOk tp n) (hd : 1 ≤ d) (eK : kv = nI K) (hK : K ≤ 4) (hq : ∀ c, c < 256 → (kO9 c = K ↔ q c = true)) (rest : ∀ h, Ex [65] h0 h → h.1 65 = some (.inr (3, rdL n ta ne inz pt cl tv (fk, fp, kv, s9, nI S0))) → Fr E mX3_advance d 178 [.ref 65] [] h Q) : ∀ m9 k h, n - k = m9 → k ≤ 1000 → scan q tp n (n - k) k = S0 → Ex [65] h0 h → h.1 65 = some (.inr (3, rdL n ta ne inz pt cl tv (fk, fp, kv, s9, nI k))) → Fr E mX3_advance d 136 [.ref 65] [] h Q := by
  have hn9 := ht.1
  intro m9
  induction m9 with
  | zero =>
    intro k h hm hk9 hsc hx c65
    refine r_aload_n (pc2 := 137) 0 dX3_advance_136 rfl rfl rfl rfl ?_
    refine r_getf (pc2 := 140) (v := .int (nI k)) fX3_47 dX3_advance_137 c65 (by decide) rfl rfl ?_
    refine r_aload_n (pc2 := 141) 0 dX3_advance_140 rfl rfl rfl rfl ?_
    refine r_getf (pc2 := 144) (v := .int (nI n)) fX3_41 dX3_advance_141 c65 (by decide) rfl rfl ?_
    refine r_icmp_ge (tgt := 178) (pc2 := 147) dX3_advance_144 (by decide) rfl (fun b144 => ?_) (fun b144 => ?_)
    · skip
      exact rest h hx (by rw [← hsc, scan_out (fun z => by omega)]; exact c65)
    · exact absurd (nI_le (by omega) (by omega)) b144
  | succ m9 ih =>
    intro k h hm hk9 hsc hx c65
    have hlt : k < n := by omega
    have hc := ht.2 k (by omega)
    by_cases hy : q (tp k) = true
    · skip
      refine r_aload_n (pc2 := 137) 0 dX3_advance_136 rfl rfl rfl rfl ?_
      refine r_getf (pc2 := 140) (v := .int (nI k)) fX3_47 dX3_advance_137 c65 (by decide) rfl rfl ?_
      refine r_aload_n (pc2 := 141) 0 dX3_advance_140 rfl rfl rfl rfl ?_
      refine r_getf (pc2 := 144) (v := .int (nI n)) fX3_41 dX3_advance_141 c65 (by decide) rfl rfl ?_
      refine r_icmp_ge (tgt := 178) (pc2 := 147) dX3_advance_144 (by decide) rfl (fun b144 => ?_) (fun b144 => ?_)
      · exact absurd b144 (nI_ge hlt (by omega))
      · skip
        refine r_aload_n (pc2 := 148) 0 dX3_advance_147 rfl rfl rfl rfl ?_
        refine r_aload_n (pc2 := 149) 0 dX3_advance_148 rfl rfl rfl rfl ?_
        refine r_getf (pc2 := 152) (v := .int (nI k)) fX3_47 dX3_advance_149 c65 (by decide) rfl rfl ?_
        refine r_callV1 (pc2 := 155) (As := [.int (nI k)]) (st := []) kX3_69 rfl rfl dX3_advance_152 c65 (by decide) rfl rfl (Nat.le_of_ble_eq_true rfl) (by omega) (c_byteAt (t := (fk, fp, kv, s9, nI k)) (tp := tp) (j := k) c65 (hP.ex hx (by decide)) ht.1 (by omega)) rfl (fun h2 hq152 => ?_)
        obtain rfl := hq152.symm
        refine r_cast (sb (tp k)) (if_pos hlt) ?_
        refine r_callS1 (pc2 := 158) (As := [.int (sb (tp k))]) (st := []) kX3_73 dX3_advance_155 rfl rfl (Nat.le_of_ble_eq_true rfl) (by omega) (c_kindOf (c := tp k) (ht.2 _ (by omega))) rfl (fun h2 hq155 => ?_)
        obtain rfl := hq155.symm
        refine r_aload_n (pc2 := 159) 0 dX3_advance_158 rfl rfl rfl rfl ?_
        refine r_getf (pc2 := 162) (v := .int kv) fX3_60 dX3_advance_159 c65 (by decide) rfl rfl ?_
        refine r_icmp_ne (tgt := 178) (pc2 := 165) dX3_advance_162 (by decide) rfl (fun b162 => ?_) (fun b162 => ?_)
        · exact absurd ((congrArg nI ((hq _ hc).mpr hy)).trans eK.symm) b162
        · skip
          refine r_aload_n (pc2 := 166) 0 dX3_advance_165 rfl rfl rfl rfl ?_
          refine r_dup (pc2 := 167) dX3_advance_166 rfl rfl ?_
          refine r_getf (pc2 := 170) (v := .int (nI k)) fX3_47 dX3_advance_167 c65 (by decide) rfl rfl ?_
          refine r_iconst (pc2 := 171) (v := 1) dX3_advance_170 (by decide) rfl ?_
          refine r_iadd (pc2 := 172) dX3_advance_171 rfl ?_
          refine r_cast (nI (k + 1)) (nI_1 _) ?_
          refine r_putfX (pc2 := 175) [.int fk, .int fp, .int ta, .ref 66, .int (nI n), .int kv, .int s9, .int (nI (k + 1)), .int ne, .int inz, .int pt, .ref 67, .int cl, tv] fX3_47 dX3_advance_172 c65 (by decide) (Nat.le_of_ble_eq_true rfl) rfl rfl rfl (fun h z172 o172 c65 => ?_)
          have hx := hx.step (a := 65) (by simp) z172 o172
          refine r_goto (pc2 := 136) dX3_advance_175 (by decide) ?_
          exact ih (k + 1) h (by omega) (by omega) (hsc.symm.trans (scan_in hlt hy)).symm hx c65
    · skip
      refine r_aload_n (pc2 := 137) 0 dX3_advance_136 rfl rfl rfl rfl ?_
      refine r_getf (pc2 := 140) (v := .int (nI k)) fX3_47 dX3_advance_137 c65 (by decide) rfl rfl ?_
      refine r_aload_n (pc2 := 141) 0 dX3_advance_140 rfl rfl rfl rfl ?_
      refine r_getf (pc2 := 144) (v := .int (nI n)) fX3_41 dX3_advance_141 c65 (by decide) rfl rfl ?_
      refine r_icmp_ge (tgt := 178) (pc2 := 147) dX3_advance_144 (by decide) rfl (fun b144 => ?_) (fun b144 => ?_)
      · exact absurd b144 (nI_ge hlt (by omega))
      · skip
        refine r_aload_n (pc2 := 148) 0 dX3_advance_147 rfl rfl rfl rfl ?_
        refine r_aload_n (pc2 := 149) 0 dX3_advance_148 rfl rfl rfl rfl ?_
        refine r_getf (pc2 := 152) (v := .int (nI k)) fX3_47 dX3_advance_149 c65 (by decide) rfl rfl ?_
        refine r_callV1 (pc2 := 155) (As := [.int (nI k)]) (st := []) kX3_69 rfl rfl dX3_advance_152 c65 (by decide) rfl rfl (Nat.le_of_ble_eq_true rfl) (by omega) (c_byteAt (t := (fk, fp, kv, s9, nI k)) (tp := tp) (j := k) c65 (hP.ex hx (by decide)) ht.1 (by omega)) rfl (fun h2 hq152 => ?_)
        obtain rfl := hq152.symm
        refine r_cast (sb (tp k)) (if_pos hlt) ?_
        refine r_callS1 (pc2 := 158) (As := [.int (sb (tp k))]) (st := []) kX3_73 dX3_advance_155 rfl rfl (Nat.le_of_ble_eq_true rfl) (by omega) (c_kindOf (c := tp k) (ht.2 _ (by omega))) rfl (fun h2 hq155 => ?_)
        obtain rfl := hq155.symm
        refine r_aload_n (pc2 := 159) 0 dX3_advance_158 rfl rfl rfl rfl ?_
        refine r_getf (pc2 := 162) (v := .int kv) fX3_60 dX3_advance_159 c65 (by decide) rfl rfl ?_
        refine r_icmp_ne (tgt := 178) (pc2 := 165) dX3_advance_162 (by decide) rfl (fun b162 => ?_) (fun b162 => ?_)
        · skip
          exact rest h hx (by rw [← hsc, scan_out (fun z => hy z.2)]; exact c65)
        · exact absurd ((hq _ hc).mp ((nI_eq (by have := kO9_le (tp k); omega) (by omega)).mp (b162.trans eK))) hy
set_option maxRecDepth 20000 in
set_option maxHeartbeats 1000000 in
theorem c_advance0 {E : EnvT} {d : Nat} {h0 : Hp} {n : Nat} {ta ne inz pt cl : Int32} {tv : Value} {tp : Nat → Nat} {ki s9 : Int32} {p : Nat} (c65 : h0.1 65 = some (.inr (3, rdL n ta ne inz pt cl tv (0, -1, ki, s9, nI p)))) (hP : TPo tp h0) (ht : TOk tp n) (hp : p ≤ n) (hd : 2 ≤ d) : Cn E mX3_advance d [.ref 65] h0 (fun r h2 => r = none ∧ Ex [65] h0 h2 ∧ ∃ t2, h2.1 65 = some (.inr (3, rdL n ta ne inz pt cl tv t2)) ∧ TK tp n (nrp tp n p) t2) := by
  have hn9 := ht.1
  have hx : Ex [65] h0 h0 := Ex.rf
  have hd2 := hd
  have hd : 1 ≤ d := by omega
  have rest : ∀ h, Ex [65] h0 h → h.1 65 = some (.inr (3, rdL n ta ne inz pt cl tv (0, -1, ki, nI (lxS tp n p), nI p))) → Fr E mX3_advance d 58 [.ref 65] [] h (fun r h2 => r = none ∧ Ex [65] h0 h2 ∧ ∃ t2, h2.1 65 = some (.inr (3, rdL n ta ne inz pt cl tv t2)) ∧ TK tp n (nrp tp n p) t2) := by
    intro h hx c65
    have hSn : lxS tp n p ≤ n := lxS_n hp
    generalize hSe : lxS tp n p = S at c65 hSn
    by_cases hge : n ≤ S
    · skip
      refine r_aload_n (pc2 := 59) 0 dX3_advance_58 rfl rfl rfl rfl ?_
      refine r_aload_n (pc2 := 60) 0 dX3_advance_59 rfl rfl rfl rfl ?_
      refine r_getf (pc2 := 63) (v := .int (nI S)) fX3_66 dX3_advance_60 c65 (by decide) rfl rfl ?_
      refine r_aload_n (pc2 := 64) 0 dX3_advance_63 rfl rfl rfl rfl ?_
      refine r_getf (pc2 := 67) (v := .int (nI n)) fX3_41 dX3_advance_64 c65 (by decide) rfl rfl ?_
      refine r_icmp_ge (tgt := 91) (pc2 := 70) dX3_advance_67 (by decide) rfl (fun b67 => ?_) (fun b67 => ?_)
      · skip
        refine r_iconst (pc2 := 92) (v := 0) dX3_advance_91 (by decide) rfl ?_
        refine r_putfX (pc2 := 95) [.int 0, .int (-1), .int ta, .ref 66, .int (nI n), .int 0, .int (nI S), .int (nI p), .int ne, .int inz, .int pt, .ref 67, .int cl, tv] fX3_60 dX3_advance_92 c65 (by decide) (Nat.le_of_ble_eq_true rfl) rfl rfl rfl (fun h z92 o92 c65 => ?_)
        have hx := hx.step (a := 65) (by simp) z92 o92
        refine r_aload_n (pc2 := 96) 0 dX3_advance_95 rfl rfl rfl rfl ?_
        refine r_aload_n (pc2 := 97) 0 dX3_advance_96 rfl rfl rfl rfl ?_
        refine r_getf (pc2 := 100) (v := .int 0) fX3_60 dX3_advance_97 c65 (by decide) rfl rfl ?_
        refine r_iconst (pc2 := 101) (v := 3) dX3_advance_100 (by decide) rfl ?_
        refine r_icmp_ne (tgt := 113) (pc2 := 104) dX3_advance_101 (by decide) rfl (fun b101 => ?_) (fun b101 => ?_)
        · skip
          refine r_aload_n (pc2 := 114) 0 dX3_advance_113 rfl rfl rfl rfl ?_
          refine r_getf (pc2 := 117) (v := .int (nI S)) fX3_66 dX3_advance_114 c65 (by decide) rfl rfl ?_
          refine r_putfX (pc2 := 120) [.int 0, .int (-1), .int ta, .ref 66, .int (nI n), .int 0, .int (nI S), .int (nI S), .int ne, .int inz, .int pt, .ref 67, .int cl, tv] fX3_47 dX3_advance_117 c65 (by decide) (Nat.le_of_ble_eq_true rfl) rfl rfl rfl (fun h z117 o117 c65 => ?_)
          have hx := hx.step (a := 65) (by simp) z117 o117
          refine r_aload_n (pc2 := 121) 0 dX3_advance_120 rfl rfl rfl rfl ?_
          refine r_getf (pc2 := 124) (v := .int 0) fX3_60 dX3_advance_121 c65 (by decide) rfl rfl ?_
          refine r_iconst (pc2 := 125) (v := 1) dX3_advance_124 (by decide) rfl ?_
          refine r_icmp_eq (tgt := 136) (pc2 := 128) dX3_advance_125 (by decide) rfl (fun b125 => ?_) (fun b125 => ?_)
          · exact absurd b125 (by decide)
          · skip
            refine r_aload_n (pc2 := 129) 0 dX3_advance_128 rfl rfl rfl rfl ?_
            refine r_getf (pc2 := 132) (v := .int 0) fX3_60 dX3_advance_129 c65 (by decide) rfl rfl ?_
            refine r_iconst (pc2 := 133) (v := 2) dX3_advance_132 (by decide) rfl ?_
            refine r_icmp_ne (tgt := 178) (pc2 := 136) dX3_advance_133 (by decide) rfl (fun b133 => ?_) (fun b133 => ?_)
            · skip
              refine r_aload_n (pc2 := 179) 0 dX3_advance_178 rfl rfl rfl rfl ?_
              refine r_getf (pc2 := 182) (v := .int 0) fX3_60 dX3_advance_179 c65 (by decide) rfl rfl ?_
              refine r_iconst (pc2 := 183) (v := 4) dX3_advance_182 (by decide) rfl ?_
              refine r_icmp_eq (tgt := 207) (pc2 := 186) dX3_advance_183 (by decide) rfl (fun b183 => ?_) (fun b183 => ?_)
              · exact absurd b183 (by decide)
              · skip
                refine r_aload_n (pc2 := 187) 0 dX3_advance_186 rfl rfl rfl rfl ?_
                refine r_getf (pc2 := 190) (v := .int 0) fX3_60 dX3_advance_187 c65 (by decide) rfl rfl ?_
                refine r_iconst (pc2 := 191) (v := 2) dX3_advance_190 (by decide) rfl ?_
                refine r_icmp_ne (tgt := 212) (pc2 := 194) dX3_advance_191 (by decide) rfl (fun b191 => ?_) (fun b191 => ?_)
                · skip
                  exact r_vret rfl dX3_advance_212 ⟨rfl, hx, (0, -1, 0, nI S, nI S), c65, TK_end hp hSe hge⟩
                · exact absurd b191 (by decide)
            · exact absurd b133 (by decide)
        · exact absurd b101 (by decide)
      · exact absurd (nI_le (by omega) (by omega)) b67
    · have hlt : S < n := by omega
      have hc := ht.2 S (by omega)
      have hDn : lxD tp n S ≤ n := scan_n _ _ _ _ _ hSn
      cases h1 : isSm (tp S) with
      | true =>
        have hk : kO9 (tp S) = 1 := by unfold kO9; rw [if_pos h1]
        have rest2 : ∀ h, Ex [65] h0 h → h.1 65 = some (.inr (3, rdL n ta ne inz pt cl tv (0, -1, 1, nI S, nI (lxW tp n S)))) → Fr E mX3_advance d 178 [.ref 65] [] h (fun r h2 => r = none ∧ Ex [65] h0 h2 ∧ ∃ t2, h2.1 65 = some (.inr (3, rdL n ta ne inz pt cl tv t2)) ∧ TK tp n (nrp tp n p) t2) := by
          intro h hx c65
          refine r_aload_n (pc2 := 179) 0 dX3_advance_178 rfl rfl rfl rfl ?_
          refine r_getf (pc2 := 182) (v := .int 1) fX3_60 dX3_advance_179 c65 (by decide) rfl rfl ?_
          refine r_iconst (pc2 := 183) (v := 4) dX3_advance_182 (by decide) rfl ?_
          refine r_icmp_eq (tgt := 207) (pc2 := 186) dX3_advance_183 (by decide) rfl (fun b183 => ?_) (fun b183 => ?_)
          · exact absurd b183 (by decide)
          · skip
            refine r_aload_n (pc2 := 187) 0 dX3_advance_186 rfl rfl rfl rfl ?_
            refine r_getf (pc2 := 190) (v := .int 1) fX3_60 dX3_advance_187 c65 (by decide) rfl rfl ?_
            refine r_iconst (pc2 := 191) (v := 2) dX3_advance_190 (by decide) rfl ?_
            refine r_icmp_ne (tgt := 212) (pc2 := 194) dX3_advance_191 (by decide) rfl (fun b191 => ?_) (fun b191 => ?_)
            · skip
              exact r_vret rfl dX3_advance_212 ⟨rfl, hx, (0, -1, 1, nI S, nI (lxW tp n S)), c65, TK_sm hp hSe hlt h1⟩
            · exact absurd b191 (by decide)
        skip
        refine r_aload_n (pc2 := 59) 0 dX3_advance_58 rfl rfl rfl rfl ?_
        refine r_aload_n (pc2 := 60) 0 dX3_advance_59 rfl rfl rfl rfl ?_
        refine r_getf (pc2 := 63) (v := .int (nI S)) fX3_66 dX3_advance_60 c65 (by decide) rfl rfl ?_
        refine r_aload_n (pc2 := 64) 0 dX3_advance_63 rfl rfl rfl rfl ?_
        refine r_getf (pc2 := 67) (v := .int (nI n)) fX3_41 dX3_advance_64 c65 (by decide) rfl rfl ?_
        refine r_icmp_ge (tgt := 91) (pc2 := 70) dX3_advance_67 (by decide) rfl (fun b67 => ?_) (fun b67 => ?_)
        · exact absurd b67 (nI_ge hlt (by omega))
        · skip
          refine r_aload_n (pc2 := 71) 0 dX3_advance_70 rfl rfl rfl rfl ?_
          refine r_getf (pc2 := 74) (v := .int 0) fX3_44 dX3_advance_71 c65 (by decide) rfl rfl ?_
          refine r_if_ne (tgt := 91) (pc2 := 77) dX3_advance_74 (by decide) rfl (fun b74 => ?_) (fun b74 => ?_)
          · exact absurd b74 (by decide)
          · skip
            refine r_aload_n (pc2 := 78) 0 dX3_advance_77 rfl rfl rfl rfl ?_
            refine r_aload_n (pc2 := 79) 0 dX3_advance_78 rfl rfl rfl rfl ?_
            refine r_getf (pc2 := 82) (v := .int (nI S)) fX3_66 dX3_advance_79 c65 (by decide) rfl rfl ?_
            refine r_callV1 (pc2 := 85) (As := [.int (nI S)]) (st := [.ref 65]) kX3_69 rfl rfl dX3_advance_82 c65 (by decide) rfl rfl (Nat.le_of_ble_eq_true rfl) (by omega) (c_byteAt (t := (0, -1, ki, nI S, nI p)) (tp := tp) (j := S) c65 (hP.ex hx (by decide)) ht.1 (by omega)) rfl (fun h2 hq82 => ?_)
            obtain rfl := hq82.symm
            refine r_cast (sb (tp S)) (if_pos hlt) ?_
            refine r_callS1 (pc2 := 88) (As := [.int (sb (tp S))]) (st := [.ref 65]) kX3_73 dX3_advance_85 rfl rfl (Nat.le_of_ble_eq_true rfl) (by omega) (c_kindOf (c := tp S) (ht.2 _ (by omega))) rfl (fun h2 hq85 => ?_)
            obtain rfl := hq85.symm
            refine r_cast (1) (by rw [hk]; rfl) ?_
            refine r_goto (pc2 := 92) dX3_advance_88 (by decide) ?_
            refine r_putfX (pc2 := 95) [.int 0, .int (-1), .int ta, .ref 66, .int (nI n), .int 1, .int (nI S), .int (nI p), .int ne, .int inz, .int pt, .ref 67, .int cl, tv] fX3_60 dX3_advance_92 c65 (by decide) (Nat.le_of_ble_eq_true rfl) rfl rfl rfl (fun h z92 o92 c65 => ?_)
            have hx := hx.step (a := 65) (by simp) z92 o92
            refine r_aload_n (pc2 := 96) 0 dX3_advance_95 rfl rfl rfl rfl ?_
            refine r_aload_n (pc2 := 97) 0 dX3_advance_96 rfl rfl rfl rfl ?_
            refine r_getf (pc2 := 100) (v := .int 1) fX3_60 dX3_advance_97 c65 (by decide) rfl rfl ?_
            refine r_iconst (pc2 := 101) (v := 3) dX3_advance_100 (by decide) rfl ?_
            refine r_icmp_ne (tgt := 113) (pc2 := 104) dX3_advance_101 (by decide) rfl (fun b101 => ?_) (fun b101 => ?_)
            · skip
              refine r_aload_n (pc2 := 114) 0 dX3_advance_113 rfl rfl rfl rfl ?_
              refine r_getf (pc2 := 117) (v := .int (nI S)) fX3_66 dX3_advance_114 c65 (by decide) rfl rfl ?_
              refine r_putfX (pc2 := 120) [.int 0, .int (-1), .int ta, .ref 66, .int (nI n), .int 1, .int (nI S), .int (nI S), .int ne, .int inz, .int pt, .ref 67, .int cl, tv] fX3_47 dX3_advance_117 c65 (by decide) (Nat.le_of_ble_eq_true rfl) rfl rfl rfl (fun h z117 o117 c65 => ?_)
              have hx := hx.step (a := 65) (by simp) z117 o117
              refine r_aload_n (pc2 := 121) 0 dX3_advance_120 rfl rfl rfl rfl ?_
              refine r_getf (pc2 := 124) (v := .int 1) fX3_60 dX3_advance_121 c65 (by decide) rfl rfl ?_
              refine r_iconst (pc2 := 125) (v := 1) dX3_advance_124 (by decide) rfl ?_
              refine r_icmp_eq (tgt := 136) (pc2 := 128) dX3_advance_125 (by decide) rfl (fun b125 => ?_) (fun b125 => ?_)
              · skip
                exact f_adv2 (S0 := lxW tp n S) hP ht hd (K := 1) rfl (by decide) kO9_sm rest2 _ S h rfl (by omega) rfl hx c65
              · exact absurd b125 (by decide)
            · exact absurd b101 (by decide)
      | false =>
        cases h2 : isDg (tp S) with
        | true =>
          have hk : kO9 (tp S) = 2 := by unfold kO9; rw [if_neg (by rw [h1]; decide), if_pos h2]
          have rest2 : ∀ h, Ex [65] h0 h → h.1 65 = some (.inr (3, rdL n ta ne inz pt cl tv (0, -1, 2, nI S, nI (lxD tp n S)))) → Fr E mX3_advance d 178 [.ref 65] [] h (fun r h2 => r = none ∧ Ex [65] h0 h2 ∧ ∃ t2, h2.1 65 = some (.inr (3, rdL n ta ne inz pt cl tv t2)) ∧ TK tp n (nrp tp n p) t2) := by
            intro h hx c65
            by_cases h4 : 3 < lxD tp n S - S
            · skip
              refine r_aload_n (pc2 := 179) 0 dX3_advance_178 rfl rfl rfl rfl ?_
              refine r_getf (pc2 := 182) (v := .int 2) fX3_60 dX3_advance_179 c65 (by decide) rfl rfl ?_
              refine r_iconst (pc2 := 183) (v := 4) dX3_advance_182 (by decide) rfl ?_
              refine r_icmp_eq (tgt := 207) (pc2 := 186) dX3_advance_183 (by decide) rfl (fun b183 => ?_) (fun b183 => ?_)
              · exact absurd b183 (by decide)
              · skip
                refine r_aload_n (pc2 := 187) 0 dX3_advance_186 rfl rfl rfl rfl ?_
                refine r_getf (pc2 := 190) (v := .int 2) fX3_60 dX3_advance_187 c65 (by decide) rfl rfl ?_
                refine r_iconst (pc2 := 191) (v := 2) dX3_advance_190 (by decide) rfl ?_
                refine r_icmp_ne (tgt := 212) (pc2 := 194) dX3_advance_191 (by decide) rfl (fun b191 => ?_) (fun b191 => ?_)
                · exact absurd b191 (by decide)
                · skip
                  refine r_aload_n (pc2 := 195) 0 dX3_advance_194 rfl rfl rfl rfl ?_
                  refine r_getf (pc2 := 198) (v := .int (nI (lxD tp n S))) fX3_47 dX3_advance_195 c65 (by decide) rfl rfl ?_
                  refine r_aload_n (pc2 := 199) 0 dX3_advance_198 rfl rfl rfl rfl ?_
                  refine r_getf (pc2 := 202) (v := .int (nI S)) fX3_66 dX3_advance_199 c65 (by decide) rfl rfl ?_
                  refine r_isub (pc2 := 203) dX3_advance_202 rfl ?_
                  refine r_cast (nI (lxD tp n S - S)) (pk_sub (by unfold lxD; exact scan_le _ _ _ _ _)) ?_
                  refine r_iconst (pc2 := 204) (v := 3) dX3_advance_203 (by decide) rfl ?_
                  refine r_icmp_le (tgt := 212) (pc2 := 207) dX3_advance_204 (by decide) rfl (fun b204 => ?_) (fun b204 => ?_)
                  · exact absurd b204 (nI_ge (b := lxD tp n S - S) (a := 3) h4 (by omega))
                  · skip
                    refine r_aload_n (pc2 := 208) 0 dX3_advance_207 rfl rfl rfl rfl ?_
                    refine r_iconst (pc2 := 209) (v := 1) dX3_advance_208 (by decide) rfl ?_
                    refine r_callV0 (pc2 := 212) (As := [.int 1]) (st := []) kX3_76 rfl rfl dX3_advance_209 c65 (by decide) rfl rfl (Nat.le_of_ble_eq_true rfl) (by omega) (c_refuse0 (n := n) (ta := ta) (ne := ne) (inz := inz) (pt := pt) (cl := cl) (tv := tv) (fp := -1) (ki := 2) (s9 := nI S) (e9 := nI (lxD tp n S)) (w9 := 1) c65) rfl (fun h hq209 => ?_)
                    obtain ⟨hxr, c65⟩ := hq209
                    have hx := hx.trans hxr (by simp)
                    exact r_vret rfl dX3_advance_212 ⟨rfl, hx, _, c65, TK_d3 hp hSe hn9 hlt h1 h2 h4⟩
            · skip
              refine r_aload_n (pc2 := 179) 0 dX3_advance_178 rfl rfl rfl rfl ?_
              refine r_getf (pc2 := 182) (v := .int 2) fX3_60 dX3_advance_179 c65 (by decide) rfl rfl ?_
              refine r_iconst (pc2 := 183) (v := 4) dX3_advance_182 (by decide) rfl ?_
              refine r_icmp_eq (tgt := 207) (pc2 := 186) dX3_advance_183 (by decide) rfl (fun b183 => ?_) (fun b183 => ?_)
              · exact absurd b183 (by decide)
              · skip
                refine r_aload_n (pc2 := 187) 0 dX3_advance_186 rfl rfl rfl rfl ?_
                refine r_getf (pc2 := 190) (v := .int 2) fX3_60 dX3_advance_187 c65 (by decide) rfl rfl ?_
                refine r_iconst (pc2 := 191) (v := 2) dX3_advance_190 (by decide) rfl ?_
                refine r_icmp_ne (tgt := 212) (pc2 := 194) dX3_advance_191 (by decide) rfl (fun b191 => ?_) (fun b191 => ?_)
                · exact absurd b191 (by decide)
                · skip
                  refine r_aload_n (pc2 := 195) 0 dX3_advance_194 rfl rfl rfl rfl ?_
                  refine r_getf (pc2 := 198) (v := .int (nI (lxD tp n S))) fX3_47 dX3_advance_195 c65 (by decide) rfl rfl ?_
                  refine r_aload_n (pc2 := 199) 0 dX3_advance_198 rfl rfl rfl rfl ?_
                  refine r_getf (pc2 := 202) (v := .int (nI S)) fX3_66 dX3_advance_199 c65 (by decide) rfl rfl ?_
                  refine r_isub (pc2 := 203) dX3_advance_202 rfl ?_
                  refine r_cast (nI (lxD tp n S - S)) (pk_sub (by unfold lxD; exact scan_le _ _ _ _ _)) ?_
                  refine r_iconst (pc2 := 204) (v := 3) dX3_advance_203 (by decide) rfl ?_
                  refine r_icmp_le (tgt := 212) (pc2 := 207) dX3_advance_204 (by decide) rfl (fun b204 => ?_) (fun b204 => ?_)
                  · skip
                    exact r_vret rfl dX3_advance_212 ⟨rfl, hx, (0, -1, 2, nI S, nI (lxD tp n S)), c65, TK_dg hp hSe hlt h1 h2 h4⟩
                  · exact absurd (nI_le (b := 3) (Nat.le_of_not_lt h4) (by decide)) b204
          skip
          refine r_aload_n (pc2 := 59) 0 dX3_advance_58 rfl rfl rfl rfl ?_
          refine r_aload_n (pc2 := 60) 0 dX3_advance_59 rfl rfl rfl rfl ?_
          refine r_getf (pc2 := 63) (v := .int (nI S)) fX3_66 dX3_advance_60 c65 (by decide) rfl rfl ?_
          refine r_aload_n (pc2 := 64) 0 dX3_advance_63 rfl rfl rfl rfl ?_
          refine r_getf (pc2 := 67) (v := .int (nI n)) fX3_41 dX3_advance_64 c65 (by decide) rfl rfl ?_
          refine r_icmp_ge (tgt := 91) (pc2 := 70) dX3_advance_67 (by decide) rfl (fun b67 => ?_) (fun b67 => ?_)
          · exact absurd b67 (nI_ge hlt (by omega))
          · skip
            refine r_aload_n (pc2 := 71) 0 dX3_advance_70 rfl rfl rfl rfl ?_
            refine r_getf (pc2 := 74) (v := .int 0) fX3_44 dX3_advance_71 c65 (by decide) rfl rfl ?_
            refine r_if_ne (tgt := 91) (pc2 := 77) dX3_advance_74 (by decide) rfl (fun b74 => ?_) (fun b74 => ?_)
            · exact absurd b74 (by decide)
            · skip
              refine r_aload_n (pc2 := 78) 0 dX3_advance_77 rfl rfl rfl rfl ?_
              refine r_aload_n (pc2 := 79) 0 dX3_advance_78 rfl rfl rfl rfl ?_
              refine r_getf (pc2 := 82) (v := .int (nI S)) fX3_66 dX3_advance_79 c65 (by decide) rfl rfl ?_
              refine r_callV1 (pc2 := 85) (As := [.int (nI S)]) (st := [.ref 65]) kX3_69 rfl rfl dX3_advance_82 c65 (by decide) rfl rfl (Nat.le_of_ble_eq_true rfl) (by omega) (c_byteAt (t := (0, -1, ki, nI S, nI p)) (tp := tp) (j := S) c65 (hP.ex hx (by decide)) ht.1 (by omega)) rfl (fun h2 hq82 => ?_)
              obtain rfl := hq82.symm
              refine r_cast (sb (tp S)) (if_pos hlt) ?_
              refine r_callS1 (pc2 := 88) (As := [.int (sb (tp S))]) (st := [.ref 65]) kX3_73 dX3_advance_85 rfl rfl (Nat.le_of_ble_eq_true rfl) (by omega) (c_kindOf (c := tp S) (ht.2 _ (by omega))) rfl (fun h2 hq85 => ?_)
              obtain rfl := hq85.symm
              refine r_cast (2) (by rw [hk]; rfl) ?_
              refine r_goto (pc2 := 92) dX3_advance_88 (by decide) ?_
              refine r_putfX (pc2 := 95) [.int 0, .int (-1), .int ta, .ref 66, .int (nI n), .int 2, .int (nI S), .int (nI p), .int ne, .int inz, .int pt, .ref 67, .int cl, tv] fX3_60 dX3_advance_92 c65 (by decide) (Nat.le_of_ble_eq_true rfl) rfl rfl rfl (fun h z92 o92 c65 => ?_)
              have hx := hx.step (a := 65) (by simp) z92 o92
              refine r_aload_n (pc2 := 96) 0 dX3_advance_95 rfl rfl rfl rfl ?_
              refine r_aload_n (pc2 := 97) 0 dX3_advance_96 rfl rfl rfl rfl ?_
              refine r_getf (pc2 := 100) (v := .int 2) fX3_60 dX3_advance_97 c65 (by decide) rfl rfl ?_
              refine r_iconst (pc2 := 101) (v := 3) dX3_advance_100 (by decide) rfl ?_
              refine r_icmp_ne (tgt := 113) (pc2 := 104) dX3_advance_101 (by decide) rfl (fun b101 => ?_) (fun b101 => ?_)
              · skip
                refine r_aload_n (pc2 := 114) 0 dX3_advance_113 rfl rfl rfl rfl ?_
                refine r_getf (pc2 := 117) (v := .int (nI S)) fX3_66 dX3_advance_114 c65 (by decide) rfl rfl ?_
                refine r_putfX (pc2 := 120) [.int 0, .int (-1), .int ta, .ref 66, .int (nI n), .int 2, .int (nI S), .int (nI S), .int ne, .int inz, .int pt, .ref 67, .int cl, tv] fX3_47 dX3_advance_117 c65 (by decide) (Nat.le_of_ble_eq_true rfl) rfl rfl rfl (fun h z117 o117 c65 => ?_)
                have hx := hx.step (a := 65) (by simp) z117 o117
                refine r_aload_n (pc2 := 121) 0 dX3_advance_120 rfl rfl rfl rfl ?_
                refine r_getf (pc2 := 124) (v := .int 2) fX3_60 dX3_advance_121 c65 (by decide) rfl rfl ?_
                refine r_iconst (pc2 := 125) (v := 1) dX3_advance_124 (by decide) rfl ?_
                refine r_icmp_eq (tgt := 136) (pc2 := 128) dX3_advance_125 (by decide) rfl (fun b125 => ?_) (fun b125 => ?_)
                · exact absurd b125 (by decide)
                · skip
                  refine r_aload_n (pc2 := 129) 0 dX3_advance_128 rfl rfl rfl rfl ?_
                  refine r_getf (pc2 := 132) (v := .int 2) fX3_60 dX3_advance_129 c65 (by decide) rfl rfl ?_
                  refine r_iconst (pc2 := 133) (v := 2) dX3_advance_132 (by decide) rfl ?_
                  refine r_icmp_ne (tgt := 178) (pc2 := 136) dX3_advance_133 (by decide) rfl (fun b133 => ?_) (fun b133 => ?_)
                  · exact absurd b133 (by decide)
                  · skip
                    exact f_adv2 (S0 := lxD tp n S) hP ht hd (K := 2) rfl (by decide) kO9_dg rest2 _ S h rfl (by omega) rfl hx c65
              · exact absurd b101 (by decide)
        | false =>
          by_cases h3 : sgF (tp S) 12 = 26
          · have hk : kO9 (tp S) = 4 := by unfold kO9; rw [if_neg (by rw [h1]; decide), if_neg (by rw [h2]; decide), if_pos h3]
            refine r_aload_n (pc2 := 59) 0 dX3_advance_58 rfl rfl rfl rfl ?_
            refine r_aload_n (pc2 := 60) 0 dX3_advance_59 rfl rfl rfl rfl ?_
            refine r_getf (pc2 := 63) (v := .int (nI S)) fX3_66 dX3_advance_60 c65 (by decide) rfl rfl ?_
            refine r_aload_n (pc2 := 64) 0 dX3_advance_63 rfl rfl rfl rfl ?_
            refine r_getf (pc2 := 67) (v := .int (nI n)) fX3_41 dX3_advance_64 c65 (by decide) rfl rfl ?_
            refine r_icmp_ge (tgt := 91) (pc2 := 70) dX3_advance_67 (by decide) rfl (fun b67 => ?_) (fun b67 => ?_)
            · exact absurd b67 (nI_ge hlt (by omega))
            · skip
              refine r_aload_n (pc2 := 71) 0 dX3_advance_70 rfl rfl rfl rfl ?_
              refine r_getf (pc2 := 74) (v := .int 0) fX3_44 dX3_advance_71 c65 (by decide) rfl rfl ?_
              refine r_if_ne (tgt := 91) (pc2 := 77) dX3_advance_74 (by decide) rfl (fun b74 => ?_) (fun b74 => ?_)
              · exact absurd b74 (by decide)
              · skip
                refine r_aload_n (pc2 := 78) 0 dX3_advance_77 rfl rfl rfl rfl ?_
                refine r_aload_n (pc2 := 79) 0 dX3_advance_78 rfl rfl rfl rfl ?_
                refine r_getf (pc2 := 82) (v := .int (nI S)) fX3_66 dX3_advance_79 c65 (by decide) rfl rfl ?_
                refine r_callV1 (pc2 := 85) (As := [.int (nI S)]) (st := [.ref 65]) kX3_69 rfl rfl dX3_advance_82 c65 (by decide) rfl rfl (Nat.le_of_ble_eq_true rfl) (by omega) (c_byteAt (t := (0, -1, ki, nI S, nI p)) (tp := tp) (j := S) c65 (hP.ex hx (by decide)) ht.1 (by omega)) rfl (fun h2 hq82 => ?_)
                obtain rfl := hq82.symm
                refine r_cast (sb (tp S)) (if_pos hlt) ?_
                refine r_callS1 (pc2 := 88) (As := [.int (sb (tp S))]) (st := [.ref 65]) kX3_73 dX3_advance_85 rfl rfl (Nat.le_of_ble_eq_true rfl) (by omega) (c_kindOf (c := tp S) (ht.2 _ (by omega))) rfl (fun h2 hq85 => ?_)
                obtain rfl := hq85.symm
                refine r_cast (4) (by rw [hk]; rfl) ?_
                refine r_goto (pc2 := 92) dX3_advance_88 (by decide) ?_
                refine r_putfX (pc2 := 95) [.int 0, .int (-1), .int ta, .ref 66, .int (nI n), .int 4, .int (nI S), .int (nI p), .int ne, .int inz, .int pt, .ref 67, .int cl, tv] fX3_60 dX3_advance_92 c65 (by decide) (Nat.le_of_ble_eq_true rfl) rfl rfl rfl (fun h z92 o92 c65 => ?_)
                have hx := hx.step (a := 65) (by simp) z92 o92
                refine r_aload_n (pc2 := 96) 0 dX3_advance_95 rfl rfl rfl rfl ?_
                refine r_aload_n (pc2 := 97) 0 dX3_advance_96 rfl rfl rfl rfl ?_
                refine r_getf (pc2 := 100) (v := .int 4) fX3_60 dX3_advance_97 c65 (by decide) rfl rfl ?_
                refine r_iconst (pc2 := 101) (v := 3) dX3_advance_100 (by decide) rfl ?_
                refine r_icmp_ne (tgt := 113) (pc2 := 104) dX3_advance_101 (by decide) rfl (fun b101 => ?_) (fun b101 => ?_)
                · skip
                  refine r_aload_n (pc2 := 114) 0 dX3_advance_113 rfl rfl rfl rfl ?_
                  refine r_getf (pc2 := 117) (v := .int (nI S)) fX3_66 dX3_advance_114 c65 (by decide) rfl rfl ?_
                  refine r_putfX (pc2 := 120) [.int 0, .int (-1), .int ta, .ref 66, .int (nI n), .int 4, .int (nI S), .int (nI S), .int ne, .int inz, .int pt, .ref 67, .int cl, tv] fX3_47 dX3_advance_117 c65 (by decide) (Nat.le_of_ble_eq_true rfl) rfl rfl rfl (fun h z117 o117 c65 => ?_)
                  have hx := hx.step (a := 65) (by simp) z117 o117
                  refine r_aload_n (pc2 := 121) 0 dX3_advance_120 rfl rfl rfl rfl ?_
                  refine r_getf (pc2 := 124) (v := .int 4) fX3_60 dX3_advance_121 c65 (by decide) rfl rfl ?_
                  refine r_iconst (pc2 := 125) (v := 1) dX3_advance_124 (by decide) rfl ?_
                  refine r_icmp_eq (tgt := 136) (pc2 := 128) dX3_advance_125 (by decide) rfl (fun b125 => ?_) (fun b125 => ?_)
                  · exact absurd b125 (by decide)
                  · skip
                    refine r_aload_n (pc2 := 129) 0 dX3_advance_128 rfl rfl rfl rfl ?_
                    refine r_getf (pc2 := 132) (v := .int 4) fX3_60 dX3_advance_129 c65 (by decide) rfl rfl ?_
                    refine r_iconst (pc2 := 133) (v := 2) dX3_advance_132 (by decide) rfl ?_
                    refine r_icmp_ne (tgt := 178) (pc2 := 136) dX3_advance_133 (by decide) rfl (fun b133 => ?_) (fun b133 => ?_)
                    · skip
                      refine r_aload_n (pc2 := 179) 0 dX3_advance_178 rfl rfl rfl rfl ?_
                      refine r_getf (pc2 := 182) (v := .int 4) fX3_60 dX3_advance_179 c65 (by decide) rfl rfl ?_
                      refine r_iconst (pc2 := 183) (v := 4) dX3_advance_182 (by decide) rfl ?_
                      refine r_icmp_eq (tgt := 207) (pc2 := 186) dX3_advance_183 (by decide) rfl (fun b183 => ?_) (fun b183 => ?_)
                      · skip
                        refine r_aload_n (pc2 := 208) 0 dX3_advance_207 rfl rfl rfl rfl ?_
                        refine r_iconst (pc2 := 209) (v := 1) dX3_advance_208 (by decide) rfl ?_
                        refine r_callV0 (pc2 := 212) (As := [.int 1]) (st := []) kX3_76 rfl rfl dX3_advance_209 c65 (by decide) rfl rfl (Nat.le_of_ble_eq_true rfl) (by omega) (c_refuse0 (n := n) (ta := ta) (ne := ne) (inz := inz) (pt := pt) (cl := cl) (tv := tv) (fp := -1) (ki := 4) (s9 := nI S) (e9 := nI S) (w9 := 1) c65) rfl (fun h hq209 => ?_)
                        obtain ⟨hxr, c65⟩ := hq209
                        have hx := hx.trans hxr (by simp)
                        exact r_vret rfl dX3_advance_212 ⟨rfl, hx, _, c65, TK_no hp hSe hn9 hlt h1 h2 h3⟩
                      · exact absurd b183 (by decide)
                    · exact absurd b133 (by decide)
                · exact absurd b101 (by decide)
          · have hk : kO9 (tp S) = 3 := by unfold kO9; rw [if_neg (by rw [h1]; decide), if_neg (by rw [h2]; decide), if_neg h3]
            refine r_aload_n (pc2 := 59) 0 dX3_advance_58 rfl rfl rfl rfl ?_
            refine r_aload_n (pc2 := 60) 0 dX3_advance_59 rfl rfl rfl rfl ?_
            refine r_getf (pc2 := 63) (v := .int (nI S)) fX3_66 dX3_advance_60 c65 (by decide) rfl rfl ?_
            refine r_aload_n (pc2 := 64) 0 dX3_advance_63 rfl rfl rfl rfl ?_
            refine r_getf (pc2 := 67) (v := .int (nI n)) fX3_41 dX3_advance_64 c65 (by decide) rfl rfl ?_
            refine r_icmp_ge (tgt := 91) (pc2 := 70) dX3_advance_67 (by decide) rfl (fun b67 => ?_) (fun b67 => ?_)
            · exact absurd b67 (nI_ge hlt (by omega))
            · skip
              refine r_aload_n (pc2 := 71) 0 dX3_advance_70 rfl rfl rfl rfl ?_
              refine r_getf (pc2 := 74) (v := .int 0) fX3_44 dX3_advance_71 c65 (by decide) rfl rfl ?_
              refine r_if_ne (tgt := 91) (pc2 := 77) dX3_advance_74 (by decide) rfl (fun b74 => ?_) (fun b74 => ?_)
              · exact absurd b74 (by decide)
              · skip
                refine r_aload_n (pc2 := 78) 0 dX3_advance_77 rfl rfl rfl rfl ?_
                refine r_aload_n (pc2 := 79) 0 dX3_advance_78 rfl rfl rfl rfl ?_
                refine r_getf (pc2 := 82) (v := .int (nI S)) fX3_66 dX3_advance_79 c65 (by decide) rfl rfl ?_
                refine r_callV1 (pc2 := 85) (As := [.int (nI S)]) (st := [.ref 65]) kX3_69 rfl rfl dX3_advance_82 c65 (by decide) rfl rfl (Nat.le_of_ble_eq_true rfl) (by omega) (c_byteAt (t := (0, -1, ki, nI S, nI p)) (tp := tp) (j := S) c65 (hP.ex hx (by decide)) ht.1 (by omega)) rfl (fun h2 hq82 => ?_)
                obtain rfl := hq82.symm
                refine r_cast (sb (tp S)) (if_pos hlt) ?_
                refine r_callS1 (pc2 := 88) (As := [.int (sb (tp S))]) (st := [.ref 65]) kX3_73 dX3_advance_85 rfl rfl (Nat.le_of_ble_eq_true rfl) (by omega) (c_kindOf (c := tp S) (ht.2 _ (by omega))) rfl (fun h2 hq85 => ?_)
                obtain rfl := hq85.symm
                refine r_cast (3) (by rw [hk]; rfl) ?_
                refine r_goto (pc2 := 92) dX3_advance_88 (by decide) ?_
                refine r_putfX (pc2 := 95) [.int 0, .int (-1), .int ta, .ref 66, .int (nI n), .int 3, .int (nI S), .int (nI p), .int ne, .int inz, .int pt, .ref 67, .int cl, tv] fX3_60 dX3_advance_92 c65 (by decide) (Nat.le_of_ble_eq_true rfl) rfl rfl rfl (fun h z92 o92 c65 => ?_)
                have hx := hx.step (a := 65) (by simp) z92 o92
                refine r_aload_n (pc2 := 96) 0 dX3_advance_95 rfl rfl rfl rfl ?_
                refine r_aload_n (pc2 := 97) 0 dX3_advance_96 rfl rfl rfl rfl ?_
                refine r_getf (pc2 := 100) (v := .int 3) fX3_60 dX3_advance_97 c65 (by decide) rfl rfl ?_
                refine r_iconst (pc2 := 101) (v := 3) dX3_advance_100 (by decide) rfl ?_
                refine r_icmp_ne (tgt := 113) (pc2 := 104) dX3_advance_101 (by decide) rfl (fun b101 => ?_) (fun b101 => ?_)
                · exact absurd b101 (by decide)
                · skip
                  refine r_aload_n (pc2 := 105) 0 dX3_advance_104 rfl rfl rfl rfl ?_
                  refine r_getf (pc2 := 108) (v := .int (nI S)) fX3_66 dX3_advance_105 c65 (by decide) rfl rfl ?_
                  refine r_iconst (pc2 := 109) (v := 1) dX3_advance_108 (by decide) rfl ?_
                  refine r_iadd (pc2 := 110) dX3_advance_109 rfl ?_
                  refine r_goto (pc2 := 117) dX3_advance_110 (by decide) ?_
                  refine r_cast (nI (S + 1)) (nI_1 _) ?_
                  refine r_putfX (pc2 := 120) [.int 0, .int (-1), .int ta, .ref 66, .int (nI n), .int 3, .int (nI S), .int (nI (S + 1)), .int ne, .int inz, .int pt, .ref 67, .int cl, tv] fX3_47 dX3_advance_117 c65 (by decide) (Nat.le_of_ble_eq_true rfl) rfl rfl rfl (fun h z117 o117 c65 => ?_)
                  have hx := hx.step (a := 65) (by simp) z117 o117
                  refine r_aload_n (pc2 := 121) 0 dX3_advance_120 rfl rfl rfl rfl ?_
                  refine r_getf (pc2 := 124) (v := .int 3) fX3_60 dX3_advance_121 c65 (by decide) rfl rfl ?_
                  refine r_iconst (pc2 := 125) (v := 1) dX3_advance_124 (by decide) rfl ?_
                  refine r_icmp_eq (tgt := 136) (pc2 := 128) dX3_advance_125 (by decide) rfl (fun b125 => ?_) (fun b125 => ?_)
                  · exact absurd b125 (by decide)
                  · skip
                    refine r_aload_n (pc2 := 129) 0 dX3_advance_128 rfl rfl rfl rfl ?_
                    refine r_getf (pc2 := 132) (v := .int 3) fX3_60 dX3_advance_129 c65 (by decide) rfl rfl ?_
                    refine r_iconst (pc2 := 133) (v := 2) dX3_advance_132 (by decide) rfl ?_
                    refine r_icmp_ne (tgt := 178) (pc2 := 136) dX3_advance_133 (by decide) rfl (fun b133 => ?_) (fun b133 => ?_)
                    · skip
                      refine r_aload_n (pc2 := 179) 0 dX3_advance_178 rfl rfl rfl rfl ?_
                      refine r_getf (pc2 := 182) (v := .int 3) fX3_60 dX3_advance_179 c65 (by decide) rfl rfl ?_
                      refine r_iconst (pc2 := 183) (v := 4) dX3_advance_182 (by decide) rfl ?_
                      refine r_icmp_eq (tgt := 207) (pc2 := 186) dX3_advance_183 (by decide) rfl (fun b183 => ?_) (fun b183 => ?_)
                      · exact absurd b183 (by decide)
                      · skip
                        refine r_aload_n (pc2 := 187) 0 dX3_advance_186 rfl rfl rfl rfl ?_
                        refine r_getf (pc2 := 190) (v := .int 3) fX3_60 dX3_advance_187 c65 (by decide) rfl rfl ?_
                        refine r_iconst (pc2 := 191) (v := 2) dX3_advance_190 (by decide) rfl ?_
                        refine r_icmp_ne (tgt := 212) (pc2 := 194) dX3_advance_191 (by decide) rfl (fun b191 => ?_) (fun b191 => ?_)
                        · skip
                          exact r_vret rfl dX3_advance_212 ⟨rfl, hx, (0, -1, 3, nI S, nI (S + 1)), c65, TK_sg hp hSe hlt h1 h2 h3⟩
                        · exact absurd b191 (by decide)
                    · exact absurd b133 (by decide)
  refine Cn.go (ls := [.ref 65]) (by decide +kernel) rfl (Nat.le_of_ble_eq_true rfl) ?_
  refine r_aload_n (pc2 := 1) 0 dX3_advance_0 rfl rfl rfl rfl ?_
  refine r_aload_n (pc2 := 2) 0 dX3_advance_1 rfl rfl rfl rfl ?_
  refine r_getf (pc2 := 5) (v := .int (nI p)) fX3_47 dX3_advance_2 c65 (by decide) rfl rfl ?_
  refine r_putfX (pc2 := 8) [.int 0, .int (-1), .int ta, .ref 66, .int (nI n), .int ki, .int (nI p), .int (nI p), .int ne, .int inz, .int pt, .ref 67, .int cl, tv] fX3_66 dX3_advance_5 c65 (by decide) (Nat.le_of_ble_eq_true rfl) rfl rfl rfl (fun h z5 o5 c65 => ?_)
  have hx := hx.step (a := 65) (by simp) z5 o5
  exact f_adv1 hP ht hd rest _ p h rfl (by omega) rfl hx c65
set_option maxRecDepth 20000 in
set_option maxHeartbeats 1000000 in
theorem c_advance1 {E : EnvT} {d : Nat} {h0 : Hp} {n : Nat} {ta ne inz pt cl : Int32} {tv : Value} {tp : Nat → Nat} {ki s9 : Int32} {w a e : Nat} (c65 : h0.1 65 = some (.inr (3, rdL n ta ne inz pt cl tv (nI w, nI a, ki, s9, nI e)))) (hw : 1 ≤ w ∧ w ≤ 4) (he : e ≤ 1000) (hP : TPo tp h0) (ht : TOk tp n) (hd : 2 ≤ d) : Cn E mX3_advance d [.ref 65] h0 (fun r h2 => r = none ∧ Ex [65] h0 h2 ∧ ∃ t2, h2.1 65 = some (.inr (3, rdL n ta ne inz pt cl tv t2)) ∧ TK tp n (.error (w, a)) t2) := by
  have hn9 := ht.1
  have hx : Ex [65] h0 h0 := Ex.rf
  have rest : ∀ h, Ex [65] h0 h → h.1 65 = some (.inr (3, rdL n ta ne inz pt cl tv (nI w, nI a, ki, nI (scan isWh tp n (n - e) e), nI e))) → Fr E mX3_advance d 58 [.ref 65] [] h (fun r h2 => r = none ∧ Ex [65] h0 h2 ∧ ∃ t2, h2.1 65 = some (.inr (3, rdL n ta ne inz pt cl tv t2)) ∧ TK tp n (.error (w, a)) t2) := by
    intro h hx c65
    have hS9 : scan isWh tp n (n - e) e ≤ 1000 := by
      by_cases q : e ≤ n
      · have := scan_n isWh tp n (n - e) e q
        omega
      · rw [scan_out (fun z => by omega)]
        exact he
    generalize scan isWh tp n (n - e) e = S at c65 hS9
    refine r_aload_n (pc2 := 59) 0 dX3_advance_58 rfl rfl rfl rfl ?_
    refine r_aload_n (pc2 := 60) 0 dX3_advance_59 rfl rfl rfl rfl ?_
    refine r_getf (pc2 := 63) (v := .int (nI S)) fX3_66 dX3_advance_60 c65 (by decide) rfl rfl ?_
    refine r_aload_n (pc2 := 64) 0 dX3_advance_63 rfl rfl rfl rfl ?_
    refine r_getf (pc2 := 67) (v := .int (nI n)) fX3_41 dX3_advance_64 c65 (by decide) rfl rfl ?_
    refine r_icmp_ge (tgt := 91) (pc2 := 70) dX3_advance_67 (by decide) rfl (fun b67 => ?_) (fun b67 => ?_)
    · skip
      refine r_iconst (pc2 := 92) (v := 0) dX3_advance_91 (by decide) rfl ?_
      refine r_putfX (pc2 := 95) [.int (nI w), .int (nI a), .int ta, .ref 66, .int (nI n), .int 0, .int (nI S), .int (nI e), .int ne, .int inz, .int pt, .ref 67, .int cl, tv] fX3_60 dX3_advance_92 c65 (by decide) (Nat.le_of_ble_eq_true rfl) rfl rfl rfl (fun h z92 o92 c65 => ?_)
      have hx := hx.step (a := 65) (by simp) z92 o92
      refine r_aload_n (pc2 := 96) 0 dX3_advance_95 rfl rfl rfl rfl ?_
      refine r_aload_n (pc2 := 97) 0 dX3_advance_96 rfl rfl rfl rfl ?_
      refine r_getf (pc2 := 100) (v := .int 0) fX3_60 dX3_advance_97 c65 (by decide) rfl rfl ?_
      refine r_iconst (pc2 := 101) (v := 3) dX3_advance_100 (by decide) rfl ?_
      refine r_icmp_ne (tgt := 113) (pc2 := 104) dX3_advance_101 (by decide) rfl (fun b101 => ?_) (fun b101 => ?_)
      · skip
        refine r_aload_n (pc2 := 114) 0 dX3_advance_113 rfl rfl rfl rfl ?_
        refine r_getf (pc2 := 117) (v := .int (nI S)) fX3_66 dX3_advance_114 c65 (by decide) rfl rfl ?_
        refine r_putfX (pc2 := 120) [.int (nI w), .int (nI a), .int ta, .ref 66, .int (nI n), .int 0, .int (nI S), .int (nI S), .int ne, .int inz, .int pt, .ref 67, .int cl, tv] fX3_47 dX3_advance_117 c65 (by decide) (Nat.le_of_ble_eq_true rfl) rfl rfl rfl (fun h z117 o117 c65 => ?_)
        have hx := hx.step (a := 65) (by simp) z117 o117
        refine r_aload_n (pc2 := 121) 0 dX3_advance_120 rfl rfl rfl rfl ?_
        refine r_getf (pc2 := 124) (v := .int 0) fX3_60 dX3_advance_121 c65 (by decide) rfl rfl ?_
        refine r_iconst (pc2 := 125) (v := 1) dX3_advance_124 (by decide) rfl ?_
        refine r_icmp_eq (tgt := 136) (pc2 := 128) dX3_advance_125 (by decide) rfl (fun b125 => ?_) (fun b125 => ?_)
        · exact absurd b125 (by decide)
        · skip
          refine r_aload_n (pc2 := 129) 0 dX3_advance_128 rfl rfl rfl rfl ?_
          refine r_getf (pc2 := 132) (v := .int 0) fX3_60 dX3_advance_129 c65 (by decide) rfl rfl ?_
          refine r_iconst (pc2 := 133) (v := 2) dX3_advance_132 (by decide) rfl ?_
          refine r_icmp_ne (tgt := 178) (pc2 := 136) dX3_advance_133 (by decide) rfl (fun b133 => ?_) (fun b133 => ?_)
          · skip
            refine r_aload_n (pc2 := 179) 0 dX3_advance_178 rfl rfl rfl rfl ?_
            refine r_getf (pc2 := 182) (v := .int 0) fX3_60 dX3_advance_179 c65 (by decide) rfl rfl ?_
            refine r_iconst (pc2 := 183) (v := 4) dX3_advance_182 (by decide) rfl ?_
            refine r_icmp_eq (tgt := 207) (pc2 := 186) dX3_advance_183 (by decide) rfl (fun b183 => ?_) (fun b183 => ?_)
            · exact absurd b183 (by decide)
            · skip
              refine r_aload_n (pc2 := 187) 0 dX3_advance_186 rfl rfl rfl rfl ?_
              refine r_getf (pc2 := 190) (v := .int 0) fX3_60 dX3_advance_187 c65 (by decide) rfl rfl ?_
              refine r_iconst (pc2 := 191) (v := 2) dX3_advance_190 (by decide) rfl ?_
              refine r_icmp_ne (tgt := 212) (pc2 := 194) dX3_advance_191 (by decide) rfl (fun b191 => ?_) (fun b191 => ?_)
              · skip
                exact r_vret rfl dX3_advance_212 ⟨rfl, hx, (nI w, nI a, 0, nI S, nI S), c65, S, S, hw, hS9, hS9, rfl⟩
              · exact absurd b191 (by decide)
          · exact absurd b133 (by decide)
      · exact absurd b101 (by decide)
    · skip
      refine r_aload_n (pc2 := 71) 0 dX3_advance_70 rfl rfl rfl rfl ?_
      refine r_getf (pc2 := 74) (v := .int (nI w)) fX3_44 dX3_advance_71 c65 (by decide) rfl rfl ?_
      refine r_if_ne (tgt := 91) (pc2 := 77) dX3_advance_74 (by decide) rfl (fun b74 => ?_) (fun b74 => ?_)
      · skip
        refine r_iconst (pc2 := 92) (v := 0) dX3_advance_91 (by decide) rfl ?_
        refine r_putfX (pc2 := 95) [.int (nI w), .int (nI a), .int ta, .ref 66, .int (nI n), .int 0, .int (nI S), .int (nI e), .int ne, .int inz, .int pt, .ref 67, .int cl, tv] fX3_60 dX3_advance_92 c65 (by decide) (Nat.le_of_ble_eq_true rfl) rfl rfl rfl (fun h z92 o92 c65 => ?_)
        have hx := hx.step (a := 65) (by simp) z92 o92
        refine r_aload_n (pc2 := 96) 0 dX3_advance_95 rfl rfl rfl rfl ?_
        refine r_aload_n (pc2 := 97) 0 dX3_advance_96 rfl rfl rfl rfl ?_
        refine r_getf (pc2 := 100) (v := .int 0) fX3_60 dX3_advance_97 c65 (by decide) rfl rfl ?_
        refine r_iconst (pc2 := 101) (v := 3) dX3_advance_100 (by decide) rfl ?_
        refine r_icmp_ne (tgt := 113) (pc2 := 104) dX3_advance_101 (by decide) rfl (fun b101 => ?_) (fun b101 => ?_)
        · skip
          refine r_aload_n (pc2 := 114) 0 dX3_advance_113 rfl rfl rfl rfl ?_
          refine r_getf (pc2 := 117) (v := .int (nI S)) fX3_66 dX3_advance_114 c65 (by decide) rfl rfl ?_
          refine r_putfX (pc2 := 120) [.int (nI w), .int (nI a), .int ta, .ref 66, .int (nI n), .int 0, .int (nI S), .int (nI S), .int ne, .int inz, .int pt, .ref 67, .int cl, tv] fX3_47 dX3_advance_117 c65 (by decide) (Nat.le_of_ble_eq_true rfl) rfl rfl rfl (fun h z117 o117 c65 => ?_)
          have hx := hx.step (a := 65) (by simp) z117 o117
          refine r_aload_n (pc2 := 121) 0 dX3_advance_120 rfl rfl rfl rfl ?_
          refine r_getf (pc2 := 124) (v := .int 0) fX3_60 dX3_advance_121 c65 (by decide) rfl rfl ?_
          refine r_iconst (pc2 := 125) (v := 1) dX3_advance_124 (by decide) rfl ?_
          refine r_icmp_eq (tgt := 136) (pc2 := 128) dX3_advance_125 (by decide) rfl (fun b125 => ?_) (fun b125 => ?_)
          · exact absurd b125 (by decide)
          · skip
            refine r_aload_n (pc2 := 129) 0 dX3_advance_128 rfl rfl rfl rfl ?_
            refine r_getf (pc2 := 132) (v := .int 0) fX3_60 dX3_advance_129 c65 (by decide) rfl rfl ?_
            refine r_iconst (pc2 := 133) (v := 2) dX3_advance_132 (by decide) rfl ?_
            refine r_icmp_ne (tgt := 178) (pc2 := 136) dX3_advance_133 (by decide) rfl (fun b133 => ?_) (fun b133 => ?_)
            · skip
              refine r_aload_n (pc2 := 179) 0 dX3_advance_178 rfl rfl rfl rfl ?_
              refine r_getf (pc2 := 182) (v := .int 0) fX3_60 dX3_advance_179 c65 (by decide) rfl rfl ?_
              refine r_iconst (pc2 := 183) (v := 4) dX3_advance_182 (by decide) rfl ?_
              refine r_icmp_eq (tgt := 207) (pc2 := 186) dX3_advance_183 (by decide) rfl (fun b183 => ?_) (fun b183 => ?_)
              · exact absurd b183 (by decide)
              · skip
                refine r_aload_n (pc2 := 187) 0 dX3_advance_186 rfl rfl rfl rfl ?_
                refine r_getf (pc2 := 190) (v := .int 0) fX3_60 dX3_advance_187 c65 (by decide) rfl rfl ?_
                refine r_iconst (pc2 := 191) (v := 2) dX3_advance_190 (by decide) rfl ?_
                refine r_icmp_ne (tgt := 212) (pc2 := 194) dX3_advance_191 (by decide) rfl (fun b191 => ?_) (fun b191 => ?_)
                · skip
                  exact r_vret rfl dX3_advance_212 ⟨rfl, hx, (nI w, nI a, 0, nI S, nI S), c65, S, S, hw, hS9, hS9, rfl⟩
                · exact absurd b191 (by decide)
            · exact absurd b133 (by decide)
        · exact absurd b101 (by decide)
      · exact absurd b74 (nI_w0 hw.1 hw.2)
  refine Cn.go (ls := [.ref 65]) (by decide +kernel) rfl (Nat.le_of_ble_eq_true rfl) ?_
  refine r_aload_n (pc2 := 1) 0 dX3_advance_0 rfl rfl rfl rfl ?_
  refine r_aload_n (pc2 := 2) 0 dX3_advance_1 rfl rfl rfl rfl ?_
  refine r_getf (pc2 := 5) (v := .int (nI e)) fX3_47 dX3_advance_2 c65 (by decide) rfl rfl ?_
  refine r_putfX (pc2 := 8) [.int (nI w), .int (nI a), .int ta, .ref 66, .int (nI n), .int ki, .int (nI e), .int (nI e), .int ne, .int inz, .int pt, .ref 67, .int cl, tv] fX3_66 dX3_advance_5 c65 (by decide) (Nat.le_of_ble_eq_true rfl) rfl rfl rfl (fun h z5 o5 c65 => ?_)
  have hx := hx.step (a := 65) (by simp) z5 o5
  exact f_adv1 hP ht (by omega) rest _ e h rfl he rfl hx c65
theorem c_advance {E : EnvT} {d : Nat} {h0 : Hp} {n : Nat} {ta ne inz pt cl : Int32} {tv : Value} {tp : Nat → Nat} {t : TkT} {y : PY} (c65 : h0.1 65 = some (.inr (3, rdL n ta ne inz pt cl tv t))) (hT : TK tp n y t) (hP : TPo tp h0) (ht : TOk tp n) (hd : 2 ≤ d) : Cn E mX3_advance d [.ref 65] h0 (fun r h2 => r = none ∧ Ex [65] h0 h2 ∧ ∃ t2, h2.1 65 = some (.inr (3, rdL n ta ne inz pt cl tv t2)) ∧ TK tp n (advY tp n y) t2) := by
  match y, hT with
  | .ok p, hT =>
    obtain ⟨h1, h2, rfl⟩ := hT
    exact c_advance0 (p := lxE tp n p) c65 hP ht (lxE_n h1) hd
  | .error (w, a), hT =>
    obtain ⟨s, e, h1, h2, h3, rfl⟩ := hT
    exact c_advance1 c65 h1 h3 hP ht hd
