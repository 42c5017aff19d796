/-! the class's reader: words, signs, numbers -/
def kx (t : Nat) : Nat := ([0, 1, 2, 3, 4, 5, 6, 7, 8, 22, 9, 10, 11, 13, 20, 21, 14, 15, 16, 17, 18, 19, 12] : List Nat).getD t 0
theorem kx_lt : ∀ t, t < 23 → kx t < 23 := by decide +kernel
theorem kx_len : ∀ t, t < 23 → xLen.getD t 0 = (KW.getD (kx t) []).length ∧ 1 ≤ xLen.getD t 0 := by decide +kernel
theorem kx_at : ∀ t, t < 23 → ∀ j, j < xLen.getD t 0 → xB t j = nI ((KW.getD (kx t) []).getD j 0) ∧ (KW.getD (kx t) []).getD j 0 < 128 := by decide +kernel
theorem KW_inj : ∀ i, i < 23 → ∀ j, j < 23 → KW.getD i [] = KW.getD j [] → i = j := by decide +kernel
theorem kF_ge (w : List Nat) : ∀ m i, i + m ≤ 23 → i ≤ kF w m i
  | 0, i, h => by unfold kF; omega
  | m + 1, i, h => by
    unfold kF
    split
    · exact Nat.le_refl _
    · have := kF_ge w m (i + 1) (by omega); omega
theorem kF_iff (w : List Nat) (k : Nat) (hk : k < 23) : ∀ m i, i + m = 23 → i ≤ k → (kF w m i = k ↔ w = KW.getD k [])
  | 0, i, h, hi => by omega
  | m + 1, i, h, hi => by
    unfold kF
    by_cases e : w = KW.getD i []
    · rw [if_pos e]
      constructor
      · intro z; rw [← z]; exact e
      · intro z; exact KW_inj i (by omega) k hk (e.symm.trans z)
    · rw [if_neg e]
      by_cases ei : i = k
      · subst ei
        have := kF_ge w m (i + 1) (by omega)
        constructor
        · intro z; omega
        · intro z; exact absurd z e
      · exact kF_iff w k hk m (i + 1) (by omega) (by omega)
theorem sgF_iff : ∀ c, c < 256 → ∀ k, k < 12 → (sgF c 12 = 30 + k ↔ c = sg k) := by decide +kernel
theorem sgF_ge : ∀ c, c < 256 → sgF c 12 ≠ 26 → 30 ≤ sgF c 12 := by decide +kernel
theorem sg_lt : ∀ k, k < 12 → sg k < 128 := by decide +kernel
theorem sb_nI : ∀ c, c < 128 → sb c = nI c := by decide +kernel
theorem dg_rng : ∀ c, c < 256 → isDg c = true → 48 ≤ c ∧ c ≤ 57 := by decide +kernel
def isY (tp : Nat → Nat) (n : Nat) (y : PY) (k : Nat) : Bool := match y with
  | .ok p => lxK tp n p == k
  | .error _ => false
theorem isY_y {tp : Nat → Nat} {n p k : Nat} (h : lxK tp n p = k) : isY tp n (.ok p) k = true := by show (lxK tp n p == k) = true; rw [h]; exact beq_self_eq_true _
theorem isY_n {tp : Nat → Nat} {n p k : Nat} (h : lxK tp n p ≠ k) : ¬ isY tp n (.ok p) k = true := fun z => h (eq_of_beq z)
/-- the kinds a token that is one may have -/
theorem tk_cases {tp : Nat → Nat} {n p : Nat} (ht : TOk tp n) (h26 : lxK tp n p ≠ 26) : (n ≤ lxS tp n p ∧ ckK tp n p = 0 ∧ lxK tp n p = 25) ∨ (lxS tp n p < n ∧ ckK tp n p = 1 ∧ lxK tp n p = kF (wordL tp (lxS tp n p) (lxE tp n p)) 23 0) ∨ (lxS tp n p < n ∧ isDg (tp (lxS tp n p)) = true ∧ ckK tp n p = 2 ∧ lxK tp n p = 24 ∧ lxE tp n p = lxD tp n (lxS tp n p) ∧ lxE tp n p - lxS tp n p ≤ 3) ∨ (lxS tp n p < n ∧ ckK tp n p = 3 ∧ lxK tp n p = sgF (tp (lxS tp n p)) 12 ∧ 30 ≤ lxK tp n p) := by
  generalize hS : lxS tp n p = S
  have hK : lxK tp n p = tkK tp n S := by unfold lxK; rw [hS]
  have hE : lxE tp n p = tkE tp n S := by unfold lxE; rw [hS]
  have hC : ckK tp n p = if n ≤ S then 0 else kO9 (tp S) := by unfold ckK; rw [hS]
  rw [hK] at h26
  rw [hK, hE, hC]
  have h9 := ht.1
  by_cases h0 : n ≤ S
  · exact Or.inl ⟨h0, if_pos h0, if_pos h0⟩
  · have hlt : S < n := by omega
    have hc := ht.2 S (by omega)
    have eK : tkK tp n S = _ := if_neg h0
    have eE : tkE tp n S = _ := if_neg h0
    rw [eK] at h26
    rw [eK, eE, if_neg h0]
    unfold kO9
    by_cases h1 : isSm (tp S) = true
    · right; left
      rw [if_pos h1, if_pos h1, if_pos h1]
      exact ⟨hlt, rfl, rfl⟩
    · right; right
      rw [if_neg h1] at h26
      rw [if_neg h1, if_neg h1, if_neg h1]
      by_cases h2 : isDg (tp S) = true
      · left
        rw [if_pos h2] at h26
        rw [if_pos h2, if_pos h2, if_pos h2]
        by_cases h3 : 3 < lxD tp n S - S
        · rw [if_pos h3] at h26; exact absurd rfl h26
        · rw [if_neg h3]; exact ⟨hlt, h2, rfl, rfl, rfl, by omega⟩
      · right
        rw [if_neg h2] at h26
        rw [if_neg h2, if_neg h2, if_neg h26]
        exact ⟨hlt, rfl, rfl, sgF_ge _ hc h26⟩
set_option maxRecDepth 20000 in
set_option maxHeartbeats 1000000 in
theorem c_isWord {E : EnvT} {d : Nat} {h0 : Hp} {n : Nat} {ta ne inz pt cl : Int32} {tv : Value} {tp : Nat → Nat} {t : TkT} {y : PY} {x : Nat} (hx : x < 23) (c65 : h0.1 65 = some (.inr (3, rdL n ta ne inz pt cl tv t))) (hT : TK tp n y t) (hP : TPo tp h0) (ht : TOk tp n) (hd : 4 ≤ d) : Cn E mX3_isWord d [.ref 65, .ref x] h0 (fun r h2 => r = some (.int (if isY tp n y (kx x) = true then (1 : Int32) else 0)) ∧ h2 = h0) := by
  have hn9 := ht.1
  have hl1 := kx_len x hx
  have hl2 := xLen_lt x (by omega)
  have hkx := kx_lt x hx
  match y, hT with
  | .error (w, a), hT =>
    obtain ⟨s, e, h1, h2, h3, rfl⟩ := hT
    refine Cn.go (ls := [.ref 65, .ref x, .float 0]) (by decide +kernel) rfl (Nat.le_of_ble_eq_true rfl) ?_
    refine r_aload_n (pc2 := 1) 0 dX3_isWord_0 rfl rfl rfl rfl ?_
    refine r_getf (pc2 := 4) (v := .int 0) fX3_60 dX3_isWord_1 c65 (by decide) rfl rfl ?_
    refine r_iconst (pc2 := 5) (v := 1) dX3_isWord_4 (by decide) rfl ?_
    refine r_icmp_ne (tgt := 24) (pc2 := 8) dX3_isWord_5 (by decide) rfl (fun b5 => ?_) (fun b5 => ?_)
    · skip
      refine r_iconst (pc2 := 25) (v := 0) dX3_isWord_24 (by decide) rfl ?_
      exact r_zret (ty := .boolean) rfl (by decide) dX3_isWord_25 ⟨rfl, rfl⟩
    · exact absurd b5 (by decide)
  | .ok p, hT =>
    obtain ⟨hp, h26, rfl⟩ := hT
    have hc := tk_cases ht h26
    have hEn : lxE tp n p ≤ n := lxE_n hp
    by_cases hck : ckK tp n p = 1
    · have hk : lxS tp n p < n ∧ lxK tp n p = kF (wordL tp (lxS tp n p) (lxE tp n p)) 23 0 := by
        rcases hc with z | z | z | z
        · exact absurd (z.2.1.symm.trans hck) (by decide)
        · exact ⟨z.1, z.2.2⟩
        · exact absurd (z.2.2.1.symm.trans hck) (by decide)
        · exact absurd (z.2.1.symm.trans hck) (by decide)
      have hSE : lxS tp n p ≤ lxE tp n p := by
        by_cases q : lxK tp n p = 25
        · have := kF_le (wordL tp (lxS tp n p) (lxE tp n p)) 23 0 (by decide)
          omega
        · exact Nat.le_of_lt (lxE_gt q)
      have hw : lxK tp n p = kx x ↔ wordL tp (lxS tp n p) (lxE tp n p) = KW.getD (kx x) [] := by
        rw [hk.2]
        exact kF_iff _ _ hkx 23 0 rfl (Nat.zero_le _)
      by_cases hle : lxE tp n p - lxS tp n p = xLen.getD x 0
      · have hy : (∀ j, j < xLen.getD x 0 → tp (lxS tp n p + j) = (KW.getD (kx x) []).getD j 0) → lxK tp n p = kx x := fun z => hw.mpr (wordL_eq.mpr ⟨by rw [hle, hl1.1], fun j hj => z j (by rw [hl1.1]; exact hj)⟩)
        have hyr : lxK tp n p = kx x → ∀ j, j < xLen.getD x 0 → tp (lxS tp n p + j) = (KW.getD (kx x) []).getD j 0 := fun z j hj => (wordL_eq.mp (hw.mp z)).2 j (by rw [← hl1.1]; exact hj)
        have loop : ∀ m9 k, k + m9 = xLen.getD x 0 → (∀ j, j < k → tp (lxS tp n p + j) = (KW.getD (kx x) []).getD j 0) → Fr E mX3_isWord d 28 [.ref 65, .ref x, .int (nI k)] [] h0 (fun r h2 => r = some (.int (if isY tp n (.ok p) (kx x) = true then (1 : Int32) else 0)) ∧ h2 = h0) := by
          intro m9
          induction m9 with
          | zero =>
            intro k hk hall
            obtain rfl : k = xLen.getD x 0 := by omega
            refine r_iload_n (pc2 := 29) 2 dX3_isWord_28 rfl rfl rfl ?_
            refine r_aload_n (pc2 := 30) 1 dX3_isWord_29 rfl rfl rfl rfl ?_
            refine r_callX1 (pc2 := 33) (As := []) (st := [.int (nI (xLen.getD x 0))]) kX3_79 rfl (by omega) dX3_isWord_30 rfl rfl (Nat.le_of_ble_eq_true rfl) (by omega) (c_length (t := x) (by omega) (by omega)) rfl (fun h2 hq30 => ?_)
            obtain rfl := hq30.symm
            refine r_icmp_ge (tgt := 62) (pc2 := 36) dX3_isWord_33 (by decide) rfl (fun b33 => ?_) (fun b33 => ?_)
            · skip
              refine r_iconst (pc2 := 63) (v := 1) dX3_isWord_62 (by decide) rfl ?_
              exact r_zret (ty := .boolean) rfl (by decide) dX3_isWord_63 ⟨by rw [if_pos (isY_y (hy hall))], rfl⟩
            · exact absurd (nI_le (Nat.le_refl _) (by omega)) b33
          | succ m9 ih =>
            intro k hk hall
            have hlt : k < xLen.getD x 0 := by omega
            by_cases hq : tp (lxS tp n p + k) = (KW.getD (kx x) []).getD k 0
            · skip
              refine r_iload_n (pc2 := 29) 2 dX3_isWord_28 rfl rfl rfl ?_
              refine r_aload_n (pc2 := 30) 1 dX3_isWord_29 rfl rfl rfl rfl ?_
              refine r_callX1 (pc2 := 33) (As := []) (st := [.int (nI k)]) kX3_79 rfl (by omega) dX3_isWord_30 rfl rfl (Nat.le_of_ble_eq_true rfl) (by omega) (c_length (t := x) (by omega) (by omega)) rfl (fun h2 hq30 => ?_)
              obtain rfl := hq30.symm
              refine r_icmp_ge (tgt := 62) (pc2 := 36) dX3_isWord_33 (by decide) rfl (fun b33 => ?_) (fun b33 => ?_)
              · exact absurd b33 (nI_ge hlt (by omega))
              · skip
                refine r_aload_n (pc2 := 37) 0 dX3_isWord_36 rfl rfl rfl rfl ?_
                refine r_aload_n (pc2 := 38) 0 dX3_isWord_37 rfl rfl rfl rfl ?_
                refine r_getf (pc2 := 41) (v := .int (nI (lxS tp n p))) fX3_66 dX3_isWord_38 c65 (by decide) rfl rfl ?_
                refine r_iload_n (pc2 := 42) 2 dX3_isWord_41 rfl rfl rfl ?_
                refine r_iadd (pc2 := 43) dX3_isWord_42 rfl ?_
                refine r_cast (nI (lxS tp n p + k)) (nI_add _ _) ?_
                refine r_callV1 (pc2 := 46) (As := [.int (nI (lxS tp n p + k))]) (st := []) kX3_69 rfl rfl dX3_isWord_43 c65 (by decide) rfl rfl (Nat.le_of_ble_eq_true rfl) (by omega) (c_byteAt (t := (0, -1, nI (ckK tp n p), nI (lxS tp n p), nI (lxE tp n p))) (tp := tp) (j := lxS tp n p + k) c65 hP ht.1 (by omega)) rfl (fun h2 hq43 => ?_)
                obtain rfl := hq43.symm
                refine r_cast (sb (tp (lxS tp n p + k))) (if_pos (by omega)) ?_
                refine r_aload_n (pc2 := 47) 1 dX3_isWord_46 rfl rfl rfl rfl ?_
                refine r_iload_n (pc2 := 48) 2 dX3_isWord_47 rfl rfl rfl ?_
                refine r_callX1 (pc2 := 51) (As := [.int (nI k)]) (st := [.int (sb (tp (lxS tp n p + k)))]) kX3_84 rfl (by omega) dX3_isWord_48 rfl rfl (Nat.le_of_ble_eq_true rfl) (by omega) (c_charAt (t := x) (j := k) (by omega) hlt (by omega)) rfl (fun h2 hq48 => ?_)
                obtain rfl := hq48.symm
                refine r_cast (nI ((KW.getD (kx x) []).getD k 0)) ((kx_at x hx k hlt).1) ?_
                refine r_icmp_eq (tgt := 56) (pc2 := 54) dX3_isWord_51 (by decide) rfl (fun b51 => ?_) (fun b51 => ?_)
                · skip
                  obtain ⟨xi, e56⟩ : ∃ z : Int32, z = (nI k) + (1) := ⟨_, rfl⟩
                  refine r_iinc (pc2 := 59) (ls2 := [.ref 65, .ref x, .int xi]) (v := xi) 2 dX3_isWord_56 rfl (by rw [e56]; rfl) rfl rfl rfl ?_
                  refine r_goto (pc2 := 28) dX3_isWord_59 (by decide) ?_
                  rw [show xi = nI (k + 1) from e56.trans (nI_1 _)]
                  exact ih (k + 1) (by omega) (fun j hj => by by_cases z : j = k; rw [z]; exact hq; exact hall j (by omega))
                · exact absurd ((sbb_eq _ (ht.2 _ (by omega)) _ (kx_at x hx k hlt).2).mpr hq) b51
            · skip
              refine r_iload_n (pc2 := 29) 2 dX3_isWord_28 rfl rfl rfl ?_
              refine r_aload_n (pc2 := 30) 1 dX3_isWord_29 rfl rfl rfl rfl ?_
              refine r_callX1 (pc2 := 33) (As := []) (st := [.int (nI k)]) kX3_79 rfl (by omega) dX3_isWord_30 rfl rfl (Nat.le_of_ble_eq_true rfl) (by omega) (c_length (t := x) (by omega) (by omega)) rfl (fun h2 hq30 => ?_)
              obtain rfl := hq30.symm
              refine r_icmp_ge (tgt := 62) (pc2 := 36) dX3_isWord_33 (by decide) rfl (fun b33 => ?_) (fun b33 => ?_)
              · exact absurd b33 (nI_ge hlt (by omega))
              · skip
                refine r_aload_n (pc2 := 37) 0 dX3_isWord_36 rfl rfl rfl rfl ?_
                refine r_aload_n (pc2 := 38) 0 dX3_isWord_37 rfl rfl rfl rfl ?_
                refine r_getf (pc2 := 41) (v := .int (nI (lxS tp n p))) fX3_66 dX3_isWord_38 c65 (by decide) rfl rfl ?_
                refine r_iload_n (pc2 := 42) 2 dX3_isWord_41 rfl rfl rfl ?_
                refine r_iadd (pc2 := 43) dX3_isWord_42 rfl ?_
                refine r_cast (nI (lxS tp n p + k)) (nI_add _ _) ?_
                refine r_callV1 (pc2 := 46) (As := [.int (nI (lxS tp n p + k))]) (st := []) kX3_69 rfl rfl dX3_isWord_43 c65 (by decide) rfl rfl (Nat.le_of_ble_eq_true rfl) (by omega) (c_byteAt (t := (0, -1, nI (ckK tp n p), nI (lxS tp n p), nI (lxE tp n p))) (tp := tp) (j := lxS tp n p + k) c65 hP ht.1 (by omega)) rfl (fun h2 hq43 => ?_)
                obtain rfl := hq43.symm
                refine r_cast (sb (tp (lxS tp n p + k))) (if_pos (by omega)) ?_
                refine r_aload_n (pc2 := 47) 1 dX3_isWord_46 rfl rfl rfl rfl ?_
                refine r_iload_n (pc2 := 48) 2 dX3_isWord_47 rfl rfl rfl ?_
                refine r_callX1 (pc2 := 51) (As := [.int (nI k)]) (st := [.int (sb (tp (lxS tp n p + k)))]) kX3_84 rfl (by omega) dX3_isWord_48 rfl rfl (Nat.le_of_ble_eq_true rfl) (by omega) (c_charAt (t := x) (j := k) (by omega) hlt (by omega)) rfl (fun h2 hq48 => ?_)
                obtain rfl := hq48.symm
                refine r_cast (nI ((KW.getD (kx x) []).getD k 0)) ((kx_at x hx k hlt).1) ?_
                refine r_icmp_eq (tgt := 56) (pc2 := 54) dX3_isWord_51 (by decide) rfl (fun b51 => ?_) (fun b51 => ?_)
                · exact absurd ((sbb_eq _ (ht.2 _ (by omega)) _ (kx_at x hx k hlt).2).mp b51) hq
                · skip
                  refine r_iconst (pc2 := 55) (v := 0) dX3_isWord_54 (by decide) rfl ?_
                  exact r_zret (ty := .boolean) rfl (by decide) dX3_isWord_55 ⟨by rw [if_neg (isY_n (fun z => hq ((hyr z) k hlt)))], rfl⟩
        refine Cn.go (ls := [.ref 65, .ref x, .float 0]) (by decide +kernel) rfl (Nat.le_of_ble_eq_true rfl) ?_
        refine r_aload_n (pc2 := 1) 0 dX3_isWord_0 rfl rfl rfl rfl ?_
        refine r_getf (pc2 := 4) (v := .int (nI (ckK tp n p))) fX3_60 dX3_isWord_1 c65 (by decide) rfl rfl ?_
        refine r_iconst (pc2 := 5) (v := 1) dX3_isWord_4 (by decide) rfl ?_
        refine r_icmp_ne (tgt := 24) (pc2 := 8) dX3_isWord_5 (by decide) rfl (fun b5 => ?_) (fun b5 => ?_)
        · exact absurd ((congrArg nI hck).trans rfl) b5
        · skip
          refine r_aload_n (pc2 := 9) 0 dX3_isWord_8 rfl rfl rfl rfl ?_
          refine r_getf (pc2 := 12) (v := .int (nI (lxE tp n p))) fX3_47 dX3_isWord_9 c65 (by decide) rfl rfl ?_
          refine r_aload_n (pc2 := 13) 0 dX3_isWord_12 rfl rfl rfl rfl ?_
          refine r_getf (pc2 := 16) (v := .int (nI (lxS tp n p))) fX3_66 dX3_isWord_13 c65 (by decide) rfl rfl ?_
          refine r_isub (pc2 := 17) dX3_isWord_16 rfl ?_
          refine r_cast (nI (lxE tp n p - lxS tp n p)) (pk_sub hSE) ?_
          refine r_aload_n (pc2 := 18) 1 dX3_isWord_17 rfl rfl rfl rfl ?_
          refine r_callX1 (pc2 := 21) (As := []) (st := [.int (nI (lxE tp n p - lxS tp n p))]) kX3_79 rfl (by omega) dX3_isWord_18 rfl rfl (Nat.le_of_ble_eq_true rfl) (by omega) (c_length (t := x) (by omega) (by omega)) rfl (fun h2 hq18 => ?_)
          obtain rfl := hq18.symm
          refine r_icmp_eq (tgt := 26) (pc2 := 24) dX3_isWord_21 (by decide) rfl (fun b21 => ?_) (fun b21 => ?_)
          · skip
            refine r_iconst (pc2 := 27) (v := 0) dX3_isWord_26 (by decide) rfl ?_
            refine r_istore_n (pc2 := 28) (ls2 := [.ref 65, .ref x, .int 0]) 2 dX3_isWord_27 rfl (by decide) rfl rfl rfl ?_
            exact loop (xLen.getD x 0) 0 (by omega) (fun j hj => absurd hj (Nat.not_lt_zero j))
          · exact absurd (congrArg nI hle) b21
      · have hno : lxK tp n p ≠ kx x := fun z => hle (by rw [(wordL_eq.mp (hw.mp z)).1, hl1.1])
        refine Cn.go (ls := [.ref 65, .ref x, .float 0]) (by decide +kernel) rfl (Nat.le_of_ble_eq_true rfl) ?_
        refine r_aload_n (pc2 := 1) 0 dX3_isWord_0 rfl rfl rfl rfl ?_
        refine r_getf (pc2 := 4) (v := .int (nI (ckK tp n p))) fX3_60 dX3_isWord_1 c65 (by decide) rfl rfl ?_
        refine r_iconst (pc2 := 5) (v := 1) dX3_isWord_4 (by decide) rfl ?_
        refine r_icmp_ne (tgt := 24) (pc2 := 8) dX3_isWord_5 (by decide) rfl (fun b5 => ?_) (fun b5 => ?_)
        · exact absurd ((congrArg nI hck).trans rfl) b5
        · skip
          refine r_aload_n (pc2 := 9) 0 dX3_isWord_8 rfl rfl rfl rfl ?_
          refine r_getf (pc2 := 12) (v := .int (nI (lxE tp n p))) fX3_47 dX3_isWord_9 c65 (by decide) rfl rfl ?_
          refine r_aload_n (pc2 := 13) 0 dX3_isWord_12 rfl rfl rfl rfl ?_
          refine r_getf (pc2 := 16) (v := .int (nI (lxS tp n p))) fX3_66 dX3_isWord_13 c65 (by decide) rfl rfl ?_
          refine r_isub (pc2 := 17) dX3_isWord_16 rfl ?_
          refine r_cast (nI (lxE tp n p - lxS tp n p)) (pk_sub hSE) ?_
          refine r_aload_n (pc2 := 18) 1 dX3_isWord_17 rfl rfl rfl rfl ?_
          refine r_callX1 (pc2 := 21) (As := []) (st := [.int (nI (lxE tp n p - lxS tp n p))]) kX3_79 rfl (by omega) dX3_isWord_18 rfl rfl (Nat.le_of_ble_eq_true rfl) (by omega) (c_length (t := x) (by omega) (by omega)) rfl (fun h2 hq18 => ?_)
          obtain rfl := hq18.symm
          refine r_icmp_eq (tgt := 26) (pc2 := 24) dX3_isWord_21 (by decide) rfl (fun b21 => ?_) (fun b21 => ?_)
          · exact absurd ((nI_eq (by omega) (by omega)).mp b21) hle
          · skip
            refine r_iconst (pc2 := 25) (v := 0) dX3_isWord_24 (by decide) rfl ?_
            exact r_zret (ty := .boolean) rfl (by decide) dX3_isWord_25 ⟨by rw [if_neg (isY_n hno)], rfl⟩
    · have hck4 : ckK tp n p ≤ 4 := by
        unfold ckK
        split
        · decide
        · exact kO9_le _
      have hno : lxK tp n p ≠ kx x := by
        rcases hc with z | z | z | z
        · omega
        · exact absurd z.2.1 hck
        · omega
        · omega
      refine Cn.go (ls := [.ref 65, .ref x, .float 0]) (by decide +kernel) rfl (Nat.le_of_ble_eq_true rfl) ?_
      refine r_aload_n (pc2 := 1) 0 dX3_isWord_0 rfl rfl rfl rfl ?_
      refine r_getf (pc2 := 4) (v := .int (nI (ckK tp n p))) fX3_60 dX3_isWord_1 c65 (by decide) rfl rfl ?_
      refine r_iconst (pc2 := 5) (v := 1) dX3_isWord_4 (by decide) rfl ?_
      refine r_icmp_ne (tgt := 24) (pc2 := 8) dX3_isWord_5 (by decide) rfl (fun b5 => ?_) (fun b5 => ?_)
      · skip
        refine r_iconst (pc2 := 25) (v := 0) dX3_isWord_24 (by decide) rfl ?_
        exact r_zret (ty := .boolean) rfl (by decide) dX3_isWord_25 ⟨by rw [if_neg (isY_n hno)], rfl⟩
      · exact absurd ((nI_eq (a := ckK tp n p) (b := 1) (by omega) (by decide)).mp b5) hck
set_option maxRecDepth 20000 in
set_option maxHeartbeats 1000000 in
theorem c_isSign {E : EnvT} {d : Nat} {h0 : Hp} {n : Nat} {ta ne inz pt cl : Int32} {tv : Value} {tp : Nat → Nat} {t : TkT} {y : PY} {k : Nat} {cv : Int32} (hk : k < 12) (ec : cv = nI (sg k)) (c65 : h0.1 65 = some (.inr (3, rdL n ta ne inz pt cl tv t))) (hT : TK tp n y t) (hP : TPo tp h0) (ht : TOk tp n) (hd : 1 ≤ d) : Cn E mX3_isSign d [.ref 65, .int cv] h0 (fun r h2 => r = some (.int (if isY tp n y (30 + k) = true then (1 : Int32) else 0)) ∧ h2 = h0) := by
  subst ec
  have hn9 := ht.1
  have hsg := sg_lt k hk
  match y, hT with
  | .error (w, a), hT =>
    obtain ⟨s, e, h1, h2, h3, rfl⟩ := hT
    refine Cn.go (ls := [.ref 65, .int (nI (sg k))]) (by decide +kernel) rfl (Nat.le_of_ble_eq_true rfl) ?_
    refine r_aload_n (pc2 := 1) 0 dX3_isSign_0 rfl rfl rfl rfl ?_
    refine r_getf (pc2 := 4) (v := .int 0) fX3_60 dX3_isSign_1 c65 (by decide) rfl rfl ?_
    refine r_iconst (pc2 := 5) (v := 3) dX3_isSign_4 (by decide) rfl ?_
    refine r_icmp_ne (tgt := 24) (pc2 := 8) dX3_isSign_5 (by decide) rfl (fun b5 => ?_) (fun b5 => ?_)
    · skip
      refine r_iconst (pc2 := 25) (v := 0) dX3_isSign_24 (by decide) rfl ?_
      exact r_zret (ty := .boolean) rfl (by decide) dX3_isSign_25 ⟨rfl, rfl⟩
    · exact absurd b5 (by decide)
  | .ok p, hT =>
    obtain ⟨hp, h26, rfl⟩ := hT
    have hc := tk_cases ht h26
    have hSn : lxS tp n p ≤ n := lxS_n hp
    by_cases hck : ckK tp n p = 3
    · have hz : lxS tp n p < n ∧ lxK tp n p = sgF (tp (lxS tp n p)) 12 := by
        rcases hc with z | z | z | z
        · exact absurd (z.2.1.symm.trans hck) (by decide)
        · exact absurd (z.2.1.symm.trans hck) (by decide)
        · exact absurd (z.2.2.1.symm.trans hck) (by decide)
        · exact ⟨z.1, z.2.2.1⟩
      have hc9 := ht.2 (lxS tp n p) (by omega)
      by_cases hq : tp (lxS tp n p) = sg k
      · skip
        refine Cn.go (ls := [.ref 65, .int (nI (sg k))]) (by decide +kernel) rfl (Nat.le_of_ble_eq_true rfl) ?_
        refine r_aload_n (pc2 := 1) 0 dX3_isSign_0 rfl rfl rfl rfl ?_
        refine r_getf (pc2 := 4) (v := .int (nI (ckK tp n p))) fX3_60 dX3_isSign_1 c65 (by decide) rfl rfl ?_
        refine r_iconst (pc2 := 5) (v := 3) dX3_isSign_4 (by decide) rfl ?_
        refine r_icmp_ne (tgt := 24) (pc2 := 8) dX3_isSign_5 (by decide) rfl (fun b5 => ?_) (fun b5 => ?_)
        · exact absurd ((congrArg nI hck).trans rfl) b5
        · skip
          refine r_aload_n (pc2 := 9) 0 dX3_isSign_8 rfl rfl rfl rfl ?_
          refine r_aload_n (pc2 := 10) 0 dX3_isSign_9 rfl rfl rfl rfl ?_
          refine r_getf (pc2 := 13) (v := .int (nI (lxS tp n p))) fX3_66 dX3_isSign_10 c65 (by decide) rfl rfl ?_
          refine r_callV1 (pc2 := 16) (As := [.int (nI (lxS tp n p))]) (st := []) kX3_69 rfl rfl dX3_isSign_13 c65 (by decide) rfl rfl (Nat.le_of_ble_eq_true rfl) (by omega) (c_byteAt (t := (0, -1, nI (ckK tp n p), nI (lxS tp n p), nI (lxE tp n p))) (tp := tp) (j := lxS tp n p) c65 hP ht.1 (by omega)) rfl (fun h2 hq13 => ?_)
          obtain rfl := hq13.symm
          refine r_cast (sb (tp (lxS tp n p))) (if_pos hz.1) ?_
          refine r_iload_n (pc2 := 17) 1 dX3_isSign_16 rfl rfl rfl ?_
          refine r_icmp_ne (tgt := 24) (pc2 := 20) dX3_isSign_17 (by decide) rfl (fun b17 => ?_) (fun b17 => ?_)
          · exact absurd ((sbb_eq _ hc9 _ hsg).mpr hq) b17
          · skip
            refine r_iconst (pc2 := 21) (v := 1) dX3_isSign_20 (by decide) rfl ?_
            refine r_goto (pc2 := 25) dX3_isSign_21 (by decide) ?_
            exact r_zret (ty := .boolean) rfl (by decide) dX3_isSign_25 ⟨by rw [if_pos (isY_y (hz.2.trans ((sgF_iff _ hc9 k hk).mpr hq)))], rfl⟩
      · skip
        refine Cn.go (ls := [.ref 65, .int (nI (sg k))]) (by decide +kernel) rfl (Nat.le_of_ble_eq_true rfl) ?_
        refine r_aload_n (pc2 := 1) 0 dX3_isSign_0 rfl rfl rfl rfl ?_
        refine r_getf (pc2 := 4) (v := .int (nI (ckK tp n p))) fX3_60 dX3_isSign_1 c65 (by decide) rfl rfl ?_
        refine r_iconst (pc2 := 5) (v := 3) dX3_isSign_4 (by decide) rfl ?_
        refine r_icmp_ne (tgt := 24) (pc2 := 8) dX3_isSign_5 (by decide) rfl (fun b5 => ?_) (fun b5 => ?_)
        · exact absurd ((congrArg nI hck).trans rfl) b5
        · skip
          refine r_aload_n (pc2 := 9) 0 dX3_isSign_8 rfl rfl rfl rfl ?_
          refine r_aload_n (pc2 := 10) 0 dX3_isSign_9 rfl rfl rfl rfl ?_
          refine r_getf (pc2 := 13) (v := .int (nI (lxS tp n p))) fX3_66 dX3_isSign_10 c65 (by decide) rfl rfl ?_
          refine r_callV1 (pc2 := 16) (As := [.int (nI (lxS tp n p))]) (st := []) kX3_69 rfl rfl dX3_isSign_13 c65 (by decide) rfl rfl (Nat.le_of_ble_eq_true rfl) (by omega) (c_byteAt (t := (0, -1, nI (ckK tp n p), nI (lxS tp n p), nI (lxE tp n p))) (tp := tp) (j := lxS tp n p) c65 hP ht.1 (by omega)) rfl (fun h2 hq13 => ?_)
          obtain rfl := hq13.symm
          refine r_cast (sb (tp (lxS tp n p))) (if_pos hz.1) ?_
          refine r_iload_n (pc2 := 17) 1 dX3_isSign_16 rfl rfl rfl ?_
          refine r_icmp_ne (tgt := 24) (pc2 := 20) dX3_isSign_17 (by decide) rfl (fun b17 => ?_) (fun b17 => ?_)
          · skip
            refine r_iconst (pc2 := 25) (v := 0) dX3_isSign_24 (by decide) rfl ?_
            exact r_zret (ty := .boolean) rfl (by decide) dX3_isSign_25 ⟨by rw [if_neg (isY_n (fun z => hq ((sgF_iff _ hc9 k hk).mp (hz.2.symm.trans z))))], rfl⟩
          · exact absurd ((sbb_eq _ hc9 _ hsg).mp b17) hq
    · have hck4 : ckK tp n p ≤ 4 := by
        unfold ckK
        split
        · decide
        · exact kO9_le _
      have hno : lxK tp n p ≠ 30 + k := by
        rcases hc with z | z | z | z
        · omega
        · have := kF_le (wordL tp (lxS tp n p) (lxE tp n p)) 23 0 (by decide)
          omega
        · omega
        · exact absurd z.2.1 hck
      refine Cn.go (ls := [.ref 65, .int (nI (sg k))]) (by decide +kernel) rfl (Nat.le_of_ble_eq_true rfl) ?_
      refine r_aload_n (pc2 := 1) 0 dX3_isSign_0 rfl rfl rfl rfl ?_
      refine r_getf (pc2 := 4) (v := .int (nI (ckK tp n p))) fX3_60 dX3_isSign_1 c65 (by decide) rfl rfl ?_
      refine r_iconst (pc2 := 5) (v := 3) dX3_isSign_4 (by decide) rfl ?_
      refine r_icmp_ne (tgt := 24) (pc2 := 8) dX3_isSign_5 (by decide) rfl (fun b5 => ?_) (fun b5 => ?_)
      · skip
        refine r_iconst (pc2 := 25) (v := 0) dX3_isSign_24 (by decide) rfl ?_
        exact r_zret (ty := .boolean) rfl (by decide) dX3_isSign_25 ⟨by rw [if_neg (isY_n hno)], rfl⟩
      · exact absurd ((nI_eq (a := ckK tp n p) (b := 3) (by omega) (by decide)).mp b5) hck
