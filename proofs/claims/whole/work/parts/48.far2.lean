/-! stepAt, soonest, way, lists -/
theorem fb_iff {a : Nat → Nat} {st s n c : Nat} {fx : Nat → Nat} (hs : FD a st s (n + 1)) (hn : n + 1 < 268435456) (hc : c < 16) (hf : okS a s c → FD a st (nxS a s c) (fx (nxS a s c))) : fbN a fx s c = n + 1 ↔ okS a s c ∧ pt a st n (nxS a s c) := by
  have hmin : ∀ m, m < n + 1 → ¬ pt a st m s := by
    rcases hs with h | h
    · exact h.2.2
    · omega
  unfold fbN
  by_cases ho : okS a s c
  · rw [if_pos ho]
    have hfx := hf ho
    constructor
    · intro h
      by_cases e : fx (nxS a s c) = 268435456
      · rw [if_pos e] at h; omega
      · rw [if_neg e] at h
        have : fx (nxS a s c) = n := by omega
        rw [this] at hfx
        rcases hfx with g | g
        · exact ⟨ho, g.2.1⟩
        · omega
    · intro h
      rcases hfx with g | g
      · have h1 : ¬ n < fx (nxS a s c) := fun z => g.2.2 n z h.2
        have h2 : ¬ fx (nxS a s c) + 1 < n + 1 := fun z => hmin _ z ⟨c, hc, ho, g.2.1⟩
        rw [if_neg (by omega)]; omega
      · exact absurd h.2 (g.2 n (by omega))
  · rw [if_neg ho]
    exact ⟨fun h => by omega, fun h => absurd h.1 ho⟩
def DX (a : Nat → Nat) (dx : Nat → Nat) (gl : Nat → List Nat) : Prop := ∀ st, FD a st (packS a) (dx st) ∧ (dx st < 268435456 → grd a st (dx st) (packS a) (gl st))
theorem DX_ex (a : Nat → Nat) : ∃ dx gl, DX a dx gl := by
  have h : ∀ st, ∃ x : Nat × List Nat, FD a st (packS a) x.1 ∧ (x.1 < 268435456 → grd a st x.1 (packS a) x.2) := by
    intro st
    obtain ⟨x, hx⟩ := FD_ex a st (packS a)
    rcases Nat.lt_or_ge x 268435456 with c | c
    · have hp : pt a st x (packS a) := by rcases hx with h | h; exact h.2.1; omega
      obtain ⟨l, hl⟩ := grd_ex x _ hp
      exact ⟨(x, l), hx, fun _ => hl⟩
    · exact ⟨(x, []), hx, fun z => absurd z (by show ¬ x < _; omega)⟩
  exact ⟨fun st => (Classical.choose (h st)).1, fun st => (Classical.choose (h st)).2, fun st => Classical.choose_spec (h st)⟩
def stI (x : Nat) (l : List Nat) (i : Nat) : Int32 := if x < 268435456 ∧ i < x then nI (l.getD i 0) else -1
theorem stR {i k n c : Nat} {l : List Nat} (h : ¬ k = i) (hk : k ≤ i) : (if i < k + (n + 1) then nI ((c :: l).getD (i - k) 0) else (-1 : Int32)) = if i < k + 1 + n then nI (l.getD (i - (k + 1)) 0) else -1 := by
  have e : i - k = (i - (k + 1)) + 1 := by omega
  rw [e, show k + (n + 1) = k + 1 + n by omega]
  rfl
set_option maxRecDepth 20000 in
set_option maxHeartbeats 1000000 in
theorem c_stepAt {E : EnvT} {d : Nat} {h0 : Hp} {v g : Nat → Int32} {a fx : Nat → Nat} {st x i : Nat} {Q l : List Nat} {R : Int32} (c117 : h0.1 117 = some (mO v)) (c118 : h0.1 118 = some (aI 3531 (nA a))) (c126 : h0.1 126 = some (aI 655360 g)) (c127 : h0.1 127 = some (aI 40960 (nA fx))) (hA : AIN a) (hmem : ∀ s, s ∈ Q ↔ Rch a s) (hgc : ∀ s ∈ Q, ∀ c, c < 16 → g (16 * s + c) = nxI a s c) (hFD : ∀ s ∈ Q, FD a st s (fx s)) (hfx : fx (packS a) = x) (hxle : x ≤ 268435456) (hl : x < 268435456 → grd a st x (packS a) l) (hi : i < 2 ^ 31) (hRF : R = stI x l i) (hd : 1 ≤ d) : Cn E mX10_stepAt d [.ref 117, .int (nI i)] h0 (fun r h2 => r = some (.int R) ∧ h2 = h0) := by
  have hQ4 : ∀ s ∈ Q, s < 40960 := fun s hs => (((hmem s).mp hs).sg hA).1
  have hcl : ∀ s ∈ Q, ∀ c, c < 16 → okS a s c → nxS a s c ∈ Q := fun s hs c hc ho => (hmem _).mpr (((hmem s).mp hs).step hc ho)
  have hq0 : packS a ∈ Q := (hmem _).mpr Rch.now
  have loop : ∀ (n s k : Nat) (l : List Nat) (u : Value), s ∈ Q → fx s = n → grd a st n s l → k + n < 268435456 → k ≤ i → R = (if i < k + n then nI (l.getD (i - k) 0) else -1) → Fr E mX10_stepAt d 7 [.ref 117, .int (nI i), .int (nI s), .int (nI k), u] [] h0 (fun r h2 => r = some (.int R) ∧ h2 = h0) := by
    intro n
    induction n with
    | zero =>
      intro s k l u hsm hfx hgl hkn hki hR
      have hs4 := hQ4 s hsm
      refine r_aload_n (pc2 := 8) 0 dX10_stepAt_7 rfl rfl rfl rfl ?_
      refine r_getf (pc2 := 11) (v := .ref 127) fX10_47 dX10_stepAt_8 c117 (by decide) rfl rfl ?_
      refine r_iload_n (pc2 := 12) 2 dX10_stepAt_11 rfl rfl rfl ?_
      refine r_ialdA (pc2 := 13) s dX10_stepAt_12 c127 (by decide) rfl (by omega) (by decide) rfl ?_
      refine r_if_le (tgt := 80) (pc2 := 16) dX10_stepAt_13 (by decide) rfl (fun b13 => ?_) (fun b13 => ?_)
      · skip
        refine r_iconst (pc2 := 81) (v := -1) dX10_stepAt_80 (by decide) rfl ?_
        exact r_iret rfl dX10_stepAt_81 ⟨by rw [hR, if_neg (by omega)], rfl⟩
      · exact absurd (by rw [hfx]; decide) b13
    | succ n ih =>
      intro s k l u hsm hfx hgl hkn hki hR
      have hs4 := hQ4 s hsm
      obtain ⟨c0, l2, rfl, hc0, hco, hmn, hgl2⟩ := hgl
      have hFs : FD a st s (n + 1) := hfx ▸ hFD s hsm
      have hfb : ∀ c, c < 16 → (fbN a fx s c = n + 1 ↔ okS a s c ∧ pt a st n (nxS a s c)) := fun c hc => fb_iff hFs (by omega) hc (fun ho => hFD _ (hcl s hsm c hc ho))
      have hnb : ∀ c, c < 16 → okS a s c → nxS a s c < 40960 ∧ fx (nxS a s c) ≤ 268435456 := fun c hc ho => ⟨hQ4 _ (hcl _ hsm c hc ho), (hFD _ (hcl _ hsm c hc ho)).le⟩
      have hfbl : ∀ c, c < 16 → fbN a fx s c < 2 ^ 31 := fun c hc => by
        unfold fbN
        split
        · rename_i ho; have := (hnb c hc ho).2; split <;> omega
        · decide
      have hsm2 := hcl s hsm c0 hc0 hco.1
      have hfx2 : fx (nxS a s c0) = n := by
        have h1 := (hfb c0 hc0).mpr hco
        rw [fbN, if_pos hco.1] at h1
        split at h1 <;> omega
      have inner : ∀ (j c : Nat), c + j = c0 → Fr E mX10_stepAt d 31 [.ref 117, .int (nI i), .int (nI s), .int (nI k), .int (nI c)] [] h0 (fun r h2 => r = some (.int R) ∧ h2 = h0) := by
        intro j
        induction j with
        | zero =>
          intro c hc
          obtain rfl : c0 = c := by omega
          by_cases eki : k = i
          · skip
            refine r_aload_n (pc2 := 32) 0 dX10_stepAt_31 rfl rfl rfl rfl ?_
            refine r_iload_n (pc2 := 33) 2 dX10_stepAt_32 rfl rfl rfl ?_
            refine r_iload (pc2 := 35) 4 dX10_stepAt_33 rfl rfl ?_
            refine r_callV1 (pc2 := 38) (As := [.int (nI s), .int (nI c0)]) (st := []) kX10_358 rfl rfl dX10_stepAt_35 c117 (by decide) rfl rfl (Nat.le_of_ble_eq_true rfl) (by omega) (c_farBy (s := s) (c := c0) c117 c126 c127 (hgc _ hsm c0 (by omega)) hs4 (by omega) (hnb c0 (by omega))) rfl (fun h2 hq35 => ?_)
            subst hq35
            refine r_aload_n (pc2 := 39) 0 dX10_stepAt_38 rfl rfl rfl rfl ?_
            refine r_getf (pc2 := 42) (v := .ref 127) fX10_47 dX10_stepAt_39 c117 (by decide) rfl rfl ?_
            refine r_iload_n (pc2 := 43) 2 dX10_stepAt_42 rfl rfl rfl ?_
            refine r_ialdA (pc2 := 44) s dX10_stepAt_43 c127 (by decide) rfl (by omega) (by decide) rfl ?_
            refine r_icmp_eq (tgt := 53) (pc2 := 47) dX10_stepAt_44 (by decide) rfl (fun b44 => ?_) (fun b44 => ?_)
            · skip
              refine r_iload_n (pc2 := 54) 3 dX10_stepAt_53 rfl rfl rfl ?_
              refine r_iload_n (pc2 := 55) 1 dX10_stepAt_54 rfl rfl rfl ?_
              refine r_icmp_ne (tgt := 61) (pc2 := 58) dX10_stepAt_55 (by decide) rfl (fun b55 => ?_) (fun b55 => ?_)
              · exact absurd b55 (fun z => z (congrArg nI eki))
              · skip
                refine r_iload (pc2 := 60) 4 dX10_stepAt_58 rfl rfl ?_
                exact r_iret rfl dX10_stepAt_60 ⟨by rw [hR, if_pos (by omega), eki, Nat.sub_self]; rfl, rfl⟩
            · exact absurd (congrArg nI (((hfb c0 hc0).mpr hco).trans hfx.symm)) b44
          · skip
            refine r_aload_n (pc2 := 32) 0 dX10_stepAt_31 rfl rfl rfl rfl ?_
            refine r_iload_n (pc2 := 33) 2 dX10_stepAt_32 rfl rfl rfl ?_
            refine r_iload (pc2 := 35) 4 dX10_stepAt_33 rfl rfl ?_
            refine r_callV1 (pc2 := 38) (As := [.int (nI s), .int (nI c0)]) (st := []) kX10_358 rfl rfl dX10_stepAt_35 c117 (by decide) rfl rfl (Nat.le_of_ble_eq_true rfl) (by omega) (c_farBy (s := s) (c := c0) c117 c126 c127 (hgc _ hsm c0 (by omega)) hs4 (by omega) (hnb c0 (by omega))) rfl (fun h2 hq35 => ?_)
            subst hq35
            refine r_aload_n (pc2 := 39) 0 dX10_stepAt_38 rfl rfl rfl rfl ?_
            refine r_getf (pc2 := 42) (v := .ref 127) fX10_47 dX10_stepAt_39 c117 (by decide) rfl rfl ?_
            refine r_iload_n (pc2 := 43) 2 dX10_stepAt_42 rfl rfl rfl ?_
            refine r_ialdA (pc2 := 44) s dX10_stepAt_43 c127 (by decide) rfl (by omega) (by decide) rfl ?_
            refine r_icmp_eq (tgt := 53) (pc2 := 47) dX10_stepAt_44 (by decide) rfl (fun b44 => ?_) (fun b44 => ?_)
            · skip
              refine r_iload_n (pc2 := 54) 3 dX10_stepAt_53 rfl rfl rfl ?_
              refine r_iload_n (pc2 := 55) 1 dX10_stepAt_54 rfl rfl rfl ?_
              refine r_icmp_ne (tgt := 61) (pc2 := 58) dX10_stepAt_55 (by decide) rfl (fun b55 => ?_) (fun b55 => ?_)
              · skip
                refine r_aload_n (pc2 := 62) 0 dX10_stepAt_61 rfl rfl rfl rfl ?_
                refine r_getf (pc2 := 65) (v := .ref 126) fX10_44 dX10_stepAt_62 c117 (by decide) rfl rfl ?_
                refine r_bipush (pc2 := 67) (v := 16) dX10_stepAt_65 (by decide) rfl ?_
                refine r_iload_n (pc2 := 68) 2 dX10_stepAt_67 rfl rfl rfl ?_
                refine r_imul (pc2 := 69) dX10_stepAt_68 rfl ?_
                refine r_cast (nI (16 * s)) (pk_mul 16 s) ?_
                refine r_iload (pc2 := 71) 4 dX10_stepAt_69 rfl rfl ?_
                refine r_iadd (pc2 := 72) dX10_stepAt_71 rfl ?_
                refine r_cast (nI (16 * s + c0)) (nI_add _ _) ?_
                refine r_ialdN (pc2 := 73) (16 * s + c0) dX10_stepAt_72 c126 (by decide) rfl (by omega) (by decide) rfl ?_
                refine r_cast (nI (nxS a s c0)) (by rw [hgc _ hsm c0 hc0, nxI, if_pos hco.1]) ?_
                refine r_istore_n (pc2 := 74) (ls2 := [.ref 117, .int (nI i), .int (nI (nxS a s c0)), .int (nI k), .int (nI c0)]) 2 dX10_stepAt_73 rfl (by decide) rfl rfl rfl ?_
                obtain ⟨x74, e74⟩ : ∃ z : Int32, z = (nI k) + (1) := ⟨_, rfl⟩
                refine r_iinc (pc2 := 77) (ls2 := [.ref 117, .int (nI i), .int (nI (nxS a s c0)), .int x74, .int (nI c0)]) (v := x74) 3 dX10_stepAt_74 rfl (by rw [e74]; rfl) rfl rfl rfl ?_
                refine r_goto (pc2 := 7) dX10_stepAt_77 (by decide) ?_
                rw [e74, nI_1]
                exact ih (nxS a s c0) (k + 1) l2 _ hsm2 hfx2 hgl2 (by omega) (by omega) (by rw [hR]; exact stR eki hki)
              · exact absurd ((nI_eq (by omega) (by omega)).mp b55) eki
            · exact absurd (congrArg nI (((hfb c0 hc0).mpr hco).trans hfx.symm)) b44
        | succ j ihc =>
          intro c hc
          refine r_aload_n (pc2 := 32) 0 dX10_stepAt_31 rfl rfl rfl rfl ?_
          refine r_iload_n (pc2 := 33) 2 dX10_stepAt_32 rfl rfl rfl ?_
          refine r_iload (pc2 := 35) 4 dX10_stepAt_33 rfl rfl ?_
          refine r_callV1 (pc2 := 38) (As := [.int (nI s), .int (nI c)]) (st := []) kX10_358 rfl rfl dX10_stepAt_35 c117 (by decide) rfl rfl (Nat.le_of_ble_eq_true rfl) (by omega) (c_farBy (s := s) (c := c) c117 c126 c127 (hgc _ hsm c (by omega)) hs4 (by omega) (hnb c (by omega))) rfl (fun h2 hq35 => ?_)
          subst hq35
          refine r_aload_n (pc2 := 39) 0 dX10_stepAt_38 rfl rfl rfl rfl ?_
          refine r_getf (pc2 := 42) (v := .ref 127) fX10_47 dX10_stepAt_39 c117 (by decide) rfl rfl ?_
          refine r_iload_n (pc2 := 43) 2 dX10_stepAt_42 rfl rfl rfl ?_
          refine r_ialdA (pc2 := 44) s dX10_stepAt_43 c127 (by decide) rfl (by omega) (by decide) rfl ?_
          refine r_icmp_eq (tgt := 53) (pc2 := 47) dX10_stepAt_44 (by decide) rfl (fun b44 => ?_) (fun b44 => ?_)
          · exact absurd ((hfb c (by omega)).mp (((nI_eq (hfbl c (by omega)) (by omega)).mp b44).trans hfx)) (hmn c (by omega))
          · skip
            obtain ⟨x47, e47⟩ : ∃ z : Int32, z = (nI c) + (1) := ⟨_, rfl⟩
            refine r_iinc (pc2 := 50) (ls2 := [.ref 117, .int (nI i), .int (nI s), .int (nI k), .int x47]) (v := x47) 4 dX10_stepAt_47 rfl (by rw [e47]; rfl) rfl rfl rfl ?_
            refine r_goto (pc2 := 31) dX10_stepAt_50 (by decide) ?_
            rw [e47, nI_1]
            exact ihc (c + 1) (by omega)
      refine r_aload_n (pc2 := 8) 0 dX10_stepAt_7 rfl rfl rfl rfl ?_
      refine r_getf (pc2 := 11) (v := .ref 127) fX10_47 dX10_stepAt_8 c117 (by decide) rfl rfl ?_
      refine r_iload_n (pc2 := 12) 2 dX10_stepAt_11 rfl rfl rfl ?_
      refine r_ialdA (pc2 := 13) s dX10_stepAt_12 c127 (by decide) rfl (by omega) (by decide) rfl ?_
      refine r_if_le (tgt := 80) (pc2 := 16) dX10_stepAt_13 (by decide) rfl (fun b13 => ?_) (fun b13 => ?_)
      · exact absurd b13 (nI_nle (by omega) (by omega))
      · skip
        refine r_aload_n (pc2 := 17) 0 dX10_stepAt_16 rfl rfl rfl rfl ?_
        refine r_getf (pc2 := 20) (v := .ref 127) fX10_47 dX10_stepAt_17 c117 (by decide) rfl rfl ?_
        refine r_iload_n (pc2 := 21) 2 dX10_stepAt_20 rfl rfl rfl ?_
        refine r_ialdA (pc2 := 22) s dX10_stepAt_21 c127 (by decide) rfl (by omega) (by decide) rfl ?_
        refine r_ldcw (pc2 := 25) (v := 268435456) qX10_350 dX10_stepAt_22 rfl ?_
        refine r_icmp_ge (tgt := 80) (pc2 := 28) dX10_stepAt_25 (by decide) rfl (fun b25 => ?_) (fun b25 => ?_)
        · exact absurd (show nI 268435456 ≤ nI (fx s) from b25) (nI_ge (by omega) (by decide))
        · skip
          refine r_iconst (pc2 := 29) (v := 0) dX10_stepAt_28 (by decide) rfl ?_
          refine r_istore (pc2 := 31) (ls2 := [.ref 117, .int (nI i), .int (nI s), .int (nI k), .int 0]) 4 dX10_stepAt_29 (by decide) rfl rfl rfl ?_
          exact inner c0 0 (by omega)
  rcases Nat.lt_or_ge x 268435456 with hx28 | hx28
  · skip
    refine Cn.go (ls := [.ref 117, .int (nI i), .float 0, .float 0, .float 0]) (by decide +kernel) rfl (Nat.le_of_ble_eq_true rfl) ?_
    refine r_aload_n (pc2 := 1) 0 dX10_stepAt_0 rfl rfl rfl rfl ?_
    refine r_callV1 (pc2 := 4) (As := []) (st := []) kX10_266 rfl rfl dX10_stepAt_1 c117 (by decide) rfl rfl (Nat.le_of_ble_eq_true rfl) (by omega) (c_standNow c117 c118 hA.G hA.c7 hA.dp) rfl (fun h2 hq1 => ?_)
    subst hq1
    refine r_istore_n (pc2 := 5) (ls2 := [.ref 117, .int (nI i), .int (nI (packS a)), .float 0, .float 0]) 2 dX10_stepAt_4 rfl (by decide) rfl rfl rfl ?_
    refine r_iconst (pc2 := 6) (v := 0) dX10_stepAt_5 (by decide) rfl ?_
    refine r_istore_n (pc2 := 7) (ls2 := [.ref 117, .int (nI i), .int (nI (packS a)), .int 0, .float 0]) 3 dX10_stepAt_6 rfl (by decide) rfl rfl rfl ?_
    exact loop x (packS a) 0 l _ hq0 hfx (hl hx28) (by omega) (Nat.zero_le _) (by rw [hRF, stI]; simp only [Nat.zero_add, Nat.sub_zero, hx28, true_and])
  · have hfx : fx (packS a) = 268435456 := by rw [hfx]; have := hxle; omega
    have hRF : R = -1 := by rw [hRF, stI, if_neg (by omega)]
    have hs4 := hA.plt
    refine Cn.go (ls := [.ref 117, .int (nI i), .float 0, .float 0, .float 0]) (by decide +kernel) rfl (Nat.le_of_ble_eq_true rfl) ?_
    refine r_aload_n (pc2 := 1) 0 dX10_stepAt_0 rfl rfl rfl rfl ?_
    refine r_callV1 (pc2 := 4) (As := []) (st := []) kX10_266 rfl rfl dX10_stepAt_1 c117 (by decide) rfl rfl (Nat.le_of_ble_eq_true rfl) (by omega) (c_standNow c117 c118 hA.G hA.c7 hA.dp) rfl (fun h2 hq1 => ?_)
    subst hq1
    refine r_istore_n (pc2 := 5) (ls2 := [.ref 117, .int (nI i), .int (nI (packS a)), .float 0, .float 0]) 2 dX10_stepAt_4 rfl (by decide) rfl rfl rfl ?_
    refine r_iconst (pc2 := 6) (v := 0) dX10_stepAt_5 (by decide) rfl ?_
    refine r_istore_n (pc2 := 7) (ls2 := [.ref 117, .int (nI i), .int (nI (packS a)), .int 0, .float 0]) 3 dX10_stepAt_6 rfl (by decide) rfl rfl rfl ?_
    refine r_aload_n (pc2 := 8) 0 dX10_stepAt_7 rfl rfl rfl rfl ?_
    refine r_getf (pc2 := 11) (v := .ref 127) fX10_47 dX10_stepAt_8 c117 (by decide) rfl rfl ?_
    refine r_iload_n (pc2 := 12) 2 dX10_stepAt_11 rfl rfl rfl ?_
    refine r_ialdA (pc2 := 13) (packS a) dX10_stepAt_12 c127 (by decide) rfl (by omega) (by decide) rfl ?_
    refine r_if_le (tgt := 80) (pc2 := 16) dX10_stepAt_13 (by decide) rfl (fun b13 => ?_) (fun b13 => ?_)
    · exact absurd b13 (by rw [hfx]; decide)
    · skip
      refine r_aload_n (pc2 := 17) 0 dX10_stepAt_16 rfl rfl rfl rfl ?_
      refine r_getf (pc2 := 20) (v := .ref 127) fX10_47 dX10_stepAt_17 c117 (by decide) rfl rfl ?_
      refine r_iload_n (pc2 := 21) 2 dX10_stepAt_20 rfl rfl rfl ?_
      refine r_ialdA (pc2 := 22) (packS a) dX10_stepAt_21 c127 (by decide) rfl (by omega) (by decide) rfl ?_
      refine r_ldcw (pc2 := 25) (v := 268435456) qX10_350 dX10_stepAt_22 rfl ?_
      refine r_icmp_ge (tgt := 80) (pc2 := 28) dX10_stepAt_25 (by decide) rfl (fun b25 => ?_) (fun b25 => ?_)
      · skip
        refine r_iconst (pc2 := 81) (v := -1) dX10_stepAt_80 (by decide) rfl ?_
        exact r_iret rfl dX10_stepAt_81 ⟨by rw [hRF], rfl⟩
      · exact absurd (by rw [hfx]; decide) b25
