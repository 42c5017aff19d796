/-! how far -/
abbrev byB (a : Nat → Nat) (st s : Nat) : Prop := s / 4096 ≠ 0 ∧ pastN (a 1) s (a 3) &&& st = st
def pt (a : Nat → Nat) (st : Nat) : Nat → Nat → Prop
  | 0, s => byB a st s
  | n + 1, s => ∃ c, c < 16 ∧ okS a s c ∧ pt a st n (nxS a s c)
def grd (a : Nat → Nat) (st : Nat) : Nat → Nat → List Nat → Prop
  | 0, _, l => l = []
  | n + 1, s, l => ∃ c l', l = c :: l' ∧ c < 16 ∧ (okS a s c ∧ pt a st n (nxS a s c)) ∧ (∀ c', c' < c → ¬ (okS a s c' ∧ pt a st n (nxS a s c'))) ∧ grd a st n (nxS a s c) l'
theorem least_of {p : Nat → Prop} : ∀ n, p n → ∃ c, c ≤ n ∧ p c ∧ ∀ c', c' < c → ¬ p c' := by
  intro n
  induction n using Nat.strongRecOn with
  | _ n ih =>
    intro h
    by_cases c : ∃ m, m < n ∧ p m
    · obtain ⟨m, hm, pm⟩ := c
      obtain ⟨k, h1, h2, h3⟩ := ih m hm pm
      exact ⟨k, by omega, h2, h3⟩
    · exact ⟨n, Nat.le_refl _, h, fun c' hc hp => c ⟨c', hc, hp⟩⟩
theorem grd_ex {a : Nat → Nat} {st : Nat} : ∀ (n s : Nat), pt a st n s → ∃ l, grd a st n s l
  | 0, _, _ => ⟨[], rfl⟩
  | n + 1, s, h => by
    obtain ⟨c, hc, ho⟩ := h
    obtain ⟨k, h1, h2, h3⟩ := least_of (p := fun c => okS a s c ∧ pt a st n (nxS a s c)) c ho
    obtain ⟨l, hl⟩ := grd_ex n _ h2.2
    exact ⟨k :: l, k, l, rfl, by omega, h2, h3, hl⟩
theorem grd_len {a : Nat → Nat} {st : Nat} : ∀ (n s : Nat) (l : List Nat), grd a st n s l → l.length = n
  | 0, _, l, h => by rw [show l = [] from h]; rfl
  | n + 1, s, l, h => by
    obtain ⟨c, l', rfl, _, _, _, h2⟩ := h
    rw [List.length_cons, grd_len n _ _ h2]
theorem grd_un {a : Nat → Nat} {st : Nat} : ∀ (n s : Nat) (l m : List Nat), grd a st n s l → grd a st n s m → l = m
  | 0, _, l, m, h, g => by rw [show l = [] from h, show m = [] from g]
  | n + 1, s, l, m, h, g => by
    obtain ⟨c, l', rfl, _, h1, h2, h3⟩ := h
    obtain ⟨e, m', rfl, _, g1, g2, g3⟩ := g
    have : c = e := by
      rcases Nat.lt_trichotomy c e with z | z | z
      · exact absurd h1 (g2 c z)
      · exact z
      · exact absurd g1 (h2 e z)
    subst this
    rw [grd_un n _ _ _ h3 g3]
theorem grd_lt {a : Nat → Nat} {st : Nat} : ∀ (n s : Nat) (l : List Nat), grd a st n s l → ∀ k, l.getD k 0 < 16
  | 0, _, l, h, k => by rw [show l = [] from h]; show 0 < 16; decide
  | n + 1, s, l, h, k => by
    obtain ⟨c, l', rfl, hc, _, _, h2⟩ := h
    match k with
    | 0 => exact hc
    | k + 1 => exact grd_lt n _ _ h2 k
/-- how far it is: the fewest hours, or 2^28 -/
def FD (a : Nat → Nat) (st s x : Nat) : Prop := (x < 268435456 ∧ pt a st x s ∧ ∀ m, m < x → ¬ pt a st m s) ∨ (x = 268435456 ∧ ∀ m, m < 268435456 → ¬ pt a st m s)
theorem FD.un {a : Nat → Nat} {st s x y : Nat} (h : FD a st s x) (g : FD a st s y) : x = y := by
  rcases h with ⟨h1, h2, h3⟩ | ⟨h1, h2⟩
  · rcases g with ⟨g1, g2, g3⟩ | ⟨g1, g2⟩
    · rcases Nat.lt_trichotomy x y with z | z | z
      · exact absurd h2 (g3 x z)
      · exact z
      · exact absurd g2 (h3 y z)
    · exact absurd h2 (g2 x h1)
  · rcases g with ⟨g1, g2, g3⟩ | ⟨g1, g2⟩
    · exact absurd g2 (h2 y g1)
    · rw [h1, g1]
theorem FD.le {a : Nat → Nat} {st s x : Nat} (h : FD a st s x) : x ≤ 268435456 := by rcases h with h | h <;> omega
def fbN (a : Nat → Nat) (fx : Nat → Nat) (s c : Nat) : Nat := if okS a s c then (if fx (nxS a s c) = 268435456 then 268435456 else fx (nxS a s c) + 1) else 268435456
def FJ (a : Nat → Nat) (st : Nat) (Q : List Nat) (fx : Nat → Nat) : Prop := ∀ s ∈ Q, fx s ≤ 268435456 ∧ (fx s < 268435456 → pt a st (fx s) s) ∧ (fx s = 0 ↔ byB a st s)
def sumQ (fx : Nat → Nat) : List Nat → Nat
  | [] => 0
  | s :: Q => fx s + sumQ fx Q
theorem sumQ_out {fx : Nat → Nat} {s y : Nat} : ∀ {Q : List Nat}, s ∉ Q → sumQ (va_up fx s y) Q = sumQ fx Q
  | [], _ => rfl
  | t :: Q, h => by
    have h1 : t ≠ s := fun e => h (e ▸ List.mem_cons_self)
    have h2 := sumQ_out (fx := fx) (y := y) (Q := Q) (fun z => h (List.mem_cons_of_mem _ z))
    show va_up fx s y t + _ = fx t + _
    rw [h2, va_up, if_neg h1]
theorem sumQ_lt {fx : Nat → Nat} {s y : Nat} (hy : y < fx s) : ∀ {Q : List Nat}, Q.Nodup → s ∈ Q → sumQ (va_up fx s y) Q < sumQ fx Q
  | [], _, h => by cases h
  | t :: Q, hd, h => by
    obtain ⟨h1, h2⟩ := List.nodup_cons.mp hd
    show va_up fx s y t + sumQ _ Q < fx t + sumQ fx Q
    rcases List.mem_cons.mp h with rfl | hm
    · rw [sumQ_out h1, va_up, if_pos rfl]; omega
    · have : t ≠ s := fun e => h1 (e ▸ hm)
      rw [va_up, if_neg this]
      have := sumQ_lt hy h2 hm
      omega
theorem FJ.set {a : Nat → Nat} {st : Nat} {Q : List Nat} {fx : Nat → Nat} {s c : Nat} (h : FJ a st Q fx) (hcl : okS a s c → nxS a s c ∈ Q) (hc : c < 16) (hs0 : 0 < fx s) (hs : s ∈ Q) (hlt : fbN a fx s c < fx s) : FJ a st Q (va_up fx s (fbN a fx s c)) := by
  intro t ht
  by_cases e : t = s
  · subst e
    rw [va_up, if_pos rfl]
    have h1 := h t ht
    unfold fbN at hlt ⊢
    by_cases ho : okS a t c
    · rw [if_pos ho] at hlt ⊢
      have h2 := h _ (hcl ho)
      by_cases e2 : fx (nxS a t c) = 268435456
      · rw [if_pos e2] at hlt; omega
      · rw [if_neg e2] at hlt ⊢
        refine ⟨by omega, fun z => ⟨c, hc, ho, h2.2.1 (by omega)⟩, ⟨fun z => by omega, fun z => ?_⟩⟩
        have := h1.2.2.mpr z
        omega
    · rw [if_neg ho] at hlt; omega
  · rw [va_up, if_neg e]; exact h t ht
theorem FJ.fix {a : Nat → Nat} {st : Nat} {Q : List Nat} {fx : Nat → Nat} (h : FJ a st Q fx) (hcl : ∀ s ∈ Q, ∀ c, c < 16 → okS a s c → nxS a s c ∈ Q) (hf : ∀ s ∈ Q, ∀ c, c < 16 → fx s = 0 ∨ fx s ≤ fbN a fx s c) : ∀ s ∈ Q, FD a st s (fx s) := by
  have key : ∀ m, m < 268435456 → ∀ s ∈ Q, pt a st m s → fx s ≤ m := by
    intro m
    induction m with
    | zero => intro _ s hs hp; rw [(h s hs).2.2.mpr hp]; exact Nat.le_refl _
    | succ m ih =>
      intro hm s hs hp
      obtain ⟨c, hc, ho, hp⟩ := hp
      have h1 := ih (by omega) _ (hcl s hs c hc ho) hp
      rcases hf s hs c hc with z | z
      · omega
      · rw [fbN, if_pos ho, if_neg (by omega)] at z; omega
  intro s hs
  rcases Nat.lt_or_ge (fx s) 268435456 with c | c
  · exact Or.inl ⟨c, (h s hs).2.1 c, fun m hm hp => by have := key m (by omega) s hs hp; omega⟩
  · refine Or.inr ⟨by have := (h s hs).1; omega, fun m hm hp => ?_⟩
    have := key m hm s hs hp; omega
theorem nA_of (f : Nat → Int32) : f = nA (fun k => (f k).toBitVec.toNat) := funext fun k => i32_nI (f k)
set_option maxRecDepth 20000 in
set_option maxHeartbeats 1000000 in
theorem c_isBy {E : EnvT} {d : Nat} {h0 : Hp} {v : Nat → Int32} {a : Nat → Nat} {s st : Nat} (c117 : h0.1 117 = some (mO v)) (c118 : h0.1 118 = some (aI 3531 (nA a))) (hG : a 3 ≤ 4) (hC : a 1 ≤ 6) (hs : s < 40960) (hst : st < 16) (hd : 2 ≤ d) : Cn E mX10_isBy d [.ref 117, .int (nI s), .int (nI st)] h0 (fun r h2 => r = some (.int (if byB a st s then (1 : Int32) else 0)) ∧ h2 = h0) := by
  have hle : pastN (a 1) s (a 3) &&& st ≤ st := Nat.and_le_right
  by_cases hby : byB a st s
  · have hz := hby.1
    refine Cn.go (ls := [.ref 117, .int (nI s), .int (nI st)]) (by decide +kernel) rfl (Nat.le_of_ble_eq_true rfl) ?_
    refine r_iload_n (pc2 := 1) 1 dX10_isBy_0 rfl rfl rfl ?_
    refine r_callS1 (pc2 := 4) (As := [.int (nI s)]) (st := []) kX10_231 dX10_isBy_1 rfl rfl (Nat.le_of_ble_eq_true rfl) (by omega) (c_depthIn (nI s)) rfl (fun h2 hq1 => ?_)
    subst hq1
    refine r_cast (nI (s / 4096)) (depthN (by omega)) ?_
    refine r_if_le (tgt := 22) (pc2 := 7) dX10_isBy_4 (by decide) rfl (fun b4 => ?_) (fun b4 => ?_)
    · exact absurd b4 (nI_nle (by omega) (by omega))
    · skip
      refine r_aload_n (pc2 := 8) 0 dX10_isBy_7 rfl rfl rfl rfl ?_
      refine r_iload_n (pc2 := 9) 1 dX10_isBy_8 rfl rfl rfl ?_
      refine r_callV1 (pc2 := 12) (As := [.int (nI s)]) (st := []) kX10_256 rfl rfl dX10_isBy_9 c117 (by decide) rfl rfl (Nat.le_of_ble_eq_true rfl) (by omega) (c_pastIn (st := s) c117 c118 hG hC (by omega) (by omega)) rfl (fun h2 hq9 => ?_)
      subst hq9
      refine r_iload_n (pc2 := 13) 2 dX10_isBy_12 rfl rfl rfl ?_
      refine r_iand (pc2 := 14) dX10_isBy_13 rfl ?_
      refine r_cast (nI (pastN (a 1) s (a 3) &&& st)) (nI_and _ _) ?_
      refine r_iload_n (pc2 := 15) 2 dX10_isBy_14 rfl rfl rfl ?_
      refine r_icmp_ne (tgt := 22) (pc2 := 18) dX10_isBy_15 (by decide) rfl (fun b15 => ?_) (fun b15 => ?_)
      · exact absurd (congrArg nI hby.2) b15
      · skip
        refine r_iconst (pc2 := 19) (v := 1) dX10_isBy_18 (by decide) rfl ?_
        refine r_goto (pc2 := 23) dX10_isBy_19 (by decide) ?_
        exact r_zret (ty := .boolean) rfl (by decide) dX10_isBy_23 ⟨by rw [if_pos hby], rfl⟩
  · by_cases hz : s / 4096 = 0
    · skip
      refine Cn.go (ls := [.ref 117, .int (nI s), .int (nI st)]) (by decide +kernel) rfl (Nat.le_of_ble_eq_true rfl) ?_
      refine r_iload_n (pc2 := 1) 1 dX10_isBy_0 rfl rfl rfl ?_
      refine r_callS1 (pc2 := 4) (As := [.int (nI s)]) (st := []) kX10_231 dX10_isBy_1 rfl rfl (Nat.le_of_ble_eq_true rfl) (by omega) (c_depthIn (nI s)) rfl (fun h2 hq1 => ?_)
      subst hq1
      refine r_cast (nI (s / 4096)) (depthN (by omega)) ?_
      refine r_if_le (tgt := 22) (pc2 := 7) dX10_isBy_4 (by decide) rfl (fun b4 => ?_) (fun b4 => ?_)
      · skip
        refine r_iconst (pc2 := 23) (v := 0) dX10_isBy_22 (by decide) rfl ?_
        exact r_zret (ty := .boolean) rfl (by decide) dX10_isBy_23 ⟨by rw [if_neg hby], rfl⟩
      · exact absurd (by rw [hz]; decide) b4
    · have hne : ¬ pastN (a 1) s (a 3) &&& st = st := fun z => hby ⟨hz, z⟩
      refine Cn.go (ls := [.ref 117, .int (nI s), .int (nI st)]) (by decide +kernel) rfl (Nat.le_of_ble_eq_true rfl) ?_
      refine r_iload_n (pc2 := 1) 1 dX10_isBy_0 rfl rfl rfl ?_
      refine r_callS1 (pc2 := 4) (As := [.int (nI s)]) (st := []) kX10_231 dX10_isBy_1 rfl rfl (Nat.le_of_ble_eq_true rfl) (by omega) (c_depthIn (nI s)) rfl (fun h2 hq1 => ?_)
      subst hq1
      refine r_cast (nI (s / 4096)) (depthN (by omega)) ?_
      refine r_if_le (tgt := 22) (pc2 := 7) dX10_isBy_4 (by decide) rfl (fun b4 => ?_) (fun b4 => ?_)
      · exact absurd b4 (nI_nle (by omega) (by omega))
      · skip
        refine r_aload_n (pc2 := 8) 0 dX10_isBy_7 rfl rfl rfl rfl ?_
        refine r_iload_n (pc2 := 9) 1 dX10_isBy_8 rfl rfl rfl ?_
        refine r_callV1 (pc2 := 12) (As := [.int (nI s)]) (st := []) kX10_256 rfl rfl dX10_isBy_9 c117 (by decide) rfl rfl (Nat.le_of_ble_eq_true rfl) (by omega) (c_pastIn (st := s) c117 c118 hG hC (by omega) (by omega)) rfl (fun h2 hq9 => ?_)
        subst hq9
        refine r_iload_n (pc2 := 13) 2 dX10_isBy_12 rfl rfl rfl ?_
        refine r_iand (pc2 := 14) dX10_isBy_13 rfl ?_
        refine r_cast (nI (pastN (a 1) s (a 3) &&& st)) (nI_and _ _) ?_
        refine r_iload_n (pc2 := 15) 2 dX10_isBy_14 rfl rfl rfl ?_
        refine r_icmp_ne (tgt := 22) (pc2 := 18) dX10_isBy_15 (by decide) rfl (fun b15 => ?_) (fun b15 => ?_)
        · skip
          refine r_iconst (pc2 := 23) (v := 0) dX10_isBy_22 (by decide) rfl ?_
          exact r_zret (ty := .boolean) rfl (by decide) dX10_isBy_23 ⟨by rw [if_neg hby], rfl⟩
        · exact absurd ((nI_eq (by omega) (by omega)).mp b15) hne
set_option maxRecDepth 20000 in
set_option maxHeartbeats 1000000 in
theorem c_farBy {E : EnvT} {d : Nat} {h0 : Hp} {v g : Nat → Int32} {a fx : Nat → Nat} {s c : Nat} (c117 : h0.1 117 = some (mO v)) (c126 : h0.1 126 = some (aI 655360 g)) (c127 : h0.1 127 = some (aI 40960 (nA fx))) (hg : g (16 * s + c) = nxI a s c) (hs : s < 40960) (hc : c < 16) (hn : okS a s c → nxS a s c < 40960 ∧ fx (nxS a s c) ≤ 268435456) : Cn E mX10_farBy d [.ref 117, .int (nI s), .int (nI c)] h0 (fun r h2 => r = some (.int (nI (fbN a fx s c))) ∧ h2 = h0) := by
  by_cases ho : okS a s c
  · obtain ⟨hn1, hn2⟩ := hn ho
    by_cases he : fx (nxS a s c) = 268435456
    · skip
      refine Cn.go (ls := [.ref 117, .int (nI s), .int (nI c), .float 0]) (by decide +kernel) rfl (Nat.le_of_ble_eq_true rfl) ?_
      refine r_aload_n (pc2 := 1) 0 dX10_farBy_0 rfl rfl rfl rfl ?_
      refine r_getf (pc2 := 4) (v := .ref 126) fX10_44 dX10_farBy_1 c117 (by decide) rfl rfl ?_
      refine r_bipush (pc2 := 6) (v := 16) dX10_farBy_4 (by decide) rfl ?_
      refine r_iload_n (pc2 := 7) 1 dX10_farBy_6 rfl rfl rfl ?_
      refine r_imul (pc2 := 8) dX10_farBy_7 rfl ?_
      refine r_cast (nI (16 * s)) (pk_mul 16 s) ?_
      refine r_iload_n (pc2 := 9) 2 dX10_farBy_8 rfl rfl rfl ?_
      refine r_iadd (pc2 := 10) dX10_farBy_9 rfl ?_
      refine r_cast (nI (16 * s + c)) (nI_add _ _) ?_
      refine r_ialdN (pc2 := 11) (16 * s + c) dX10_farBy_10 c126 (by decide) rfl (by omega) (by decide) rfl ?_
      refine r_cast (nI (nxS a s c)) (by rw [hg, nxI, if_pos ho]) ?_
      refine r_istore_n (pc2 := 12) (ls2 := [.ref 117, .int (nI s), .int (nI c), .int (nI (nxS a s c))]) 3 dX10_farBy_11 rfl (by decide) rfl rfl rfl ?_
      refine r_iload_n (pc2 := 13) 3 dX10_farBy_12 rfl rfl rfl ?_
      refine r_iconst (pc2 := 14) (v := -1) dX10_farBy_13 (by decide) rfl ?_
      refine r_icmp_eq (tgt := 29) (pc2 := 17) dX10_farBy_14 (by decide) rfl (fun b14 => ?_) (fun b14 => ?_)
      · exact absurd b14 (nI_nm1 (by omega))
      · skip
        refine r_aload_n (pc2 := 18) 0 dX10_farBy_17 rfl rfl rfl rfl ?_
        refine r_getf (pc2 := 21) (v := .ref 127) fX10_47 dX10_farBy_18 c117 (by decide) rfl rfl ?_
        refine r_iload_n (pc2 := 22) 3 dX10_farBy_21 rfl rfl rfl ?_
        refine r_ialdA (pc2 := 23) (nxS a s c) dX10_farBy_22 c127 (by decide) rfl (by omega) (by decide) rfl ?_
        refine r_ldcw (pc2 := 26) (v := 268435456) qX10_350 dX10_farBy_23 rfl ?_
        refine r_icmp_ne (tgt := 35) (pc2 := 29) dX10_farBy_26 (by decide) rfl (fun b26 => ?_) (fun b26 => ?_)
        · exact absurd (by rw [he]; rfl) b26
        · skip
          refine r_ldcw (pc2 := 32) (v := 268435456) qX10_350 dX10_farBy_29 rfl ?_
          refine r_goto (pc2 := 43) dX10_farBy_32 (by decide) ?_
          exact r_iret rfl dX10_farBy_43 ⟨by rw [fbN, if_pos ho, if_pos he]; rfl, rfl⟩
    · skip
      refine Cn.go (ls := [.ref 117, .int (nI s), .int (nI c), .float 0]) (by decide +kernel) rfl (Nat.le_of_ble_eq_true rfl) ?_
      refine r_aload_n (pc2 := 1) 0 dX10_farBy_0 rfl rfl rfl rfl ?_
      refine r_getf (pc2 := 4) (v := .ref 126) fX10_44 dX10_farBy_1 c117 (by decide) rfl rfl ?_
      refine r_bipush (pc2 := 6) (v := 16) dX10_farBy_4 (by decide) rfl ?_
      refine r_iload_n (pc2 := 7) 1 dX10_farBy_6 rfl rfl rfl ?_
      refine r_imul (pc2 := 8) dX10_farBy_7 rfl ?_
      refine r_cast (nI (16 * s)) (pk_mul 16 s) ?_
      refine r_iload_n (pc2 := 9) 2 dX10_farBy_8 rfl rfl rfl ?_
      refine r_iadd (pc2 := 10) dX10_farBy_9 rfl ?_
      refine r_cast (nI (16 * s + c)) (nI_add _ _) ?_
      refine r_ialdN (pc2 := 11) (16 * s + c) dX10_farBy_10 c126 (by decide) rfl (by omega) (by decide) rfl ?_
      refine r_cast (nI (nxS a s c)) (by rw [hg, nxI, if_pos ho]) ?_
      refine r_istore_n (pc2 := 12) (ls2 := [.ref 117, .int (nI s), .int (nI c), .int (nI (nxS a s c))]) 3 dX10_farBy_11 rfl (by decide) rfl rfl rfl ?_
      refine r_iload_n (pc2 := 13) 3 dX10_farBy_12 rfl rfl rfl ?_
      refine r_iconst (pc2 := 14) (v := -1) dX10_farBy_13 (by decide) rfl ?_
      refine r_icmp_eq (tgt := 29) (pc2 := 17) dX10_farBy_14 (by decide) rfl (fun b14 => ?_) (fun b14 => ?_)
      · exact absurd b14 (nI_nm1 (by omega))
      · skip
        refine r_aload_n (pc2 := 18) 0 dX10_farBy_17 rfl rfl rfl rfl ?_
        refine r_getf (pc2 := 21) (v := .ref 127) fX10_47 dX10_farBy_18 c117 (by decide) rfl rfl ?_
        refine r_iload_n (pc2 := 22) 3 dX10_farBy_21 rfl rfl rfl ?_
        refine r_ialdA (pc2 := 23) (nxS a s c) dX10_farBy_22 c127 (by decide) rfl (by omega) (by decide) rfl ?_
        refine r_ldcw (pc2 := 26) (v := 268435456) qX10_350 dX10_farBy_23 rfl ?_
        refine r_icmp_ne (tgt := 35) (pc2 := 29) dX10_farBy_26 (by decide) rfl (fun b26 => ?_) (fun b26 => ?_)
        · skip
          refine r_aload_n (pc2 := 36) 0 dX10_farBy_35 rfl rfl rfl rfl ?_
          refine r_getf (pc2 := 39) (v := .ref 127) fX10_47 dX10_farBy_36 c117 (by decide) rfl rfl ?_
          refine r_iload_n (pc2 := 40) 3 dX10_farBy_39 rfl rfl rfl ?_
          refine r_ialdA (pc2 := 41) (nxS a s c) dX10_farBy_40 c127 (by decide) rfl (by omega) (by decide) rfl ?_
          refine r_iconst (pc2 := 42) (v := 1) dX10_farBy_41 (by decide) rfl ?_
          refine r_iadd (pc2 := 43) dX10_farBy_42 rfl ?_
          exact r_iret rfl dX10_farBy_43 ⟨by rw [fbN, if_pos ho, if_neg he, nI_1], rfl⟩
        · exact absurd ((nI_eq (b := 268435456) (by omega) (by decide)).mp b26) he
  · skip
    refine Cn.go (ls := [.ref 117, .int (nI s), .int (nI c), .float 0]) (by decide +kernel) rfl (Nat.le_of_ble_eq_true rfl) ?_
    refine r_aload_n (pc2 := 1) 0 dX10_farBy_0 rfl rfl rfl rfl ?_
    refine r_getf (pc2 := 4) (v := .ref 126) fX10_44 dX10_farBy_1 c117 (by decide) rfl rfl ?_
    refine r_bipush (pc2 := 6) (v := 16) dX10_farBy_4 (by decide) rfl ?_
    refine r_iload_n (pc2 := 7) 1 dX10_farBy_6 rfl rfl rfl ?_
    refine r_imul (pc2 := 8) dX10_farBy_7 rfl ?_
    refine r_cast (nI (16 * s)) (pk_mul 16 s) ?_
    refine r_iload_n (pc2 := 9) 2 dX10_farBy_8 rfl rfl rfl ?_
    refine r_iadd (pc2 := 10) dX10_farBy_9 rfl ?_
    refine r_cast (nI (16 * s + c)) (nI_add _ _) ?_
    refine r_ialdN (pc2 := 11) (16 * s + c) dX10_farBy_10 c126 (by decide) rfl (by omega) (by decide) rfl ?_
    refine r_cast (-1) (by rw [hg, nxI, if_neg ho]) ?_
    refine r_istore_n (pc2 := 12) (ls2 := [.ref 117, .int (nI s), .int (nI c), .int (-1)]) 3 dX10_farBy_11 rfl (by decide) rfl rfl rfl ?_
    refine r_iload_n (pc2 := 13) 3 dX10_farBy_12 rfl rfl rfl ?_
    refine r_iconst (pc2 := 14) (v := -1) dX10_farBy_13 (by decide) rfl ?_
    refine r_icmp_eq (tgt := 29) (pc2 := 17) dX10_farBy_14 (by decide) rfl (fun b14 => ?_) (fun b14 => ?_)
    · skip
      refine r_ldcw (pc2 := 32) (v := 268435456) qX10_350 dX10_farBy_29 rfl ?_
      refine r_goto (pc2 := 43) dX10_farBy_32 (by decide) ?_
      exact r_iret rfl dX10_farBy_43 ⟨by rw [fbN, if_neg ho]; rfl, rfl⟩
    · exact absurd rfl b14
