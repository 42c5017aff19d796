/-! the class: surely -/
theorem mem_wq {a : FR} {F : (Nat → Int32) → List (Nat → Int32)} {b x : Nat → Int32} {p : Nat} : ∀ i j, x ∈ wq a F b p i j → ∃ q, j ≤ q ∧ q < j + i ∧ x ∈ F (upd (upd b p (nI q)) q (nI p))
  | 0, _, h => by rw [wq] at h; exact absurd h (List.not_mem_nil)
  | i + 1, j, h => by
    rw [wq, List.mem_append] at h
    rcases h with h | h
    · by_cases w : b j = -1 ∧ mbP a p j
      · rw [if_pos w] at h; exact ⟨j, by omega, by omega, h⟩
      · rw [if_neg w] at h; exact absurd h (List.not_mem_nil)
    · obtain ⟨q, h1, h2, h3⟩ := mem_wq i (j + 1) h
      exact ⟨q, by omega, by omega, h3⟩
theorem wl_bound {a : FR} {pe : Nat} : ∀ (m p l : Nat) (b x : Nat → Int32), p + m = pe → (∀ q, q < pe → b q = -1 ∨ ∃ r, r < pe ∧ b q = nI r) → (∀ q, q < p → b q ≠ -1) → pe ≤ 8 → x ∈ wl a m p l b → ∀ q, q < pe → ∃ r, r < pe ∧ x q = nI r
  | 0, p, l, b, x, hp, hb, hd, h8, h => by
    rw [wl, List.mem_singleton] at h
    subst h
    intro q hq
    rcases hb q hq with e | e
    · exact absurd e (hd q (by omega))
    · exact e
  | m + 1, p, l, b, x, hp, hb, hd, h8, h => by
    have m1 : ∀ r, r < pe → nI r ≠ -1 := fun r hr z => nI_m1 (q := r) (by omega) z.symm
    rw [wl] at h
    by_cases w : b p ≠ -1
    · rw [if_pos w] at h
      refine wl_bound m (p + 1) l b x (by omega) hb (fun q hq => ?_) h8 h
      by_cases v : q = p
      · rw [v]; exact w
      · exact hd q (by omega)
    · rw [if_neg w, List.mem_append] at h
      rcases h with h | h
      · obtain ⟨k, k1, k2, k3⟩ := mem_wq _ _ h
        refine wl_bound m (p + 1) l _ x (by omega) (fun q hq => ?_) (bd2 (fun q hq => hd q hq) k1 (by omega)) h8 k3
        show (if q = k then nI p else if q = p then nI k else b q) = -1 ∨ ∃ r, r < pe ∧ (if q = k then nI p else if q = p then nI k else b q) = nI r
        by_cases v : q = k
        · rw [if_pos v]; exact Or.inr ⟨p, by omega, rfl⟩
        · rw [if_neg v]
          by_cases u : q = p
          · rw [if_pos u]; exact Or.inr ⟨k, by omega, rfl⟩
          · rw [if_neg u]; exact hb q hq
      · by_cases v : l ≠ 0 ∧ a (29 + p) = 0
        · rw [if_pos v] at h
          refine wl_bound m (p + 1) 0 _ x (by omega) (fun q hq => ?_) (bd1 hd (by omega)) h8 h
          show (if q = p then nI p else b q) = -1 ∨ ∃ r, r < pe ∧ (if q = p then nI p else b q) = nI r
          by_cases u : q = p
          · rw [if_pos u]; exact Or.inr ⟨p, by omega, rfl⟩
          · rw [if_neg u]; exact hb q hq
        · rw [if_neg v] at h; exact absurd h (List.not_mem_nil)
theorem WL_bound {a : FR} (h8 : a 4 ≤ 8) {x : Nat → Int32} (h : x ∈ WL a) : ∀ q, q < a 4 → ∃ r, r < a 4 ∧ x q = nI r :=
  wl_bound (a 4) 0 _ _ x (by omega) (fun _ _ => Or.inl rfl) (fun q hq => absurd hq (by omega)) h8 h
theorem wP_b {p q : Nat} (hp : p < 8) (b : Nat → Int32) : wP (nI p) (nI q) b = decide (b p = nI q) := by
  unfold wP
  rw [nI_clamp (by omega)]
  have : ¬ nI p = -1 := fun z => nI_m1 (q := p) (by omega) z.symm
  simp [this]
theorem sure_hit {a : FR} {p q : Nat} (hp : p < 8) (hq : q < 8) (hpq : p ≠ q) (hw : WL a ≠ []) (e : cntW a (nI p) (nI q) = (WL a).length) : nself (sureL (WL a) p) (nI p) = nI q := by
  unfold cntW at e
  have h := List.countP_eq_length.mp e
  generalize WL a = L at *
  cases L with
  | nil => exact absurd rfl hw
  | cons x M =>
    have hx : x p = nI q := by have := h x (List.mem_cons_self ..); rw [wP_b hp] at this; exact of_decide_eq_true this
    have hM : ∀ b ∈ M, b p = x p := fun b hb => by have := h b (List.mem_cons_of_mem _ hb); rw [wP_b hp] at this; rw [hx]; exact of_decide_eq_true this
    show nself (if ∀ b ∈ M, b p = x p then x p else -1) (nI p) = _
    rw [if_pos hM, hx, nself_ne hq hp (fun z => hpq z.symm)]
theorem sure_no {a : FR} {p : Nat} (h8 : a 4 ≤ 8) (hp : p < a 4) (h : ∀ q, q < a 4 → q ≠ p → cntW a (nI p) (nI q) ≠ (WL a).length) : nself (sureL (WL a) p) (nI p) = -1 := by
  have hb := fun (x : Nat → Int32) (hx : x ∈ WL a) => WL_bound h8 hx p hp
  have m1 : nself (-1) (nI p) = -1 := if_neg (nI_m1 (by omega))
  unfold cntW at h
  generalize WL a = L at *
  cases L with
  | nil => exact m1
  | cons x M =>
    show nself (if ∀ b ∈ M, b p = x p then x p else -1) (nI p) = _
    by_cases hM : ∀ b ∈ M, b p = x p
    · rw [if_pos hM]
      obtain ⟨r, hr, e⟩ := hb x (List.mem_cons_self ..)
      by_cases w : r = p
      · rw [e, w]; exact if_pos rfl
      · refine absurd (List.countP_eq_length.mpr (fun b hb => ?_)) (h r hr w)
        rw [wP_b (by omega)]
        rcases List.mem_cons.mp hb with z | z
        · rw [z]; exact decide_eq_true e
        · exact decide_eq_true ((hM b z).trans e)
    · rw [if_neg hM]; exact m1
theorem surely_no {a : FR} {p k : Nat} (h8 : a 4 ≤ 8) (hp : p < a 4) (hk : a 4 ≤ k) (hx : inP (a 4) (nI p)) (hno : WL a ≠ [] → ∀ q, q < k → q ≠ p → cntW a (nI p) (nI q) ≠ (WL a).length) : surelyF a (nI p) = -1 := by
  unfold surelyF
  rw [if_pos hx]
  by_cases hw : WL a = []
  · rw [if_pos hw]
  · rw [if_neg hw, nI_clamp (by omega), sure_no h8 hp (fun q hq hqp => hno hw q (by omega) hqp)]
theorem stepno {P : Prop} {Q : Nat → Prop} {k p : Nat} (h : P → ∀ q, q < k → q ≠ p → Q q) (hk : P → k ≠ p → Q k) : P → ∀ q, q < k + 1 → q ≠ p → Q q := fun z q hq hqp => by
  by_cases w : q = k
  · subst w; exact hk z hqp
  · exact h z q (by omega) hqp
set_option maxRecDepth 20000 in
set_option maxHeartbeats 1000000 in
theorem cl_surely {E : EnvT} {d : Nat} {h0 : Hp} {ns s w1 w2 : Nat} {wk dt : Value} {Z : Nat → Prop} {reg : Nat → FR} {sg kd : Nat} {a b : FR} {x : Int32} (hN : NW h0 s ns w1 w2 wk dt a) (hD : DV Z h0 reg ns s sg kd b) (hA : AIN a) (hst : Stat a b) (hY : MY h0) (hd : 14 ≤ d) : Cn E mX9_surely d [.ref 64, .int x] h0 (fun r h2 => r = some (.int (surelyF a x)) ∧ Ex XS h0 h2 ∧ MY h2) := by
  obtain ⟨c64, c76, h77, hM⟩ := id hN
  obtain ⟨hL, hS, hZ, hb, hreg, hsg, hns, hn, zs⟩ := id hD
  have hs64 := (hZ.zl s zs).1
  obtain ⟨lo, so, sa, nl, sl, _, cs, _⟩ := id hS
  have st4 : a 4 = b 4 := hst 4 (by omega)
  have ha := hA.hb
  by_cases hx : inP (a 4) x
  · have h8 := ha.1
    obtain ⟨p, hp, rfl⟩ := inP_of (by omega) hx
    have loop : ∀ (m k : Nat) (h : Hp) (f pa tg : Nat → Int32), k + m = a 4 → Ex XS h0 h → SYd a h → h.1 64 = some (.inr (9, coL s ns (a 45) w1 w2 wk dt)) → h.1 s = some (.inr (6, stL sg b lo so sa nl sl)) → SYq a (a 4) h (WL a).length f pa tg → (∀ p, p < a 4 → tg (8 * p + p) = 0) → (∀ p q, p < a 4 → q < a 4 → p ≠ q → tg (8 * p + q) = nI (cntW a (nI p) (nI q))) → (WL a ≠ [] → ∀ q, q < k → q ≠ p → cntW a (nI p) (nI q) ≠ (WL a).length) → Fr E mX9_surely d 18 [.ref 64, .int (nI p), .ref 90, .int (nI k)] [] h (fun r h2 => r = some (.int (surelyF a (nI p))) ∧ Ex XS h0 h2 ∧ MY h2) := by
      intro m
      induction m with
      | zero =>
        intro k h f pa tg hk hxl hSY c64 cs hQ ht0 htg hno
        obtain ⟨c90, c91, c92, c93⟩ := hQ
        refine r_iload_n (pc2 := 19) 3 dX9_surely_18 rfl rfl rfl ?_
        refine r_aload_n (pc2 := 20) 0 dX9_surely_19 rfl rfl rfl rfl ?_
        refine r_getf (pc2 := 23) (v := .ref s) fX9_21 dX9_surely_20 c64 (by decide) rfl rfl ?_
        refine r_getf (pc2 := 26) (v := .int (nI (b 4))) fX9_177 dX9_surely_23 cs hs64 rfl rfl ?_
        refine r_cast (nI (a 4)) (by rw [st4]) ?_
        refine r_icmp_ge (tgt := 57) (pc2 := 29) dX9_surely_26 (by decide) rfl (fun b26 => ?_) (fun b26 => ?_)
        · skip
          refine r_iconst (pc2 := 58) (v := -1) dX9_surely_57 (by decide) rfl ?_
          exact r_iret rfl dX9_surely_58 ⟨by rw [surely_no ha.1 hp (by omega) hx hno], hxl, Or.inr ⟨a, ha, hSY⟩⟩
        · exact absurd (nI_le (by omega) (by omega)) b26
      | succ m ih =>
        intro k h f pa tg hk hxl hSY c64 cs hQ ht0 htg hno
        obtain ⟨c90, c91, c92, c93⟩ := hQ
        by_cases hw : WL a = []
        · have hnk : WL a ≠ [] → k ≠ p → cntW a (nI p) (nI k) ≠ (WL a).length := fun z => absurd hw z
          refine r_iload_n (pc2 := 19) 3 dX9_surely_18 rfl rfl rfl ?_
          refine r_aload_n (pc2 := 20) 0 dX9_surely_19 rfl rfl rfl rfl ?_
          refine r_getf (pc2 := 23) (v := .ref s) fX9_21 dX9_surely_20 c64 (by decide) rfl rfl ?_
          refine r_getf (pc2 := 26) (v := .int (nI (b 4))) fX9_177 dX9_surely_23 cs hs64 rfl rfl ?_
          refine r_cast (nI (a 4)) (by rw [st4]) ?_
          refine r_icmp_ge (tgt := 57) (pc2 := 29) dX9_surely_26 (by decide) rfl (fun b26 => ?_) (fun b26 => ?_)
          · exact absurd b26 (nI_ge (by omega) (by omega))
          · skip
            refine r_aload_n (pc2 := 30) 2 dX9_surely_29 rfl rfl rfl rfl ?_
            refine r_getf (pc2 := 33) (v := .int (nI (WL a).length)) fX9_207 dX9_surely_30 c90 (by decide) rfl rfl ?_
            refine r_if_le (tgt := 51) (pc2 := 36) dX9_surely_33 (by decide) rfl (fun b33 => ?_) (fun b33 => ?_)
            · skip
              obtain ⟨x51, e51⟩ : ∃ z : Int32, z = (nI k) + (1) := ⟨_, rfl⟩
              refine r_iinc (pc2 := 54) (ls2 := [.ref 64, .int (nI p), .ref 90, .int x51]) (v := x51) 3 dX9_surely_51 rfl (by rw [e51]; rfl) rfl rfl rfl ?_
              refine r_goto (pc2 := 18) dX9_surely_54 (by decide) ?_
              rw [e51, nI_1]
              exact ih (k + 1) _ f pa tg (by omega) hxl hSY c64 cs ⟨c90, c91, c92, c93⟩ ht0 htg (stepno hno hnk)
            · exact absurd (by rw [hw]; decide) b33
        · by_cases hk2 : tg (8 * p + k) = nI (WL a).length
          · have hkp : k ≠ p := fun z => by
              rw [z, ht0 p hp] at hk2
              exact hw (List.length_eq_zero_iff.mp ((nI_eq (a := 0) (by decide) (by have := WL_len ha.1; omega)).mp hk2).symm)
            have hcn : cntW a (nI p) (nI k) = (WL a).length := by
              rw [htg p k hp (by omega) (fun z => hkp z.symm)] at hk2
              exact (nI_eq (by have := cntW_le (a := a) (o := nI p) (q := nI k); have := WL_len ha.1; omega) (by have := WL_len ha.1; omega)).mp hk2
            refine r_iload_n (pc2 := 19) 3 dX9_surely_18 rfl rfl rfl ?_
            refine r_aload_n (pc2 := 20) 0 dX9_surely_19 rfl rfl rfl rfl ?_
            refine r_getf (pc2 := 23) (v := .ref s) fX9_21 dX9_surely_20 c64 (by decide) rfl rfl ?_
            refine r_getf (pc2 := 26) (v := .int (nI (b 4))) fX9_177 dX9_surely_23 cs hs64 rfl rfl ?_
            refine r_cast (nI (a 4)) (by rw [st4]) ?_
            refine r_icmp_ge (tgt := 57) (pc2 := 29) dX9_surely_26 (by decide) rfl (fun b26 => ?_) (fun b26 => ?_)
            · exact absurd b26 (nI_ge (by omega) (by omega))
            · skip
              refine r_aload_n (pc2 := 30) 2 dX9_surely_29 rfl rfl rfl rfl ?_
              refine r_getf (pc2 := 33) (v := .int (nI (WL a).length)) fX9_207 dX9_surely_30 c90 (by decide) rfl rfl ?_
              refine r_if_le (tgt := 51) (pc2 := 36) dX9_surely_33 (by decide) rfl (fun b33 => ?_) (fun b33 => ?_)
              · exact absurd b33 (nI_nle (n := (WL a).length) (List.length_pos_iff.mpr hw) (by have := WL_len ha.1; omega))
              · skip
                refine r_aload_n (pc2 := 37) 2 dX9_surely_36 rfl rfl rfl rfl ?_
                refine r_iload_n (pc2 := 38) 1 dX9_surely_37 rfl rfl rfl ?_
                refine r_iload_n (pc2 := 39) 3 dX9_surely_38 rfl rfl rfl ?_
                refine r_callV1 (pc2 := 42) (As := [.int (nI p), .int (nI k)]) (st := []) kX9_298 rfl rfl dX9_surely_39 c90 (by decide) rfl rfl (Nat.le_of_ble_eq_true rfl) (by omega) (c_waysWith (p := p) (q := k) c90 c93 (by omega) (by omega)) rfl (fun h2 hq39 => ?_)
                subst hq39
                refine r_aload_n (pc2 := 43) 2 dX9_surely_42 rfl rfl rfl rfl ?_
                refine r_getf (pc2 := 46) (v := .int (nI (WL a).length)) fX9_207 dX9_surely_43 c90 (by decide) rfl rfl ?_
                refine r_icmp_ne (tgt := 51) (pc2 := 49) dX9_surely_46 (by decide) rfl (fun b46 => ?_) (fun b46 => ?_)
                · exact absurd hk2 b46
                · skip
                  refine r_iload_n (pc2 := 50) 3 dX9_surely_49 rfl rfl rfl ?_
                  exact r_iret rfl dX9_surely_50 ⟨by unfold surelyF; rw [if_pos hx, if_neg hw, nI_clamp (by omega), sure_hit (by omega) (by omega) (fun z => hkp z.symm) hw hcn], hxl, Or.inr ⟨a, ha, hSY⟩⟩
          · have hnk : WL a ≠ [] → k ≠ p → cntW a (nI p) (nI k) ≠ (WL a).length := fun _ hkp e => hk2 (by rw [htg p k hp (by omega) (fun z => hkp z.symm), e])
            refine r_iload_n (pc2 := 19) 3 dX9_surely_18 rfl rfl rfl ?_
            refine r_aload_n (pc2 := 20) 0 dX9_surely_19 rfl rfl rfl rfl ?_
            refine r_getf (pc2 := 23) (v := .ref s) fX9_21 dX9_surely_20 c64 (by decide) rfl rfl ?_
            refine r_getf (pc2 := 26) (v := .int (nI (b 4))) fX9_177 dX9_surely_23 cs hs64 rfl rfl ?_
            refine r_cast (nI (a 4)) (by rw [st4]) ?_
            refine r_icmp_ge (tgt := 57) (pc2 := 29) dX9_surely_26 (by decide) rfl (fun b26 => ?_) (fun b26 => ?_)
            · exact absurd b26 (nI_ge (by omega) (by omega))
            · skip
              refine r_aload_n (pc2 := 30) 2 dX9_surely_29 rfl rfl rfl rfl ?_
              refine r_getf (pc2 := 33) (v := .int (nI (WL a).length)) fX9_207 dX9_surely_30 c90 (by decide) rfl rfl ?_
              refine r_if_le (tgt := 51) (pc2 := 36) dX9_surely_33 (by decide) rfl (fun b33 => ?_) (fun b33 => ?_)
              · exact absurd b33 (nI_nle (n := (WL a).length) (List.length_pos_iff.mpr hw) (by have := WL_len ha.1; omega))
              · skip
                refine r_aload_n (pc2 := 37) 2 dX9_surely_36 rfl rfl rfl rfl ?_
                refine r_iload_n (pc2 := 38) 1 dX9_surely_37 rfl rfl rfl ?_
                refine r_iload_n (pc2 := 39) 3 dX9_surely_38 rfl rfl rfl ?_
                refine r_callV1 (pc2 := 42) (As := [.int (nI p), .int (nI k)]) (st := []) kX9_298 rfl rfl dX9_surely_39 c90 (by decide) rfl rfl (Nat.le_of_ble_eq_true rfl) (by omega) (c_waysWith (p := p) (q := k) c90 c93 (by omega) (by omega)) rfl (fun h2 hq39 => ?_)
                subst hq39
                refine r_aload_n (pc2 := 43) 2 dX9_surely_42 rfl rfl rfl rfl ?_
                refine r_getf (pc2 := 46) (v := .int (nI (WL a).length)) fX9_207 dX9_surely_43 c90 (by decide) rfl rfl ?_
                refine r_icmp_ne (tgt := 51) (pc2 := 49) dX9_surely_46 (by decide) rfl (fun b46 => ?_) (fun b46 => ?_)
                · skip
                  obtain ⟨x51, e51⟩ : ∃ z : Int32, z = (nI k) + (1) := ⟨_, rfl⟩
                  refine r_iinc (pc2 := 54) (ls2 := [.ref 64, .int (nI p), .ref 90, .int x51]) (v := x51) 3 dX9_surely_51 rfl (by rw [e51]; rfl) rfl rfl rfl ?_
                  refine r_goto (pc2 := 18) dX9_surely_54 (by decide) ?_
                  rw [e51, nI_1]
                  exact ih (k + 1) _ f pa tg (by omega) hxl hSY c64 cs ⟨c90, c91, c92, c93⟩ ht0 htg (stepno hno hnk)
                · exact absurd b46 hk2
    refine Cn.go (ls := [.ref 64, .int (nI p), .float 0, .float 0]) (by decide +kernel) rfl (Nat.le_of_ble_eq_true rfl) ?_
    refine r_aload_n (pc2 := 1) 0 dX9_surely_0 rfl rfl rfl rfl ?_
    refine r_iload_n (pc2 := 2) 1 dX9_surely_1 rfl rfl rfl ?_
    refine r_callV1 (pc2 := 5) (As := [.int (nI p)]) (st := []) kX9_169 rfl rfl dX9_surely_2 c64 (by decide) rfl rfl (Nat.le_of_ble_eq_true rfl) (by omega) ((c_isPersonC c64 cs hs64 hb.1.2.2.2.1).mono fun r h2 q => ⟨q.1.trans (by rw [← st4, if_pos hx]), q.2⟩) rfl (fun h2 hq2 => ?_)
    subst hq2
    refine r_if_ne (tgt := 11) (pc2 := 8) dX9_surely_5 (by decide) rfl (fun b5 => ?_) (fun b5 => ?_)
    · skip
      refine r_aload_n (pc2 := 12) 0 dX9_surely_11 rfl rfl rfl rfl ?_
      refine r_callV1 (pc2 := 15) (As := []) (st := []) kX9_203 rfl rfl dX9_surely_12 c64 (by decide) rfl rfl (Nat.le_of_ble_eq_true rfl) (by omega) (c_learnSays hN hD hA hst hY (by omega)) rfl (fun h hq12 => ?_)
      obtain ⟨hxl, hSY⟩ := hq12
      have c64 := hxl.get (by decide) c64
      have cs := hxl.get (by have := hZ s zs; simp; omega) cs
      obtain ⟨f, pa, tg, ⟨c90, c91, c92, c93⟩, hf, ht0, htg⟩ := id hSY
      refine r_astore_n (pc2 := 16) (ls2 := [.ref 64, .int (nI p), .ref 90, .float 0]) 2 dX9_surely_15 rfl (by decide) rfl rfl rfl rfl ?_
      refine r_iconst (pc2 := 17) (v := 0) dX9_surely_16 (by decide) rfl ?_
      refine r_cast (nI 0) (rfl) ?_
      refine r_istore_n (pc2 := 18) (ls2 := [.ref 64, .int (nI p), .ref 90, .int (nI 0)]) 3 dX9_surely_17 rfl (by decide) rfl rfl rfl ?_
      exact loop (a 4) 0 h f pa tg (by omega) hxl hSY c64 cs ⟨c90, c91, c92, c93⟩ ht0 htg (fun _ q hq => absurd hq (by omega))
    · exact absurd b5 (by decide)
  · skip
    refine Cn.go (ls := [.ref 64, .int x, .float 0, .float 0]) (by decide +kernel) rfl (Nat.le_of_ble_eq_true rfl) ?_
    refine r_aload_n (pc2 := 1) 0 dX9_surely_0 rfl rfl rfl rfl ?_
    refine r_iload_n (pc2 := 2) 1 dX9_surely_1 rfl rfl rfl ?_
    refine r_callV1 (pc2 := 5) (As := [.int x]) (st := []) kX9_169 rfl rfl dX9_surely_2 c64 (by decide) rfl rfl (Nat.le_of_ble_eq_true rfl) (by omega) ((c_isPersonC c64 cs hs64 hb.1.2.2.2.1).mono fun r h2 q => ⟨q.1.trans (by rw [← st4, if_neg hx]), q.2⟩) rfl (fun h2 hq2 => ?_)
    subst hq2
    refine r_if_ne (tgt := 11) (pc2 := 8) dX9_surely_5 (by decide) rfl (fun b5 => ?_) (fun b5 => ?_)
    · exact absurd b5 (by decide)
    · skip
      refine r_bipush (pc2 := 10) (v := -2) dX9_surely_8 (by decide) rfl ?_
      exact r_iret rfl dX9_surely_10 ⟨by unfold surelyF; rw [if_neg hx], Ex.rf, hY⟩
