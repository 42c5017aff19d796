/-! the class: bindLeast -/
def SYq (a : FR) (pe : Nat) (h : Hp) (n : Nat) (f pa tg : Nat → Int32) : Prop := h.1 90 = some (.inr (4, [.int (nI n), .ref 91, .int (nI pe), .long (lN (pkL (L8 (fun r => a (29 + r))))), .long (lN (pkL (L8 (fun r => a (37 + r))))), .ref 92, .ref 93])) ∧ h.1 91 = some (aI 8 f) ∧ h.1 92 = some (aI 8 pa) ∧ h.1 93 = some (aI 64 tg)
abbrev XS : List Nat := [90, 91, 92, 93]
def BQ (a : FR) (pe : Nat) (h0 : Hp) (b pa : Nat → Int32) (n : Nat) (f tg : Nat → Int32) (L : List (Nat → Int32)) : Option Value → Hp → Prop := fun r h2 => r = none ∧ Ex XS h0 h2 ∧ ∃ n2 f2 pa2 tg2, SYq a pe h2 n2 f2 pa2 tg2 ∧ SW pe n f tg L n2 f2 tg2 ∧ ∀ q, q < pe → b q ≠ -1 → pa2 q = pa q
theorem nself_ne {r q : Nat} (hr : r < 8) (hq : q < 8) (h : r ≠ q) : nself (nI r) (nI q) = nI r := if_neg (fun z => h ((nI_eq (by omega) (by omega)).mp z))
theorem PAr.two {b pa pa1 : Nat → Int32} {pe u k : Nat} (h8 : pe ≤ 8) (x : PAr b pa pe) (hu : u < pe) (hk : k < pe) (huk : u ≠ k) (e : ∀ q, q < pe → b q ≠ -1 → pa1 q = pa q) : PAr (upd (upd b u (nI k)) k (nI u)) (upd (upd pa1 u (nI k)) k (nI u)) pe := by
  intro q hq hb
  show (if q = k then nI u else if q = u then nI k else pa1 q) = nself (if q = k then nI u else if q = u then nI k else b q) (nI q) ∧ ∃ r, r < pe ∧ (if q = k then nI u else if q = u then nI k else b q) = nI r
  have hb : (if q = k then nI u else if q = u then nI k else b q) ≠ -1 := hb
  by_cases w : q = k
  · rw [if_pos w, if_pos w, nself_ne (by omega) (by omega) (by omega)]
    exact ⟨rfl, u, hu, rfl⟩
  · rw [if_neg w] at hb
    rw [if_neg w, if_neg w]
    by_cases v : q = u
    · rw [if_pos v, if_pos v, nself_ne (by omega) (by omega) (by omega)]
      exact ⟨rfl, k, hk, rfl⟩
    · rw [if_neg v] at hb
      rw [if_neg v, if_neg v, e q hq hb]
      exact x q hq hb
theorem PAr.lone {b pa pa1 : Nat → Int32} {pe u : Nat} (x : PAr b pa pe) (hu : u < pe) (e : ∀ q, q < pe → b q ≠ -1 → pa1 q = pa q) : PAr (upd b u (nI u)) (upd pa1 u (-1)) pe := by
  intro q hq hb
  show (if q = u then -1 else pa1 q) = nself (if q = u then nI u else b q) (nI q) ∧ ∃ r, r < pe ∧ (if q = u then nI u else b q) = nI r
  have hb : (if q = u then nI u else b q) ≠ -1 := hb
  by_cases v : q = u
  · rw [if_pos v, if_pos v, v]
    exact ⟨(if_pos rfl).symm, u, hu, rfl⟩
  · rw [if_neg v] at hb
    rw [if_neg v, if_neg v, e q hq hb]
    exact x q hq hb
theorem bd2 {b : Nat → Int32} {u k : Nat} (hbd : ∀ q, q < u → b q ≠ -1) (huk : u < k) (hk : k < 8) : ∀ q, q < u + 1 → upd (upd b u (nI k)) k (nI u) q ≠ -1 := fun q hq => by
  show (if q = k then nI u else if q = u then nI k else b q) ≠ -1
  rw [if_neg (by omega)]
  by_cases v : q = u
  · rw [if_pos v]; exact fun z => nI_m1 (by omega) z.symm
  · rw [if_neg v]; exact hbd q (by omega)
theorem bd1 {b : Nat → Int32} {u : Nat} (hbd : ∀ q, q < u → b q ≠ -1) (hu : u < 8) : ∀ q, q < u + 1 → upd b u (nI u) q ≠ -1 := fun q hq => by
  show (if q = u then nI u else b q) ≠ -1
  by_cases v : q = u
  · rw [if_pos v]; exact fun z => nI_m1 (by omega) z.symm
  · rw [if_neg v]; exact hbd q (by omega)
set_option maxRecDepth 20000 in
set_option maxHeartbeats 1000000 in
theorem c_bindLeast {E : EnvT} {a : FR} {pe : Nat} (h8 : pe ≤ 8) (hF : ∀ p, p < 8 → (fun r => a (29 + r)) p < 256) (hG : ∀ p, p < 8 → (fun r => a (37 + r)) p < 256) : ∀ m : Nat, ∀ (p lf lv d fm n : Nat) (b f pa tg : Nat → Int32) (h0 : Hp), p + m = pe → lf ≤ 1 → lv ≤ p → m + 3 ≤ d → FM b pe fm → (∀ q, q < p → b q ≠ -1) → PAr b pa pe → n + (wl a m p lf b).length < 2 ^ 31 → SYq a pe h0 n f pa tg → Cn E mX4_bindLeast d [.ref 90, .int (nI fm), .int (nI lf), .int (nI lv)] h0 (BQ a pe h0 b pa n f tg (wl a m p lf b)) := by
  intro m
  induction m using Nat.strongRecOn with
  | _ m ih =>
    intro p lf lv d fm n b f pa tg h0 hpm hlf hlv hd hFM hbd hPA hlen hS
    obtain ⟨c90, c91, c92, c93⟩ := id hS
    by_cases hz : fm = 0
    · have hfull : ∀ q, q < pe → b q ≠ -1 := FM.zero (hz ▸ hFM)
      have hL1 : wl a m p lf b = [b] := wl_full (fun i hi => hfull _ (by omega))
      rw [hL1] at hlen
      have hlen : n + 1 < 2 ^ 31 := hlen
      have hpa : ∀ q, q < pe → pa q = -1 ∨ ∃ r, r < 8 ∧ pa q = nI r := fun q hq => by
        obtain ⟨e1, r, hr, e2⟩ := hPA q hq (hfull q hq)
        rw [e1, e2]
        unfold nself
        split
        · exact Or.inl rfl
        · exact Or.inr ⟨r, by omega, rfl⟩
      refine Cn.go (ls := [.ref 90, .int (nI fm), .int (nI lf), .int (nI lv), .float 0, .float 0]) (by decide +kernel) rfl (Nat.le_of_ble_eq_true rfl) ?_
      refine r_iload_n (pc2 := 1) 1 dX4_bindLeast_0 rfl rfl rfl ?_
      refine r_if_ne (tgt := 9) (pc2 := 4) dX4_bindLeast_1 (by decide) rfl (fun b1 => ?_) (fun b1 => ?_)
      · exact absurd (by rw [hz]; rfl) b1
      · skip
        refine r_aload_n (pc2 := 5) 0 dX4_bindLeast_4 rfl rfl rfl rfl ?_
        refine r_callV0 (pc2 := 8) (As := []) (st := []) kX4_51 rfl rfl dX4_bindLeast_5 c90 (by decide) rfl rfl (Nat.le_of_ble_eq_true rfl) (by omega) (c_addWay c90 c91 c92 c93 h8 (by omega) (fun p hp => hpa p hp)) rfl (fun h hq5 => ?_)
        obtain ⟨hxa, c90, c92, fk, tk, c91, c93, hfk, htk⟩ := hq5
        exact r_vret rfl dX4_bindLeast_8 ⟨rfl, hxa.mono (by simp), n + 1, fk, pa, tk, ⟨c90, c91, c92, c93⟩, by rw [hL1]; exact SW.one h8 hPA hfull hfk htk, fun q _ _ => rfl⟩
    · obtain ⟨q0, hq0, hb0⟩ := hFM.some hz
      obtain ⟨j, hj, hbu2, hsk⟩ := fstF (b := b) m p ⟨q0, by apply Classical.byContradiction; intro z; exact hbd q0 (by omega) hb0, by omega, hb0⟩
      obtain ⟨u, hu⟩ : ∃ u, u = p + j := ⟨_, rfl⟩
      obtain ⟨m1, hm1⟩ : ∃ m1, m = m1 + 1 + j := ⟨m - 1 - j, by omega⟩
      rw [← hu] at hbu2
      obtain ⟨L, hLd⟩ : ∃ L, L = wl a m p lf b := ⟨_, rfl⟩
      have hL : L = wq a (fun b2 => wl a m1 (u + 1) lf b2) b u m1 (u + 1) ++ (if lf ≠ 0 ∧ a (29 + u) = 0 then wl a m1 (u + 1) 0 (upd b u (nI u)) else []) := by
        rw [hLd, hm1, wl_skip j p hsk, ← hu, wl, if_neg (fun z => z hbu2)]
      rw [← hLd] at hlen ⊢
      have hlen1 := hlen
      rw [hL] at hlen1
      have hbd : ∀ q, q < u → b q ≠ -1 := fun q hq => by
        by_cases w : q < p
        · exact hbd q w
        · have := hsk (q - p) (by omega)
          rw [show p + (q - p) = q by omega] at this
          exact this
      have hbu : fm.testBit u = true := (hFM.2.2 u (by omega)).mpr hbu2
      have part : ∀ (i k n1 : Nat) (f1 pa1 tg1 : Nat → Int32) (h : Hp), k + i = pe → u < k → (∀ q, q < pe → b q ≠ -1 → pa1 q = pa q) → n1 + (wq a (fun b2 => wl a m1 (u + 1) lf b2) b u i k ++ (if lf ≠ 0 ∧ a (29 + u) = 0 then wl a m1 (u + 1) 0 (upd b u (nI u)) else [])).length < 2 ^ 31 → Ex XS h0 h → SYq a pe h n1 f1 pa1 tg1 → (∀ n2 f2 tg2, SW pe n1 f1 tg1 (wq a (fun b2 => wl a m1 (u + 1) lf b2) b u i k ++ (if lf ≠ 0 ∧ a (29 + u) = 0 then wl a m1 (u + 1) 0 (upd b u (nI u)) else [])) n2 f2 tg2 → SW pe n f tg L n2 f2 tg2) → Fr E mX4_bindLeast d 51 [.ref 90, .int (nI fm), .int (nI lf), .int (nI lv), .int (nI u), .int (nI k)] [] h (BQ a pe h0 b pa n f tg L) := by
        intro i
        induction i with
        | zero =>
          intro k n1 f1 pa1 tg1 h hk huk he hlen hx hS hc
          obtain ⟨c90, c91, c92, c93⟩ := hS
          obtain rfl : k = pe := by omega
          by_cases hl0 : lf = 0
          · have hw : wq a (fun b2 => wl a m1 (u + 1) lf b2) b u 0 k ++ (if lf ≠ 0 ∧ a (29 + u) = 0 then wl a m1 (u + 1) 0 (upd b u (nI u)) else []) = [] := by rw [wq, List.nil_append, if_neg (fun z => z.1 hl0)]
            refine r_iload (pc2 := 53) 5 dX4_bindLeast_51 rfl rfl ?_
            refine r_aload_n (pc2 := 54) 0 dX4_bindLeast_53 rfl rfl rfl rfl ?_
            refine r_getf (pc2 := 57) (v := .int (nI k)) fX4_15 dX4_bindLeast_54 c90 (by decide) rfl rfl ?_
            refine r_icmp_ge (tgt := 128) (pc2 := 60) dX4_bindLeast_57 (by decide) rfl (fun b57 => ?_) (fun b57 => ?_)
            · skip
              refine r_iload_n (pc2 := 129) 2 dX4_bindLeast_128 rfl rfl rfl ?_
              refine r_if_eq (tgt := 165) (pc2 := 132) dX4_bindLeast_129 (by decide) rfl (fun b129 => ?_) (fun b129 => ?_)
              · skip
                exact r_vret rfl dX4_bindLeast_165 ⟨rfl, hx, n1, f1, pa1, tg1, ⟨c90, c91, c92, c93⟩, hc _ _ _ (by rw [hw]; exact SW.nil), he⟩
              · exact absurd (by rw [hl0]; rfl) b129
            · exact absurd (nI_le (Nat.le_refl _) (by omega)) b57
          · by_cases hbo : a (29 + u) = 0
            · have hw : wq a (fun b2 => wl a m1 (u + 1) lf b2) b u 0 k ++ (if lf ≠ 0 ∧ a (29 + u) = 0 then wl a m1 (u + 1) 0 (upd b u (nI u)) else []) = wl a m1 (u + 1) 0 (upd b u (nI u)) := by rw [wq, List.nil_append, if_pos ⟨hl0, hbo⟩]
              refine r_iload (pc2 := 53) 5 dX4_bindLeast_51 rfl rfl ?_
              refine r_aload_n (pc2 := 54) 0 dX4_bindLeast_53 rfl rfl rfl rfl ?_
              refine r_getf (pc2 := 57) (v := .int (nI k)) fX4_15 dX4_bindLeast_54 c90 (by decide) rfl rfl ?_
              refine r_icmp_ge (tgt := 128) (pc2 := 60) dX4_bindLeast_57 (by decide) rfl (fun b57 => ?_) (fun b57 => ?_)
              · skip
                refine r_iload_n (pc2 := 129) 2 dX4_bindLeast_128 rfl rfl rfl ?_
                refine r_if_eq (tgt := 165) (pc2 := 132) dX4_bindLeast_129 (by decide) rfl (fun b129 => ?_) (fun b129 => ?_)
                · exact absurd ((nI_eq (b := 0) (by omega) (by decide)).mp b129) hl0
                · skip
                  refine r_aload_n (pc2 := 133) 0 dX4_bindLeast_132 rfl rfl rfl rfl ?_
                  refine r_iload (pc2 := 135) 4 dX4_bindLeast_133 rfl rfl ?_
                  refine r_callV1 (pc2 := 138) (As := [.int (nI u)]) (st := []) kX4_58 rfl rfl dX4_bindLeast_135 c90 (by decide) rfl rfl (Nat.le_of_ble_eq_true rfl) (by omega) (c_boundTo (p := u) c90 hF (by omega)) rfl (fun h2 hq135 => ?_)
                  subst hq135
                  refine r_if_ne (tgt := 165) (pc2 := 141) dX4_bindLeast_138 (by decide) rfl (fun b138 => ?_) (fun b138 => ?_)
                  · exact absurd (by rw [hbo]; rfl) b138
                  · skip
                    refine r_aload_n (pc2 := 142) 0 dX4_bindLeast_141 rfl rfl rfl rfl ?_
                    refine r_getf (pc2 := 145) (v := .ref 92) fX4_19 dX4_bindLeast_142 c90 (by decide) rfl rfl ?_
                    refine r_iload (pc2 := 147) 4 dX4_bindLeast_145 rfl rfl ?_
                    refine r_iconst (pc2 := 148) (v := -1) dX4_bindLeast_147 (by decide) rfl ?_
                    refine r_iastN (pc2 := 149) u dX4_bindLeast_148 c92 (by decide) rfl (by omega) (by decide) rfl (fun h z148 o148 c92 => ?_)
                    have c90 := (o148 90 (by decide)).trans c90
                    have c91 := (o148 91 (by decide)).trans c91
                    have c93 := (o148 93 (by decide)).trans c93
                    have hx := hx.step (a := 92) (by simp) z148 o148
                    refine r_aload_n (pc2 := 150) 0 dX4_bindLeast_149 rfl rfl rfl rfl ?_
                    refine r_iload_n (pc2 := 151) 1 dX4_bindLeast_150 rfl rfl rfl ?_
                    refine r_iconst (pc2 := 152) (v := 1) dX4_bindLeast_151 (by decide) rfl ?_
                    refine r_iload (pc2 := 154) 4 dX4_bindLeast_152 rfl rfl ?_
                    refine r_ishl (pc2 := 155) dX4_bindLeast_154 rfl ?_
                    refine r_cast (nI (2 ^ u)) (shl1 _ (by omega)) ?_
                    refine r_iconst (pc2 := 156) (v := -1) dX4_bindLeast_155 (by decide) rfl ?_
                    refine r_ixor (pc2 := 157) dX4_bindLeast_156 rfl ?_
                    refine r_iand (pc2 := 158) dX4_bindLeast_157 rfl ?_
                    refine r_cast (nI (clrB fm u)) (clr8 u (by omega) _ hFM.1) ?_
                    refine r_iconst (pc2 := 159) (v := 0) dX4_bindLeast_158 (by decide) rfl ?_
                    refine r_iload_n (pc2 := 160) 3 dX4_bindLeast_159 rfl rfl rfl ?_
                    refine r_iconst (pc2 := 161) (v := 1) dX4_bindLeast_160 (by decide) rfl ?_
                    refine r_iadd (pc2 := 162) dX4_bindLeast_161 rfl ?_
                    refine r_cast (nI (lv + 1)) (nI_1 lv) ?_
                    refine r_callV0 (pc2 := 165) (As := [.int (nI (clrB fm u)), .int 0, .int (nI (lv + 1))]) (st := []) kX4_47 rfl rfl dX4_bindLeast_162 c90 (by decide) rfl rfl (Nat.le_of_ble_eq_true rfl) (by omega) (ih m1 (by omega) (u + 1) 0 (lv + 1) (d - 1) (clrB fm u) n1 (upd b u (nI u)) f1 _ tg1 h (by omega) (by omega) (by omega) (by omega) (hFM.clr h8 (by omega) (fun z => nI_m1 (by omega) z.symm)) (bd1 hbd (by omega)) (hPA.lone (by omega) he) (by rw [hw] at hlen; exact hlen) ⟨c90, c91, c92, c93⟩) rfl (fun h hq162 => ?_)
                    obtain ⟨hxr, n2, f2, pa2, tg2, ⟨c90, c91, c92, c93⟩, hs, he2⟩ := hq162
                    have hx := hx.trans hxr (fun _ z => z)
                    exact r_vret rfl dX4_bindLeast_165 ⟨rfl, hx, n2, f2, pa2, tg2, ⟨c90, c91, c92, c93⟩, hc _ _ _ (by rw [hw]; exact hs), fun q hq hb => by
  have q1 : q ≠ u := fun z => hb (z ▸ hbu2)
  rw [he2 q hq (by show (if q = u then nI u else b q) ≠ -1; rw [if_neg q1]; exact hb)]
  show (if q = u then _ else pa1 q) = pa q
  rw [if_neg q1]; exact he q hq hb⟩
              · exact absurd (nI_le (Nat.le_refl _) (by omega)) b57
            · have hw : wq a (fun b2 => wl a m1 (u + 1) lf b2) b u 0 k ++ (if lf ≠ 0 ∧ a (29 + u) = 0 then wl a m1 (u + 1) 0 (upd b u (nI u)) else []) = [] := by rw [wq, List.nil_append, if_neg (fun z => hbo z.2)]
              refine r_iload (pc2 := 53) 5 dX4_bindLeast_51 rfl rfl ?_
              refine r_aload_n (pc2 := 54) 0 dX4_bindLeast_53 rfl rfl rfl rfl ?_
              refine r_getf (pc2 := 57) (v := .int (nI k)) fX4_15 dX4_bindLeast_54 c90 (by decide) rfl rfl ?_
              refine r_icmp_ge (tgt := 128) (pc2 := 60) dX4_bindLeast_57 (by decide) rfl (fun b57 => ?_) (fun b57 => ?_)
              · skip
                refine r_iload_n (pc2 := 129) 2 dX4_bindLeast_128 rfl rfl rfl ?_
                refine r_if_eq (tgt := 165) (pc2 := 132) dX4_bindLeast_129 (by decide) rfl (fun b129 => ?_) (fun b129 => ?_)
                · exact absurd ((nI_eq (b := 0) (by omega) (by decide)).mp b129) hl0
                · skip
                  refine r_aload_n (pc2 := 133) 0 dX4_bindLeast_132 rfl rfl rfl rfl ?_
                  refine r_iload (pc2 := 135) 4 dX4_bindLeast_133 rfl rfl ?_
                  refine r_callV1 (pc2 := 138) (As := [.int (nI u)]) (st := []) kX4_58 rfl rfl dX4_bindLeast_135 c90 (by decide) rfl rfl (Nat.le_of_ble_eq_true rfl) (by omega) (c_boundTo (p := u) c90 hF (by omega)) rfl (fun h2 hq135 => ?_)
                  subst hq135
                  refine r_if_ne (tgt := 165) (pc2 := 141) dX4_bindLeast_138 (by decide) rfl (fun b138 => ?_) (fun b138 => ?_)
                  · skip
                    exact r_vret rfl dX4_bindLeast_165 ⟨rfl, hx, n1, f1, pa1, tg1, ⟨c90, c91, c92, c93⟩, hc _ _ _ (by rw [hw]; exact SW.nil), he⟩
                  · exact absurd ((nI_eq (b := 0) (by have : a (29 + u) < 256 := hF u (by omega); omega) (by decide)).mp b138) hbo
              · exact absurd (nI_le (Nat.le_refl _) (by omega)) b57
        | succ i ih2 =>
          intro k n1 f1 pa1 tg1 h hk huk he hlen hx hS hc
          obtain ⟨c90, c91, c92, c93⟩ := hS
          have hlt : k < pe := by omega
          by_cases hbk2 : b k = -1
          · have hbk : fm.testBit k = true := (hFM.2.2 k hlt).mpr hbk2
            by_cases hmb : mbP a u k
            · have hw : wq a (fun b2 => wl a m1 (u + 1) lf b2) b u (i + 1) k ++ (if lf ≠ 0 ∧ a (29 + u) = 0 then wl a m1 (u + 1) 0 (upd b u (nI u)) else []) = (wl a m1 (u + 1) lf (upd (upd b u (nI k)) k (nI u)) ++ wq a (fun b2 => wl a m1 (u + 1) lf b2) b u i (k + 1)) ++ (if lf ≠ 0 ∧ a (29 + u) = 0 then wl a m1 (u + 1) 0 (upd b u (nI u)) else []) := by rw [wq, if_pos ⟨hbk2, hmb⟩]
              refine r_iload (pc2 := 53) 5 dX4_bindLeast_51 rfl rfl ?_
              refine r_aload_n (pc2 := 54) 0 dX4_bindLeast_53 rfl rfl rfl rfl ?_
              refine r_getf (pc2 := 57) (v := .int (nI pe)) fX4_15 dX4_bindLeast_54 c90 (by decide) rfl rfl ?_
              refine r_icmp_ge (tgt := 128) (pc2 := 60) dX4_bindLeast_57 (by decide) rfl (fun b57 => ?_) (fun b57 => ?_)
              · exact absurd b57 (nI_ge hlt (by omega))
              · skip
                refine r_iload_n (pc2 := 61) 1 dX4_bindLeast_60 rfl rfl rfl ?_
                refine r_iload (pc2 := 63) 5 dX4_bindLeast_61 rfl rfl ?_
                refine r_ishr (pc2 := 64) dX4_bindLeast_63 rfl ?_
                refine r_iconst (pc2 := 65) (v := 1) dX4_bindLeast_64 (by decide) rfl ?_
                refine r_iand (pc2 := 66) dX4_bindLeast_65 rfl ?_
                refine r_cast (1) (by rw [bit256 fm hFM.1 k (by omega), hbk]; rfl) ?_
                refine r_iconst (pc2 := 67) (v := 1) dX4_bindLeast_66 (by decide) rfl ?_
                refine r_icmp_ne (tgt := 122) (pc2 := 70) dX4_bindLeast_67 (by decide) rfl (fun b67 => ?_) (fun b67 => ?_)
                · exact absurd b67 (by decide)
                · skip
                  refine r_aload_n (pc2 := 71) 0 dX4_bindLeast_70 rfl rfl rfl rfl ?_
                  refine r_iload (pc2 := 73) 4 dX4_bindLeast_71 rfl rfl ?_
                  refine r_iload (pc2 := 75) 5 dX4_bindLeast_73 rfl rfl ?_
                  refine r_callV1 (pc2 := 78) (As := [.int (nI u), .int (nI k)]) (st := []) kX4_54 rfl rfl dX4_bindLeast_75 c90 (by decide) rfl rfl (Nat.le_of_ble_eq_true rfl) (by omega) ((c_mayBindC (p := u) (q := k) c90 hF hG (by omega) (by omega) (by omega)).mono fun r h2 q => ⟨q.1.trans (by rw [if_pos hmb]), q.2⟩) rfl (fun h2 hq75 => ?_)
                  subst hq75
                  refine r_if_eq (tgt := 122) (pc2 := 81) dX4_bindLeast_78 (by decide) rfl (fun b78 => ?_) (fun b78 => ?_)
                  · exact absurd b78 (by decide)
                  · skip
                    refine r_aload_n (pc2 := 82) 0 dX4_bindLeast_81 rfl rfl rfl rfl ?_
                    refine r_getf (pc2 := 85) (v := .ref 92) fX4_19 dX4_bindLeast_82 c90 (by decide) rfl rfl ?_
                    refine r_iload (pc2 := 87) 4 dX4_bindLeast_85 rfl rfl ?_
                    refine r_iload (pc2 := 89) 5 dX4_bindLeast_87 rfl rfl ?_
                    refine r_iastN (pc2 := 90) u dX4_bindLeast_89 c92 (by decide) rfl (by omega) (by decide) rfl (fun h z89 o89 c92 => ?_)
                    have c90 := (o89 90 (by decide)).trans c90
                    have c91 := (o89 91 (by decide)).trans c91
                    have c93 := (o89 93 (by decide)).trans c93
                    have hx := hx.step (a := 92) (by simp) z89 o89
                    refine r_aload_n (pc2 := 91) 0 dX4_bindLeast_90 rfl rfl rfl rfl ?_
                    refine r_getf (pc2 := 94) (v := .ref 92) fX4_19 dX4_bindLeast_91 c90 (by decide) rfl rfl ?_
                    refine r_iload (pc2 := 96) 5 dX4_bindLeast_94 rfl rfl ?_
                    refine r_iload (pc2 := 98) 4 dX4_bindLeast_96 rfl rfl ?_
                    refine r_iastN (pc2 := 99) k dX4_bindLeast_98 c92 (by decide) rfl (by omega) (by decide) rfl (fun h z98 o98 c92 => ?_)
                    have c90 := (o98 90 (by decide)).trans c90
                    have c91 := (o98 91 (by decide)).trans c91
                    have c93 := (o98 93 (by decide)).trans c93
                    have hx := hx.step (a := 92) (by simp) z98 o98
                    refine r_aload_n (pc2 := 100) 0 dX4_bindLeast_99 rfl rfl rfl rfl ?_
                    refine r_iload_n (pc2 := 101) 1 dX4_bindLeast_100 rfl rfl rfl ?_
                    refine r_iconst (pc2 := 102) (v := 1) dX4_bindLeast_101 (by decide) rfl ?_
                    refine r_iload (pc2 := 104) 4 dX4_bindLeast_102 rfl rfl ?_
                    refine r_ishl (pc2 := 105) dX4_bindLeast_104 rfl ?_
                    refine r_cast (nI (2 ^ u)) (shl1 _ (by omega)) ?_
                    refine r_iconst (pc2 := 106) (v := -1) dX4_bindLeast_105 (by decide) rfl ?_
                    refine r_ixor (pc2 := 107) dX4_bindLeast_106 rfl ?_
                    refine r_iand (pc2 := 108) dX4_bindLeast_107 rfl ?_
                    refine r_cast (nI (clrB fm u)) (clr8 u (by omega) _ hFM.1) ?_
                    refine r_iconst (pc2 := 109) (v := 1) dX4_bindLeast_108 (by decide) rfl ?_
                    refine r_iload (pc2 := 111) 5 dX4_bindLeast_109 rfl rfl ?_
                    refine r_ishl (pc2 := 112) dX4_bindLeast_111 rfl ?_
                    refine r_cast (nI (2 ^ k)) (shl1 _ (by omega)) ?_
                    refine r_iconst (pc2 := 113) (v := -1) dX4_bindLeast_112 (by decide) rfl ?_
                    refine r_ixor (pc2 := 114) dX4_bindLeast_113 rfl ?_
                    refine r_iand (pc2 := 115) dX4_bindLeast_114 rfl ?_
                    refine r_cast (nI (clrB (clrB fm u) k)) (clr8 k (by omega) _ (clrB_lt _ _ hFM.1)) ?_
                    refine r_iload_n (pc2 := 116) 2 dX4_bindLeast_115 rfl rfl rfl ?_
                    refine r_iload_n (pc2 := 117) 3 dX4_bindLeast_116 rfl rfl rfl ?_
                    refine r_iconst (pc2 := 118) (v := 1) dX4_bindLeast_117 (by decide) rfl ?_
                    refine r_iadd (pc2 := 119) dX4_bindLeast_118 rfl ?_
                    refine r_cast (nI (lv + 1)) (nI_1 lv) ?_
                    refine r_callV0 (pc2 := 122) (As := [.int (nI (clrB (clrB fm u) k)), .int (nI lf), .int (nI (lv + 1))]) (st := []) kX4_47 rfl rfl dX4_bindLeast_119 c90 (by decide) rfl rfl (Nat.le_of_ble_eq_true rfl) (by omega) (ih m1 (by omega) (u + 1) lf (lv + 1) (d - 1) (clrB (clrB fm u) k) n1 (upd (upd b u (nI k)) k (nI u)) f1 _ tg1 h (by omega) hlf (by omega) (by omega) ((hFM.clr h8 (by omega) (fun z => nI_m1 (by omega) z.symm)).clr h8 hlt (fun z => nI_m1 (by omega) z.symm)) (bd2 hbd huk (by omega)) (hPA.two h8 (by omega) hlt (by omega) he) (by rw [hw, List.length_append, List.length_append] at hlen; omega) ⟨c90, c91, c92, c93⟩) rfl (fun h hq119 => ?_)
                    obtain ⟨hxr, n2, f2, pa2, tg2, ⟨c90, c91, c92, c93⟩, hs, he2⟩ := hq119
                    have hx := hx.trans hxr (fun _ z => z)
                    obtain ⟨x122, e122⟩ : ∃ z : Int32, z = (nI k) + (1) := ⟨_, rfl⟩
                    refine r_iinc (pc2 := 125) (ls2 := [.ref 90, .int (nI fm), .int (nI lf), .int (nI lv), .int (nI u), .int x122]) (v := x122) 5 dX4_bindLeast_122 rfl (by rw [e122]; rfl) rfl rfl rfl ?_
                    refine r_goto (pc2 := 51) dX4_bindLeast_125 (by decide) ?_
                    rw [e122, nI_1]
                    exact ih2 (k + 1) n2 f2 pa2 tg2 h (by omega) (by omega) (fun q hq hb => by
                      have q1 : q ≠ u := fun z => hb (z ▸ hbu2)
                      have q2 : q ≠ k := fun z => hb (z ▸ hbk2)
                      rw [he2 q hq (by show (if q = k then nI u else if q = u then nI k else b q) ≠ -1; rw [if_neg q2, if_neg q1]; exact hb)]
                      show (if q = k then _ else if q = u then _ else pa1 q) = pa q
                      rw [if_neg q2, if_neg q1]; exact he q hq hb) (by have e9 := hs.1; rw [hw, List.append_assoc, List.length_append] at hlen; omega) hx ⟨c90, c91, c92, c93⟩ (fun n3 f3 tg3 s => hc n3 f3 tg3 (by rw [hw, List.append_assoc]; exact hs.app s))
            · have hw : wq a (fun b2 => wl a m1 (u + 1) lf b2) b u (i + 1) k ++ (if lf ≠ 0 ∧ a (29 + u) = 0 then wl a m1 (u + 1) 0 (upd b u (nI u)) else []) = wq a (fun b2 => wl a m1 (u + 1) lf b2) b u i (k + 1) ++ (if lf ≠ 0 ∧ a (29 + u) = 0 then wl a m1 (u + 1) 0 (upd b u (nI u)) else []) := by rw [wq, if_neg (fun z => hmb z.2), List.nil_append]
              refine r_iload (pc2 := 53) 5 dX4_bindLeast_51 rfl rfl ?_
              refine r_aload_n (pc2 := 54) 0 dX4_bindLeast_53 rfl rfl rfl rfl ?_
              refine r_getf (pc2 := 57) (v := .int (nI pe)) fX4_15 dX4_bindLeast_54 c90 (by decide) rfl rfl ?_
              refine r_icmp_ge (tgt := 128) (pc2 := 60) dX4_bindLeast_57 (by decide) rfl (fun b57 => ?_) (fun b57 => ?_)
              · exact absurd b57 (nI_ge hlt (by omega))
              · skip
                refine r_iload_n (pc2 := 61) 1 dX4_bindLeast_60 rfl rfl rfl ?_
                refine r_iload (pc2 := 63) 5 dX4_bindLeast_61 rfl rfl ?_
                refine r_ishr (pc2 := 64) dX4_bindLeast_63 rfl ?_
                refine r_iconst (pc2 := 65) (v := 1) dX4_bindLeast_64 (by decide) rfl ?_
                refine r_iand (pc2 := 66) dX4_bindLeast_65 rfl ?_
                refine r_cast (1) (by rw [bit256 fm hFM.1 k (by omega), hbk]; rfl) ?_
                refine r_iconst (pc2 := 67) (v := 1) dX4_bindLeast_66 (by decide) rfl ?_
                refine r_icmp_ne (tgt := 122) (pc2 := 70) dX4_bindLeast_67 (by decide) rfl (fun b67 => ?_) (fun b67 => ?_)
                · exact absurd b67 (by decide)
                · skip
                  refine r_aload_n (pc2 := 71) 0 dX4_bindLeast_70 rfl rfl rfl rfl ?_
                  refine r_iload (pc2 := 73) 4 dX4_bindLeast_71 rfl rfl ?_
                  refine r_iload (pc2 := 75) 5 dX4_bindLeast_73 rfl rfl ?_
                  refine r_callV1 (pc2 := 78) (As := [.int (nI u), .int (nI k)]) (st := []) kX4_54 rfl rfl dX4_bindLeast_75 c90 (by decide) rfl rfl (Nat.le_of_ble_eq_true rfl) (by omega) ((c_mayBindC (p := u) (q := k) c90 hF hG (by omega) (by omega) (by omega)).mono fun r h2 q => ⟨q.1.trans (by rw [if_neg hmb]), q.2⟩) rfl (fun h2 hq75 => ?_)
                  subst hq75
                  refine r_if_eq (tgt := 122) (pc2 := 81) dX4_bindLeast_78 (by decide) rfl (fun b78 => ?_) (fun b78 => ?_)
                  · skip
                    obtain ⟨x122, e122⟩ : ∃ z : Int32, z = (nI k) + (1) := ⟨_, rfl⟩
                    refine r_iinc (pc2 := 125) (ls2 := [.ref 90, .int (nI fm), .int (nI lf), .int (nI lv), .int (nI u), .int x122]) (v := x122) 5 dX4_bindLeast_122 rfl (by rw [e122]; rfl) rfl rfl rfl ?_
                    refine r_goto (pc2 := 51) dX4_bindLeast_125 (by decide) ?_
                    rw [e122, nI_1]
                    exact ih2 (k + 1) n1 f1 pa1 tg1 _ (by omega) (by omega) he (by rw [hw] at hlen; exact hlen) hx ⟨c90, c91, c92, c93⟩ (fun n2 f2 tg2 s => hc n2 f2 tg2 (by rw [hw]; exact s))
                  · exact absurd b78 (by decide)
          · have hbk : fm.testBit k = false := by
              cases w : fm.testBit k with
              | false => rfl
              | true => exact absurd ((hFM.2.2 k hlt).mp w) hbk2
            have hw : wq a (fun b2 => wl a m1 (u + 1) lf b2) b u (i + 1) k ++ (if lf ≠ 0 ∧ a (29 + u) = 0 then wl a m1 (u + 1) 0 (upd b u (nI u)) else []) = wq a (fun b2 => wl a m1 (u + 1) lf b2) b u i (k + 1) ++ (if lf ≠ 0 ∧ a (29 + u) = 0 then wl a m1 (u + 1) 0 (upd b u (nI u)) else []) := by rw [wq, if_neg (fun z => hbk2 z.1), List.nil_append]
            refine r_iload (pc2 := 53) 5 dX4_bindLeast_51 rfl rfl ?_
            refine r_aload_n (pc2 := 54) 0 dX4_bindLeast_53 rfl rfl rfl rfl ?_
            refine r_getf (pc2 := 57) (v := .int (nI pe)) fX4_15 dX4_bindLeast_54 c90 (by decide) rfl rfl ?_
            refine r_icmp_ge (tgt := 128) (pc2 := 60) dX4_bindLeast_57 (by decide) rfl (fun b57 => ?_) (fun b57 => ?_)
            · exact absurd b57 (nI_ge hlt (by omega))
            · skip
              refine r_iload_n (pc2 := 61) 1 dX4_bindLeast_60 rfl rfl rfl ?_
              refine r_iload (pc2 := 63) 5 dX4_bindLeast_61 rfl rfl ?_
              refine r_ishr (pc2 := 64) dX4_bindLeast_63 rfl ?_
              refine r_iconst (pc2 := 65) (v := 1) dX4_bindLeast_64 (by decide) rfl ?_
              refine r_iand (pc2 := 66) dX4_bindLeast_65 rfl ?_
              refine r_cast (0) (by rw [bit256 fm hFM.1 k (by omega), hbk]; rfl) ?_
              refine r_iconst (pc2 := 67) (v := 1) dX4_bindLeast_66 (by decide) rfl ?_
              refine r_icmp_ne (tgt := 122) (pc2 := 70) dX4_bindLeast_67 (by decide) rfl (fun b67 => ?_) (fun b67 => ?_)
              · skip
                obtain ⟨x122, e122⟩ : ∃ z : Int32, z = (nI k) + (1) := ⟨_, rfl⟩
                refine r_iinc (pc2 := 125) (ls2 := [.ref 90, .int (nI fm), .int (nI lf), .int (nI lv), .int (nI u), .int x122]) (v := x122) 5 dX4_bindLeast_122 rfl (by rw [e122]; rfl) rfl rfl rfl ?_
                refine r_goto (pc2 := 51) dX4_bindLeast_125 (by decide) ?_
                rw [e122, nI_1]
                exact ih2 (k + 1) n1 f1 pa1 tg1 _ (by omega) (by omega) he (by rw [hw] at hlen; exact hlen) hx ⟨c90, c91, c92, c93⟩ (fun n2 f2 tg2 s => hc n2 f2 tg2 (by rw [hw]; exact s))
              · exact absurd b67 (by decide)
      have inner : Fr E mX4_bindLeast d 45 [.ref 90, .int (nI fm), .int (nI lf), .int (nI lv), .int (nI u), .float 0] [] h0 (BQ a pe h0 b pa n f tg L) := by
        refine r_iload (pc2 := 47) 4 dX4_bindLeast_45 rfl rfl ?_
        refine r_iconst (pc2 := 48) (v := 1) dX4_bindLeast_47 (by decide) rfl ?_
        refine r_iadd (pc2 := 49) dX4_bindLeast_48 rfl ?_
        refine r_cast (nI (u + 1)) (nI_1 u) ?_
        refine r_istore (pc2 := 51) (ls2 := [.ref 90, .int (nI fm), .int (nI lf), .int (nI lv), .int (nI u), .int (nI (u + 1))]) 5 dX4_bindLeast_49 (by decide) rfl rfl rfl ?_
        exact part m1 (u + 1) n f pa tg h0 (by omega) (by omega) (fun _ _ _ => rfl) hlen1 Ex.rf ⟨c90, c91, c92, c93⟩ (fun _ _ _ s => by rw [hL]; exact s)
      have look : ∀ (i k : Nat), k + i = u → Fr E mX4_bindLeast d 19 [.ref 90, .int (nI fm), .int (nI lf), .int (nI lv), .int (nI k), .float 0] [] h0 (BQ a pe h0 b pa n f tg L) := by
        intro i
        induction i with
        | zero =>
          intro k hk
          obtain rfl : k = u := by omega
          refine r_iload (pc2 := 21) 4 dX4_bindLeast_19 rfl rfl ?_
          refine r_aload_n (pc2 := 22) 0 dX4_bindLeast_21 rfl rfl rfl rfl ?_
          refine r_getf (pc2 := 25) (v := .int (nI pe)) fX4_15 dX4_bindLeast_22 c90 (by decide) rfl rfl ?_
          refine r_iconst (pc2 := 26) (v := 1) dX4_bindLeast_25 (by decide) rfl ?_
          refine r_isub (pc2 := 27) dX4_bindLeast_26 rfl ?_
          refine r_cast (nI (pe - 1)) (pk_sub (a := pe) (b := 1) (by omega)) ?_
          refine r_icmp_ge (tgt := 45) (pc2 := 30) dX4_bindLeast_27 (by decide) rfl (fun b27 => ?_) (fun b27 => ?_)
          · skip
            exact inner
          · skip
            refine r_iload_n (pc2 := 31) 1 dX4_bindLeast_30 rfl rfl rfl ?_
            refine r_iload (pc2 := 33) 4 dX4_bindLeast_31 rfl rfl ?_
            refine r_ishr (pc2 := 34) dX4_bindLeast_33 rfl ?_
            refine r_iconst (pc2 := 35) (v := 1) dX4_bindLeast_34 (by decide) rfl ?_
            refine r_iand (pc2 := 36) dX4_bindLeast_35 rfl ?_
            refine r_cast (1) (by rw [bit256 fm hFM.1 k (by omega), hbu]; rfl) ?_
            refine r_if_ne (tgt := 45) (pc2 := 39) dX4_bindLeast_36 (by decide) rfl (fun b36 => ?_) (fun b36 => ?_)
            · skip
              exact inner
            · exact absurd b36 (by decide)
        | succ i ih2 =>
          intro k hk
          have hbk : fm.testBit k = false := by
            cases w : fm.testBit k with
            | false => rfl
            | true => exact absurd ((hFM.2.2 k (by omega)).mp w) (hbd k (by omega))
          refine r_iload (pc2 := 21) 4 dX4_bindLeast_19 rfl rfl ?_
          refine r_aload_n (pc2 := 22) 0 dX4_bindLeast_21 rfl rfl rfl rfl ?_
          refine r_getf (pc2 := 25) (v := .int (nI pe)) fX4_15 dX4_bindLeast_22 c90 (by decide) rfl rfl ?_
          refine r_iconst (pc2 := 26) (v := 1) dX4_bindLeast_25 (by decide) rfl ?_
          refine r_isub (pc2 := 27) dX4_bindLeast_26 rfl ?_
          refine r_cast (nI (pe - 1)) (pk_sub (a := pe) (b := 1) (by omega)) ?_
          refine r_icmp_ge (tgt := 45) (pc2 := 30) dX4_bindLeast_27 (by decide) rfl (fun b27 => ?_) (fun b27 => ?_)
          · exact absurd b27 (nI_ge (by omega) (by omega))
          · skip
            refine r_iload_n (pc2 := 31) 1 dX4_bindLeast_30 rfl rfl rfl ?_
            refine r_iload (pc2 := 33) 4 dX4_bindLeast_31 rfl rfl ?_
            refine r_ishr (pc2 := 34) dX4_bindLeast_33 rfl ?_
            refine r_iconst (pc2 := 35) (v := 1) dX4_bindLeast_34 (by decide) rfl ?_
            refine r_iand (pc2 := 36) dX4_bindLeast_35 rfl ?_
            refine r_cast (0) (by rw [bit256 fm hFM.1 k (by omega), hbk]; rfl) ?_
            refine r_if_ne (tgt := 45) (pc2 := 39) dX4_bindLeast_36 (by decide) rfl (fun b36 => ?_) (fun b36 => ?_)
            · exact absurd b36 (by decide)
            · skip
              obtain ⟨x39, e39⟩ : ∃ z : Int32, z = (nI k) + (1) := ⟨_, rfl⟩
              refine r_iinc (pc2 := 42) (ls2 := [.ref 90, .int (nI fm), .int (nI lf), .int (nI lv), .int x39, .float 0]) (v := x39) 4 dX4_bindLeast_39 rfl (by rw [e39]; rfl) rfl rfl rfl ?_
              refine r_goto (pc2 := 19) dX4_bindLeast_42 (by decide) ?_
              rw [e39, nI_1]
              exact ih2 (k + 1) (by omega)
      refine Cn.go (ls := [.ref 90, .int (nI fm), .int (nI lf), .int (nI lv), .float 0, .float 0]) (by decide +kernel) rfl (Nat.le_of_ble_eq_true rfl) ?_
      refine r_iload_n (pc2 := 1) 1 dX4_bindLeast_0 rfl rfl rfl ?_
      refine r_if_ne (tgt := 9) (pc2 := 4) dX4_bindLeast_1 (by decide) rfl (fun b1 => ?_) (fun b1 => ?_)
      · skip
        refine r_iload_n (pc2 := 10) 3 dX4_bindLeast_9 rfl rfl rfl ?_
        refine r_bipush (pc2 := 12) (v := 8) dX4_bindLeast_10 (by decide) rfl ?_
        refine r_icmp_le (tgt := 16) (pc2 := 15) dX4_bindLeast_12 (by decide) rfl (fun b12 => ?_) (fun b12 => ?_)
        · skip
          refine r_iconst (pc2 := 17) (v := 0) dX4_bindLeast_16 (by decide) rfl ?_
          refine r_cast (nI 0) (rfl) ?_
          refine r_istore (pc2 := 19) (ls2 := [.ref 90, .int (nI fm), .int (nI lf), .int (nI lv), .int (nI 0), .float 0]) 4 dX4_bindLeast_17 (by decide) rfl rfl rfl ?_
          exact look u 0 (by omega)
        · exact absurd (nI_le (b := 8) (by omega) (by decide)) b12
      · exact absurd ((nI_eq (b := 0) (by have := hFM.1; omega) (by decide)).mp b1) hz
