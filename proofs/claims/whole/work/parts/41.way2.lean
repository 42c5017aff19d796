/-! what the ways tell -/
def tr8 (b : Nat → Int32) : Nat → Int32 := fun k => if k < 8 then b k else -1
theorem tr8_in {b : Nat → Int32} {k : Nat} (h : k < 8) : tr8 b k = b k := if_pos h
theorem tr8_upd {b : Nat → Int32} {p : Nat} {x : Int32} (h : p < 8) : tr8 (upd b p x) = upd (tr8 b) p x := by
  funext k; unfold tr8 upd
  by_cases e : k = p
  · subst e; rw [if_pos h, if_pos rfl, if_pos rfl]
  · rw [if_neg e, if_neg e]
theorem wq_tr {a : Nat → Nat} {F G : (Nat → Int32) → List (Nat → Int32)} (hF : ∀ b, (F b).map tr8 = G (tr8 b)) {b : Nat → Int32} {p : Nat} (hp : p < 8) : ∀ i j, j + i ≤ 8 → (wq a F b p i j).map tr8 = wq a G (tr8 b) p i j
  | 0, j, _ => rfl
  | i + 1, j, h => by
    unfold wq
    rw [List.map_append, wq_tr hF hp i (j + 1) (by omega), tr8_in (show j < 8 by omega)]
    congr 1
    by_cases c : b j = -1 ∧ mbP a p j
    · rw [if_pos c, if_pos c, hF, tr8_upd (by omega), tr8_upd hp]
    · rw [if_neg c, if_neg c]; rfl
theorem wl_tr {a : Nat → Nat} : ∀ (m p l : Nat) (b : Nat → Int32), p + m ≤ 8 → (wl a m p l b).map tr8 = wl a m p l (tr8 b)
  | 0, p, l, b, _ => rfl
  | m + 1, p, l, b, h => by
    unfold wl
    rw [tr8_in (show p < 8 by omega)]
    by_cases c : b p ≠ -1
    · rw [if_pos c, if_pos c]; exact wl_tr m (p + 1) l b (by omega)
    · rw [if_neg c, if_neg c, List.map_append, wq_tr (G := fun b2 => wl a m (p + 1) l b2) (fun b2 => wl_tr m (p + 1) l b2 (by omega)) (by omega) m (p + 1) (by omega)]
      congr 1
      by_cases e : l ≠ 0 ∧ a (29 + p) = 0
      · rw [if_pos e, if_pos e, wl_tr m (p + 1) 0 _ (by omega), tr8_upd (by omega)]
      · rw [if_neg e, if_neg e]; rfl
theorem wq_len {a : Nat → Nat} {F : (Nat → Int32) → List (Nat → Int32)} {B : Nat} (hF : ∀ b, (F b).length ≤ B) {b : Nat → Int32} {p : Nat} : ∀ i j, (wq a F b p i j).length ≤ i * B
  | 0, j => by simp [wq]
  | i + 1, j => by
    unfold wq
    rw [List.length_append, Nat.succ_mul]
    have h1 := wq_len (a := a) hF (b := b) (p := p) i (j + 1)
    have h2 : (if b j = -1 ∧ mbP a p j then F (upd (upd b p (nI j)) j (nI p)) else []).length ≤ B := by
      split
      · exact hF _
      · exact Nat.zero_le _
    omega
theorem wl_len {a : Nat → Nat} : ∀ (m p l : Nat) (b : Nat → Int32), m ≤ 8 → (wl a m p l b).length ≤ 9 ^ m
  | 0, p, l, b, _ => Nat.le_refl _
  | m + 1, p, l, b, h => by
    unfold wl
    have ih := fun p l b => wl_len (a := a) m p l b (by omega)
    have e : 9 ^ (m + 1) = 9 ^ m * 9 := Nat.pow_succ _ _
    split
    · have := ih (p + 1) l b; omega
    · rw [List.length_append]
      have h1 := wq_len (a := a) (fun b2 => ih (p + 1) l b2) (b := b) (p := p) m (p + 1)
      have h2 : (if l ≠ 0 ∧ a (29 + p) = 0 then wl a m (p + 1) 0 (upd b p (nI p)) else []).length ≤ 9 ^ m := by
        split
        · exact ih _ _ _
        · exact Nat.zero_le _
      have h3 : m * 9 ^ m ≤ 8 * 9 ^ m := Nat.mul_le_mul_right _ (by omega)
      omega
/-- the ways -/
def WL (a : Nat → Nat) : List (Nat → Int32) := wl a (a 4) 0 (a 4 % 2) (fun _ => -1)
theorem WL_len {a : Nat → Nat} (hP : a 4 ≤ 8) : (WL a).length ≤ 43046721 := Nat.le_trans (wl_len _ _ _ _ hP) (Nat.le_trans (Nat.pow_le_pow_right (by decide) hP) (by decide))
abbrev wP (o q : Int32) (b : Nat → Int32) : Bool := decide (o ≠ -1 ∧ b o.toNatClampNeg = q)
def cntW (a : Nat → Nat) (o q : Int32) : Nat := (WL a).countP (wP o q)
theorem cntW_le {a : Nat → Nat} {o q : Int32} : cntW a o q ≤ (WL a).length := List.countP_le_length
theorem cntW_no {a : Nat → Nat} {q : Int32} : cntW a (-1) q = 0 := by
  unfold cntW
  rw [List.countP_eq_zero]
  intro b _ h
  exact (of_decide_eq_true h).1 rfl
def sureL (L : List (Nat → Int32)) (p : Nat) : Int32 := match L with
  | [] => -1
  | x :: M => if ∀ b ∈ M, b p = x p then x p else -1
def headL (L : List (Nat → Int32)) (p : Nat) : Int32 := match L with
  | [] => -1
  | x :: _ => x p
theorem FW_w (o q : Int32) : ∀ (L : List (Nat → Int32)) (t : WT), (FW o q L t).2.1 = t.2.1 + L.countP (wP o q)
  | [], t => rfl
  | x :: L, t => by
    show (FW o q L (wayS o q x t)).2.1 = _
    rw [FW_w o q L, List.countP_cons]
    show t.2.1 + (if o ≠ -1 ∧ x o.toNatClampNeg = q then 1 else 0) + _ = _
    by_cases c : o ≠ -1 ∧ x o.toNatClampNeg = q
    · rw [if_pos c, if_pos (decide_eq_true c)]; omega
    · rw [if_neg c, if_neg (by simpa using c)]; omega
theorem FW_f (o q : Int32) : ∀ (L : List (Nat → Int32)) (t : WT), t.1 ≠ 0 → (FW o q L t).2.2.1 = t.2.2.1
  | [], t, _ => rfl
  | x :: L, t, h => by
    show (FW o q L (wayS o q x t)).2.2.1 = _
    rw [FW_f o q L _ (Nat.succ_ne_zero _)]
    exact if_neg h
theorem FW_s (o q : Int32) {p : Nat} (hp : p < 8) : ∀ (L : List (Nat → Int32)) (t : WT), t.1 ≠ 0 → (FW o q L t).2.2.2 p = if ∀ b ∈ L, b p = t.2.2.2 p then t.2.2.2 p else -1
  | [], t, _ => by rw [if_pos (fun b hb => by cases hb)]; rfl
  | x :: L, t, h => by
    show (FW o q L (wayS o q x t)).2.2.2 p = _
    rw [FW_s o q hp L _ (Nat.succ_ne_zero _)]
    have e : (wayS o q x t).2.2.2 p = if t.2.2.2 p = x p then x p else -1 := by
      have := @fillN_in Int32 t.2.2.2 0 8 p (fun p => if t.1 = 0 then x p else if t.2.2.2 p = x p then x p else -1) hp
      rw [Nat.zero_add] at this
      refine this.trans ?_
      rw [if_neg h]
    rw [e]
    by_cases c : t.2.2.2 p = x p
    · rw [if_pos c, c]
      by_cases g : ∀ b ∈ L, b p = x p
      · rw [if_pos g, if_pos (fun b hb => by rcases List.mem_cons.mp hb with rfl | hb; exact rfl; exact g b hb)]
      · rw [if_neg g, if_neg (fun z => g (fun b hb => z b (List.mem_cons_of_mem _ hb)))]
    · rw [if_neg c]
      refine Eq.trans ?_ (if_neg (fun z => c (z x List.mem_cons_self).symm)).symm
      split <;> rfl
theorem FW_head (o q : Int32) {L : List (Nat → Int32)} {f s : Nat → Int32} (hL : L ≠ []) {p : Nat} (hp : p < 8) : (FW o q L (0, 0, f, s)).2.2.1 p = headL L p ∧ (FW o q L (0, 0, f, s)).2.2.2 p = sureL L p := by
  match L, hL with
  | x :: M, _ =>
    have e1 : (wayS o q x (0, 0, f, s)).2.2.1 p = x p := by
      have := @fillN_in Int32 f 0 8 p x hp
      rw [Nat.zero_add] at this
      exact this
    have e2 : (wayS o q x (0, 0, f, s)).2.2.2 p = x p := by
      have := @fillN_in Int32 s 0 8 p (fun p => if (0 : Nat) = 0 then x p else if s p = x p then x p else -1) hp
      rw [Nat.zero_add] at this
      exact this
    constructor
    · show (FW o q M (wayS o q x (0, 0, f, s))).2.2.1 p = _
      rw [FW_f o q M _ (Nat.succ_ne_zero _), e1]; rfl
    · show (FW o q M (wayS o q x (0, 0, f, s))).2.2.2 p = _
      rw [FW_s o q hp M _ (Nat.succ_ne_zero _), e2]; rfl
theorem sureL_tr {L : List (Nat → Int32)} {p : Nat} (hp : p < 8) : sureL (L.map tr8) p = sureL L p := by
  match L with
  | [] => rfl
  | x :: M =>
    show (if ∀ b ∈ M.map tr8, b p = tr8 x p then tr8 x p else -1) = (if ∀ b ∈ M, b p = x p then x p else -1)
    rw [tr8_in hp]
    by_cases c : ∀ b ∈ M, b p = x p
    · rw [if_pos c, if_pos (fun b hb => by obtain ⟨y, hy, rfl⟩ := List.mem_map.mp hb; rw [tr8_in hp]; exact c y hy)]
    · rw [if_neg c, if_neg (fun z => c (fun b hb => by have := z _ (List.mem_map_of_mem hb); rw [tr8_in hp] at this; exact this))]
theorem headL_tr {L : List (Nat → Int32)} {p : Nat} (hp : p < 8) : headL (L.map tr8) p = headL L p := by
  match L with
  | [] => rfl
  | x :: M => exact tr8_in hp
theorem tr8_fill (f : Nat → Int32) : tr8 (fillN f 0 8 (fun _ => -1)) = fun _ => -1 := by
  funext k; unfold tr8 fillN
  by_cases h : k < 8
  · rw [if_pos h, if_pos ⟨Nat.zero_le _, by omega⟩]
  · rw [if_neg h]
theorem WL_tr {a : Nat → Nat} (hP : a 4 ≤ 8) (f : Nat → Int32) : (wl a (a 4) 0 (a 4 % 2) (fillN f 0 8 (fun _ => -1))).map tr8 = WL a := by
  rw [wl_tr _ _ _ _ (by omega), tr8_fill]; rfl
theorem cnt_tr {o q : Int32} (hor : o = -1 ∨ ∃ k, k < 8 ∧ o = nI k) (L : List (Nat → Int32)) : (L.map tr8).countP (wP o q) = L.countP (wP o q) := by
  rw [List.countP_map]
  congr 1
  funext b
  rcases hor with rfl | ⟨k, hk, rfl⟩
  · simp [wP]
  · show decide (nI k ≠ -1 ∧ tr8 b (nI k).toNatClampNeg = q) = _
    rw [nI_clamp (by omega), tr8_in hk]
    unfold wP
    rw [nI_clamp (by omega)]
theorem wv0 (v : Nat → Int32) (o q : Int32) : upd (upd (upd (upd v 31 0) 32 0) 33 o) 34 q = wv (upd (upd v 33 o) 34 q) (nI 0) (nI 0) := by
  funext j; unfold wv upd
  by_cases h1 : j = 31
  · subst h1; rfl
  by_cases h2 : j = 32
  · subst h2; rfl
  rw [if_neg h2, if_neg h1]
  by_cases h3 : j = 34
  · subst h3; rfl
  by_cases h4 : j = 33
  · subst h4; rfl
  simp only [h1, h2, h3, h4, if_false]
def wvv (v : Nat → Int32) (a : Nat → Nat) (o q : Int32) : Nat → Int32 := wv (upd (upd v 33 o) 34 q) (nI (WL a).length) (nI (cntW a o q))
set_option maxRecDepth 20000 in
set_option maxHeartbeats 1000000 in
theorem c_laysWays {E : EnvT} {d : Nat} {h0 : Hp} {v b f s : Nat → Int32} {a : Nat → Nat} {o q : Int32} (c117 : h0.1 117 = some (mO v)) (c118 : h0.1 118 = some (aI 3531 (nA a))) (c131 : h0.1 131 = some (aI 8 b)) (c132 : h0.1 132 = some (aI 8 f)) (c133 : h0.1 133 = some (aI 8 s)) (hor : o = -1 ∨ ∃ k, k < 8 ∧ o = nI k) (hP : a 4 ≤ 8) (hb : ∀ p, p < 8 → a (29 + p) < 256) (hu : ∀ p, p < 8 → a (37 + p) < 256) (hd : 19 ≤ d) : Cn E mX10_laysWays d [.ref 117, .int o, .int q] h0 (fun r h2 => r = some (.int (nI (WL a).length)) ∧ Ex [117, 131, 132, 133] h0 h2 ∧ h2.1 117 = some (mO (wvv v a o q)) ∧ (∃ f2, h2.1 131 = some (aI 8 f2)) ∧ (∃ f2, h2.1 132 = some (aI 8 f2) ∧ (WL a ≠ [] → ∀ p, p < 8 → f2 p = headL (WL a) p)) ∧ ∃ f2, h2.1 133 = some (aI 8 f2) ∧ (WL a ≠ [] → ∀ p, p < 8 → f2 p = sureL (WL a) p)) := by
  have hx : Ex [117, 131, 132, 133] h0 h0 := Ex.rf
  have hlen : (0, 0, f, s).1 + (wl a (a 4) 0 (a 4 % 2) (fillN b 0 8 (fun _ => -1))).length < 2 ^ 31 := by
    have := wl_len (a := a) (a 4) 0 (a 4 % 2) (fillN b 0 8 (fun _ => -1)) hP
    have : 9 ^ (a 4) ≤ 9 ^ 8 := Nat.pow_le_pow_right (by decide) hP
    show 0 + _ < _
    omega
  have eN : (FW o q (wl a (a 4) 0 (a 4 % 2) (fillN b 0 8 (fun _ => -1))) (0, 0, f, s)).1 = (WL a).length := by
    rw [FW_n, ← WL_tr hP b, List.length_map]; show 0 + _ = _; omega
  have eW : (FW o q (wl a (a 4) 0 (a 4 % 2) (fillN b 0 8 (fun _ => -1))) (0, 0, f, s)).2.1 = cntW a o q := by
    rw [FW_w, cntW, ← WL_tr hP b, cnt_tr hor]; show 0 + _ = _; omega
  have hH : WL a ≠ [] → ∀ p, p < 8 → (FW o q (wl a (a 4) 0 (a 4 % 2) (fillN b 0 8 (fun _ => -1))) (0, 0, f, s)).2.2.1 p = headL (WL a) p := fun hL p hp => by
    rw [← WL_tr hP b, headL_tr hp]
    exact (FW_head o q (fun z => hL (by rw [← WL_tr hP b, z]; rfl)) hp).1
  have hS : WL a ≠ [] → ∀ p, p < 8 → (FW o q (wl a (a 4) 0 (a 4 % 2) (fillN b 0 8 (fun _ => -1))) (0, 0, f, s)).2.2.2 p = sureL (WL a) p := fun hL p hp => by
    rw [← WL_tr hP b, sureL_tr hp]
    exact (FW_head o q (fun z => hL (by rw [← WL_tr hP b, z]; rfl)) hp).2
  have hx63 : True := trivial
  have loop : ∀ (m k : Nat) (h1 : Hp), k + m = 8 → Ex [117, 131, 132, 133] h0 h1 → h1.1 117 = some (mO (wv (upd (upd v 33 o) 34 q) (nI 0) (nI 0))) → h1.1 118 = some (aI 3531 (nA a)) → h1.1 131 = some (aI 8 (fillN b 0 k (fun _ => -1))) → h1.1 132 = some (aI 8 f) → h1.1 133 = some (aI 8 s) → Fr E mX10_laysWays d 22 [.ref 117, .int o, .int q, .int (nI k)] [] h1 (fun r h2 => r = some (.int (nI (WL a).length)) ∧ Ex [117, 131, 132, 133] h0 h2 ∧ h2.1 117 = some (mO (wvv v a o q)) ∧ (∃ f2, h2.1 131 = some (aI 8 f2)) ∧ (∃ f2, h2.1 132 = some (aI 8 f2) ∧ (WL a ≠ [] → ∀ p, p < 8 → f2 p = headL (WL a) p)) ∧ ∃ f2, h2.1 133 = some (aI 8 f2) ∧ (WL a ≠ [] → ∀ p, p < 8 → f2 p = sureL (WL a) p)) := by
    intro m
    induction m with
    | zero =>
      intro k h hk hx c117 c118 c131 c132 c133
      obtain rfl : k = 8 := by omega
      rcases (show a 4 % 2 = 1 ∨ a 4 % 2 = 0 by omega) with hodd | hodd
      · skip
        refine r_iload_n (pc2 := 23) 3 dX10_laysWays_22 rfl rfl rfl ?_
        refine r_bipush (pc2 := 25) (v := 8) dX10_laysWays_23 (by decide) rfl ?_
        refine r_icmp_ge (tgt := 41) (pc2 := 28) dX10_laysWays_25 (by decide) rfl (fun b25 => ?_) (fun b25 => ?_)
        · skip
          refine r_aload_n (pc2 := 42) 0 dX10_laysWays_41 rfl rfl rfl rfl ?_
          refine r_iconst (pc2 := 43) (v := 0) dX10_laysWays_42 (by decide) rfl ?_
          refine r_aload_n (pc2 := 44) 0 dX10_laysWays_43 rfl rfl rfl rfl ?_
          refine r_getf (pc2 := 47) (v := .ref 118) fX10_13 dX10_laysWays_44 c117 (by decide) rfl rfl ?_
          refine r_iconst (pc2 := 48) (v := 4) dX10_laysWays_47 (by decide) rfl ?_
          refine r_ialdA (pc2 := 49) 4 dX10_laysWays_48 c118 (by decide) rfl (by decide) (by decide) rfl ?_
          refine r_iconst (pc2 := 50) (v := 2) dX10_laysWays_49 (by decide) rfl ?_
          refine r_irem (pc2 := 51) dX10_laysWays_50 (by decide) rfl ?_
          refine r_cast (nI (a 4 % 2)) (pk_rem (d := 2) (by omega) (by decide) (by decide)) ?_
          refine r_iconst (pc2 := 52) (v := 1) dX10_laysWays_51 (by decide) rfl ?_
          refine r_icmp_ne (tgt := 59) (pc2 := 55) dX10_laysWays_52 (by decide) rfl (fun b52 => ?_) (fun b52 => ?_)
          · rw [hodd] at b52; exact absurd b52 (by decide)
          · skip
            refine r_iconst (pc2 := 56) (v := 1) dX10_laysWays_55 (by decide) rfl ?_
            refine r_goto (pc2 := 60) dX10_laysWays_56 (by decide) ?_
            refine r_cast (nI (a 4 % 2)) (by rw [hodd]; rfl) ?_
            refine r_callV0 (pc2 := 63) (As := [.int 0, .int (nI (a 4 % 2))]) (st := []) kX10_386 rfl rfl dX10_laysWays_60 c117 (by decide) rfl rfl (Nat.le_of_ble_eq_true rfl) (by omega) (c_goesBind (v := (upd (upd v 33 o) 34 q)) (o := o) (q := q) rfl rfl hor hP hb hu (a 4) 0 (a 4 % 2) (d - 1) (fillN b 0 8 (fun _ => -1)) (0, 0, f, s) _ (by omega) (by omega) (by omega) hlen c117 c118 c131 c132 c133) rfl (fun h hq60 => ?_)
            obtain ⟨hxb, c117, c131, c132, c133⟩ := hq60
            have c118 := hxb.get (by decide) c118
            have hx := hx.trans hxb (by decide)
            refine r_aload_n (pc2 := 64) 0 dX10_laysWays_63 rfl rfl rfl rfl ?_
            refine r_getf (pc2 := 67) (v := .int (nI (FW o q (wl a (a 4) 0 (a 4 % 2) (fillN b 0 8 (fun _ => -1))) (0, 0, f, s)).1)) fX10_371 dX10_laysWays_64 c117 (by decide) rfl rfl ?_
            exact r_iret rfl dX10_laysWays_67 ⟨by rw [eN], hx, by rw [c117, eN, eW]; rfl, ⟨_, c131⟩, ⟨_, c132, fun hL p hp => hH hL p hp⟩, ⟨_, c133, fun hL p hp => hS hL p hp⟩⟩
        · exact absurd (nI_le (a := 8) (b := 8) (Nat.le_refl _) (by decide)) b25
      · skip
        refine r_iload_n (pc2 := 23) 3 dX10_laysWays_22 rfl rfl rfl ?_
        refine r_bipush (pc2 := 25) (v := 8) dX10_laysWays_23 (by decide) rfl ?_
        refine r_icmp_ge (tgt := 41) (pc2 := 28) dX10_laysWays_25 (by decide) rfl (fun b25 => ?_) (fun b25 => ?_)
        · skip
          refine r_aload_n (pc2 := 42) 0 dX10_laysWays_41 rfl rfl rfl rfl ?_
          refine r_iconst (pc2 := 43) (v := 0) dX10_laysWays_42 (by decide) rfl ?_
          refine r_aload_n (pc2 := 44) 0 dX10_laysWays_43 rfl rfl rfl rfl ?_
          refine r_getf (pc2 := 47) (v := .ref 118) fX10_13 dX10_laysWays_44 c117 (by decide) rfl rfl ?_
          refine r_iconst (pc2 := 48) (v := 4) dX10_laysWays_47 (by decide) rfl ?_
          refine r_ialdA (pc2 := 49) 4 dX10_laysWays_48 c118 (by decide) rfl (by decide) (by decide) rfl ?_
          refine r_iconst (pc2 := 50) (v := 2) dX10_laysWays_49 (by decide) rfl ?_
          refine r_irem (pc2 := 51) dX10_laysWays_50 (by decide) rfl ?_
          refine r_cast (nI (a 4 % 2)) (pk_rem (d := 2) (by omega) (by decide) (by decide)) ?_
          refine r_iconst (pc2 := 52) (v := 1) dX10_laysWays_51 (by decide) rfl ?_
          refine r_icmp_ne (tgt := 59) (pc2 := 55) dX10_laysWays_52 (by decide) rfl (fun b52 => ?_) (fun b52 => ?_)
          · skip
            refine r_iconst (pc2 := 60) (v := 0) dX10_laysWays_59 (by decide) rfl ?_
            refine r_cast (nI (a 4 % 2)) (by rw [hodd]; rfl) ?_
            refine r_callV0 (pc2 := 63) (As := [.int 0, .int (nI (a 4 % 2))]) (st := []) kX10_386 rfl rfl dX10_laysWays_60 c117 (by decide) rfl rfl (Nat.le_of_ble_eq_true rfl) (by omega) (c_goesBind (v := (upd (upd v 33 o) 34 q)) (o := o) (q := q) rfl rfl hor hP hb hu (a 4) 0 (a 4 % 2) (d - 1) (fillN b 0 8 (fun _ => -1)) (0, 0, f, s) _ (by omega) (by omega) (by omega) hlen c117 c118 c131 c132 c133) rfl (fun h hq60 => ?_)
            obtain ⟨hxb, c117, c131, c132, c133⟩ := hq60
            have c118 := hxb.get (by decide) c118
            have hx := hx.trans hxb (by decide)
            refine r_aload_n (pc2 := 64) 0 dX10_laysWays_63 rfl rfl rfl rfl ?_
            refine r_getf (pc2 := 67) (v := .int (nI (FW o q (wl a (a 4) 0 (a 4 % 2) (fillN b 0 8 (fun _ => -1))) (0, 0, f, s)).1)) fX10_371 dX10_laysWays_64 c117 (by decide) rfl rfl ?_
            exact r_iret rfl dX10_laysWays_67 ⟨by rw [eN], hx, by rw [c117, eN, eW]; rfl, ⟨_, c131⟩, ⟨_, c132, fun hL p hp => hH hL p hp⟩, ⟨_, c133, fun hL p hp => hS hL p hp⟩⟩
          · rw [hodd] at b52; exact absurd b52 (by decide)
        · exact absurd (nI_le (a := 8) (b := 8) (Nat.le_refl _) (by decide)) b25
    | succ m ih =>
      intro k h hk hx c117 c118 c131 c132 c133
      have hlt : k < 8 := by omega
      refine r_iload_n (pc2 := 23) 3 dX10_laysWays_22 rfl rfl rfl ?_
      refine r_bipush (pc2 := 25) (v := 8) dX10_laysWays_23 (by decide) rfl ?_
      refine r_icmp_ge (tgt := 41) (pc2 := 28) dX10_laysWays_25 (by decide) rfl (fun b25 => ?_) (fun b25 => ?_)
      · exact absurd b25 (nI_ge (b := 8) hlt (by decide))
      · skip
        refine r_aload_n (pc2 := 29) 0 dX10_laysWays_28 rfl rfl rfl rfl ?_
        refine r_getf (pc2 := 32) (v := .ref 131) fX10_60 dX10_laysWays_29 c117 (by decide) rfl rfl ?_
        refine r_iload_n (pc2 := 33) 3 dX10_laysWays_32 rfl rfl rfl ?_
        refine r_iconst (pc2 := 34) (v := -1) dX10_laysWays_33 (by decide) rfl ?_
        refine r_iastN (pc2 := 35) k dX10_laysWays_34 c131 (by decide) rfl (by omega) (by decide) rfl (fun h z34 o34 c131 => ?_)
        have c117 := (o34 117 (by decide)).trans c117
        have c118 := (o34 118 (by decide)).trans c118
        have c132 := (o34 132 (by decide)).trans c132
        have c133 := (o34 133 (by decide)).trans c133
        have hx := hx.step (a := 131) (by decide) z34 o34
        obtain ⟨x35, e35⟩ : ∃ z : Int32, z = (nI k) + (1) := ⟨_, rfl⟩
        refine r_iinc (pc2 := 38) (ls2 := [.ref 117, .int o, .int q, .int x35]) (v := x35) 3 dX10_laysWays_35 rfl (by rw [e35]; rfl) rfl rfl rfl ?_
        refine r_goto (pc2 := 22) dX10_laysWays_38 (by decide) ?_
        rw [e35, nI_1]
        rw [fillN_u rfl] at c131
        exact ih (k + 1) _ (by omega) hx c117 c118 c131 c132 c133
  refine Cn.go (ls := [.ref 117, .int o, .int q, .float 0]) (by decide +kernel) rfl (Nat.le_of_ble_eq_true rfl) ?_
  refine r_aload_n (pc2 := 1) 0 dX10_laysWays_0 rfl rfl rfl rfl ?_
  refine r_iconst (pc2 := 2) (v := 0) dX10_laysWays_1 (by decide) rfl ?_
  refine r_putfX (pc2 := 5) (moL (upd v 31 0)) fX10_371 dX10_laysWays_2 c117 (by decide) (Nat.le_of_ble_eq_true rfl) rfl rfl rfl (fun h z2 o2 c117 => ?_)
  have c118 := (o2 118 (by decide)).trans c118
  have c131 := (o2 131 (by decide)).trans c131
  have c132 := (o2 132 (by decide)).trans c132
  have c133 := (o2 133 (by decide)).trans c133
  have hx := hx.step (a := 117) (by decide) z2 o2
  refine r_aload_n (pc2 := 6) 0 dX10_laysWays_5 rfl rfl rfl rfl ?_
  refine r_iconst (pc2 := 7) (v := 0) dX10_laysWays_6 (by decide) rfl ?_
  refine r_putfX (pc2 := 10) (moL (upd (upd v 31 0) 32 0)) fX10_380 dX10_laysWays_7 c117 (by decide) (Nat.le_of_ble_eq_true rfl) rfl rfl rfl (fun h z7 o7 c117 => ?_)
  have c118 := (o7 118 (by decide)).trans c118
  have c131 := (o7 131 (by decide)).trans c131
  have c132 := (o7 132 (by decide)).trans c132
  have c133 := (o7 133 (by decide)).trans c133
  have hx := hx.step (a := 117) (by decide) z7 o7
  refine r_aload_n (pc2 := 11) 0 dX10_laysWays_10 rfl rfl rfl rfl ?_
  refine r_iload_n (pc2 := 12) 1 dX10_laysWays_11 rfl rfl rfl ?_
  refine r_putfX (pc2 := 15) (moL (upd (upd (upd v 31 0) 32 0) 33 o)) fX10_374 dX10_laysWays_12 c117 (by decide) (Nat.le_of_ble_eq_true rfl) rfl rfl rfl (fun h z12 o12 c117 => ?_)
  have c118 := (o12 118 (by decide)).trans c118
  have c131 := (o12 131 (by decide)).trans c131
  have c132 := (o12 132 (by decide)).trans c132
  have c133 := (o12 133 (by decide)).trans c133
  have hx := hx.step (a := 117) (by decide) z12 o12
  refine r_aload_n (pc2 := 16) 0 dX10_laysWays_15 rfl rfl rfl rfl ?_
  refine r_iload_n (pc2 := 17) 2 dX10_laysWays_16 rfl rfl rfl ?_
  refine r_putfX (pc2 := 20) (moL (upd (upd (upd (upd v 31 0) 32 0) 33 o) 34 q)) fX10_377 dX10_laysWays_17 c117 (by decide) (Nat.le_of_ble_eq_true rfl) rfl rfl rfl (fun h z17 o17 c117 => ?_)
  have c118 := (o17 118 (by decide)).trans c118
  have c131 := (o17 131 (by decide)).trans c131
  have c132 := (o17 132 (by decide)).trans c132
  have c133 := (o17 133 (by decide)).trans c133
  have hx := hx.step (a := 117) (by decide) z17 o17
  refine r_iconst (pc2 := 21) (v := 0) dX10_laysWays_20 (by decide) rfl ?_
  refine r_istore_n (pc2 := 22) (ls2 := [.ref 117, .int o, .int q, .int 0]) 3 dX10_laysWays_21 rfl (by decide) rfl rfl rfl ?_
  rw [wv0] at c117
  rw [← fillN_0 b 0 (fun _ => -1)] at c131
  exact loop 8 0 _ (by omega) hx c117 c118 c131 c132 c133
