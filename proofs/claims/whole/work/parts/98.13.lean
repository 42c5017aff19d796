/-! the class: walks, their cells; find -/
def wkL (q ws : Nat) (wd st sd lk fd go gh op pa : Int32) : List Value := [.ref 82, .ref ws, .int wd, .int st, .int sd, .ref (q + 1), .ref (q + 2), .int lk, .int fd, .int go, .int gh, .ref (q + 3), .ref (q + 4), .ref (q + 5), .ref (q + 6), .ref (q + 7), .int op, .int pa]
abbrev WS (q : Nat) : List Nat := [q, q + 1, q + 2, q + 3, q + 4, q + 5, q + 6, q + 7]
/-- where walks lie: apart from the laws' cells and from those that stay -/
def WQ (Z : Nat → Prop) (kd q : Nat) : Prop := 139 ≤ q ∧ (kd < q ∨ q + 7 < kd) ∧ ∀ x, Z x → x < q ∨ q + 7 < x
theorem WQ.off {Z : Nat → Prop} {kd q : Nat} (h : WQ Z kd q) {S : List Nat} (hS : ∀ y ∈ S, q ≤ y ∧ y ≤ q + 7) : OffL Z kd S := fun y m => by
  have h1 := hS y m
  have h2 := h.1
  have h3 := h.2.1
  exact ⟨fun z => by have := h.2.2 y z; omega, by omega, by omega, by omega, by omega, by omega⟩
set_option maxRecDepth 20000 in
set_option maxHeartbeats 1000000 in
theorem c_find0 {E : EnvT} {d : Nat} {h0 : Hp} {q ws F x : Nat} {wd wst wsd lk go gh op pa X B : Int32} {fb od : Nat → Int32} (cq : h0.1 q = some (.inr (8, wkL q ws wd wst wsd lk (nI F) go gh op pa))) (cfb : h0.1 (q + 1) = some (aI 24010 fb)) (cod : h0.1 (q + 2) = some (aI 24010 od)) (hq : 139 ≤ q) (hx : x < 24010) (eX : X = nI x) (hz : ¬ fb x = 0) : Cn E mX8_find d [.ref q, .int X, .int B] h0 (fun r h2 => r = none ∧ h2 = h0) := by
  subst eX
  refine Cn.go (ls := [.ref q, .int (nI x), .int B]) (by decide +kernel) rfl (Nat.le_of_ble_eq_true rfl) ?_
  refine r_iload_n (pc2 := 1) 1 dX8_find_0 rfl rfl rfl ?_
  refine r_if_lt (tgt := 57) (pc2 := 4) dX8_find_1 (by decide) rfl (fun b1 => ?_) (fun b1 => ?_)
  · exact absurd b1 (nI_pos (by omega))
  · skip
    refine r_iload_n (pc2 := 5) 1 dX8_find_4 rfl rfl rfl ?_
    refine r_sipush (pc2 := 8) (v := 24010) dX8_find_5 (by decide) rfl ?_
    refine r_icmp_ge (tgt := 57) (pc2 := 11) dX8_find_8 (by decide) rfl (fun b8 => ?_) (fun b8 => ?_)
    · exact absurd b8 (nI_ge (b := 24010) hx (by decide))
    · skip
      refine r_aload_n (pc2 := 12) 0 dX8_find_11 rfl rfl rfl rfl ?_
      refine r_getf (pc2 := 15) (v := .int (nI F)) fX8_56 dX8_find_12 cq (by omega) rfl rfl ?_
      refine r_sipush (pc2 := 18) (v := 24010) dX8_find_15 (by decide) rfl ?_
      refine r_icmp_ge (tgt := 57) (pc2 := 21) dX8_find_18 (by decide) rfl (fun b18 => ?_) (fun b18 => ?_)
      · skip
        exact r_vret rfl dX8_find_57 ⟨rfl, rfl⟩
      · skip
        refine r_aload_n (pc2 := 22) 0 dX8_find_21 rfl rfl rfl rfl ?_
        refine r_getf (pc2 := 25) (v := .ref (q + 1)) fX8_15 dX8_find_22 cq (by omega) rfl rfl ?_
        refine r_iload_n (pc2 := 26) 1 dX8_find_25 rfl rfl rfl ?_
        refine r_ialdN (pc2 := 27) x dX8_find_26 cfb (by omega) rfl (by omega) (by decide) rfl ?_
        refine r_if_ne (tgt := 57) (pc2 := 30) dX8_find_27 (by decide) rfl (fun b27 => ?_) (fun b27 => ?_)
        · skip
          exact r_vret rfl dX8_find_57 ⟨rfl, rfl⟩
        · exact absurd b27 hz
set_option maxRecDepth 20000 in
set_option maxHeartbeats 1000000 in
theorem c_find1 {E : EnvT} {d : Nat} {h0 : Hp} {q ws F x : Nat} {wd wst wsd lk go gh op pa X B : Int32} {fb od : Nat → Int32} (cq : h0.1 q = some (.inr (8, wkL q ws wd wst wsd lk (nI F) go gh op pa))) (cfb : h0.1 (q + 1) = some (aI 24010 fb)) (cod : h0.1 (q + 2) = some (aI 24010 od)) (hq : 139 ≤ q) (hx : x < 24010) (eX : X = nI x) (hF : F < 24010) (hz : fb x = 0) : Cn E mX8_find d [.ref q, .int X, .int B] h0 (fun r h2 => r = none ∧ Ex [q, q + 1, q + 2] h0 h2 ∧ h2.1 q = some (.inr (8, wkL q ws wd wst wsd lk (nI (F + 1)) go gh op pa)) ∧ h2.1 (q + 1) = some (aI 24010 (upd fb x B)) ∧ h2.1 (q + 2) = some (aI 24010 (upd od F (nI x)))) := by
  subst eX
  have hxx : Ex [q, q + 1, q + 2] h0 h0 := Ex.rf
  refine Cn.go (ls := [.ref q, .int (nI x), .int B]) (by decide +kernel) rfl (Nat.le_of_ble_eq_true rfl) ?_
  refine r_iload_n (pc2 := 1) 1 dX8_find_0 rfl rfl rfl ?_
  refine r_if_lt (tgt := 57) (pc2 := 4) dX8_find_1 (by decide) rfl (fun b1 => ?_) (fun b1 => ?_)
  · exact absurd b1 (nI_pos (by omega))
  · skip
    refine r_iload_n (pc2 := 5) 1 dX8_find_4 rfl rfl rfl ?_
    refine r_sipush (pc2 := 8) (v := 24010) dX8_find_5 (by decide) rfl ?_
    refine r_icmp_ge (tgt := 57) (pc2 := 11) dX8_find_8 (by decide) rfl (fun b8 => ?_) (fun b8 => ?_)
    · exact absurd b8 (nI_ge (b := 24010) hx (by decide))
    · skip
      refine r_aload_n (pc2 := 12) 0 dX8_find_11 rfl rfl rfl rfl ?_
      refine r_getf (pc2 := 15) (v := .int (nI F)) fX8_56 dX8_find_12 cq (by omega) rfl rfl ?_
      refine r_sipush (pc2 := 18) (v := 24010) dX8_find_15 (by decide) rfl ?_
      refine r_icmp_ge (tgt := 57) (pc2 := 21) dX8_find_18 (by decide) rfl (fun b18 => ?_) (fun b18 => ?_)
      · exact absurd b18 (nI_ge (b := 24010) hF (by decide))
      · skip
        refine r_aload_n (pc2 := 22) 0 dX8_find_21 rfl rfl rfl rfl ?_
        refine r_getf (pc2 := 25) (v := .ref (q + 1)) fX8_15 dX8_find_22 cq (by omega) rfl rfl ?_
        refine r_iload_n (pc2 := 26) 1 dX8_find_25 rfl rfl rfl ?_
        refine r_ialdN (pc2 := 27) x dX8_find_26 cfb (by omega) rfl (by omega) (by decide) rfl ?_
        refine r_if_ne (tgt := 57) (pc2 := 30) dX8_find_27 (by decide) rfl (fun b27 => ?_) (fun b27 => ?_)
        · exact absurd hz b27
        · skip
          refine r_aload_n (pc2 := 31) 0 dX8_find_30 rfl rfl rfl rfl ?_
          refine r_getf (pc2 := 34) (v := .ref (q + 1)) fX8_15 dX8_find_31 cq (by omega) rfl rfl ?_
          refine r_iload_n (pc2 := 35) 1 dX8_find_34 rfl rfl rfl ?_
          refine r_iload_n (pc2 := 36) 2 dX8_find_35 rfl rfl rfl ?_
          refine r_iastN (pc2 := 37) x dX8_find_36 cfb (by omega) rfl (by omega) (by decide) rfl (fun h z36 o36 cfb => ?_)
          have cq := (o36 q (by omega)).trans cq
          have cod := (o36 (q + 2) (by omega)).trans cod
          have hxx := hxx.step (a := (q + 1)) (by simp) z36 o36
          refine r_aload_n (pc2 := 38) 0 dX8_find_37 rfl rfl rfl rfl ?_
          refine r_getf (pc2 := 41) (v := .ref (q + 2)) fX8_19 dX8_find_38 cq (by omega) rfl rfl ?_
          refine r_aload_n (pc2 := 42) 0 dX8_find_41 rfl rfl rfl rfl ?_
          refine r_getf (pc2 := 45) (v := .int (nI F)) fX8_56 dX8_find_42 cq (by omega) rfl rfl ?_
          refine r_iload_n (pc2 := 46) 1 dX8_find_45 rfl rfl rfl ?_
          refine r_iastN (pc2 := 47) F dX8_find_46 cod (by omega) rfl (by omega) (by decide) rfl (fun h z46 o46 cod => ?_)
          have cq := (o46 q (by omega)).trans cq
          have cfb := (o46 (q + 1) (by omega)).trans cfb
          have hxx := hxx.step (a := (q + 2)) (by simp) z46 o46
          refine r_aload_n (pc2 := 48) 0 dX8_find_47 rfl rfl rfl rfl ?_
          refine r_dup (pc2 := 49) dX8_find_48 rfl rfl ?_
          refine r_getf (pc2 := 52) (v := .int (nI F)) fX8_56 dX8_find_49 cq (by omega) rfl rfl ?_
          refine r_iconst (pc2 := 53) (v := 1) dX8_find_52 (by decide) rfl ?_
          refine r_iadd (pc2 := 54) dX8_find_53 rfl ?_
          refine r_cast (nI (F + 1)) (nI_1 _) ?_
          refine r_putfX (pc2 := 57) [.ref 82, .ref ws, .int wd, .int wst, .int wsd, .ref (q + 1), .ref (q + 2), .int lk, .int (nI (F + 1)), .int go, .int gh, .ref (q + 3), .ref (q + 4), .ref (q + 5), .ref (q + 6), .ref (q + 7), .int op, .int pa] fX8_56 dX8_find_54 cq (by omega) (Nat.le_of_ble_eq_true rfl) rfl rfl rfl (fun h z54 o54 cq => ?_)
          have cfb := (o54 (q + 1) (by omega)).trans cfb
          have cod := (o54 (q + 2) (by omega)).trans cod
          have hxx := hxx.step (a := q) (by simp) z54 o54
          exact r_vret rfl dX8_find_57 ⟨rfl, hxx, cq, cfb, cod⟩
/-! laySets -/
def sB (w : Nat → Nat) (c : Nat) : Nat → Nat
  | 0 => 0
  | k + 1 => sB w c k + (if c.testBit k = true then w k else 0)
theorem sB_add {w : Nat → Nat} {c x y : Nat} : ∀ k, (∀ g, g < k → c.testBit g = (x.testBit g || y.testBit g) ∧ (x.testBit g && y.testBit g) = false) → sB w c k = sB w x k + sB w y k
  | 0, _ => rfl
  | k + 1, h => by
    have ih := sB_add (w := w) k (fun g hg => h g (by omega))
    obtain ⟨h1, h2⟩ := h k (by omega)
    show sB w c k + _ = (sB w x k + _) + (sB w y k + _)
    rw [ih, h1]
    cases hx : x.testBit k <;> cases hy : y.testBit k <;> simp [hx, hy] at h2 ⊢ <;> omega
theorem sB_0 (w : Nat → Nat) : ∀ k, sB w 0 k = 0
  | 0 => rfl
  | k + 1 => by show sB w 0 k + _ = 0; rw [sB_0 w k, Nat.zero_testBit]; rfl
theorem sB_one (w : Nat → Nat) (g : Nat) : ∀ k, sB w (2 ^ g) k = if g < k then w g else 0
  | 0 => rfl
  | k + 1 => by
    show sB w (2 ^ g) k + _ = _
    rw [sB_one w g k, Nat.testBit_two_pow]
    by_cases z : g = k
    · subst z
      simp
    · have hz : (g < k + 1 ↔ g < k) := by omega
      simp [z, hz]
theorem sB_le {w : Nat → Nat} {c M : Nat} (hw : ∀ g, w g ≤ M) : ∀ k, sB w c k ≤ k * M
  | 0 => Nat.zero_le _
  | k + 1 => by
    have ih := sB_le (c := c) hw k
    have := hw k
    show sB w c k + _ ≤ _
    rw [Nat.succ_mul]
    split <;> omega
theorem sB_congr {w v : Nat → Nat} {c : Nat} : ∀ k, (∀ g, g < k → w g = v g) → sB w c k = sB v c k
  | 0, _ => rfl
  | k + 1, h => by
    show sB w c k + _ = sB v c k + _
    rw [sB_congr k (fun g hg => h g (by omega)), h k (by omega)]
def lsb (c : Nat) : Nat := c &&& (16 - c)
theorem lsb_nI : ∀ c, c < 16 → 0 < c → nI c &&& (-(nI c)) = nI (lsb c) := by decide +kernel
theorem lsb_x : ∀ c, c < 16 → nI c ^^^ nI (lsb c) = nI (c ^^^ lsb c) := by decide +kernel
theorem lsb_b : ∀ c, c < 16 → 0 < c → ∀ g, g < 4 → c.testBit g = ((lsb c).testBit g || (c ^^^ lsb c).testBit g) ∧ ((lsb c).testBit g && (c ^^^ lsb c).testBit g) = false := by decide +kernel
theorem lsb_lt : ∀ c, c < 16 → 0 < c → (0 < lsb c ∧ lsb c < 16 ∧ lsb (lsb c) = lsb c) ∧ (c ^^^ lsb c < c) := by decide +kernel
theorem lsb_sub : ∀ c, c < 16 → 0 < c → ∀ p, p < 16 → dif c p = 0 → dif (lsb c) p = 0 ∧ dif (c ^^^ lsb c) p = 0 := by decide +kernel
theorem lsb_one : ∀ c, c < 16 → 0 < c → c ^^^ lsb c = 0 → ∃ g, g < 4 ∧ c = 2 ^ g := by decide +kernel
theorem lsb_2 : ∀ g, g < 4 → lsb (2 ^ g) = 2 ^ g := by decide +kernel
theorem dif_le2 : ∀ c, c < 16 → ∀ p, p < 16 → dif c p = 0 → c ≤ p := by decide +kernel
theorem dif_iff : ∀ c, c < 16 → ∀ p, p < 16 → (dif c p = 0 ↔ ∀ g, g < 4 → c.testBit g = true → p.testBit g = true) := by decide +kernel
theorem lt_bits0 : ∀ G, G < 5 → ∀ c, c < 16 → (c < 2 ^ G ↔ ∀ g, g < 4 → G ≤ g → c.testBit g = false) := by decide +kernel
theorem lt_bits (G : Nat) (hG : G ≤ 4) (c : Nat) (hc : c < 16) : c < 2 ^ G ↔ ∀ g, G ≤ g → g < 4 → c.testBit g = false := by
  rw [lt_bits0 G (by omega) c hc]
  exact ⟨fun h g h1 h2 => h g h2 h1, fun h g h1 h2 => h g h2 h1⟩
/-- who can step, and how many are past -/
def opK (a : FR) (x : Nat) : Nat → Nat
  | 0 => 0
  | k + 1 => opK a x k ||| (if x / 8 ^ k % 8 < a 1 then 2 ^ k else 0)
def paK (a : FR) (x : Nat) : Nat → Nat
  | 0 => 0
  | k + 1 => paK a x k + (if x / 8 ^ k % 8 < a 1 then 0 else 1)
theorem opK_bit (a : FR) (x g : Nat) : ∀ k, (opK a x k).testBit g = (decide (g < k) && decide (x / 8 ^ g % 8 < a 1))
  | 0 => by
    show (0 : Nat).testBit g = _
    rw [Nat.zero_testBit]
    simp
  | k + 1 => by
    show (opK a x k ||| _).testBit g = _
    rw [Nat.testBit_or, opK_bit a x g k]
    by_cases z : g = k
    · subst z
      by_cases y : x / 8 ^ g % 8 < a 1
      · rw [if_pos y, Nat.testBit_two_pow]; simp [y]
      · rw [if_neg y, Nat.zero_testBit]; simp [y]
    · have hz : decide (g < k + 1) = decide (g < k) := by
        by_cases q : g < k
        · rw [decide_eq_true q, decide_eq_true (show g < k + 1 by omega)]
        · rw [decide_eq_false q, decide_eq_false (show ¬ g < k + 1 by omega)]
      rw [hz]
      split
      · rw [Nat.testBit_two_pow, show decide (k = g) = false from decide_eq_false (fun q => z q.symm), Bool.or_false]
      · rw [Nat.zero_testBit, Bool.or_false]
theorem opK_lt (a : FR) (x : Nat) : ∀ k, opK a x k < 2 ^ k
  | 0 => by show 0 < 1; omega
  | k + 1 => by
    have ih := opK_lt a x k
    show opK a x k ||| _ < _
    refine Nat.or_lt_two_pow (Nat.lt_of_lt_of_le ih (Nat.pow_le_pow_right (by decide) (by omega))) ?_
    split
    · exact Nat.pow_lt_pow_right (by decide) (by omega)
    · exact Nat.pow_pos (by decide)
theorem paK_le (a : FR) (x : Nat) : ∀ k, paK a x k ≤ k
  | 0 => Nat.le_refl _
  | k + 1 => by have := paK_le a x k; show paK a x k + _ ≤ _; split <;> omega
theorem dif_ok {a : FR} {x c : Nat} (hs : SG a x) (hG : a 3 ≤ 4) (hd : x / 4096 ≠ 0) (hc : c < 16) : dif c (opK a x (a 3)) = 0 ↔ okS a x c := by
  have h16 : opK a x (a 3) < 16 := Nat.lt_of_lt_of_le (opK_lt a x (a 3)) (pw16 hG)
  rw [dif_iff c hc _ h16]
  constructor
  · intro h
    have hl : c < 2 ^ (a 3) := (lt_bits (a 3) hG c hc).mpr (fun g h1 h2 => by
      cases hb : c.testBit g with
      | false => rfl
      | true =>
        have := h g h2 hb
        rw [opK_bit, decide_eq_false (by omega), Bool.false_and] at this
        cases this)
    refine ⟨hl, ?_⟩
    unfold why2
    rw [if_neg (fun q => q ((past_ok hs hl hG).mpr (fun g hg hb => by
      have := h g (by omega) hb
      rw [opK_bit, decide_eq_true hg, Bool.true_and] at this
      exact of_decide_eq_true this))), if_neg hd]
  · intro h g hg hb
    have h1 := (okS_dig hs hG h).1
    have hgl : g < a 3 := by
      rcases Nat.lt_or_ge g (a 3) with z | z
      · exact z
      · rw [(lt_bits (a 3) hG c hc).mp h.1 g z hg] at hb; cases hb
    rw [opK_bit, decide_eq_true hgl, decide_eq_true (h1 g hgl hb)]
    rfl
/-- what is laid for each set: w, a number for each goer -/
def LST2 (w : Nat → Nat) (G op : Nat) (f : Nat → Int32) (k : Nat) : Prop := f 0 = 0 ∧ ∀ c, 0 < c → c < 16 → dif c op = 0 → (c < k ∨ c ^^^ lsb c = 0) → f c = nI (sB w c G)
theorem LST2.skip {w f} {G op k : Nat} (h : LST2 w G op f k) (hk : dif k op ≠ 0 ∨ k ^^^ lsb k = 0) : LST2 w G op f (k + 1) := ⟨h.1, fun c h0 h1 h2 h3 => h.2 c h0 h1 h2 (by
  rcases h3 with z | z
  · rcases Nat.lt_succ_iff_lt_or_eq.mp z with y | y
    · exact Or.inl y
    · subst y
      rcases hk with q | q
      · exact absurd h2 q
      · exact Or.inr q
  · exact Or.inr z)⟩
theorem LST2.set {w f} {G op k : Nat} {y : Int32} (h : LST2 w G op f k) (hG : G ≤ 4) (hk0 : 0 < k) (hk : k < 16) (hop : op < 16) (hd : dif k op = 0) (ho : k ^^^ lsb k ≠ 0) (hy : y = f (lsb k) + f (k ^^^ lsb k)) : LST2 w G op (upd f k y) (k + 1) := by
  have l1 := lsb_lt k hk hk0
  have l2 := lsb_sub k hk hk0 op hop hd
  have e1 := h.2 (lsb k) l1.1.1 l1.1.2.1 l2.1 (Or.inr (by rw [l1.1.2.2]; exact Nat.xor_self _))
  have e2 := h.2 (k ^^^ lsb k) (Nat.pos_of_ne_zero ho) (by omega) l2.2 (Or.inl l1.2)
  refine ⟨(if_neg (by omega)).trans h.1, fun c h0 h1 h2 h3 => ?_⟩
  by_cases z : c = k
  · subst z
    refine (if_pos rfl).trans ?_
    rw [hy, e1, e2, nI_add, sB_add (w := w) G (fun g hg => lsb_b c hk hk0 g (by omega))]
  · refine (if_neg z).trans (h.2 c h0 h1 h2 ?_)
    rcases h3 with y | y
    · exact Or.inl (by omega)
    · exact Or.inr y
theorem LST2.one {w f} {G op : Nat} (h0 : f 0 = 0) (hG : G ≤ 4) (hop : op < 2 ^ G) (h : ∀ g, g < G → op.testBit g = true → f (2 ^ g) = nI (w g)) : LST2 w G op f 1 := ⟨h0, fun c c0 c1 c2 c3 => by
  have hs : c ^^^ lsb c = 0 := c3.resolve_left (by omega)
  obtain ⟨g, g1, g2⟩ := lsb_one c c1 c0 hs
  subst g2
  have h16 : op < 16 := Nat.lt_of_lt_of_le hop (by have := Nat.pow_le_pow_right (n := 2) (by decide) hG; omega)
  have hb := (dif_iff _ c1 op h16).mp c2 g g1 (by rw [Nat.testBit_two_pow]; simp)
  have hgG : g < G := by
    rcases Nat.lt_or_ge g G with z | z
    · exact z
    · rw [(lt_bits G hG op h16).mp hop g z g1] at hb; cases hb
  rw [sB_one, if_pos hgG]
  exact h g hgG hb⟩
