/-! daring: what comes of a stand -/
def dif (x y : Nat) : Nat := x &&& (15 ^^^ y)
theorem dif_nI : ∀ x, x < 16 → ∀ p, p < 16 → nI x &&& (nI p ^^^ (-1)) = nI (dif x p) := by decide +kernel
theorem dif_b : ∀ x, x < 16 → ∀ p, p < 16 → ∀ g, g < 4 → (dif x p).testBit g = (x.testBit g && !(p.testBit g)) := by decide +kernel
theorem dif_lt (x p : Nat) (h : x < 16) : dif x p < 16 := Nat.lt_of_le_of_lt Nat.and_le_left h
theorem dif_le (x p : Nat) : dif x p ≤ x := Nat.and_le_left
theorem dif_dif : ∀ G, G ≤ 4 → ∀ x, x < 2 ^ G → dif (2 ^ G - 1) (dif (2 ^ G - 1) x) = x := by
  intro G hG
  match G, hG with
  | 0, _ => decide +kernel
  | 1, _ => decide +kernel
  | 2, _ => decide +kernel
  | 3, _ => decide +kernel
  | 4, _ => decide +kernel
theorem dif_oth : ∀ G, G ≤ 4 → ∀ x, x < 2 ^ G → ∀ p, p < 2 ^ G → p ≠ 2 ^ G - 1 → dif x p = 0 → dif (dif (2 ^ G - 1) x) p ≠ 0 := by
  intro G hG
  match G, hG with
  | 0, _ => decide +kernel
  | 1, _ => decide +kernel
  | 2, _ => decide +kernel
  | 3, _ => decide +kernel
  | 4, _ => decide +kernel
theorem and_bit0 : ∀ p, p < 16 → ∀ g, g < 4 → p.testBit g = false → p &&& 2 ^ g = 0 := by decide +kernel
theorem bit_ex : ∀ x, x < 16 → x ≠ 0 → ∃ g, g < 4 ∧ x.testBit g = true := by decide +kernel
def dOp (a : Nat → Nat) (s own : Nat) : Nat := dif own (pastN (a 1) s (a 3))
theorem dOp_lt {a : Nat → Nat} {s own : Nat} (h : own < 16) : dOp a s own < 16 := dif_lt _ _ h
/-- the best of the goers of a set, by what F says of each; else 2^28 -/
def dBst (o : Nat) (F : Nat → Int32) : Nat → Int32
  | 0 => 268435456
  | g + 1 => if o.testBit g = true then (if dBst o F g = 268435456 ∨ dBst o F g < F g then F g else dBst o F g) else dBst o F g
theorem dBst_congr {o : Nat} {F H : Nat → Int32} : ∀ n, (∀ g, g < n → o.testBit g = true → F g = H g) → dBst o F n = dBst o H n
  | 0, _ => rfl
  | n + 1, h => by
    unfold dBst
    rw [dBst_congr n (fun g hg => h g (by omega))]
    by_cases c : o.testBit n = true
    · rw [if_pos c, if_pos c, h n (by omega) c]
    · rw [if_neg c, if_neg c]
def dBy (V : Nat → Nat → Int32) (a : Nat → Nat) (s c own : Nat) : Int32 := if nxS a s c / 4096 = 0 then -1 else -(V (nxS a s c) (dif (2 ^ (a 3) - 1) own))
def dOne (V : Nat → Nat → Int32) (a : Nat → Nat) (s own : Nat) : Int32 := if pastN (a 1) s (a 3) = 2 ^ (a 3) - 1 then 0 else if dBst (dOp a s own) (fun g => dBy V a s (2 ^ g) own) (a 3) = 268435456 then dBy V a s 0 own else dBst (dOp a s own) (fun g => dBy V a s (2 ^ g) own) (a 3)
def dF (a : Nat → Nat) : Nat → Nat → Nat → Int32
  | 0, _, _ => 0
  | m + 1, s, own => dOne (dF a m) a s own
def dgS (s : Nat) : Nat := s / 8 ^ 0 % 8 + s / 8 ^ 1 % 8 + s / 8 ^ 2 % 8 + s / 8 ^ 3 % 8
def dmu (a : Nat → Nat) (s own : Nat) : Nat := 2 * (4 * a 1 - dgS s) + (if dOp a s own = 0 then 1 else 0)
def dV (a : Nat → Nat) (s own : Nat) : Int32 := dF a (dmu a s own + 1) s own
theorem dgS_le {a : Nat → Nat} {s : Nat} (h : SG a s) : dgS s ≤ 4 * a 1 := by
  have h0 := h.2.1 0 (by decide)
  have h1 := h.2.1 1 (by decide)
  have h2 := h.2.1 2 (by decide)
  have h3 := h.2.1 3 (by decide)
  unfold dgS
  omega
theorem dmu_le {a : Nat → Nat} {s own : Nat} (hC : a 1 ≤ 6) : dmu a s own ≤ 49 := by unfold dmu; split <;> omega
theorem okS_0 {a : Nat → Nat} {s : Nat} (hd : s / 4096 ≠ 0) : okS a s 0 := ⟨Nat.two_pow_pos _, by unfold why2; rw [Nat.and_zero, if_neg (fun z => z rfl), if_neg hd]⟩
theorem okS_g {a : Nat → Nat} {s own g : Nat} (hG : a 3 ≤ 4) (hw : own < 16) (hg : g < a 3) (ho : (dOp a s own).testBit g = true) (hd : s / 4096 ≠ 0) : okS a s (2 ^ g) := by
  have hp := pastN_16 (a 1) s hG
  have h1 := dif_b own hw _ hp g (by omega)
  rw [show dif own (pastN (a 1) s (a 3)) = dOp a s own from rfl, ho] at h1
  have h2 : (pastN (a 1) s (a 3)).testBit g = false := by
    cases e : (pastN (a 1) s (a 3)).testBit g with
    | false => rfl
    | true => rw [e] at h1; simp at h1
  refine ⟨Nat.pow_lt_pow_right (by decide) hg, ?_⟩
  unfold why2
  rw [and_bit0 _ hp g (by omega) h2, if_neg (fun z => z rfl), if_neg hd]
theorem past_0 {a : Nat → Nat} {s t : Nat} : ∀ k, (∀ g, g < k → s / 8 ^ g % 8 = t / 8 ^ g % 8) → pastN (a 1) s k = pastN (a 1) t k
  | 0, _ => rfl
  | k + 1, h => by unfold pastN; rw [past_0 k (fun g hg => h g (by omega)), h k (by omega)]
theorem dgS_nx0 {a : Nat → Nat} {s : Nat} (hs : SG a s) (hG : a 3 ≤ 4) (hC : a 1 ≤ 6) (hd : s / 4096 ≠ 0) : dgS (nxS a s 0) = dgS s ∧ pastN (a 1) (nxS a s 0) (a 3) = pastN (a 1) s (a 3) := by
  have hk : ∀ g, g < 4 → nxS a s 0 / 8 ^ g % 8 = s / 8 ^ g % 8 := fun g hg => by
    rw [nxS_dig hs hG hC (okS_0 hd) hg, if_neg (fun z => by rw [Nat.zero_testBit] at z; cases z.2), Nat.add_zero]
  refine ⟨?_, past_0 _ (fun g hg => hk g (by omega))⟩
  unfold dgS
  rw [hk 0 (by decide), hk 1 (by decide), hk 2 (by decide), hk 3 (by decide)]
theorem dgS_nxg {a : Nat → Nat} {s g : Nat} (hs : SG a s) (hG : a 3 ≤ 4) (hC : a 1 ≤ 6) (hg : g < a 3) (ho : okS a s (2 ^ g)) : dgS (nxS a s (2 ^ g)) = dgS s + 1 := by
  have hk : ∀ i, i < 4 → nxS a s (2 ^ g) / 8 ^ i % 8 = s / 8 ^ i % 8 + (if i = g then 1 else 0) := fun i hi => by
    rw [nxS_dig hs hG hC ho hi]
    congr 1
    by_cases e : i = g
    · subst e; rw [if_pos ⟨hg, Nat.testBit_two_pow_self⟩, if_pos rfl]
    · rw [if_neg e, if_neg (fun z => by rw [Nat.testBit_two_pow_of_ne (fun q => e q.symm)] at z; cases z.2)]
  unfold dgS
  rw [hk 0 (by decide), hk 1 (by decide), hk 2 (by decide), hk 3 (by decide)]
  obtain ⟨x0, e0⟩ : ∃ z, z = s / 8 ^ 0 % 8 := ⟨_, rfl⟩
  obtain ⟨x1, e1⟩ : ∃ z, z = s / 8 ^ 1 % 8 := ⟨_, rfl⟩
  obtain ⟨x2, e2⟩ : ∃ z, z = s / 8 ^ 2 % 8 := ⟨_, rfl⟩
  obtain ⟨x3, e3⟩ : ∃ z, z = s / 8 ^ 3 % 8 := ⟨_, rfl⟩
  rw [← e0, ← e1, ← e2, ← e3]
  clear hk e0 e1 e2 e3 ho
  have hg4 : g = 0 ∨ g = 1 ∨ g = 2 ∨ g = 3 := by omega
  rcases hg4 with rfl | rfl | rfl | rfl <;> simp <;> omega
theorem dmu_0 {a : Nat → Nat} {s own : Nat} (hs : SG a s) (hG : a 3 ≤ 4) (hC : a 1 ≤ 6) (hd : s / 4096 ≠ 0) (hw : own < 2 ^ (a 3)) (hp : pastN (a 1) s (a 3) ≠ 2 ^ (a 3) - 1) (ho : dOp a s own = 0) : dmu a (nxS a s 0) (dif (2 ^ (a 3) - 1) own) < dmu a s own := by
  have h1 := dgS_nx0 hs hG hC hd
  have h2 : dOp a (nxS a s 0) (dif (2 ^ (a 3) - 1) own) ≠ 0 := by
    unfold dOp
    rw [h1.2]
    exact dif_oth _ hG _ hw _ (pastN_lt _ _ _) hp ho
  unfold dmu
  rw [if_neg h2, if_pos ho, h1.1]
  omega
theorem dmu_g {a : Nat → Nat} {s own g : Nat} (hs : SG a s) (hG : a 3 ≤ 4) (hC : a 1 ≤ 6) (hw : own < 16) (hg : g < a 3) (ho : (dOp a s own).testBit g = true) (hd : s / 4096 ≠ 0) (o2 : Nat) : dmu a (nxS a s (2 ^ g)) o2 < dmu a s own := by
  have h1 := dgS_nxg hs hG hC hg (okS_g hG hw hg ho hd)
  have h2 := dgS_le (hs.next hG hC (okS_g hG hw hg ho hd))
  have h3 : dOp a s own ≠ 0 := fun e => by rw [e, Nat.zero_testBit] at ho; cases ho
  unfold dmu
  rw [if_neg h3]
  split <;> omega
theorem dBst_no {o : Nat} {F : Nat → Int32} (h : o = 0) : ∀ n, dBst o F n = 268435456
  | 0 => rfl
  | n + 1 => by unfold dBst; rw [if_neg (fun z => by rw [h, Nat.zero_testBit] at z; cases z)]; exact dBst_no h n
theorem dBst_v {o : Nat} {F : Nat → Int32} : ∀ n, (∀ g, g < n → o.testBit g = true → (F g = -1 ∨ F g = 0 ∨ F g = 1)) → (dBst o F n = 268435456 ∧ ∀ g, g < n → o.testBit g = false) ∨ ((dBst o F n = -1 ∨ dBst o F n = 0 ∨ dBst o F n = 1) ∧ ∃ g, g < n ∧ o.testBit g = true)
  | 0, _ => Or.inl ⟨rfl, fun g hg => absurd hg (Nat.not_lt_zero _)⟩
  | n + 1, h => by
    have ih := dBst_v n (fun g hg => h g (by omega))
    unfold dBst
    by_cases c : o.testBit n = true
    · rw [if_pos c]
      refine Or.inr ⟨?_, n, by omega, c⟩
      split
      · exact h n (by omega) c
      · rename_i h1
        rcases ih with q | q
        · exact absurd (Or.inl q.1) h1
        · exact q.1
    · rw [if_neg c]
      rcases ih with q | q
      · exact Or.inl ⟨q.1, fun g hg => by
          by_cases e : g = n
          · rw [e]; simpa using c
          · exact q.2 g (by omega)⟩
      · obtain ⟨q1, g, q2, q3⟩ := q
        exact Or.inr ⟨q1, g, by omega, q3⟩
theorem dBy_v {V : Nat → Nat → Int32} {a : Nat → Nat} {s c own : Nat} (h : ∀ t o, V t o = -1 ∨ V t o = 0 ∨ V t o = 1) : dBy V a s c own = -1 ∨ dBy V a s c own = 0 ∨ dBy V a s c own = 1 := by
  unfold dBy
  split
  · exact Or.inl rfl
  · rcases h (nxS a s c) (dif (2 ^ (a 3) - 1) own) with e | e | e <;> rw [e]
    · exact Or.inr (Or.inr rfl)
    · exact Or.inr (Or.inl rfl)
    · exact Or.inl rfl
theorem dF_v (a : Nat → Nat) : ∀ m s own, dF a m s own = -1 ∨ dF a m s own = 0 ∨ dF a m s own = 1
  | 0, _, _ => Or.inr (Or.inl rfl)
  | m + 1, s, own => by
    show dOne (dF a m) a s own = -1 ∨ dOne (dF a m) a s own = 0 ∨ dOne (dF a m) a s own = 1
    unfold dOne
    split
    · exact Or.inr (Or.inl rfl)
    · split
      · exact dBy_v (dF_v a m)
      · rename_i h1
        rcases dBst_v (o := dOp a s own) (F := fun g => dBy (dF a m) a s (2 ^ g) own) (a 3) (fun g _ _ => dBy_v (dF_v a m)) with q | q
        · exact absurd q.1 h1
        · exact q.1
theorem dV_v (a : Nat → Nat) (s own : Nat) : dV a s own = -1 ∨ dV a s own = 0 ∨ dV a s own = 1 := dF_v a _ s own
theorem dOp_0 {a : Nat → Nat} {s own : Nat} (hG : a 3 ≤ 4) (hw : own < 2 ^ (a 3)) (h : ∀ g, g < a 3 → (dOp a s own).testBit g = false) : dOp a s own = 0 := by
  refine Nat.eq_of_testBit_eq (fun i => ?_)
  rw [Nat.zero_testBit]
  by_cases hi : i < a 3
  · exact h i hi
  · refine Nat.testBit_lt_two_pow (Nat.lt_of_lt_of_le (Nat.lt_of_le_of_lt (dif_le _ _) hw) (Nat.pow_le_pow_right (by decide) (by omega)))
theorem dOne_congr {V W : Nat → Nat → Int32} {a : Nat → Nat} {s own : Nat} (hs : SG a s) (hG : a 3 ≤ 4) (hC : a 1 ≤ 6) (hd : s / 4096 ≠ 0) (hw : own < 2 ^ (a 3)) (h : ∀ t o, SG a t → t / 4096 ≠ 0 → o < 2 ^ (a 3) → dmu a t o < dmu a s own → V t o = W t o) (hv : ∀ t o, V t o = -1 ∨ V t o = 0 ∨ V t o = 1) : dOne V a s own = dOne W a s own := by
  have hw16 : own < 16 := Nat.lt_of_lt_of_le hw (Nat.pow_le_pow_right (n := 2) (by decide) hG)
  have hlt : dif (2 ^ (a 3) - 1) own < 2 ^ (a 3) := Nat.lt_of_le_of_lt (dif_le _ _) (by have := Nat.two_pow_pos (a 3); omega)
  have hB : ∀ g, g < a 3 → (dOp a s own).testBit g = true → dBy V a s (2 ^ g) own = dBy W a s (2 ^ g) own := fun g hg hb => by
    unfold dBy
    split
    · rfl
    · rename_i hz
      rw [h _ _ (hs.next hG hC (okS_g hG hw16 hg hb hd)) hz hlt (dmu_g hs hG hC hw16 hg hb hd _)]
  unfold dOne
  split
  · rfl
  · rename_i hp
    have e : dBst (dOp a s own) (fun g => dBy V a s (2 ^ g) own) (a 3) = dBst (dOp a s own) (fun g => dBy W a s (2 ^ g) own) (a 3) := dBst_congr _ hB
    rw [← e]
    split
    · rename_i hf
      rcases dBst_v (o := dOp a s own) (F := fun g => dBy V a s (2 ^ g) own) (a 3) (fun g _ _ => dBy_v hv) with q | q
      · unfold dBy
        split
        · rfl
        · rename_i hz
          rw [h _ _ (hs.next hG hC (okS_0 hd)) hz hlt (dmu_0 hs hG hC hd hw hp (dOp_0 hG hw q.2))]
      · rcases q.1 with q | q | q <;> rw [q] at hf <;> exact absurd hf (by decide)
    · rfl
theorem dF_fuel {a : Nat → Nat} (hG : a 3 ≤ 4) (hC : a 1 ≤ 6) : ∀ (m n s own : Nat), SG a s → s / 4096 ≠ 0 → own < 2 ^ (a 3) → dmu a s own < m → dmu a s own < n → dF a m s own = dF a n s own
  | 0, _, _, _, _, _, _, h, _ => absurd h (Nat.not_lt_zero _)
  | _ + 1, 0, _, _, _, _, _, _, h => absurd h (Nat.not_lt_zero _)
  | m + 1, n + 1, s, own, hs, hd, hw, h1, h2 => dOne_congr hs hG hC hd hw (fun t o ht htd ho hlt => dF_fuel hG hC m n t o ht htd ho (by omega) (by omega)) (dF_v a m)
theorem dV_eq {a : Nat → Nat} {s own : Nat} (hs : SG a s) (hG : a 3 ≤ 4) (hC : a 1 ≤ 6) (hd : s / 4096 ≠ 0) (hw : own < 2 ^ (a 3)) : dV a s own = dOne (dV a) a s own :=
  dOne_congr hs hG hC hd hw (fun t o ht htd ho hlt => dF_fuel hG hC _ _ t o ht htd ho hlt (Nat.lt_succ_self _)) (dF_v a _)
/-- whose turn it is -/
def sd (a : Nat → Nat) (st f : Nat) : Nat := if f = 1 then st else dif (2 ^ (a 3) - 1) st
theorem sd_lt {a : Nat → Nat} {st f : Nat} (h : st < 2 ^ (a 3)) : sd a st f < 2 ^ (a 3) := by
  unfold sd
  split
  · exact h
  · exact Nat.lt_of_le_of_lt (dif_le _ _) (by have := Nat.two_pow_pos (a 3); omega)
theorem sd_o {a : Nat → Nat} {st f : Nat} (hG : a 3 ≤ 4) (hf : f ≤ 1) (h : st < 2 ^ (a 3)) : dif (2 ^ (a 3) - 1) (sd a st f) = sd a st (1 - f) := by
  unfold sd
  by_cases e : f = 1
  · rw [if_pos e, if_neg (by omega)]
  · rw [if_neg e, if_pos (by omega)]; exact dif_dif _ hG _ h
def DI (a : Nat → Nat) (st : Nat) (dd : Nat → Int32) : Prop := ∀ s f, SG a s → s / 4096 ≠ 0 → f ≤ 1 → dd (2 * s + (1 - f)) = 0 ∨ dd (2 * s + (1 - f)) = dV a s (sd a st f) + 2
theorem DI.set {a : Nat → Nat} {st : Nat} {dd : Nat → Int32} {s f : Nat} (h : DI a st dd) (hf : f ≤ 1) {y : Int32} (hy : y = dV a s (sd a st f) + 2) : DI a st (upd dd (2 * s + (1 - f)) y) := fun t e ht hd he => by
  by_cases q : 2 * t + (1 - e) = 2 * s + (1 - f)
  · obtain rfl : t = s := by omega
    obtain rfl : e = f := by omega
    exact Or.inr ((if_pos rfl : upd dd (2 * t + (1 - e)) y (2 * t + (1 - e)) = y).trans hy)
  · rw [show upd dd (2 * s + (1 - f)) y (2 * t + (1 - e)) = dd (2 * t + (1 - e)) from if_neg q]
    exact h t e ht hd he
theorem d_nar {a : Nat → Nat} {s o : Nat} {x : Int32} (hx : x = dV a s o) : (Int32.toInt8 (Int32.toInt8 (x + 2)).toInt32).toInt32 = dV a s o + 2 := by
  rcases dV_v a s o with z | z | z <;> rw [hx, z] <;> decide
def QDa (a : Nat → Nat) (st : Nat) (h0 : Hp) (x : Int32) : Option Value → Hp → Prop := fun r h2 => r = some (.int x) ∧ Ex [122, 123, 135] h0 h2 ∧ (∃ f, h2.1 122 = some (aI 900 f)) ∧ (∃ w, h2.1 123 = some (aI 9 w)) ∧ ∃ dd, h2.1 135 = some (aB 81920 dd) ∧ DI a st dd
theorem pw16 {a : Nat → Nat} (hG : a 3 ≤ 4) : 2 ^ (a 3) ≤ 16 := Nat.pow_le_pow_right (n := 2) (by decide) hG
set_option maxRecDepth 20000 in
set_option maxHeartbeats 1000000 in
theorem c_daresBy {E : EnvT} {v : Nat → Int32} {a : Nat → Nat} {st m : Nat} (hA : AIN a) (hst : st < 2 ^ (a 3)) (ih : ∀ (s f d : Nat) (dd f2 w2 : Nat → Int32) (h0 : Hp), SG a s → s / 4096 ≠ 0 → f ≤ 1 → dmu a s (sd a st f) < m → 2 * m + 8 ≤ d → DI a st dd → h0.1 117 = some (mO v) → h0.1 118 = some (aI 3531 (nA a)) → h0.1 122 = some (aI 900 f2) → h0.1 123 = some (aI 9 w2) → h0.1 135 = some (aB 81920 dd) → Cn E mX10_daresFrom d [.ref 117, .int (nI s), .int (nI (sd a st f)), .int (nI f)] h0 (QDa a st h0 (dV a s (sd a st f)))) : ∀ (s f c d : Nat) (dd f2 w2 : Nat → Int32) (h0 : Hp), SG a s → f ≤ 1 → okS a s c → (nxS a s c / 4096 ≠ 0 → dmu a (nxS a s c) (sd a st (1 - f)) < m) → 2 * m + 9 ≤ d → DI a st dd → h0.1 117 = some (mO v) → h0.1 118 = some (aI 3531 (nA a)) → h0.1 122 = some (aI 900 f2) → h0.1 123 = some (aI 9 w2) → h0.1 135 = some (aB 81920 dd) → Cn E mX10_daresBy d [.ref 117, .int (nI s), .int (nI c), .int (nI (sd a st f)), .int (nI f)] h0 (QDa a st h0 (dBy (dV a) a s c (sd a st f))) := by
  intro s f c d dd f2 w2 h0 hs hf ho hmu hd hDI c117 c118 c122 c123 c135
  have hx : Ex [122, 123, 135] h0 h0 := Ex.rf
  have hdg := okS_dig hs hA.G ho
  have hsn := hs.next hA.G hA.C ho
  have hs4 := hs.1
  have hn4 := hsn.1
  have hp16 := pw16 hA.G
  have hG := hA.G
  have hsd := sd_lt (f := f) hst
  have ho1 := ho.1
  have hdr := hA.dr
  by_cases hz : nxS a s c / 4096 = 0
  · skip
    refine Cn.go (ls := [.ref 117, .int (nI s), .int (nI c), .int (nI (sd a st f)), .int (nI f), .float 0]) (by decide +kernel) rfl (Nat.le_of_ble_eq_true rfl) ?_
    refine r_aload_n (pc2 := 1) 0 dX10_daresBy_0 rfl rfl rfl rfl ?_
    refine r_iload_n (pc2 := 2) 1 dX10_daresBy_1 rfl rfl rfl ?_
    refine r_iload_n (pc2 := 3) 2 dX10_daresBy_2 rfl rfl rfl ?_
    refine r_iconst (pc2 := 4) (v := 0) dX10_daresBy_3 (by decide) rfl ?_
    refine r_aload_n (pc2 := 5) 0 dX10_daresBy_4 rfl rfl rfl rfl ?_
    refine r_getf (pc2 := 8) (v := .ref 118) fX10_13 dX10_daresBy_5 c117 (by decide) rfl rfl ?_
    refine r_bipush (pc2 := 10) (v := 27) dX10_daresBy_8 (by decide) rfl ?_
    refine r_ialdA (pc2 := 11) 27 dX10_daresBy_10 c118 (by decide) rfl (by decide) (by decide) rfl ?_
    refine r_callV1 (pc2 := 14) (As := [.int (nI s), .int (nI c), .int 0, .int (nI (a 27))]) (st := []) kX10_273 rfl rfl dX10_daresBy_11 c117 (by decide) rfl rfl (Nat.le_of_ble_eq_true rfl) (by omega) (c_hourTo (st := s) (sn := c) (b := 0) (dr := a 27) c117 c118 c122 c123 (by omega) (by omega) (by omega) (by omega) hdg.1 hA.G hA.C hA.h2 hA.lo hA.w0 hA.w1 (by omega)) rfl (fun h hq11 => ?_)
    obtain ⟨hx2, ⟨f2b, c122⟩, ⟨w2b, c123⟩⟩ := hq11
    have c117 := hx2.get (by decide) c117
    have c118 := hx2.get (by decide) c118
    have c135 := hx2.get (by decide) c135
    have hx := hx.trans hx2 (by decide)
    refine r_istore (pc2 := 16) (ls2 := [.ref 117, .int (nI s), .int (nI c), .int (nI (sd a st f)), .int (nI f), .int (nI (nxS a s c))]) 5 dX10_daresBy_14 (by decide) rfl rfl rfl ?_
    refine r_iload (pc2 := 18) 5 dX10_daresBy_16 rfl rfl ?_
    refine r_callS1 (pc2 := 21) (As := [.int (nI (nxS a s c))]) (st := []) kX10_231 dX10_daresBy_18 rfl rfl (Nat.le_of_ble_eq_true rfl) (by omega) (c_depthIn (nI (nxS a s c))) rfl (fun h2 hq18 => ?_)
    subst hq18
    refine r_cast (nI (nxS a s c / 4096)) (depthN (by omega)) ?_
    refine r_if_ne (tgt := 28) (pc2 := 24) dX10_daresBy_21 (by decide) rfl (fun b21 => ?_) (fun b21 => ?_)
    · exact absurd (by rw [hz]; rfl) b21
    · skip
      refine r_iconst (pc2 := 25) (v := -1) dX10_daresBy_24 (by decide) rfl ?_
      refine r_goto (pc2 := 59) dX10_daresBy_25 (by decide) ?_
      exact r_iret rfl dX10_daresBy_59 (by unfold dBy; rw [if_pos hz]; exact ⟨rfl, hx, ⟨_, c122⟩, ⟨_, c123⟩, ⟨_, c135, hDI⟩⟩)
  · have hmu := hmu hz
    have hf01 : f = 0 ∨ f = 1 := by omega
    rcases hf01 with hf1 | hf1
    · skip
      refine Cn.go (ls := [.ref 117, .int (nI s), .int (nI c), .int (nI (sd a st f)), .int (nI f), .float 0]) (by decide +kernel) rfl (Nat.le_of_ble_eq_true rfl) ?_
      refine r_aload_n (pc2 := 1) 0 dX10_daresBy_0 rfl rfl rfl rfl ?_
      refine r_iload_n (pc2 := 2) 1 dX10_daresBy_1 rfl rfl rfl ?_
      refine r_iload_n (pc2 := 3) 2 dX10_daresBy_2 rfl rfl rfl ?_
      refine r_iconst (pc2 := 4) (v := 0) dX10_daresBy_3 (by decide) rfl ?_
      refine r_aload_n (pc2 := 5) 0 dX10_daresBy_4 rfl rfl rfl rfl ?_
      refine r_getf (pc2 := 8) (v := .ref 118) fX10_13 dX10_daresBy_5 c117 (by decide) rfl rfl ?_
      refine r_bipush (pc2 := 10) (v := 27) dX10_daresBy_8 (by decide) rfl ?_
      refine r_ialdA (pc2 := 11) 27 dX10_daresBy_10 c118 (by decide) rfl (by decide) (by decide) rfl ?_
      refine r_callV1 (pc2 := 14) (As := [.int (nI s), .int (nI c), .int 0, .int (nI (a 27))]) (st := []) kX10_273 rfl rfl dX10_daresBy_11 c117 (by decide) rfl rfl (Nat.le_of_ble_eq_true rfl) (by omega) (c_hourTo (st := s) (sn := c) (b := 0) (dr := a 27) c117 c118 c122 c123 (by omega) (by omega) (by omega) (by omega) hdg.1 hA.G hA.C hA.h2 hA.lo hA.w0 hA.w1 (by omega)) rfl (fun h hq11 => ?_)
      obtain ⟨hx2, ⟨f2b, c122⟩, ⟨w2b, c123⟩⟩ := hq11
      have c117 := hx2.get (by decide) c117
      have c118 := hx2.get (by decide) c118
      have c135 := hx2.get (by decide) c135
      have hx := hx.trans hx2 (by decide)
      refine r_istore (pc2 := 16) (ls2 := [.ref 117, .int (nI s), .int (nI c), .int (nI (sd a st f)), .int (nI f), .int (nI (nxS a s c))]) 5 dX10_daresBy_14 (by decide) rfl rfl rfl ?_
      refine r_iload (pc2 := 18) 5 dX10_daresBy_16 rfl rfl ?_
      refine r_callS1 (pc2 := 21) (As := [.int (nI (nxS a s c))]) (st := []) kX10_231 dX10_daresBy_18 rfl rfl (Nat.le_of_ble_eq_true rfl) (by omega) (c_depthIn (nI (nxS a s c))) rfl (fun h2 hq18 => ?_)
      subst hq18
      refine r_cast (nI (nxS a s c / 4096)) (depthN (by omega)) ?_
      refine r_if_ne (tgt := 28) (pc2 := 24) dX10_daresBy_21 (by decide) rfl (fun b21 => ?_) (fun b21 => ?_)
      · skip
        refine r_aload_n (pc2 := 29) 0 dX10_daresBy_28 rfl rfl rfl rfl ?_
        refine r_iload (pc2 := 31) 5 dX10_daresBy_29 rfl rfl ?_
        refine r_iconst (pc2 := 32) (v := 1) dX10_daresBy_31 (by decide) rfl ?_
        refine r_aload_n (pc2 := 33) 0 dX10_daresBy_32 rfl rfl rfl rfl ?_
        refine r_getf (pc2 := 36) (v := .ref 118) fX10_13 dX10_daresBy_33 c117 (by decide) rfl rfl ?_
        refine r_iconst (pc2 := 37) (v := 3) dX10_daresBy_36 (by decide) rfl ?_
        refine r_ialdA (pc2 := 38) 3 dX10_daresBy_37 c118 (by decide) rfl (by decide) (by decide) rfl ?_
        refine r_ishl (pc2 := 39) dX10_daresBy_38 rfl ?_
        refine r_cast (nI (2 ^ (a 3))) (shl1 _ (by omega)) ?_
        refine r_iconst (pc2 := 40) (v := 1) dX10_daresBy_39 (by decide) rfl ?_
        refine r_isub (pc2 := 41) dX10_daresBy_40 rfl ?_
        refine r_cast (nI (2 ^ (a 3) - 1)) (pm1 (Nat.two_pow_pos _)) ?_
        refine r_iload_n (pc2 := 42) 3 dX10_daresBy_41 rfl rfl rfl ?_
        refine r_iconst (pc2 := 43) (v := -1) dX10_daresBy_42 (by decide) rfl ?_
        refine r_ixor (pc2 := 44) dX10_daresBy_43 rfl ?_
        refine r_iand (pc2 := 45) dX10_daresBy_44 rfl ?_
        refine r_cast (nI (sd a st (1 - f))) ((dif_nI _ (by omega) _ (by omega)).trans (congrArg nI (sd_o hA.G hf hst))) ?_
        refine r_iload (pc2 := 47) 4 dX10_daresBy_45 rfl rfl ?_
        refine r_if_ne (tgt := 54) (pc2 := 50) dX10_daresBy_47 (by decide) rfl (fun b47 => ?_) (fun b47 => ?_)
        · exact absurd (by rw [hf1]; rfl) b47
        · skip
          refine r_iconst (pc2 := 51) (v := 1) dX10_daresBy_50 (by decide) rfl ?_
          refine r_goto (pc2 := 55) dX10_daresBy_51 (by decide) ?_
          refine r_cast (nI (1 - f)) (by subst hf1; rfl) ?_
          refine r_callV1 (pc2 := 58) (As := [.int (nI (nxS a s c)), .int (nI (sd a st (1 - f))), .int (nI (1 - f))]) (st := []) kX10_421 rfl rfl dX10_daresBy_55 c117 (by decide) rfl rfl (Nat.le_of_ble_eq_true rfl) (by omega) (ih (nxS a s c) (1 - f) (d - 1) _ _ _ _ hsn hz (by omega) hmu (by omega) hDI c117 c118 c122 c123 c135) rfl (fun h hq55 => ?_)
          obtain ⟨hx3, ⟨f2c, c122⟩, ⟨w2c, c123⟩, ⟨ddb, c135, hDI⟩⟩ := hq55
          have c117 := hx3.get (by decide) c117
          have c118 := hx3.get (by decide) c118
          have hx := hx.trans hx3 (by decide)
          refine r_ineg (pc2 := 59) dX10_daresBy_58 rfl ?_
          exact r_iret rfl dX10_daresBy_59 (by unfold dBy; rw [if_neg hz, sd_o hA.G hf hst]; exact ⟨rfl, hx, ⟨_, c122⟩, ⟨_, c123⟩, ⟨_, c135, hDI⟩⟩)
      · exact absurd (nI_z0 (by omega) b21) hz
    · skip
      refine Cn.go (ls := [.ref 117, .int (nI s), .int (nI c), .int (nI (sd a st f)), .int (nI f), .float 0]) (by decide +kernel) rfl (Nat.le_of_ble_eq_true rfl) ?_
      refine r_aload_n (pc2 := 1) 0 dX10_daresBy_0 rfl rfl rfl rfl ?_
      refine r_iload_n (pc2 := 2) 1 dX10_daresBy_1 rfl rfl rfl ?_
      refine r_iload_n (pc2 := 3) 2 dX10_daresBy_2 rfl rfl rfl ?_
      refine r_iconst (pc2 := 4) (v := 0) dX10_daresBy_3 (by decide) rfl ?_
      refine r_aload_n (pc2 := 5) 0 dX10_daresBy_4 rfl rfl rfl rfl ?_
      refine r_getf (pc2 := 8) (v := .ref 118) fX10_13 dX10_daresBy_5 c117 (by decide) rfl rfl ?_
      refine r_bipush (pc2 := 10) (v := 27) dX10_daresBy_8 (by decide) rfl ?_
      refine r_ialdA (pc2 := 11) 27 dX10_daresBy_10 c118 (by decide) rfl (by decide) (by decide) rfl ?_
      refine r_callV1 (pc2 := 14) (As := [.int (nI s), .int (nI c), .int 0, .int (nI (a 27))]) (st := []) kX10_273 rfl rfl dX10_daresBy_11 c117 (by decide) rfl rfl (Nat.le_of_ble_eq_true rfl) (by omega) (c_hourTo (st := s) (sn := c) (b := 0) (dr := a 27) c117 c118 c122 c123 (by omega) (by omega) (by omega) (by omega) hdg.1 hA.G hA.C hA.h2 hA.lo hA.w0 hA.w1 (by omega)) rfl (fun h hq11 => ?_)
      obtain ⟨hx2, ⟨f2b, c122⟩, ⟨w2b, c123⟩⟩ := hq11
      have c117 := hx2.get (by decide) c117
      have c118 := hx2.get (by decide) c118
      have c135 := hx2.get (by decide) c135
      have hx := hx.trans hx2 (by decide)
      refine r_istore (pc2 := 16) (ls2 := [.ref 117, .int (nI s), .int (nI c), .int (nI (sd a st f)), .int (nI f), .int (nI (nxS a s c))]) 5 dX10_daresBy_14 (by decide) rfl rfl rfl ?_
      refine r_iload (pc2 := 18) 5 dX10_daresBy_16 rfl rfl ?_
      refine r_callS1 (pc2 := 21) (As := [.int (nI (nxS a s c))]) (st := []) kX10_231 dX10_daresBy_18 rfl rfl (Nat.le_of_ble_eq_true rfl) (by omega) (c_depthIn (nI (nxS a s c))) rfl (fun h2 hq18 => ?_)
      subst hq18
      refine r_cast (nI (nxS a s c / 4096)) (depthN (by omega)) ?_
      refine r_if_ne (tgt := 28) (pc2 := 24) dX10_daresBy_21 (by decide) rfl (fun b21 => ?_) (fun b21 => ?_)
      · skip
        refine r_aload_n (pc2 := 29) 0 dX10_daresBy_28 rfl rfl rfl rfl ?_
        refine r_iload (pc2 := 31) 5 dX10_daresBy_29 rfl rfl ?_
        refine r_iconst (pc2 := 32) (v := 1) dX10_daresBy_31 (by decide) rfl ?_
        refine r_aload_n (pc2 := 33) 0 dX10_daresBy_32 rfl rfl rfl rfl ?_
        refine r_getf (pc2 := 36) (v := .ref 118) fX10_13 dX10_daresBy_33 c117 (by decide) rfl rfl ?_
        refine r_iconst (pc2 := 37) (v := 3) dX10_daresBy_36 (by decide) rfl ?_
        refine r_ialdA (pc2 := 38) 3 dX10_daresBy_37 c118 (by decide) rfl (by decide) (by decide) rfl ?_
        refine r_ishl (pc2 := 39) dX10_daresBy_38 rfl ?_
        refine r_cast (nI (2 ^ (a 3))) (shl1 _ (by omega)) ?_
        refine r_iconst (pc2 := 40) (v := 1) dX10_daresBy_39 (by decide) rfl ?_
        refine r_isub (pc2 := 41) dX10_daresBy_40 rfl ?_
        refine r_cast (nI (2 ^ (a 3) - 1)) (pm1 (Nat.two_pow_pos _)) ?_
        refine r_iload_n (pc2 := 42) 3 dX10_daresBy_41 rfl rfl rfl ?_
        refine r_iconst (pc2 := 43) (v := -1) dX10_daresBy_42 (by decide) rfl ?_
        refine r_ixor (pc2 := 44) dX10_daresBy_43 rfl ?_
        refine r_iand (pc2 := 45) dX10_daresBy_44 rfl ?_
        refine r_cast (nI (sd a st (1 - f))) ((dif_nI _ (by omega) _ (by omega)).trans (congrArg nI (sd_o hA.G hf hst))) ?_
        refine r_iload (pc2 := 47) 4 dX10_daresBy_45 rfl rfl ?_
        refine r_if_ne (tgt := 54) (pc2 := 50) dX10_daresBy_47 (by decide) rfl (fun b47 => ?_) (fun b47 => ?_)
        · skip
          refine r_iconst (pc2 := 55) (v := 0) dX10_daresBy_54 (by decide) rfl ?_
          refine r_cast (nI (1 - f)) (by subst hf1; rfl) ?_
          refine r_callV1 (pc2 := 58) (As := [.int (nI (nxS a s c)), .int (nI (sd a st (1 - f))), .int (nI (1 - f))]) (st := []) kX10_421 rfl rfl dX10_daresBy_55 c117 (by decide) rfl rfl (Nat.le_of_ble_eq_true rfl) (by omega) (ih (nxS a s c) (1 - f) (d - 1) _ _ _ _ hsn hz (by omega) hmu (by omega) hDI c117 c118 c122 c123 c135) rfl (fun h hq55 => ?_)
          obtain ⟨hx3, ⟨f2c, c122⟩, ⟨w2c, c123⟩, ⟨ddb, c135, hDI⟩⟩ := hq55
          have c117 := hx3.get (by decide) c117
          have c118 := hx3.get (by decide) c118
          have hx := hx.trans hx3 (by decide)
          refine r_ineg (pc2 := 59) dX10_daresBy_58 rfl ?_
          exact r_iret rfl dX10_daresBy_59 (by unfold dBy; rw [if_neg hz, sd_o hA.G hf hst]; exact ⟨rfl, hx, ⟨_, c122⟩, ⟨_, c123⟩, ⟨_, c135, hDI⟩⟩)
        · exact absurd b47 (by rw [hf1]; decide)
      · exact absurd (nI_z0 (by omega) b21) hz
set_option maxRecDepth 20000 in
set_option maxHeartbeats 1000000 in
theorem c_daresFrom {E : EnvT} {v : Nat → Int32} {a : Nat → Nat} {st : Nat} (hA : AIN a) (hst : st < 2 ^ (a 3)) : ∀ m : Nat, ∀ (s f d : Nat) (dd f2 w2 : Nat → Int32) (h0 : Hp), SG a s → s / 4096 ≠ 0 → f ≤ 1 → dmu a s (sd a st f) < m → 2 * m + 8 ≤ d → DI a st dd → h0.1 117 = some (mO v) → h0.1 118 = some (aI 3531 (nA a)) → h0.1 122 = some (aI 900 f2) → h0.1 123 = some (aI 9 w2) → h0.1 135 = some (aB 81920 dd) → Cn E mX10_daresFrom d [.ref 117, .int (nI s), .int (nI (sd a st f)), .int (nI f)] h0 (QDa a st h0 (dV a s (sd a st f))) := by
  intro m
  induction m with
  | zero => intro s f d dd f2 w2 h0 hs hsd0 hf hmu; exact absurd hmu (Nat.not_lt_zero _)
  | succ m ih =>
    intro s f d dd f2 w2 h0 hs hsd0 hf hmu hd hDI c117 c118 c122 c123 c135
    have hx : Ex [122, 123, 135] h0 h0 := Ex.rf
    have hs4 := hs.1
    have hp16 := pw16 hA.G
    have hG := hA.G
    have hsd := sd_lt (f := f) hst
    have hsd16 : sd a st f < 16 := by omega
    have hpl := pastN_lt (a 1) s (a 3)
    have hop : (dOp a s (sd a st f)) < 1024 := Nat.lt_trans (dOp_lt hsd16) (by decide)
    by_cases hall : pastN (a 1) s (a 3) = 2 ^ (a 3) - 1
    · have hV0 : dV a s (sd a st f) = 0 := by rw [dV_eq hs hA.G hA.C hsd0 hsd, dOne, if_pos hall]
      refine Cn.go (ls := [.ref 117, .int (nI s), .int (nI (sd a st f)), .int (nI f), .float 0, .float 0, .float 0, .float 0]) (by decide +kernel) rfl (Nat.le_of_ble_eq_true rfl) ?_
      refine r_aload_n (pc2 := 1) 0 dX10_daresFrom_0 rfl rfl rfl rfl ?_
      refine r_iload_n (pc2 := 2) 1 dX10_daresFrom_1 rfl rfl rfl ?_
      refine r_callV1 (pc2 := 5) (As := [.int (nI s)]) (st := []) kX10_256 rfl rfl dX10_daresFrom_2 c117 (by decide) rfl rfl (Nat.le_of_ble_eq_true rfl) (by omega) (c_pastIn (st := s) c117 c118 hA.G hA.C (by omega) (by omega)) rfl (fun h2 hq2 => ?_)
      subst hq2
      refine r_iconst (pc2 := 6) (v := 1) dX10_daresFrom_5 (by decide) rfl ?_
      refine r_aload_n (pc2 := 7) 0 dX10_daresFrom_6 rfl rfl rfl rfl ?_
      refine r_getf (pc2 := 10) (v := .ref 118) fX10_13 dX10_daresFrom_7 c117 (by decide) rfl rfl ?_
      refine r_iconst (pc2 := 11) (v := 3) dX10_daresFrom_10 (by decide) rfl ?_
      refine r_ialdA (pc2 := 12) 3 dX10_daresFrom_11 c118 (by decide) rfl (by decide) (by decide) rfl ?_
      refine r_ishl (pc2 := 13) dX10_daresFrom_12 rfl ?_
      refine r_cast (nI (2 ^ (a 3))) (shl1 _ (by omega)) ?_
      refine r_iconst (pc2 := 14) (v := 1) dX10_daresFrom_13 (by decide) rfl ?_
      refine r_isub (pc2 := 15) dX10_daresFrom_14 rfl ?_
      refine r_cast (nI (2 ^ (a 3) - 1)) (pm1 (Nat.two_pow_pos _)) ?_
      refine r_icmp_ne (tgt := 20) (pc2 := 18) dX10_daresFrom_15 (by decide) rfl (fun b15 => ?_) (fun b15 => ?_)
      · exact absurd (by rw [hall]) b15
      · skip
        refine r_iconst (pc2 := 19) (v := 0) dX10_daresFrom_18 (by decide) rfl ?_
        exact r_iret rfl dX10_daresFrom_19 (by rw [hV0]; exact ⟨rfl, hx, ⟨_, c122⟩, ⟨_, c123⟩, ⟨_, c135, hDI⟩⟩)
    · have hVe : dV a s (sd a st f) = if (dBst (dOp a s (sd a st f)) (fun g => dBy (dV a) a s (2 ^ g) (sd a st f)) (a 3)) = 268435456 then dBy (dV a) a s 0 (sd a st f) else (dBst (dOp a s (sd a st f)) (fun g => dBy (dV a) a s (2 ^ g) (sd a st f)) (a 3)) := by rw [dV_eq hs hA.G hA.C hsd0 hsd, dOne, if_neg hall]
      have loop : ∀ (m2 g : Nat) (u7 : Value) (dd f2 w2 : Nat → Int32) (h1 : Hp), g + m2 = a 3 → Ex [122, 123, 135] h0 h1 → DI a st dd → h1.1 117 = some (mO v) → h1.1 118 = some (aI 3531 (nA a)) → h1.1 122 = some (aI 900 f2) → h1.1 123 = some (aI 9 w2) → h1.1 135 = some (aB 81920 dd) → Fr E mX10_daresFrom d 63 [.ref 117, .int (nI s), .int (nI (sd a st f)), .int (nI f), .int (nI (2 * s + (1 - f))), .int (dBst (dOp a s (sd a st f)) (fun g => dBy (dV a) a s (2 ^ g) (sd a st f)) g), .int (nI g), u7] [] h1 (QDa a st h0 (dV a s (sd a st f))) := by
        intro m2
        induction m2 with
        | zero =>
          intro g u7 dd f2 w2 h hg hx hDI c117 c118 c122 c123 c135
          obtain rfl : g = a 3 := by omega
          by_cases hbf : (dBst (dOp a s (sd a st f)) (fun g => dBy (dV a) a s (2 ^ g) (sd a st f)) (a 3)) = 268435456
          · have hm0 : dmu a (nxS a s 0) (sd a st (1 - f)) < m := by
              have hq : (dOp a s (sd a st f)) = 0 := by
                rcases dBst_v (o := (dOp a s (sd a st f))) (F := (fun g => dBy (dV a) a s (2 ^ g) (sd a st f))) (a 3) (fun g _ _ => dBy_v (dV_v a)) with q | q
                · exact dOp_0 hA.G hsd q.2
                · rcases q.1 with q | q | q <;> rw [q] at hbf <;> exact absurd hbf (by decide)
              have := dmu_0 hs hA.G hA.C hsd0 hsd hall hq
              rw [sd_o hA.G hf hst] at this
              omega
            refine r_iload (pc2 := 65) 6 dX10_daresFrom_63 rfl rfl ?_
            refine r_aload_n (pc2 := 66) 0 dX10_daresFrom_65 rfl rfl rfl rfl ?_
            refine r_getf (pc2 := 69) (v := .ref 118) fX10_13 dX10_daresFrom_66 c117 (by decide) rfl rfl ?_
            refine r_iconst (pc2 := 70) (v := 3) dX10_daresFrom_69 (by decide) rfl ?_
            refine r_ialdA (pc2 := 71) 3 dX10_daresFrom_70 c118 (by decide) rfl (by decide) (by decide) rfl ?_
            refine r_icmp_ge (tgt := 138) (pc2 := 74) dX10_daresFrom_71 (by decide) rfl (fun b71 => ?_) (fun b71 => ?_)
            · skip
              refine r_iload (pc2 := 140) 5 dX10_daresFrom_138 rfl rfl ?_
              refine r_ldcw (pc2 := 143) (v := 268435456) qX10_350 dX10_daresFrom_140 rfl ?_
              refine r_icmp_ne (tgt := 156) (pc2 := 146) dX10_daresFrom_143 (by decide) rfl (fun b143 => ?_) (fun b143 => ?_)
              · exact absurd hbf b143
              · skip
                refine r_aload_n (pc2 := 147) 0 dX10_daresFrom_146 rfl rfl rfl rfl ?_
                refine r_iload_n (pc2 := 148) 1 dX10_daresFrom_147 rfl rfl rfl ?_
                refine r_iconst (pc2 := 149) (v := 0) dX10_daresFrom_148 (by decide) rfl ?_
                refine r_iload_n (pc2 := 150) 2 dX10_daresFrom_149 rfl rfl rfl ?_
                refine r_iload_n (pc2 := 151) 3 dX10_daresFrom_150 rfl rfl rfl ?_
                refine r_callV1 (pc2 := 154) (As := [.int (nI s), .int 0, .int (nI (sd a st f)), .int (nI f)]) (st := []) kX10_417 rfl rfl dX10_daresFrom_151 c117 (by decide) rfl rfl (Nat.le_of_ble_eq_true rfl) (by omega) (c_daresBy hA hst ih s f 0 (d - 1) _ _ _ _ hs hf (okS_0 hsd0) (fun _ => hm0) (by omega) hDI c117 c118 c122 c123 c135) rfl (fun h hq151 => ?_)
                obtain ⟨hx3, ⟨f2c, c122⟩, ⟨w2c, c123⟩, ⟨ddb, c135, hDI⟩⟩ := hq151
                have c117 := hx3.get (by decide) c117
                have c118 := hx3.get (by decide) c118
                have hx := hx.trans hx3 (by decide)
                refine r_topi (fun nb e154 => ?_)
                refine r_istore (pc2 := 156) (ls2 := [.ref 117, .int (nI s), .int (nI (sd a st f)), .int (nI f), .int (nI (2 * s + (1 - f))), .int nb, .int (nI (a 3)), u7]) 5 dX10_daresFrom_154 (by decide) rfl rfl rfl ?_
                refine r_aload_n (pc2 := 157) 0 dX10_daresFrom_156 rfl rfl rfl rfl ?_
                refine r_getf (pc2 := 160) (v := .ref 135) fX10_73 dX10_daresFrom_157 c117 (by decide) rfl rfl ?_
                refine r_iload (pc2 := 162) 4 dX10_daresFrom_160 rfl rfl ?_
                refine r_iload (pc2 := 164) 5 dX10_daresFrom_162 rfl rfl ?_
                refine r_iconst (pc2 := 165) (v := 2) dX10_daresFrom_164 (by decide) rfl ?_
                refine r_iadd (pc2 := 166) dX10_daresFrom_165 rfl ?_
                refine r_i2b (pc2 := 167) dX10_daresFrom_166 rfl ?_
                refine r_topi (fun y167 ey167 => ?_)
                refine r_bastN (pc2 := 168) (2 * s + (1 - f)) dX10_daresFrom_167 c135 (by decide) rfl (by omega) (by decide) rfl (fun h z167 o167 c135 => ?_)
                have c117 := (o167 117 (by decide)).trans c117
                have c118 := (o167 118 (by decide)).trans c118
                have c122 := (o167 122 (by decide)).trans c122
                have c123 := (o167 123 (by decide)).trans c123
                have hx := hx.step (a := 135) (by decide) z167 o167
                refine r_iload (pc2 := 170) 5 dX10_daresFrom_168 rfl rfl ?_
                exact r_iret rfl dX10_daresFrom_170 ⟨by rw [hVe, if_pos hbf, e154], hx, ⟨_, c122⟩, ⟨_, c123⟩, ⟨_, c135, by rw [ey167]; exact hDI.set hf (d_nar (by rw [hVe, if_pos hbf, e154]))⟩⟩
            · exact absurd (nI_le (Nat.le_refl _) (by omega)) b71
          · skip
            refine r_iload (pc2 := 65) 6 dX10_daresFrom_63 rfl rfl ?_
            refine r_aload_n (pc2 := 66) 0 dX10_daresFrom_65 rfl rfl rfl rfl ?_
            refine r_getf (pc2 := 69) (v := .ref 118) fX10_13 dX10_daresFrom_66 c117 (by decide) rfl rfl ?_
            refine r_iconst (pc2 := 70) (v := 3) dX10_daresFrom_69 (by decide) rfl ?_
            refine r_ialdA (pc2 := 71) 3 dX10_daresFrom_70 c118 (by decide) rfl (by decide) (by decide) rfl ?_
            refine r_icmp_ge (tgt := 138) (pc2 := 74) dX10_daresFrom_71 (by decide) rfl (fun b71 => ?_) (fun b71 => ?_)
            · skip
              refine r_iload (pc2 := 140) 5 dX10_daresFrom_138 rfl rfl ?_
              refine r_ldcw (pc2 := 143) (v := 268435456) qX10_350 dX10_daresFrom_140 rfl ?_
              refine r_icmp_ne (tgt := 156) (pc2 := 146) dX10_daresFrom_143 (by decide) rfl (fun b143 => ?_) (fun b143 => ?_)
              · skip
                refine r_aload_n (pc2 := 157) 0 dX10_daresFrom_156 rfl rfl rfl rfl ?_
                refine r_getf (pc2 := 160) (v := .ref 135) fX10_73 dX10_daresFrom_157 c117 (by decide) rfl rfl ?_
                refine r_iload (pc2 := 162) 4 dX10_daresFrom_160 rfl rfl ?_
                refine r_iload (pc2 := 164) 5 dX10_daresFrom_162 rfl rfl ?_
                refine r_iconst (pc2 := 165) (v := 2) dX10_daresFrom_164 (by decide) rfl ?_
                refine r_iadd (pc2 := 166) dX10_daresFrom_165 rfl ?_
                refine r_i2b (pc2 := 167) dX10_daresFrom_166 rfl ?_
                refine r_topi (fun y167 ey167 => ?_)
                refine r_bastN (pc2 := 168) (2 * s + (1 - f)) dX10_daresFrom_167 c135 (by decide) rfl (by omega) (by decide) rfl (fun h z167 o167 c135 => ?_)
                have c117 := (o167 117 (by decide)).trans c117
                have c118 := (o167 118 (by decide)).trans c118
                have c122 := (o167 122 (by decide)).trans c122
                have c123 := (o167 123 (by decide)).trans c123
                have hx := hx.step (a := 135) (by decide) z167 o167
                refine r_iload (pc2 := 170) 5 dX10_daresFrom_168 rfl rfl ?_
                exact r_iret rfl dX10_daresFrom_170 ⟨by rw [hVe, if_neg hbf], hx, ⟨_, c122⟩, ⟨_, c123⟩, ⟨_, c135, by rw [ey167]; exact hDI.set hf (d_nar (by rw [hVe, if_neg hbf]))⟩⟩
              · exact absurd b143 hbf
            · exact absurd (nI_le (Nat.le_refl _) (by omega)) b71
        | succ m2 ih2 =>
          intro g u7 dd f2 w2 h hg hx hDI c117 c118 c122 c123 c135
          have hlt : g < a 3 := by omega
          by_cases hb : (dOp a s (sd a st f)).testBit g = true
          · have hok := okS_g hA.G hsd16 hlt hb hsd0
            have hmg : dmu a (nxS a s (2 ^ g)) (sd a st (1 - f)) < m := by
              have := dmu_g hs hA.G hA.C hsd16 hlt hb hsd0 (sd a st (1 - f))
              omega
            by_cases c1 : (dBst (dOp a s (sd a st f)) (fun g => dBy (dV a) a s (2 ^ g) (sd a st f)) g) = 268435456
            · have hnew : (dBst (dOp a s (sd a st f)) (fun g => dBy (dV a) a s (2 ^ g) (sd a st f)) (g + 1)) = (dBy (dV a) a s (2 ^ g) (sd a st f)) := by rw [dBst, if_pos hb, if_pos (Or.inl c1)]
              refine r_iload (pc2 := 65) 6 dX10_daresFrom_63 rfl rfl ?_
              refine r_aload_n (pc2 := 66) 0 dX10_daresFrom_65 rfl rfl rfl rfl ?_
              refine r_getf (pc2 := 69) (v := .ref 118) fX10_13 dX10_daresFrom_66 c117 (by decide) rfl rfl ?_
              refine r_iconst (pc2 := 70) (v := 3) dX10_daresFrom_69 (by decide) rfl ?_
              refine r_ialdA (pc2 := 71) 3 dX10_daresFrom_70 c118 (by decide) rfl (by decide) (by decide) rfl ?_
              refine r_icmp_ge (tgt := 138) (pc2 := 74) dX10_daresFrom_71 (by decide) rfl (fun b71 => ?_) (fun b71 => ?_)
              · exact absurd b71 (nI_ge hlt (by omega))
              · skip
                refine r_iload_n (pc2 := 75) 2 dX10_daresFrom_74 rfl rfl rfl ?_
                refine r_aload_n (pc2 := 76) 0 dX10_daresFrom_75 rfl rfl rfl rfl ?_
                refine r_iload_n (pc2 := 77) 1 dX10_daresFrom_76 rfl rfl rfl ?_
                refine r_callV1 (pc2 := 80) (As := [.int (nI s)]) (st := [.int (nI (sd a st f))]) kX10_256 rfl rfl dX10_daresFrom_77 c117 (by decide) rfl rfl (Nat.le_of_ble_eq_true rfl) (by omega) (c_pastIn (st := s) c117 c118 hA.G hA.C (by omega) (by omega)) rfl (fun h2 hq77 => ?_)
                subst hq77
                refine r_iconst (pc2 := 81) (v := -1) dX10_daresFrom_80 (by decide) rfl ?_
                refine r_ixor (pc2 := 82) dX10_daresFrom_81 rfl ?_
                refine r_iand (pc2 := 83) dX10_daresFrom_82 rfl ?_
                refine r_cast (nI (dOp a s (sd a st f))) (dif_nI _ (by omega) _ (by omega)) ?_
                refine r_i2l (pc2 := 84) dX10_daresFrom_83 rfl ?_
                refine r_iload (pc2 := 86) 6 dX10_daresFrom_84 rfl rfl ?_
                refine r_callS1 (pc2 := 89) (As := [.long (Int32.toInt64 (nI (dOp a s (sd a st f)))), .int (nI g)]) (st := []) kX10_245 dX10_daresFrom_86 rfl rfl (Nat.le_of_ble_eq_true rfl) (by omega) (c_isIn (Int32.toInt64 (nI (dOp a s (sd a st f)))) (nI g)) rfl (fun h2 hq86 => ?_)
                subst hq86
                refine r_if_ne (tgt := 95) (pc2 := 92) dX10_daresFrom_89 (by decide) rfl (fun b89 => ?_) (fun b89 => ?_)
                · skip
                  refine r_aload_n (pc2 := 96) 0 dX10_daresFrom_95 rfl rfl rfl rfl ?_
                  refine r_iload_n (pc2 := 97) 1 dX10_daresFrom_96 rfl rfl rfl ?_
                  refine r_iconst (pc2 := 98) (v := 1) dX10_daresFrom_97 (by decide) rfl ?_
                  refine r_iload (pc2 := 100) 6 dX10_daresFrom_98 rfl rfl ?_
                  refine r_ishl (pc2 := 101) dX10_daresFrom_100 rfl ?_
                  refine r_cast (nI (2 ^ g)) (shl1 _ (by omega)) ?_
                  refine r_iload_n (pc2 := 102) 2 dX10_daresFrom_101 rfl rfl rfl ?_
                  refine r_iload_n (pc2 := 103) 3 dX10_daresFrom_102 rfl rfl rfl ?_
                  refine r_callV1 (pc2 := 106) (As := [.int (nI s), .int (nI (2 ^ g)), .int (nI (sd a st f)), .int (nI f)]) (st := []) kX10_417 rfl rfl dX10_daresFrom_103 c117 (by decide) rfl rfl (Nat.le_of_ble_eq_true rfl) (by omega) (c_daresBy hA hst ih s f (2 ^ g) (d - 1) _ _ _ _ hs hf hok (fun _ => hmg) (by omega) hDI c117 c118 c122 c123 c135) rfl (fun h hq103 => ?_)
                  obtain ⟨hx3, ⟨f2c, c122⟩, ⟨w2c, c123⟩, ⟨ddb, c135, hDI⟩⟩ := hq103
                  have c117 := hx3.get (by decide) c117
                  have c118 := hx3.get (by decide) c118
                  have hx := hx.trans hx3 (by decide)
                  refine r_topi (fun its e106 => ?_)
                  refine r_istore (pc2 := 108) (ls2 := [.ref 117, .int (nI s), .int (nI (sd a st f)), .int (nI f), .int (nI (2 * s + (1 - f))), .int (dBst (dOp a s (sd a st f)) (fun g => dBy (dV a) a s (2 ^ g) (sd a st f)) g), .int (nI g), .int its]) 7 dX10_daresFrom_106 (by decide) rfl rfl rfl ?_
                  refine r_iload (pc2 := 110) 5 dX10_daresFrom_108 rfl rfl ?_
                  refine r_ldcw (pc2 := 113) (v := 268435456) qX10_350 dX10_daresFrom_110 rfl ?_
                  refine r_icmp_eq (tgt := 123) (pc2 := 116) dX10_daresFrom_113 (by decide) rfl (fun b113 => ?_) (fun b113 => ?_)
                  · skip
                    refine r_iload (pc2 := 125) 7 dX10_daresFrom_123 rfl rfl ?_
                    refine r_goto (pc2 := 130) dX10_daresFrom_125 (by decide) ?_
                    refine r_istore (pc2 := 132) (ls2 := [.ref 117, .int (nI s), .int (nI (sd a st f)), .int (nI f), .int (nI (2 * s + (1 - f))), .int its, .int (nI g), .int its]) 5 dX10_daresFrom_130 (by decide) rfl rfl rfl ?_
                    obtain ⟨x132, e132⟩ : ∃ z : Int32, z = (nI g) + (1) := ⟨_, rfl⟩
                    refine r_iinc (pc2 := 135) (ls2 := [.ref 117, .int (nI s), .int (nI (sd a st f)), .int (nI f), .int (nI (2 * s + (1 - f))), .int its, .int x132, .int its]) (v := x132) 6 dX10_daresFrom_132 rfl (by rw [e132]; rfl) rfl rfl rfl ?_
                    refine r_goto (pc2 := 63) dX10_daresFrom_135 (by decide) ?_
                    rw [e132, nI_1, e106]
                    have e9 := ih2 (g + 1) (.int (dBy (dV a) a s (2 ^ g) (sd a st f))) _ _ _ _ (by omega) hx hDI c117 c118 c122 c123 c135
                    rw [hnew] at e9
                    exact e9
                  · exact absurd c1 b113
                · exact absurd b89 (if1 ((isInB _ hop g (by omega)).mpr hb))
            · by_cases c2 : (dBst (dOp a s (sd a st f)) (fun g => dBy (dV a) a s (2 ^ g) (sd a st f)) g) < (dBy (dV a) a s (2 ^ g) (sd a st f))
              · have hnew : (dBst (dOp a s (sd a st f)) (fun g => dBy (dV a) a s (2 ^ g) (sd a st f)) (g + 1)) = (dBy (dV a) a s (2 ^ g) (sd a st f)) := by rw [dBst, if_pos hb, if_pos (Or.inr c2)]
                refine r_iload (pc2 := 65) 6 dX10_daresFrom_63 rfl rfl ?_
                refine r_aload_n (pc2 := 66) 0 dX10_daresFrom_65 rfl rfl rfl rfl ?_
                refine r_getf (pc2 := 69) (v := .ref 118) fX10_13 dX10_daresFrom_66 c117 (by decide) rfl rfl ?_
                refine r_iconst (pc2 := 70) (v := 3) dX10_daresFrom_69 (by decide) rfl ?_
                refine r_ialdA (pc2 := 71) 3 dX10_daresFrom_70 c118 (by decide) rfl (by decide) (by decide) rfl ?_
                refine r_icmp_ge (tgt := 138) (pc2 := 74) dX10_daresFrom_71 (by decide) rfl (fun b71 => ?_) (fun b71 => ?_)
                · exact absurd b71 (nI_ge hlt (by omega))
                · skip
                  refine r_iload_n (pc2 := 75) 2 dX10_daresFrom_74 rfl rfl rfl ?_
                  refine r_aload_n (pc2 := 76) 0 dX10_daresFrom_75 rfl rfl rfl rfl ?_
                  refine r_iload_n (pc2 := 77) 1 dX10_daresFrom_76 rfl rfl rfl ?_
                  refine r_callV1 (pc2 := 80) (As := [.int (nI s)]) (st := [.int (nI (sd a st f))]) kX10_256 rfl rfl dX10_daresFrom_77 c117 (by decide) rfl rfl (Nat.le_of_ble_eq_true rfl) (by omega) (c_pastIn (st := s) c117 c118 hA.G hA.C (by omega) (by omega)) rfl (fun h2 hq77 => ?_)
                  subst hq77
                  refine r_iconst (pc2 := 81) (v := -1) dX10_daresFrom_80 (by decide) rfl ?_
                  refine r_ixor (pc2 := 82) dX10_daresFrom_81 rfl ?_
                  refine r_iand (pc2 := 83) dX10_daresFrom_82 rfl ?_
                  refine r_cast (nI (dOp a s (sd a st f))) (dif_nI _ (by omega) _ (by omega)) ?_
                  refine r_i2l (pc2 := 84) dX10_daresFrom_83 rfl ?_
                  refine r_iload (pc2 := 86) 6 dX10_daresFrom_84 rfl rfl ?_
                  refine r_callS1 (pc2 := 89) (As := [.long (Int32.toInt64 (nI (dOp a s (sd a st f)))), .int (nI g)]) (st := []) kX10_245 dX10_daresFrom_86 rfl rfl (Nat.le_of_ble_eq_true rfl) (by omega) (c_isIn (Int32.toInt64 (nI (dOp a s (sd a st f)))) (nI g)) rfl (fun h2 hq86 => ?_)
                  subst hq86
                  refine r_if_ne (tgt := 95) (pc2 := 92) dX10_daresFrom_89 (by decide) rfl (fun b89 => ?_) (fun b89 => ?_)
                  · skip
                    refine r_aload_n (pc2 := 96) 0 dX10_daresFrom_95 rfl rfl rfl rfl ?_
                    refine r_iload_n (pc2 := 97) 1 dX10_daresFrom_96 rfl rfl rfl ?_
                    refine r_iconst (pc2 := 98) (v := 1) dX10_daresFrom_97 (by decide) rfl ?_
                    refine r_iload (pc2 := 100) 6 dX10_daresFrom_98 rfl rfl ?_
                    refine r_ishl (pc2 := 101) dX10_daresFrom_100 rfl ?_
                    refine r_cast (nI (2 ^ g)) (shl1 _ (by omega)) ?_
                    refine r_iload_n (pc2 := 102) 2 dX10_daresFrom_101 rfl rfl rfl ?_
                    refine r_iload_n (pc2 := 103) 3 dX10_daresFrom_102 rfl rfl rfl ?_
                    refine r_callV1 (pc2 := 106) (As := [.int (nI s), .int (nI (2 ^ g)), .int (nI (sd a st f)), .int (nI f)]) (st := []) kX10_417 rfl rfl dX10_daresFrom_103 c117 (by decide) rfl rfl (Nat.le_of_ble_eq_true rfl) (by omega) (c_daresBy hA hst ih s f (2 ^ g) (d - 1) _ _ _ _ hs hf hok (fun _ => hmg) (by omega) hDI c117 c118 c122 c123 c135) rfl (fun h hq103 => ?_)
                    obtain ⟨hx3, ⟨f2c, c122⟩, ⟨w2c, c123⟩, ⟨ddb, c135, hDI⟩⟩ := hq103
                    have c117 := hx3.get (by decide) c117
                    have c118 := hx3.get (by decide) c118
                    have hx := hx.trans hx3 (by decide)
                    refine r_topi (fun its e106 => ?_)
                    refine r_istore (pc2 := 108) (ls2 := [.ref 117, .int (nI s), .int (nI (sd a st f)), .int (nI f), .int (nI (2 * s + (1 - f))), .int (dBst (dOp a s (sd a st f)) (fun g => dBy (dV a) a s (2 ^ g) (sd a st f)) g), .int (nI g), .int its]) 7 dX10_daresFrom_106 (by decide) rfl rfl rfl ?_
                    refine r_iload (pc2 := 110) 5 dX10_daresFrom_108 rfl rfl ?_
                    refine r_ldcw (pc2 := 113) (v := 268435456) qX10_350 dX10_daresFrom_110 rfl ?_
                    refine r_icmp_eq (tgt := 123) (pc2 := 116) dX10_daresFrom_113 (by decide) rfl (fun b113 => ?_) (fun b113 => ?_)
                    · exact absurd b113 c1
                    · skip
                      refine r_iload (pc2 := 118) 7 dX10_daresFrom_116 rfl rfl ?_
                      refine r_iload (pc2 := 120) 5 dX10_daresFrom_118 rfl rfl ?_
                      refine r_icmp_le (tgt := 128) (pc2 := 123) dX10_daresFrom_120 (by decide) rfl (fun b120 => ?_) (fun b120 => ?_)
                      · rw [e106] at b120; exact absurd c2 (Int32.not_lt.mpr b120)
                      · skip
                        refine r_iload (pc2 := 125) 7 dX10_daresFrom_123 rfl rfl ?_
                        refine r_goto (pc2 := 130) dX10_daresFrom_125 (by decide) ?_
                        refine r_istore (pc2 := 132) (ls2 := [.ref 117, .int (nI s), .int (nI (sd a st f)), .int (nI f), .int (nI (2 * s + (1 - f))), .int its, .int (nI g), .int its]) 5 dX10_daresFrom_130 (by decide) rfl rfl rfl ?_
                        obtain ⟨x132, e132⟩ : ∃ z : Int32, z = (nI g) + (1) := ⟨_, rfl⟩
                        refine r_iinc (pc2 := 135) (ls2 := [.ref 117, .int (nI s), .int (nI (sd a st f)), .int (nI f), .int (nI (2 * s + (1 - f))), .int its, .int x132, .int its]) (v := x132) 6 dX10_daresFrom_132 rfl (by rw [e132]; rfl) rfl rfl rfl ?_
                        refine r_goto (pc2 := 63) dX10_daresFrom_135 (by decide) ?_
                        rw [e132, nI_1, e106]
                        have e9 := ih2 (g + 1) (.int (dBy (dV a) a s (2 ^ g) (sd a st f))) _ _ _ _ (by omega) hx hDI c117 c118 c122 c123 c135
                        rw [hnew] at e9
                        exact e9
                  · exact absurd b89 (if1 ((isInB _ hop g (by omega)).mpr hb))
              · have hnew : (dBst (dOp a s (sd a st f)) (fun g => dBy (dV a) a s (2 ^ g) (sd a st f)) (g + 1)) = (dBst (dOp a s (sd a st f)) (fun g => dBy (dV a) a s (2 ^ g) (sd a st f)) g) := by rw [dBst, if_pos hb, if_neg (fun z => z.elim c1 c2)]
                refine r_iload (pc2 := 65) 6 dX10_daresFrom_63 rfl rfl ?_
                refine r_aload_n (pc2 := 66) 0 dX10_daresFrom_65 rfl rfl rfl rfl ?_
                refine r_getf (pc2 := 69) (v := .ref 118) fX10_13 dX10_daresFrom_66 c117 (by decide) rfl rfl ?_
                refine r_iconst (pc2 := 70) (v := 3) dX10_daresFrom_69 (by decide) rfl ?_
                refine r_ialdA (pc2 := 71) 3 dX10_daresFrom_70 c118 (by decide) rfl (by decide) (by decide) rfl ?_
                refine r_icmp_ge (tgt := 138) (pc2 := 74) dX10_daresFrom_71 (by decide) rfl (fun b71 => ?_) (fun b71 => ?_)
                · exact absurd b71 (nI_ge hlt (by omega))
                · skip
                  refine r_iload_n (pc2 := 75) 2 dX10_daresFrom_74 rfl rfl rfl ?_
                  refine r_aload_n (pc2 := 76) 0 dX10_daresFrom_75 rfl rfl rfl rfl ?_
                  refine r_iload_n (pc2 := 77) 1 dX10_daresFrom_76 rfl rfl rfl ?_
                  refine r_callV1 (pc2 := 80) (As := [.int (nI s)]) (st := [.int (nI (sd a st f))]) kX10_256 rfl rfl dX10_daresFrom_77 c117 (by decide) rfl rfl (Nat.le_of_ble_eq_true rfl) (by omega) (c_pastIn (st := s) c117 c118 hA.G hA.C (by omega) (by omega)) rfl (fun h2 hq77 => ?_)
                  subst hq77
                  refine r_iconst (pc2 := 81) (v := -1) dX10_daresFrom_80 (by decide) rfl ?_
                  refine r_ixor (pc2 := 82) dX10_daresFrom_81 rfl ?_
                  refine r_iand (pc2 := 83) dX10_daresFrom_82 rfl ?_
                  refine r_cast (nI (dOp a s (sd a st f))) (dif_nI _ (by omega) _ (by omega)) ?_
                  refine r_i2l (pc2 := 84) dX10_daresFrom_83 rfl ?_
                  refine r_iload (pc2 := 86) 6 dX10_daresFrom_84 rfl rfl ?_
                  refine r_callS1 (pc2 := 89) (As := [.long (Int32.toInt64 (nI (dOp a s (sd a st f)))), .int (nI g)]) (st := []) kX10_245 dX10_daresFrom_86 rfl rfl (Nat.le_of_ble_eq_true rfl) (by omega) (c_isIn (Int32.toInt64 (nI (dOp a s (sd a st f)))) (nI g)) rfl (fun h2 hq86 => ?_)
                  subst hq86
                  refine r_if_ne (tgt := 95) (pc2 := 92) dX10_daresFrom_89 (by decide) rfl (fun b89 => ?_) (fun b89 => ?_)
                  · skip
                    refine r_aload_n (pc2 := 96) 0 dX10_daresFrom_95 rfl rfl rfl rfl ?_
                    refine r_iload_n (pc2 := 97) 1 dX10_daresFrom_96 rfl rfl rfl ?_
                    refine r_iconst (pc2 := 98) (v := 1) dX10_daresFrom_97 (by decide) rfl ?_
                    refine r_iload (pc2 := 100) 6 dX10_daresFrom_98 rfl rfl ?_
                    refine r_ishl (pc2 := 101) dX10_daresFrom_100 rfl ?_
                    refine r_cast (nI (2 ^ g)) (shl1 _ (by omega)) ?_
                    refine r_iload_n (pc2 := 102) 2 dX10_daresFrom_101 rfl rfl rfl ?_
                    refine r_iload_n (pc2 := 103) 3 dX10_daresFrom_102 rfl rfl rfl ?_
                    refine r_callV1 (pc2 := 106) (As := [.int (nI s), .int (nI (2 ^ g)), .int (nI (sd a st f)), .int (nI f)]) (st := []) kX10_417 rfl rfl dX10_daresFrom_103 c117 (by decide) rfl rfl (Nat.le_of_ble_eq_true rfl) (by omega) (c_daresBy hA hst ih s f (2 ^ g) (d - 1) _ _ _ _ hs hf hok (fun _ => hmg) (by omega) hDI c117 c118 c122 c123 c135) rfl (fun h hq103 => ?_)
                    obtain ⟨hx3, ⟨f2c, c122⟩, ⟨w2c, c123⟩, ⟨ddb, c135, hDI⟩⟩ := hq103
                    have c117 := hx3.get (by decide) c117
                    have c118 := hx3.get (by decide) c118
                    have hx := hx.trans hx3 (by decide)
                    refine r_topi (fun its e106 => ?_)
                    refine r_istore (pc2 := 108) (ls2 := [.ref 117, .int (nI s), .int (nI (sd a st f)), .int (nI f), .int (nI (2 * s + (1 - f))), .int (dBst (dOp a s (sd a st f)) (fun g => dBy (dV a) a s (2 ^ g) (sd a st f)) g), .int (nI g), .int its]) 7 dX10_daresFrom_106 (by decide) rfl rfl rfl ?_
                    refine r_iload (pc2 := 110) 5 dX10_daresFrom_108 rfl rfl ?_
                    refine r_ldcw (pc2 := 113) (v := 268435456) qX10_350 dX10_daresFrom_110 rfl ?_
                    refine r_icmp_eq (tgt := 123) (pc2 := 116) dX10_daresFrom_113 (by decide) rfl (fun b113 => ?_) (fun b113 => ?_)
                    · exact absurd b113 c1
                    · skip
                      refine r_iload (pc2 := 118) 7 dX10_daresFrom_116 rfl rfl ?_
                      refine r_iload (pc2 := 120) 5 dX10_daresFrom_118 rfl rfl ?_
                      refine r_icmp_le (tgt := 128) (pc2 := 123) dX10_daresFrom_120 (by decide) rfl (fun b120 => ?_) (fun b120 => ?_)
                      · skip
                        refine r_iload (pc2 := 130) 5 dX10_daresFrom_128 rfl rfl ?_
                        refine r_topi (fun nb e130 => ?_)
                        refine r_istore (pc2 := 132) (ls2 := [.ref 117, .int (nI s), .int (nI (sd a st f)), .int (nI f), .int (nI (2 * s + (1 - f))), .int nb, .int (nI g), .int its]) 5 dX10_daresFrom_130 (by decide) rfl rfl rfl ?_
                        obtain ⟨x132, e132⟩ : ∃ z : Int32, z = (nI g) + (1) := ⟨_, rfl⟩
                        refine r_iinc (pc2 := 135) (ls2 := [.ref 117, .int (nI s), .int (nI (sd a st f)), .int (nI f), .int (nI (2 * s + (1 - f))), .int nb, .int x132, .int its]) (v := x132) 6 dX10_daresFrom_132 rfl (by rw [e132]; rfl) rfl rfl rfl ?_
                        refine r_goto (pc2 := 63) dX10_daresFrom_135 (by decide) ?_
                        rw [e132, nI_1, e130]
                        have e9 := ih2 (g + 1) (.int its) _ _ _ _ (by omega) hx hDI c117 c118 c122 c123 c135
                        rw [hnew] at e9
                        exact e9
                      · rw [e106] at b120; exact absurd (Int32.not_lt.mp c2) b120
                  · exact absurd b89 (if1 ((isInB _ hop g (by omega)).mpr hb))
          · have hsame : (dBst (dOp a s (sd a st f)) (fun g => dBy (dV a) a s (2 ^ g) (sd a st f)) (g + 1)) = (dBst (dOp a s (sd a st f)) (fun g => dBy (dV a) a s (2 ^ g) (sd a st f)) g) := by rw [dBst, if_neg hb]
            refine r_iload (pc2 := 65) 6 dX10_daresFrom_63 rfl rfl ?_
            refine r_aload_n (pc2 := 66) 0 dX10_daresFrom_65 rfl rfl rfl rfl ?_
            refine r_getf (pc2 := 69) (v := .ref 118) fX10_13 dX10_daresFrom_66 c117 (by decide) rfl rfl ?_
            refine r_iconst (pc2 := 70) (v := 3) dX10_daresFrom_69 (by decide) rfl ?_
            refine r_ialdA (pc2 := 71) 3 dX10_daresFrom_70 c118 (by decide) rfl (by decide) (by decide) rfl ?_
            refine r_icmp_ge (tgt := 138) (pc2 := 74) dX10_daresFrom_71 (by decide) rfl (fun b71 => ?_) (fun b71 => ?_)
            · exact absurd b71 (nI_ge hlt (by omega))
            · skip
              refine r_iload_n (pc2 := 75) 2 dX10_daresFrom_74 rfl rfl rfl ?_
              refine r_aload_n (pc2 := 76) 0 dX10_daresFrom_75 rfl rfl rfl rfl ?_
              refine r_iload_n (pc2 := 77) 1 dX10_daresFrom_76 rfl rfl rfl ?_
              refine r_callV1 (pc2 := 80) (As := [.int (nI s)]) (st := [.int (nI (sd a st f))]) kX10_256 rfl rfl dX10_daresFrom_77 c117 (by decide) rfl rfl (Nat.le_of_ble_eq_true rfl) (by omega) (c_pastIn (st := s) c117 c118 hA.G hA.C (by omega) (by omega)) rfl (fun h2 hq77 => ?_)
              subst hq77
              refine r_iconst (pc2 := 81) (v := -1) dX10_daresFrom_80 (by decide) rfl ?_
              refine r_ixor (pc2 := 82) dX10_daresFrom_81 rfl ?_
              refine r_iand (pc2 := 83) dX10_daresFrom_82 rfl ?_
              refine r_cast (nI (dOp a s (sd a st f))) (dif_nI _ (by omega) _ (by omega)) ?_
              refine r_i2l (pc2 := 84) dX10_daresFrom_83 rfl ?_
              refine r_iload (pc2 := 86) 6 dX10_daresFrom_84 rfl rfl ?_
              refine r_callS1 (pc2 := 89) (As := [.long (Int32.toInt64 (nI (dOp a s (sd a st f)))), .int (nI g)]) (st := []) kX10_245 dX10_daresFrom_86 rfl rfl (Nat.le_of_ble_eq_true rfl) (by omega) (c_isIn (Int32.toInt64 (nI (dOp a s (sd a st f)))) (nI g)) rfl (fun h2 hq86 => ?_)
              subst hq86
              refine r_if_ne (tgt := 95) (pc2 := 92) dX10_daresFrom_89 (by decide) rfl (fun b89 => ?_) (fun b89 => ?_)
              · exact absurd (if_neg (fun z => hb ((isInB _ hop g (by omega)).mp z))) b89
              · skip
                refine r_goto (pc2 := 132) dX10_daresFrom_92 (by decide) ?_
                obtain ⟨x132, e132⟩ : ∃ z : Int32, z = (nI g) + (1) := ⟨_, rfl⟩
                refine r_iinc (pc2 := 135) (ls2 := [.ref 117, .int (nI s), .int (nI (sd a st f)), .int (nI f), .int (nI (2 * s + (1 - f))), .int (dBst (dOp a s (sd a st f)) (fun g => dBy (dV a) a s (2 ^ g) (sd a st f)) g), .int x132, u7]) (v := x132) 6 dX10_daresFrom_132 rfl (by rw [e132]; rfl) rfl rfl rfl ?_
                refine r_goto (pc2 := 63) dX10_daresFrom_135 (by decide) ?_
                rw [e132, nI_1]
                have e9 := ih2 (g + 1) u7 _ _ _ _ (by omega) hx hDI c117 c118 c122 c123 c135
                rw [hsame] at e9
                exact e9
      have rest : Fr E mX10_daresFrom d 35 [.ref 117, .int (nI s), .int (nI (sd a st f)), .int (nI f), .int (nI (2 * s + (1 - f))), .float 0, .float 0, .float 0] [] h0 (QDa a st h0 (dV a s (sd a st f))) := by
        by_cases hk0 : dd (2 * s + (1 - f)) = 0
        · skip
          refine r_aload_n (pc2 := 36) 0 dX10_daresFrom_35 rfl rfl rfl rfl ?_
          refine r_getf (pc2 := 39) (v := .ref 135) fX10_73 dX10_daresFrom_36 c117 (by decide) rfl rfl ?_
          refine r_iload (pc2 := 41) 4 dX10_daresFrom_39 rfl rfl ?_
          refine r_baldN (pc2 := 42) (2 * s + (1 - f)) dX10_daresFrom_41 c135 (by decide) rfl (by omega) (by decide) rfl ?_
          refine r_if_eq (tgt := 55) (pc2 := 45) dX10_daresFrom_42 (by decide) rfl (fun b42 => ?_) (fun b42 => ?_)
          · skip
            refine r_ldcw (pc2 := 58) (v := 268435456) qX10_350 dX10_daresFrom_55 rfl ?_
            refine r_istore (pc2 := 60) (ls2 := [.ref 117, .int (nI s), .int (nI (sd a st f)), .int (nI f), .int (nI (2 * s + (1 - f))), .int 268435456, .float 0, .float 0]) 5 dX10_daresFrom_58 (by decide) rfl rfl rfl ?_
            refine r_iconst (pc2 := 61) (v := 0) dX10_daresFrom_60 (by decide) rfl ?_
            refine r_istore (pc2 := 63) (ls2 := [.ref 117, .int (nI s), .int (nI (sd a st f)), .int (nI f), .int (nI (2 * s + (1 - f))), .int 268435456, .int 0, .float 0]) 6 dX10_daresFrom_61 (by decide) rfl rfl rfl ?_
            exact loop (a 3) 0 _ _ _ _ _ (by omega) hx hDI c117 c118 c122 c123 c135
          · exact absurd hk0 b42
        · have hkv := (hDI s f hs hsd0 hf).resolve_left hk0
          refine r_aload_n (pc2 := 36) 0 dX10_daresFrom_35 rfl rfl rfl rfl ?_
          refine r_getf (pc2 := 39) (v := .ref 135) fX10_73 dX10_daresFrom_36 c117 (by decide) rfl rfl ?_
          refine r_iload (pc2 := 41) 4 dX10_daresFrom_39 rfl rfl ?_
          refine r_baldN (pc2 := 42) (2 * s + (1 - f)) dX10_daresFrom_41 c135 (by decide) rfl (by omega) (by decide) rfl ?_
          refine r_if_eq (tgt := 55) (pc2 := 45) dX10_daresFrom_42 (by decide) rfl (fun b42 => ?_) (fun b42 => ?_)
          · exact absurd b42 hk0
          · skip
            refine r_aload_n (pc2 := 46) 0 dX10_daresFrom_45 rfl rfl rfl rfl ?_
            refine r_getf (pc2 := 49) (v := .ref 135) fX10_73 dX10_daresFrom_46 c117 (by decide) rfl rfl ?_
            refine r_iload (pc2 := 51) 4 dX10_daresFrom_49 rfl rfl ?_
            refine r_baldN (pc2 := 52) (2 * s + (1 - f)) dX10_daresFrom_51 c135 (by decide) rfl (by omega) (by decide) rfl ?_
            refine r_iconst (pc2 := 53) (v := 2) dX10_daresFrom_52 (by decide) rfl ?_
            refine r_isub (pc2 := 54) dX10_daresFrom_53 rfl ?_
            exact r_iret rfl dX10_daresFrom_54 (by rw [show dd (2 * s + (1 - f)) - 2 = dV a s (sd a st f) by rw [hkv, Int32.add_sub_cancel]]; exact ⟨rfl, hx, ⟨_, c122⟩, ⟨_, c123⟩, ⟨_, c135, hDI⟩⟩)
      have hf01 : f = 0 ∨ f = 1 := by omega
      rcases hf01 with hf1 | hf1
      · skip
        refine Cn.go (ls := [.ref 117, .int (nI s), .int (nI (sd a st f)), .int (nI f), .float 0, .float 0, .float 0, .float 0]) (by decide +kernel) rfl (Nat.le_of_ble_eq_true rfl) ?_
        refine r_aload_n (pc2 := 1) 0 dX10_daresFrom_0 rfl rfl rfl rfl ?_
        refine r_iload_n (pc2 := 2) 1 dX10_daresFrom_1 rfl rfl rfl ?_
        refine r_callV1 (pc2 := 5) (As := [.int (nI s)]) (st := []) kX10_256 rfl rfl dX10_daresFrom_2 c117 (by decide) rfl rfl (Nat.le_of_ble_eq_true rfl) (by omega) (c_pastIn (st := s) c117 c118 hA.G hA.C (by omega) (by omega)) rfl (fun h2 hq2 => ?_)
        subst hq2
        refine r_iconst (pc2 := 6) (v := 1) dX10_daresFrom_5 (by decide) rfl ?_
        refine r_aload_n (pc2 := 7) 0 dX10_daresFrom_6 rfl rfl rfl rfl ?_
        refine r_getf (pc2 := 10) (v := .ref 118) fX10_13 dX10_daresFrom_7 c117 (by decide) rfl rfl ?_
        refine r_iconst (pc2 := 11) (v := 3) dX10_daresFrom_10 (by decide) rfl ?_
        refine r_ialdA (pc2 := 12) 3 dX10_daresFrom_11 c118 (by decide) rfl (by decide) (by decide) rfl ?_
        refine r_ishl (pc2 := 13) dX10_daresFrom_12 rfl ?_
        refine r_cast (nI (2 ^ (a 3))) (shl1 _ (by omega)) ?_
        refine r_iconst (pc2 := 14) (v := 1) dX10_daresFrom_13 (by decide) rfl ?_
        refine r_isub (pc2 := 15) dX10_daresFrom_14 rfl ?_
        refine r_cast (nI (2 ^ (a 3) - 1)) (pm1 (Nat.two_pow_pos _)) ?_
        refine r_icmp_ne (tgt := 20) (pc2 := 18) dX10_daresFrom_15 (by decide) rfl (fun b15 => ?_) (fun b15 => ?_)
        · skip
          refine r_iconst (pc2 := 21) (v := 2) dX10_daresFrom_20 (by decide) rfl ?_
          refine r_iload_n (pc2 := 22) 1 dX10_daresFrom_21 rfl rfl rfl ?_
          refine r_imul (pc2 := 23) dX10_daresFrom_22 rfl ?_
          refine r_cast (nI (2 * s)) (pk_mul 2 s) ?_
          refine r_iload_n (pc2 := 24) 3 dX10_daresFrom_23 rfl rfl rfl ?_
          refine r_if_eq (tgt := 31) (pc2 := 27) dX10_daresFrom_24 (by decide) rfl (fun b24 => ?_) (fun b24 => ?_)
          · skip
            refine r_iconst (pc2 := 32) (v := 1) dX10_daresFrom_31 (by decide) rfl ?_
            refine r_iadd (pc2 := 33) dX10_daresFrom_32 rfl ?_
            refine r_cast (nI (2 * s + (1 - f))) ((nI_1 _).trans (by subst hf1; rfl)) ?_
            refine r_istore (pc2 := 35) (ls2 := [.ref 117, .int (nI s), .int (nI (sd a st f)), .int (nI f), .int (nI (2 * s + (1 - f))), .float 0, .float 0, .float 0]) 4 dX10_daresFrom_33 (by decide) rfl rfl rfl ?_
            exact rest
          · exact absurd (by rw [hf1]; rfl) b24
        · exact absurd ((nI_eq (by omega) (by omega)).mp b15) hall
      · skip
        refine Cn.go (ls := [.ref 117, .int (nI s), .int (nI (sd a st f)), .int (nI f), .float 0, .float 0, .float 0, .float 0]) (by decide +kernel) rfl (Nat.le_of_ble_eq_true rfl) ?_
        refine r_aload_n (pc2 := 1) 0 dX10_daresFrom_0 rfl rfl rfl rfl ?_
        refine r_iload_n (pc2 := 2) 1 dX10_daresFrom_1 rfl rfl rfl ?_
        refine r_callV1 (pc2 := 5) (As := [.int (nI s)]) (st := []) kX10_256 rfl rfl dX10_daresFrom_2 c117 (by decide) rfl rfl (Nat.le_of_ble_eq_true rfl) (by omega) (c_pastIn (st := s) c117 c118 hA.G hA.C (by omega) (by omega)) rfl (fun h2 hq2 => ?_)
        subst hq2
        refine r_iconst (pc2 := 6) (v := 1) dX10_daresFrom_5 (by decide) rfl ?_
        refine r_aload_n (pc2 := 7) 0 dX10_daresFrom_6 rfl rfl rfl rfl ?_
        refine r_getf (pc2 := 10) (v := .ref 118) fX10_13 dX10_daresFrom_7 c117 (by decide) rfl rfl ?_
        refine r_iconst (pc2 := 11) (v := 3) dX10_daresFrom_10 (by decide) rfl ?_
        refine r_ialdA (pc2 := 12) 3 dX10_daresFrom_11 c118 (by decide) rfl (by decide) (by decide) rfl ?_
        refine r_ishl (pc2 := 13) dX10_daresFrom_12 rfl ?_
        refine r_cast (nI (2 ^ (a 3))) (shl1 _ (by omega)) ?_
        refine r_iconst (pc2 := 14) (v := 1) dX10_daresFrom_13 (by decide) rfl ?_
        refine r_isub (pc2 := 15) dX10_daresFrom_14 rfl ?_
        refine r_cast (nI (2 ^ (a 3) - 1)) (pm1 (Nat.two_pow_pos _)) ?_
        refine r_icmp_ne (tgt := 20) (pc2 := 18) dX10_daresFrom_15 (by decide) rfl (fun b15 => ?_) (fun b15 => ?_)
        · skip
          refine r_iconst (pc2 := 21) (v := 2) dX10_daresFrom_20 (by decide) rfl ?_
          refine r_iload_n (pc2 := 22) 1 dX10_daresFrom_21 rfl rfl rfl ?_
          refine r_imul (pc2 := 23) dX10_daresFrom_22 rfl ?_
          refine r_cast (nI (2 * s)) (pk_mul 2 s) ?_
          refine r_iload_n (pc2 := 24) 3 dX10_daresFrom_23 rfl rfl rfl ?_
          refine r_if_eq (tgt := 31) (pc2 := 27) dX10_daresFrom_24 (by decide) rfl (fun b24 => ?_) (fun b24 => ?_)
          · exact absurd b24 (by rw [hf1]; decide)
          · skip
            refine r_iconst (pc2 := 28) (v := 0) dX10_daresFrom_27 (by decide) rfl ?_
            refine r_goto (pc2 := 32) dX10_daresFrom_28 (by decide) ?_
            refine r_iadd (pc2 := 33) dX10_daresFrom_32 rfl ?_
            refine r_cast (nI (2 * s + (1 - f))) ((nI_add _ 0).trans (by subst hf1; rfl)) ?_
            refine r_istore (pc2 := 35) (ls2 := [.ref 117, .int (nI s), .int (nI (sd a st f)), .int (nI f), .int (nI (2 * s + (1 - f))), .float 0, .float 0, .float 0]) 4 dX10_daresFrom_33 (by decide) rfl rfl rfl ?_
            exact rest
        · exact absurd ((nI_eq (by omega) (by omega)).mp b15) hall
