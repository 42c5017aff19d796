/-! the class: rows, pure -/
def dcd (x : Nat) : Nat := x / 10 % 7 + 8 * (x / 70 % 7) + 64 * (x / 490 % 7) + 512 * (x / 3430 % 7) + 4096 * (x % 10)
theorem dcd_d (x : Nat) : dcd x / 4096 = x % 10 := by unfold dcd; omega
theorem dcd_cst {a : FR} {s : Nat} (hs : SG a s) (hC : a 1 ≤ 6) : dcd (cst s) = s := by
  have d := cst_d hs.dep
  have g0 : tws s % 7 = s % 8 := by have := tws_dig hs.2.1 hC 0 (by decide); simpa using this
  have g1 : tws s / 7 % 7 = s / 8 % 8 := tws_dig hs.2.1 hC 1 (by decide)
  have g2 : tws s / 49 % 7 = s / 64 % 8 := tws_dig hs.2.1 hC 2 (by decide)
  have g3 : tws s / 343 % 7 = s / 512 % 8 := tws_dig hs.2.1 hC 3 (by decide)
  have e1 : cst s / 70 = tws s / 7 := by rw [← d.2, Nat.div_div_eq_div_mul]
  have e2 : cst s / 490 = tws s / 49 := by rw [← d.2, Nat.div_div_eq_div_mul]
  have e3 : cst s / 3430 = tws s / 343 := by rw [← d.2, Nat.div_div_eq_div_mul]
  unfold dcd
  rw [d.1, d.2, e1, e2, e3, g0, g1, g2, g3]
  clear d g0 g1 g2 g3 e1 e2 e3 hs hC
  omega
theorem okS_d {a : FR} {s c : Nat} (h : okS a s c) : s / 4096 ≠ 0 := fun z => by
  have h2 := h.2
  unfold why2 at h2
  rw [if_pos z] at h2
  split at h2 <;> omega
def fRK (R K : Nat → Nat) : Nat := sC (fun x => R x * K x) 24010
def KP (a : FR) (K : Nat → Nat) (x : Nat) : Nat := sC (fun c => if okS a (dcd x) c then K (cst (nxS a (dcd x) c)) else 0) 16
def Z0 (K : Nat → Nat) : Prop := ∀ x, x % 10 = 0 → K x = 0
theorem KP_z (a : FR) (K : Nat → Nat) : Z0 (KP a K) := fun x hx => sC_le0 16 (fun c _ => by rw [if_neg (fun o => okS_d o (by rw [dcd_d]; exact hx))])
def Km (a : FR) (K : Nat → Nat) (w x : Nat) : Nat := if 10 * w ≤ x then K x else KP a K x
theorem Km_z {a : FR} {K : Nat → Nat} (h : Z0 K) (w : Nat) : Z0 (Km a K w) := fun x hx => by
  unfold Km
  split
  · exact h x hx
  · exact KP_z a K x hx
/-- rows are at stands that sleep, where they began or further on -/
def SP (a : FR) (R : Nat → Nat) (w0 : Nat) : Prop := ∀ x, x < 24010 → R x ≠ 0 → ∃ s, SG a s ∧ s / 4096 ≠ 0 ∧ cst s = x ∧ w0 ≤ tws s
theorem tws_G {a : FR} {s : Nat} (hs : SG a s) (hC : a 1 ≤ 6) (hG : a 3 ≤ 4) : tws s < 7 ^ (a 3) := by
  have d0 : s % 8 ≤ 6 := by have := hs.2.1 0 (by decide); rw [Nat.pow_zero, Nat.div_one] at this; omega
  have d1 : s / 8 % 8 ≤ 6 := by have : s / 8 % 8 ≤ a 1 := hs.2.1 1 (by decide); omega
  have d2 : s / 64 % 8 ≤ 6 := by have : s / 64 % 8 ≤ a 1 := hs.2.1 2 (by decide); omega
  have d3 : s / 512 % 8 ≤ 6 := by have : s / 512 % 8 ≤ a 1 := hs.2.1 3 (by decide); omega
  have z0 : a 3 ≤ 0 → s % 8 = 0 := fun z => by have := hs.2.2 0 z (by decide); rwa [Nat.pow_zero, Nat.div_one] at this
  have z1 : a 3 ≤ 1 → s / 8 % 8 = 0 := fun z => hs.2.2 1 z (by decide)
  have z2 : a 3 ≤ 2 → s / 64 % 8 = 0 := fun z => hs.2.2 2 z (by decide)
  have z3 : a 3 ≤ 3 → s / 512 % 8 = 0 := fun z => hs.2.2 3 z (by decide)
  unfold tws
  generalize a 3 = G at hG z0 z1 z2 z3
  match G, hG with
  | 0, _ => have := z0 (by omega); have := z1 (by omega); have := z2 (by omega); have := z3 (by omega); rw [Nat.pow_zero]; omega
  | 1, _ => have := z1 (by omega); have := z2 (by omega); have := z3 (by omega); show _ < 7; omega
  | 2, _ => have := z2 (by omega); have := z3 (by omega); show _ < 49; omega
  | 3, _ => have := z3 (by omega); show _ < 343; omega
  | 4, _ => show _ < 2401; omega
/-- from one stand: rows moved by the first c sets -/
def MV (a : FR) (s H : Nat) (R0 Rc : Nat → Nat) (c : Nat) : Prop := ∀ K, Z0 K → fRK Rc K = fRK R0 K + H * sC (fun e => if okS a s e then K (cst (nxS a s e)) else 0) c
theorem MV.rf {a : FR} {s H : Nat} {R : Nat → Nat} : MV a s H R R 0 := fun K _ => by show _ = _ + H * 0; omega
theorem MV.no {a : FR} {s H c : Nat} {R0 Rc : Nat → Nat} (h : MV a s H R0 Rc c) (ho : ¬ okS a s c) : MV a s H R0 Rc (c + 1) := fun K hK => by
  rw [h K hK]
  show _ = _ + H * (sC _ c + (if okS a s c then K (cst (nxS a s c)) else 0))
  rw [if_neg ho]
  rfl
theorem MV.skip {a : FR} {s H c : Nat} {R0 Rc : Nat → Nat} (h : MV a s H R0 Rc c) (ho : ∀ e, c ≤ e → e < 16 → ¬ okS a s e) : ∀ j, c + j ≤ 16 → MV a s H R0 Rc (c + j)
  | 0, _ => h
  | j + 1, hj => (h.skip ho j (by omega)).no (ho (c + j) (by omega) (by omega))
theorem MV.zero {a : FR} {s H c : Nat} {R0 Rc : Nat → Nat} (h : MV a s H R0 Rc c) (hz : nxS a s c / 4096 = 0) (h9 : nxS a s c / 4096 ≤ 9) : MV a s H R0 Rc (c + 1) := fun K hK => by
  rw [h K hK]
  show _ = _ + H * (sC _ c + (if okS a s c then K (cst (nxS a s c)) else 0))
  rw [hK _ (by rw [(cst_d h9).1]; exact hz), ite_self]
  rfl
theorem MV.add {a : FR} {s H c : Nat} {R0 Rc : Nat → Nat} (h : MV a s H R0 Rc c) (ho : okS a s c) (hl : cst (nxS a s c) < 24010) : MV a s H R0 (va_up Rc (cst (nxS a s c)) (Rc (cst (nxS a s c)) + H)) (c + 1) := fun K hK => by
  unfold fRK
  rw [sC_up (V := Rc) (K := K) 24010, if_pos hl]
  have := h K hK
  unfold fRK at this
  rw [this]
  show _ = _ + H * (sC _ c + (if okS a s c then K (cst (nxS a s c)) else 0))
  rw [if_pos ho, Nat.mul_add]
  omega
theorem SP.add {a : FR} {R : Nat → Nat} {w0 s c H : Nat} (h : SP a R w0) (hs : SG a s) (hA : AIN a) (hw : w0 ≤ tws s) (ho : okS a s c) (hz : nxS a s c / 4096 ≠ 0) : SP a (va_up R (cst (nxS a s c)) (R (cst (nxS a s c)) + H)) w0 := fun x hx hr => by
  by_cases z : x = cst (nxS a s c)
  · refine ⟨nxS a s c, hs.next hA.G hA.C ho, hz, z.symm, ?_⟩
    rw [show tws (nxS a s c) = tws s + shK c 4 from tws_hour hA.G hA.C (okS_dig hs hA.G ho).1 ho.1]
    omega
  · rw [va_up_ne _ _ z] at hr
    exact h x hx hr
theorem sC_add (f : Nat → Nat) (m : Nat) : ∀ n, sC f (m + n) = sC f m + sC (fun e => f (m + e)) n
  | 0 => rfl
  | n + 1 => by
    show sC f (m + n) + f (m + n) = sC f m + (sC (fun e => f (m + e)) n + f (m + n))
    rw [sC_add f m n]
    omega
theorem sC_mono {f g : Nat → Nat} : ∀ n, (∀ e, e < n → f e ≤ g e) → sC f n ≤ sC g n
  | 0, _ => Nat.le_refl _
  | n + 1, h => by
    have := sC_mono n (fun e he => h e (by omega))
    have := h n (by omega)
    show sC f n + f n ≤ sC g n + g n
    omega
theorem sC_sum2 {f g h : Nat → Nat} : ∀ n, (∀ e, e < n → f e = g e + h e) → sC f n = sC g n + sC h n
  | 0, _ => rfl
  | n + 1, H => by
    show sC f n + f n = sC g n + g n + (sC h n + h n)
    rw [sC_sum2 n (fun e he => H e (by omega)), H n (by omega)]
    omega
theorem sC_mulL {f : Nat → Nat} {c : Nat} : ∀ n, sC (fun e => c * f e) n = c * sC f n
  | 0 => rfl
  | n + 1 => by show sC (fun e => c * f e) n + c * f n = c * (sC f n + f n); rw [sC_mulL n, Nat.mul_add]
/-- a row of ten taken out -/
def R1w (R0 : Nat → Nat) (w d : Nat) : Nat → Nat := fun x => if 10 * w < x ∧ x < 10 * w + d then 0 else R0 x
abbrev hrS (a : FR) (K R0 : Nat → Nat) (w : Nat) : Nat → Nat := fun e => if e = 0 then 0 else R0 (10 * w + e) * KP a K (10 * w + e)
theorem row_out {a : FR} {K R0 : Nat → Nat} {w : Nat} (hw : w < 2401) (hK : Z0 K) : fRK R0 (Km a K (w + 1)) = fRK (R1w R0 w 10) (Km a K w) + sC (hrS a K R0 w) 10 := by
  obtain ⟨r, hr⟩ : ∃ r, 24010 = 10 * w + (10 + r) := ⟨24000 - 10 * w, by omega⟩
  unfold fRK
  rw [hr, sC_add, sC_add, sC_add _ (10 * w), sC_add _ 10 r]
  have a1 : sC (fun x => R0 x * Km a K (w + 1) x) (10 * w) = sC (fun x => R1w R0 w 10 x * Km a K w x) (10 * w) := sC_congr _ (fun e he => by
    unfold R1w Km
    rw [if_neg (by omega), if_neg (by omega), if_neg (by omega)])
  have a2 : sC (fun e => (fun e => R0 (10 * w + e) * Km a K (w + 1) (10 * w + e)) (10 + e)) r = sC (fun e => (fun e => R1w R0 w 10 (10 * w + e) * Km a K w (10 * w + e)) (10 + e)) r := sC_congr _ (fun e he => by
    show R0 (10 * w + (10 + e)) * Km a K (w + 1) (10 * w + (10 + e)) = R1w R0 w 10 (10 * w + (10 + e)) * Km a K w (10 * w + (10 + e))
    unfold R1w Km
    rw [if_pos (by omega), if_neg (by omega), if_pos (by omega)])
  have a3 : sC (fun e => R0 (10 * w + e) * Km a K (w + 1) (10 * w + e)) 10 = sC (fun e => R1w R0 w 10 (10 * w + e) * Km a K w (10 * w + e)) 10 + sC (hrS a K R0 w) 10 := sC_sum2 10 (fun e he => by
    by_cases z : e = 0
    · subst z
      rw [Km_z hK (w + 1) _ (by omega), Km_z hK w _ (by omega)]
      show _ = _ + (if 0 = 0 then 0 else _)
      rw [if_pos rfl]
      omega
    · show _ = _ + (if e = 0 then 0 else _)
      rw [if_neg z]
      unfold R1w
      rw [if_pos (by omega), Nat.zero_mul, Nat.zero_add]
      unfold Km
      rw [if_neg (by omega)])
  rw [a1, a2, a3]
  have a4 : sC (fun e => (fun e => R1w R0 w 10 (10 * w + e) * Km a K w (10 * w + e)) (10 + e)) r = sC (fun e => R1w R0 w 10 (10 * w + (10 + e)) * Km a K w (10 * w + (10 + e))) r := rfl
  omega
theorem R1w_s {R0 : Nat → Nat} {w d : Nat} (hd : 1 ≤ d) : va_up (R1w R0 w d) (10 * w + d) 0 = R1w R0 w (d + 1) := by
  funext x
  by_cases z : x = 10 * w + d
  · rw [z, va_up_self]
    unfold R1w
    rw [if_pos (by omega)]
  · rw [va_up_ne _ _ z]
    unfold R1w
    by_cases y : 10 * w < x ∧ x < 10 * w + d
    · rw [if_pos y, if_pos (by omega)]
    · rw [if_neg y, if_neg (by omega)]
theorem R1w_1 {R0 : Nat → Nat} {w : Nat} : R1w R0 w 1 = R0 := by
  funext x
  unfold R1w
  rw [if_neg (by omega)]
theorem SP.out {a : FR} {R : Nat → Nat} {w0 w d : Nat} (h : SP a R w0) : SP a (R1w R w d) w0 := fun x hx hr => h x hx (fun e => hr (by
  unfold R1w
  split
  · rfl
  · exact e))
def K1 : Nat → Nat := fun x => if x % 10 = 0 then 0 else 1
theorem K1_z : Z0 K1 := fun x hx => if_pos hx
theorem KP_1 (a : FR) (x : Nat) : KP a K1 x ≤ 16 * K1 x := by
  by_cases z : x % 10 = 0
  · rw [KP_z a K1 x z]; exact Nat.zero_le _
  · have h1 : K1 x = 1 := if_neg z
    rw [h1]
    unfold KP
    refine Nat.le_trans (sC_mono (g := fun _ => 1) 16 (fun c _ => ?_)) (by decide)
    show (if okS a (dcd x) c then K1 (cst (nxS a (dcd x) c)) else 0) ≤ 1
    unfold K1
    split
    · split <;> omega
    · omega
theorem fRK_1 (a : FR) (R : Nat → Nat) : fRK R (KP a K1) ≤ 16 * fRK R K1 := by
  unfold fRK
  rw [← sC_mulL]
  refine sC_mono _ (fun x _ => ?_)
  have h1 := Nat.mul_le_mul_left (R x) (KP_1 a x)
  rw [show 16 * (R x * K1 x) = R x * (16 * K1 x) by rw [← Nat.mul_assoc, ← Nat.mul_assoc, Nat.mul_comm 16]]
  exact h1
theorem SP.le {a : FR} {R : Nat → Nat} {w0 x : Nat} (h : SP a R w0) (hx : x < 24010) : R x ≤ fRK R K1 := by
  by_cases z : R x = 0
  · rw [z]; exact Nat.zero_le _
  · obtain ⟨s, s1, s2, s3, _⟩ := h x hx z
    have h1 : K1 x = 1 := if_neg (by rw [← s3, (cst_d s1.dep).1]; exact s2)
    have h2 := sC_mem (f := fun x => R x * K1 x) 24010 hx
    show R x ≤ sC (fun x => R x * K1 x) 24010
    have h3 : R x * K1 x = R x := by rw [h1, Nat.mul_one]
    have h4 : (fun x => R x * K1 x) x ≤ sC (fun x => R x * K1 x) 24010 := h2
    rw [show (fun x => R x * K1 x) x = R x from h3] at h4
    exact h4
theorem fRK_top {a : FR} {R K : Nat → Nat} {w0 : Nat} (h : SP a R w0) (hA : AIN a) : fRK R (Km a K (7 ^ (a 3))) = fRK R (KP a K) := sC_congr _ (fun x hx => by
  by_cases z : R x = 0
  · rw [z, Nat.zero_mul, Nat.zero_mul]
  · obtain ⟨s, s1, s2, s3, _⟩ := h x hx z
    have h1 := tws_G s1 hA.C hA.G
    have h2 := cst_d s1.dep
    have h3 := s1.dep
    unfold Km
    rw [if_neg (by omega)])
theorem fRK_bot {a : FR} {R K : Nat → Nat} {w0 : Nat} (h : SP a R w0) : fRK R (Km a K w0) = fRK R K := sC_congr _ (fun x hx => by
  by_cases z : R x = 0
  · rw [z, Nat.zero_mul, Nat.zero_mul]
  · obtain ⟨s, s1, s2, s3, s4⟩ := h x hx z
    have h2 := cst_d s1.dep
    unfold Km
    rw [if_pos (by omega)])
/-- the rows of n hours -/
def KB (a : FR) (st n : Nat) : Nat → Nat := fun x => cB a st n (dcd x)
theorem KB_z (a : FR) (st n : Nat) : Z0 (KB a st n) := fun x hx => by
  unfold KB
  cases n with
  | zero => show (if byB a st (dcd x) then 1 else 0) = 0; rw [if_neg (fun z => z.1 (by rw [dcd_d]; exact hx))]
  | succ n => exact sC_le0 16 (fun c _ => by rw [if_neg (fun o => okS_d o (by rw [dcd_d]; exact hx))])
theorem KB_s {a : FR} {st n x s : Nat} (hs : SG a s) (hA : AIN a) (hx : cst s = x) : KP a (KB a st n) x = KB a st (n + 1) x := by
  have e : dcd x = s := by rw [← hx]; exact dcd_cst hs hA.C
  unfold KP KB
  rw [e]
  refine sC_congr 16 (fun c _ => ?_)
  by_cases ho : okS a s c
  · rw [if_pos ho, if_pos ho, dcd_cst (hs.next hA.G hA.C ho) hA.C]
  · rw [if_neg ho, if_neg ho]
theorem fRK_hour {a : FR} {R : Nat → Nat} {w0 st n : Nat} (h : SP a R w0) (hA : AIN a) : fRK R (KP a (KB a st n)) = fRK R (KB a st (n + 1)) := sC_congr _ (fun x hx => by
  by_cases z : R x = 0
  · rw [z, Nat.zero_mul, Nat.zero_mul]
  · obtain ⟨s, s1, s2, s3, s4⟩ := h x hx z
    rw [KB_s s1 hA s3])
theorem fRK_one {K : Nat → Nat} {x0 : Nat} (hx : x0 < 24010) : fRK (fun x => if x = x0 then 1 else 0) K = K x0 := by
  unfold fRK
  rw [sC_one (K := K) (j := x0) 24010, if_pos hx]
theorem SP.one {a : FR} {s : Nat} (hs : SG a s) (hz : s / 4096 ≠ 0) : SP a (fun x => if x = cst s then 1 else 0) (tws s) := fun x hx hr => by
  by_cases z : x = cst s
  · exact ⟨s, hs, hz, z.symm, Nat.le_refl _⟩
  · exact absurd (if_neg z) hr
