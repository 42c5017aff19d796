/-! the class: chances, pure -/
theorem tws_hour {a : FR} {s c o dr : Nat} (hG : a 3 ≤ 4) (hC : a 1 ≤ 6) (hd : ∀ g, g < a 3 → c.testBit g = true → s / 8 ^ g % 8 < a 1) (hc : c < 2 ^ (a 3)) : tws (hourN a s c o dr) = tws s + shK c 4 := by
  have d : ∀ g, g < 4 → hourN a s c o dr / 8 ^ g % 8 = s / 8 ^ g % 8 + (if c.testBit g = true then 1 else 0) := fun g hg => by
    rw [hourN_dig hG hC hd hg]
    rcases Nat.lt_or_ge g (a 3) with q | q
    · by_cases z : c.testBit g = true
      · rw [if_pos ⟨q, z⟩, if_pos z]
      · rw [if_neg (fun y => z y.2), if_neg z]
    · have hb : c.testBit g = false := Nat.testBit_lt_two_pow (Nat.lt_of_lt_of_le hc (Nat.pow_le_pow_right (by decide) q))
      rw [if_neg (fun y => by omega), if_neg (by rw [hb]; decide)]
  have d0 := d 0 (by decide)
  rw [Nat.pow_zero, Nat.div_one, Nat.div_one] at d0
  have d1 : hourN a s c o dr / 8 % 8 = s / 8 % 8 + (if c.testBit 1 = true then 1 else 0) := d 1 (by decide)
  have d2 : hourN a s c o dr / 64 % 8 = s / 64 % 8 + (if c.testBit 2 = true then 1 else 0) := d 2 (by decide)
  have d3 : hourN a s c o dr / 512 % 8 = s / 512 % 8 + (if c.testBit 3 = true then 1 else 0) := d 3 (by decide)
  unfold tws
  rw [d0, d1, d2, d3]
  unfold shK shK shK shK shK
  (repeat' split) <;> omega
theorem hCs_mod {s t c : Nat} (h : s % 4096 = t % 4096) : ∀ k, hCs s c k = hCs t c k
  | 0 => h
  | k + 1 => by
    show hCs s c k + _ = hCs t c k + _
    rw [hCs_mod h k]
theorem sC_congr {f g : Nat → Nat} : ∀ n, (∀ e, e < n → f e = g e) → sC f n = sC g n
  | 0, _ => rfl
  | n + 1, h => by
    show sC f n + f n = sC g n + g n
    rw [sC_congr n (fun e he => h e (by omega)), h n (by omega)]
theorem sC_mem {f : Nat → Nat} {e : Nat} : ∀ n, e < n → f e ≤ sC f n
  | n + 1, h => by
    show f e ≤ sC f n + f n
    by_cases z : e = n
    · rw [z]; omega
    · have := sC_mem (f := f) n (show e < n by omega); omega
theorem sC_up {V K : Nat → Nat} {j x : Nat} : ∀ n, sC (fun e => va_up V j (V j + x) e * K e) n = sC (fun e => V e * K e) n + (if j < n then x * K j else 0)
  | 0 => rfl
  | n + 1 => by
    show sC (fun e => va_up V j (V j + x) e * K e) n + va_up V j (V j + x) n * K n = sC (fun e => V e * K e) n + V n * K n + _
    rw [sC_up n]
    by_cases z : n = j
    · subst z
      rw [va_up_self, Nat.add_mul, if_neg (Nat.lt_irrefl _), if_pos (Nat.lt_succ_self _)]
      omega
    · rw [va_up_ne _ _ z]
      by_cases y : j < n
      · rw [if_pos y, if_pos (by omega)]; omega
      · rw [if_neg y, if_neg (by omega)]; omega
theorem sC_one {K : Nat → Nat} {j : Nat} : ∀ n, sC (fun e => (if e = j then 1 else 0) * K e) n = if j < n then K j else 0
  | 0 => rfl
  | n + 1 => by
    show sC (fun e => (if e = j then 1 else 0) * K e) n + (if n = j then 1 else 0) * K n = _
    rw [sC_one n]
    by_cases z : n = j
    · subst z
      rw [if_neg (Nat.lt_irrefl _), if_pos rfl, if_pos (Nat.lt_succ_self _)]
      omega
    · rw [if_neg z]
      by_cases y : j < n
      · rw [if_pos y, if_pos (by omega)]; omega
      · rw [if_neg y, if_neg (by omega)]; omega
/-- what comes of a stand with weight 1, each depth then being worth so much -/
def gK (a : FR) (F : Nat → Nat) (w : Nat → Nat) : Nat → Nat → Nat → Nat
  | 0, _, s => if s / 4096 = 0 then 0 else w (s / 4096)
  | m + 1, i, s => if s / 4096 = 0 then 0 else (10 - a 6) * gK a F w m (i + 1) (hourN a s (F i) 0 (a 27)) + a 6 * gK a F w m (i + 1) (hourN a s (F i) (a 7) (a 27))
theorem gS_1 {a : FR} {F : Nat → Nat} : ∀ m i s l, (gS a F m i s l).1 = l * gK a F (fun _ => 1) m i s
  | 0, i, s, l => by
    unfold gS gK
    by_cases z : s / 4096 = 0
    · rw [if_pos (Or.inl z), if_pos z, Nat.mul_zero]
    · rw [if_neg z, Nat.mul_one]
      by_cases y : l = 0
      · rw [if_pos (Or.inr y), y]
      · rw [if_neg (fun q => q.elim z y)]
  | m + 1, i, s, l => by
    unfold gS gK
    by_cases z : s / 4096 = 0
    · rw [if_pos (Or.inl z), if_pos z, Nat.mul_zero]
    · rw [if_neg z]
      by_cases y : l = 0
      · rw [if_pos (Or.inr y), y, Nat.zero_mul]
      · rw [if_neg (fun q => q.elim z y)]
        show (gS a F m (i + 1) _ _).1 + (gS a F m (i + 1) _ _).1 = _
        rw [gS_1 m, gS_1 m, Nat.mul_add, Nat.mul_assoc, Nat.mul_assoc]
theorem gS_2 {a : FR} {F : Nat → Nat} : ∀ m i s l, (gS a F m i s l).2 = l * gK a F (fun d => d) m i s
  | 0, i, s, l => by
    unfold gS gK
    by_cases z : s / 4096 = 0
    · rw [if_pos (Or.inl z), if_pos z, Nat.mul_zero]
    · rw [if_neg z]
      by_cases y : l = 0
      · rw [if_pos (Or.inr y), y, Nat.zero_mul]
      · rw [if_neg (fun q => q.elim z y)]
  | m + 1, i, s, l => by
    unfold gS gK
    by_cases z : s / 4096 = 0
    · rw [if_pos (Or.inl z), if_pos z, Nat.mul_zero]
    · rw [if_neg z]
      by_cases y : l = 0
      · rw [if_pos (Or.inr y), y, Nat.zero_mul]
      · rw [if_neg (fun q => q.elim z y)]
        show (gS a F m (i + 1) _ _).2 + (gS a F m (i + 1) _ _).2 = _
        rw [gS_2 m, gS_2 m, Nat.mul_add, Nat.mul_assoc, Nat.mul_assoc]
theorem gK_0 {a : FR} {F w : Nat → Nat} {m i s : Nat} (h : s / 4096 = 0) : gK a F w m i s = 0 := by
  cases m <;> (unfold gK; rw [if_pos h])
abbrev stD (x d : Nat) : Nat := x % 4096 + 4096 * d
/-- what an hour makes of weights, by what each depth is worth then -/
def wtS (a : FR) (W : Nat → Nat) (x c : Nat) (K : Nat → Nat) : Nat → Nat := fun d => if d = 0 then 0 else W d * ((10 - a 6) * K (hourN a (stD x d) c 0 (a 27) / 4096) + a 6 * K (hourN a (stD x d) c (a 7) (a 27) / 4096))
theorem wtS_z {a : FR} {W : Nat → Nat} {x c k : Nat} {K : Nat → Nat} (h : W k = 0) : wtS a W x c K k = 0 := by
  unfold wtS
  rw [h, Nat.zero_mul, ite_self]
theorem wtS_k {a : FR} {W : Nat → Nat} {x c k : Nat} {K : Nat → Nat} (h : ¬ k = 0) : wtS a W x c K k = W k * (10 - a 6) * K (hourN a (stD x k) c 0 (a 27) / 4096) + W k * a 6 * K (hourN a (stD x k) c (a 7) (a 27) / 4096) := by
  unfold wtS
  rw [if_neg h, Nat.mul_add, Nat.mul_assoc, Nat.mul_assoc]
theorem stD_d {x d : Nat} : stD x d / 4096 = d := by unfold stD; omega
theorem stD_m {x d : Nat} : stD x d % 4096 = x % 4096 := by unfold stD; omega
theorem stD_dig {x d : Nat} (g : Nat) (hg : g < 4) : stD x d / 8 ^ g % 8 = x / 8 ^ g % 8 := dig_mod stD_m g hg
theorem hourN_stD {a : FR} {x d c o dr : Nat} (hG : a 3 ≤ 4) (hC : a 1 ≤ 6) (hs : ∀ g, g < a 3 → c.testBit g = true → x / 8 ^ g % 8 < a 1) : hourN a (stD x d) c o dr = stD (hourN a x c 0 dr) (hourN a (stD x d) c o dr / 4096) := by
  have h7 : ∀ g, g < a 3 → c.testBit g = true → x / 8 ^ g % 8 < 7 := fun g hg z => by have := hs g hg z; omega
  have hl := hCs_lt x c (a 3) hG h7
  have e1 : hourN a (stD x d) c o dr % 4096 = hCs x c (a 3) := by
    unfold hourN
    rw [hCs_mod (stD_m (x := x) (d := d))]
    omega
  have e2 : hourN a x c 0 dr % 4096 = hCs x c (a 3) := by
    unfold hourN
    omega
  show _ = hourN a x c 0 dr % 4096 + 4096 * _
  rw [e2, ← e1]
  omega
theorem wt_step {a : FR} {F w W V : Nat → Nat} {m i x : Nat} (hG : a 3 ≤ 4) (hC : a 1 ≤ 6) (hs : ∀ g, g < a 3 → (F i).testBit g = true → x / 8 ^ g % 8 < a 1) (hV : ∀ K : Nat → Nat, sC (fun e => V e * K e) 10 = 10 * W 0 * K 0 + sC (wtS a W x (F i) K) 10) : sC (fun e => V e * gK a F w m (i + 1) (stD (hourN a x (F i) 0 (a 27)) e)) 10 = sC (fun e => W e * gK a F w (m + 1) i (stD x e)) 10 := by
  rw [hV (fun e => gK a F w m (i + 1) (stD (hourN a x (F i) 0 (a 27)) e)), gK_0 stD_d, Nat.mul_zero, Nat.zero_add]
  refine sC_congr 10 (fun e he => ?_)
  unfold wtS
  by_cases z : e = 0
  · rw [if_pos z, z, gK_0 stD_d, Nat.mul_zero]
  · rw [if_neg z, gK, if_neg (by rw [stD_d]; exact z), hourN_stD (o := 0) hG hC hs, hourN_stD (o := a 7) hG hC hs, stD_d, stD_d]
theorem wt_sum {a : FR} {W V : Nat → Nat} {x c : Nat} (h6 : a 6 ≤ 10) (hV : ∀ K : Nat → Nat, sC (fun e => V e * K e) 10 = 10 * W 0 * K 0 + sC (wtS a W x c K) 10) : sC V 10 = 10 * sC W 10 := by
  have h1 := hV (fun _ => 1)
  have h2 : sC (fun e => V e * (fun _ => 1) e) 10 = sC V 10 := sC_congr 10 (fun e _ => Nat.mul_one _)
  have h3 : ∀ n, sC (wtS a W x c (fun _ => 1)) (n + 1) + 10 * W 0 = 10 * sC W (n + 1) := by
    intro n
    induction n with
    | zero =>
      show 0 + wtS a W x c (fun _ => 1) 0 + 10 * W 0 = 10 * (0 + W 0)
      unfold wtS
      rw [if_pos rfl]
      omega
    | succ n ih =>
      show sC (wtS a W x c (fun _ => 1)) (n + 1) + wtS a W x c (fun _ => 1) (n + 1) + 10 * W 0 = 10 * (sC W (n + 1) + W (n + 1))
      have e : wtS a W x c (fun _ => 1) (n + 1) = 10 * W (n + 1) := by
        unfold wtS
        rw [if_neg (by omega), Nat.mul_one, Nat.mul_one, Nat.sub_add_cancel h6, Nat.mul_comm]
      rw [e]
      omega
  have h4 : sC (wtS a W x c (fun _ => 1)) 10 + 10 * W 0 = 10 * sC W 10 := h3 9
  have h5 : sC V 10 = 10 * W 0 * 1 + sC (wtS a W x c (fun _ => 1)) 10 := h2.symm.trans h1
  omega
theorem wt_end1 {a : FR} {F W : Nat → Nat} {i x : Nat} : sC (fun e => W e * gK a F (fun _ => 1) 0 i (stD x e)) 10 + W 0 = sC W 10 := by
  have h : ∀ n, sC (fun e => W e * gK a F (fun _ => 1) 0 i (stD x e)) (n + 1) + W 0 = sC W (n + 1) := by
    intro n
    induction n with
    | zero =>
      show 0 + W 0 * gK a F (fun _ => 1) 0 i (stD x 0) + W 0 = 0 + W 0
      rw [gK_0 stD_d]
      omega
    | succ n ih =>
      show sC (fun e => W e * gK a F (fun _ => 1) 0 i (stD x e)) (n + 1) + W (n + 1) * gK a F (fun _ => 1) 0 i (stD x (n + 1)) + W 0 = sC W (n + 1) + W (n + 1)
      rw [gK, if_neg (by rw [stD_d]; omega), Nat.mul_one]
      omega
  exact h 9
theorem wt_end2 {a : FR} {F W : Nat → Nat} {i x : Nat} : sC (fun e => W e * gK a F (fun d => d) 0 i (stD x e)) 10 = sC (fun e => e * W e) 10 := sC_congr 10 (fun e _ => by
  by_cases z : e = 0
  · rw [z, gK_0 stD_d]; omega
  · rw [gK, if_neg (by rw [stD_d]; exact z), stD_d, Nat.mul_comm])
theorem stD_self {s : Nat} : stD s (s / 4096) = s := by unfold stD; omega
