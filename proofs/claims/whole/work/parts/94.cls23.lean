/-! the class: learn, ways, first -/
theorem wq_cg {a c : FR} {F G : (Nat → Int32) → List (Nat → Int32)} (hF : ∀ b, F b = G b) (e1 : ∀ r, r < 8 → a (29 + r) = c (29 + r)) (e2 : ∀ r, r < 8 → a (37 + r) = c (37 + r)) {b : Nat → Int32} {p : Nat} (hp : p < 8) : ∀ i j, j + i ≤ 8 → wq a F b p i j = wq c G b p i j
  | 0, _, _ => rfl
  | i + 1, j, h => by
    rw [wq, wq, wq_cg hF e1 e2 hp i (j + 1) (by omega)]
    have e : mbP a p j ↔ mbP c p j := by unfold mbP; rw [e2 p hp, e1 p hp, e1 j (by omega)]
    by_cases w : b j = -1 ∧ mbP a p j
    · rw [if_pos w, if_pos ⟨w.1, e.mp w.2⟩, hF]
    · rw [if_neg w, if_neg (fun z => w ⟨z.1, e.mpr z.2⟩)]
theorem wl_cg {a c : FR} (e1 : ∀ r, r < 8 → a (29 + r) = c (29 + r)) (e2 : ∀ r, r < 8 → a (37 + r) = c (37 + r)) : ∀ (m p l : Nat) (b : Nat → Int32), p + m ≤ 8 → wl a m p l b = wl c m p l b
  | 0, _, _, _, _ => rfl
  | m + 1, p, l, b, h => by
    rw [wl, wl, wl_cg e1 e2 m (p + 1) l b (by omega), wq_cg (G := fun b2 => wl c m (p + 1) l b2) (fun b2 => wl_cg e1 e2 m (p + 1) l b2 (by omega)) e1 e2 (by omega) m (p + 1) (by omega), wl_cg e1 e2 m (p + 1) 0 _ (by omega), e1 p (by omega)]
theorem WL_cg {a c : FR} (h8 : a 4 ≤ 8) (e0 : a 4 = c 4) (e1 : ∀ r, r < 8 → a (29 + r) = c (29 + r)) (e2 : ∀ r, r < 8 → a (37 + r) = c (37 + r)) : WL a = WL c := by
  unfold WL
  rw [← e0]
  exact wl_cg e1 e2 _ _ _ _ (by omega)
theorem L8_inj {f g : Nat → Nat} (hf : ∀ p, p < 8 → f p < 256) (hg : ∀ p, p < 8 → g p < 256) (e : lN (pkL (L8 f)) = lN (pkL (L8 g))) : ∀ r, r < 8 → f r = g r := fun r hr => by
  have e2 : pkL (L8 f) = pkL (L8 g) := by
    have e3 : BitVec.ofNat 64 (pkL (L8 f)) = BitVec.ofNat 64 (pkL (L8 g)) := congrArg Int64.toBitVec e
    have e4 := congrArg BitVec.toNat e3
    rw [BitVec.toNat_ofNat, BitVec.toNat_ofNat, Nat.mod_eq_of_lt (L8_lt hf), Nat.mod_eq_of_lt (L8_lt hg)] at e4
    exact e4
  rw [← L8_byte hf hr, ← L8_byte hg hr, e2]
def Hb (a : FR) : Prop := a 4 ≤ 8 ∧ (∀ p, p < 8 → (fun r => a (29 + r)) p < 256) ∧ ∀ p, p < 8 → (fun r => a (37 + r)) p < 256
theorem AIN.hb {a : FR} (h : AIN a) : Hb a := ⟨h.P, fun p hp => by have := h.2.1.2.2.2.2.1 p hp; show a (29 + p) < 256; rw [show 29 + p = 22 + (7 + p) by omega]; exact this, fun p hp => by have := h.2.1.2.2.2.2.2 p hp; show a (37 + p) < 256; rw [show 37 + p = 22 + (15 + p) by omega]; exact this⟩
def SYd (a : FR) (h : Hp) : Prop := ∃ f pa tg, SYq a (a 4) h (WL a).length f pa tg ∧ (∀ p, p < a 4 → WL a ≠ [] → f p = nself (headL (WL a) p) (nI p)) ∧ (∀ p, p < a 4 → tg (8 * p + p) = 0) ∧ ∀ p q, p < a 4 → q < a 4 → p ≠ q → tg (8 * p + q) = nI (cntW a (nI p) (nI q))
def SY0 (h : Hp) : Prop := ∃ (wy : Int32) (bo un : Int64) (f pa tg : Nat → Int32), h.1 90 = some (.inr (4, [.int wy, .ref 91, .int (-1), .long bo, .long un, .ref 92, .ref 93])) ∧ h.1 91 = some (aI 8 f) ∧ h.1 92 = some (aI 8 pa) ∧ h.1 93 = some (aI 64 tg)
def MY (h : Hp) : Prop := SY0 h ∨ ∃ c : FR, Hb c ∧ SYd c h
theorem SYd.cg {a c : FR} {h : Hp} (x : SYd c h) (ha : Hb a) (e0 : a 4 = c 4) (e1 : ∀ r, r < 8 → a (29 + r) = c (29 + r)) (e2 : ∀ r, r < 8 → a (37 + r) = c (37 + r)) : SYd a h := by
  obtain ⟨f, pa, tg, ⟨x1, x2, x3, x4⟩, x5, x6, x7⟩ := x
  have ew := WL_cg ha.1 e0 e1 e2
  have ec : ∀ o q, cntW a o q = cntW c o q := fun o q => by unfold cntW; rw [ew]
  refine ⟨f, pa, tg, ⟨?_, x2, x3, x4⟩, ?_, ?_, ?_⟩
  · rw [x1, ew, e0, L8_congr (f := fun r => a (29 + r)) (g := fun r => c (29 + r)) e1, L8_congr (f := fun r => a (37 + r)) (g := fun r => c (37 + r)) e2]
  · rw [ew, e0]; exact x5
  · rw [e0]; exact x6
  · intro p q hp hq hpq; rw [ec]; exact x7 p q (e0 ▸ hp) (e0 ▸ hq) hpq
theorem MY.gen {h : Hp} (x : MY h) : ∃ (wy pe : Int32) (bo un : Int64) (f pa tg : Nat → Int32), (h.1 90 = some (.inr (4, [.int wy, .ref 91, .int pe, .long bo, .long un, .ref 92, .ref 93])) ∧ h.1 91 = some (aI 8 f) ∧ h.1 92 = some (aI 8 pa) ∧ h.1 93 = some (aI 64 tg)) ∧ ∀ a : FR, Hb a → pe = nI (a 4) → bo = lN (pkL (L8 (fun r => a (29 + r)))) → un = lN (pkL (L8 (fun r => a (37 + r)))) → SYd a h := by
  rcases x with ⟨wy, bo, un, f, pa, tg, c⟩ | ⟨c, hc, hs⟩
  · exact ⟨wy, -1, bo, un, f, pa, tg, c, fun a ha e _ _ => absurd e (nI_m1 (by have := ha.1; omega))⟩
  · obtain ⟨f, pa, tg, ⟨x1, x2, x3, x4⟩, _⟩ := id hs
    exact ⟨_, _, _, _, f, pa, tg, ⟨x1, x2, x3, x4⟩, fun a ha e0 e1 e2 => hs.cg ha ((nI_eq (by have := hc.1; omega) (by have := ha.1; omega)).mp e0).symm (fun r hr => (L8_inj hc.2.1 ha.2.1 e1 r hr).symm) (fun r hr => (L8_inj hc.2.2 ha.2.2 e2 r hr).symm)⟩
theorem FM.all {P : Nat} (h : P ≤ 8) : FM (fun _ => -1) P (2 ^ P - 1) := by
  have h2 : 2 ^ P ≤ 2 ^ 8 := Nat.pow_le_pow_right (by decide) h
  refine ⟨by omega, fun q hq => ?_, fun q hq => ?_⟩
  · rw [Nat.testBit_two_pow_sub_one]; simp; omega
  · rw [Nat.testBit_two_pow_sub_one]; simp [hq]
theorem SYd.of {a : FR} {h : Hp} {n2 : Nat} {f tg f2 pa2 tg2 : Nat → Int32} (hP : a 4 ≤ 8) (x : SYq a (a 4) h n2 f2 pa2 tg2) (s : SW (a 4) 0 f tg (WL a) n2 f2 tg2) (z : ∀ j, j < 64 → tg j = 0) : SYd a h := by
  obtain ⟨s1, s2, s3, s4⟩ := s
  rw [Nat.zero_add] at s1
  subst s1
  exact ⟨f2, pa2, tg2, x, fun p hp hw => by rw [s2 p hp, if_pos ⟨rfl, fun e => hw (List.length_eq_zero_iff.mp e)⟩], fun p hp => by rw [s3 p hp, z _ (by omega)], fun p q hp hq hpq => by rw [s4 p q hp hq hpq, z _ (by omega), Int32.zero_add]; rfl⟩
set_option maxRecDepth 20000 in
set_option maxHeartbeats 1000000 in
theorem c_learn {E : EnvT} {d : Nat} {h0 : Hp} {a : FR} (hY : MY h0) (ha : Hb a) (hd : 12 ≤ d) : Cn E mX4_learn d [.ref 90, .int (nI (a 4)), .long (lN (pkL (L8 (fun r => a (29 + r))))), .long (lN (pkL (L8 (fun r => a (37 + r)))))] h0 (fun r h2 => r = none ∧ Ex XS h0 h2 ∧ SYd a h2) := by
  obtain ⟨wy, pe, bo, un, f, pa, tg, ⟨c90, c91, c92, c93⟩, hgen⟩ := hY.gen
  have h8 := ha.1
  have again : Fr E mX4_learn d 28 [.ref 90, .int (nI (a 4)), .long (lN (pkL (L8 (fun r => a (29 + r))))), .float 0, .long (lN (pkL (L8 (fun r => a (37 + r))))), .float 0] [] h0 (fun r h2 => r = none ∧ Ex XS h0 h2 ∧ SYd a h2) := by
    have hx : Ex XS h0 h0 := Ex.rf
    by_cases ho : a 4 % 2 = 1
    · have hW : wl a (a 4) 0 1 (fun _ => -1) = WL a := by unfold WL; rw [ho]
      refine r_aload_n (pc2 := 29) 0 dX4_learn_28 rfl rfl rfl rfl ?_
      refine r_iload_n (pc2 := 30) 1 dX4_learn_29 rfl rfl rfl ?_
      refine r_bipush (pc2 := 32) (v := 8) dX4_learn_30 (by decide) rfl ?_
      refine r_callS1 (pc2 := 35) (As := [.int (nI (a 4)), .int 8]) (st := [.ref 90]) kX4_32 dX4_learn_32 rfl rfl (Nat.le_of_ble_eq_true rfl) (by omega) ((c_min _ _).mono fun r h2 q => ⟨q.1.trans (by rw [if_pos (show nI (a 4) ≤ 8 from nI_le (b := 8) ha.1 (by decide))]), q.2⟩) rfl (fun h2 hq32 => ?_)
      subst hq32
      refine r_putfX (pc2 := 38) [.int wy, .ref 91, .int (nI (a 4)), .long bo, .long un, .ref 92, .ref 93] fX4_15 dX4_learn_35 c90 (by decide) (Nat.le_of_ble_eq_true rfl) rfl rfl rfl (fun h z35 o35 c90 => ?_)
      have c91 := (o35 91 (by decide)).trans c91
      have c92 := (o35 92 (by decide)).trans c92
      have c93 := (o35 93 (by decide)).trans c93
      have hx := hx.step (a := 90) (by simp) z35 o35
      refine r_aload_n (pc2 := 39) 0 dX4_learn_38 rfl rfl rfl rfl ?_
      refine r_lload_n (pc2 := 40) 2 dX4_learn_39 rfl rfl rfl ?_
      refine r_putfX (pc2 := 43) [.int wy, .ref 91, .int (nI (a 4)), .long (lN (pkL (L8 (fun r => a (29 + r))))), .long un, .ref 92, .ref 93] fX4_25 dX4_learn_40 c90 (by decide) (Nat.le_of_ble_eq_true rfl) rfl rfl rfl (fun h z40 o40 c90 => ?_)
      have c91 := (o40 91 (by decide)).trans c91
      have c92 := (o40 92 (by decide)).trans c92
      have c93 := (o40 93 (by decide)).trans c93
      have hx := hx.step (a := 90) (by simp) z40 o40
      refine r_aload_n (pc2 := 44) 0 dX4_learn_43 rfl rfl rfl rfl ?_
      refine r_lload (pc2 := 46) 4 dX4_learn_44 rfl rfl ?_
      refine r_putfX (pc2 := 49) [.int wy, .ref 91, .int (nI (a 4)), .long (lN (pkL (L8 (fun r => a (29 + r))))), .long (lN (pkL (L8 (fun r => a (37 + r))))), .ref 92, .ref 93] fX4_29 dX4_learn_46 c90 (by decide) (Nat.le_of_ble_eq_true rfl) rfl rfl rfl (fun h z46 o46 c90 => ?_)
      have c91 := (o46 91 (by decide)).trans c91
      have c92 := (o46 92 (by decide)).trans c92
      have c93 := (o46 93 (by decide)).trans c93
      have hx := hx.step (a := 90) (by simp) z46 o46
      refine r_aload_n (pc2 := 50) 0 dX4_learn_49 rfl rfl rfl rfl ?_
      refine r_iconst (pc2 := 51) (v := 0) dX4_learn_50 (by decide) rfl ?_
      refine r_putfX (pc2 := 54) [.int 0, .ref 91, .int (nI (a 4)), .long (lN (pkL (L8 (fun r => a (29 + r))))), .long (lN (pkL (L8 (fun r => a (37 + r))))), .ref 92, .ref 93] fX4_38 dX4_learn_51 c90 (by decide) (Nat.le_of_ble_eq_true rfl) rfl rfl rfl (fun h z51 o51 c90 => ?_)
      have c91 := (o51 91 (by decide)).trans c91
      have c92 := (o51 92 (by decide)).trans c92
      have c93 := (o51 93 (by decide)).trans c93
      have hx := hx.step (a := 90) (by simp) z51 o51
      refine r_aload_n (pc2 := 55) 0 dX4_learn_54 rfl rfl rfl rfl ?_
      refine r_getf (pc2 := 58) (v := .ref 93) fX4_22 dX4_learn_55 c90 (by decide) rfl rfl ?_
      refine r_iconst (pc2 := 59) (v := 0) dX4_learn_58 (by decide) rfl ?_
      refine r_callS0 (pc2 := 62) (As := [.ref 93, .int 0]) (st := []) kX4_41 dX4_learn_59 rfl rfl (Nat.le_of_ble_eq_true rfl) (by omega) (c_fillI c93 (by decide) (by decide)) rfl (fun h hq59 => ?_)
      obtain ⟨hxf, tg0, c93, hz⟩ := hq59
      have c90 := hxf.get (by decide) c90
      have c91 := hxf.get (by decide) c91
      have c92 := hxf.get (by decide) c92
      have hx := hx.trans hxf (by simp)
      refine r_aload_n (pc2 := 63) 0 dX4_learn_62 rfl rfl rfl rfl ?_
      refine r_iconst (pc2 := 64) (v := 1) dX4_learn_63 (by decide) rfl ?_
      refine r_aload_n (pc2 := 65) 0 dX4_learn_64 rfl rfl rfl rfl ?_
      refine r_getf (pc2 := 68) (v := .int (nI (a 4))) fX4_15 dX4_learn_65 c90 (by decide) rfl rfl ?_
      refine r_ishl (pc2 := 69) dX4_learn_68 rfl ?_
      refine r_cast (nI (2 ^ a 4)) (shl1 _ (by omega)) ?_
      refine r_iconst (pc2 := 70) (v := 1) dX4_learn_69 (by decide) rfl ?_
      refine r_isub (pc2 := 71) dX4_learn_70 rfl ?_
      refine r_cast (nI (2 ^ a 4 - 1)) (pk_sub (b := 1) (Nat.one_le_two_pow)) ?_
      refine r_aload_n (pc2 := 72) 0 dX4_learn_71 rfl rfl rfl rfl ?_
      refine r_getf (pc2 := 75) (v := .int (nI (a 4))) fX4_15 dX4_learn_72 c90 (by decide) rfl rfl ?_
      refine r_iconst (pc2 := 76) (v := 2) dX4_learn_75 (by decide) rfl ?_
      refine r_irem (pc2 := 77) dX4_learn_76 (by decide) rfl ?_
      refine r_cast (nI (a 4 % 2)) (pk_rem (d := 2) (by omega) (by decide) (by decide)) ?_
      refine r_iconst (pc2 := 78) (v := 1) dX4_learn_77 (by decide) rfl ?_
      refine r_icmp_ne (tgt := 85) (pc2 := 81) dX4_learn_78 (by decide) rfl (fun b78 => ?_) (fun b78 => ?_)
      · exact absurd (by rw [ho]; rfl) b78
      · skip
        refine r_iconst (pc2 := 82) (v := 1) dX4_learn_81 (by decide) rfl ?_
        refine r_goto (pc2 := 86) dX4_learn_82 (by decide) ?_
        refine r_iconst (pc2 := 87) (v := 0) dX4_learn_86 (by decide) rfl ?_
        refine r_callV0 (pc2 := 90) (As := [.int (nI (2 ^ a 4 - 1)), .int 1, .int 0]) (st := []) kX4_47 rfl rfl dX4_learn_87 c90 (by decide) rfl rfl (Nat.le_of_ble_eq_true rfl) (by omega) (c_bindLeast (a := a) ha.1 ha.2.1 ha.2.2 (a 4) 0 1 0 (d - 1) (2 ^ a 4 - 1) 0 (fun _ => -1) f pa tg0 h (by omega) (by omega) (by omega) (by omega) (FM.all ha.1) (fun q hq => absurd hq (by omega)) (fun q _ hb => absurd rfl hb) (by rw [hW]; have := WL_len ha.1; omega) ⟨c90, c91, c92, c93⟩) rfl (fun h hq87 => ?_)
        obtain ⟨hxr, n2, f2, pa2, tg2, hS, hs, _⟩ := hq87
        have hx := hx.trans hxr (fun _ z => z)
        exact r_vret rfl dX4_learn_90 ⟨rfl, hx, SYd.of ha.1 hS (by rw [← hW]; exact hs) hz⟩
    · have hW : wl a (a 4) 0 0 (fun _ => -1) = WL a := by unfold WL; rw [show a 4 % 2 = 0 by omega]
      refine r_aload_n (pc2 := 29) 0 dX4_learn_28 rfl rfl rfl rfl ?_
      refine r_iload_n (pc2 := 30) 1 dX4_learn_29 rfl rfl rfl ?_
      refine r_bipush (pc2 := 32) (v := 8) dX4_learn_30 (by decide) rfl ?_
      refine r_callS1 (pc2 := 35) (As := [.int (nI (a 4)), .int 8]) (st := [.ref 90]) kX4_32 dX4_learn_32 rfl rfl (Nat.le_of_ble_eq_true rfl) (by omega) ((c_min _ _).mono fun r h2 q => ⟨q.1.trans (by rw [if_pos (show nI (a 4) ≤ 8 from nI_le (b := 8) ha.1 (by decide))]), q.2⟩) rfl (fun h2 hq32 => ?_)
      subst hq32
      refine r_putfX (pc2 := 38) [.int wy, .ref 91, .int (nI (a 4)), .long bo, .long un, .ref 92, .ref 93] fX4_15 dX4_learn_35 c90 (by decide) (Nat.le_of_ble_eq_true rfl) rfl rfl rfl (fun h z35 o35 c90 => ?_)
      have c91 := (o35 91 (by decide)).trans c91
      have c92 := (o35 92 (by decide)).trans c92
      have c93 := (o35 93 (by decide)).trans c93
      have hx := hx.step (a := 90) (by simp) z35 o35
      refine r_aload_n (pc2 := 39) 0 dX4_learn_38 rfl rfl rfl rfl ?_
      refine r_lload_n (pc2 := 40) 2 dX4_learn_39 rfl rfl rfl ?_
      refine r_putfX (pc2 := 43) [.int wy, .ref 91, .int (nI (a 4)), .long (lN (pkL (L8 (fun r => a (29 + r))))), .long un, .ref 92, .ref 93] fX4_25 dX4_learn_40 c90 (by decide) (Nat.le_of_ble_eq_true rfl) rfl rfl rfl (fun h z40 o40 c90 => ?_)
      have c91 := (o40 91 (by decide)).trans c91
      have c92 := (o40 92 (by decide)).trans c92
      have c93 := (o40 93 (by decide)).trans c93
      have hx := hx.step (a := 90) (by simp) z40 o40
      refine r_aload_n (pc2 := 44) 0 dX4_learn_43 rfl rfl rfl rfl ?_
      refine r_lload (pc2 := 46) 4 dX4_learn_44 rfl rfl ?_
      refine r_putfX (pc2 := 49) [.int wy, .ref 91, .int (nI (a 4)), .long (lN (pkL (L8 (fun r => a (29 + r))))), .long (lN (pkL (L8 (fun r => a (37 + r))))), .ref 92, .ref 93] fX4_29 dX4_learn_46 c90 (by decide) (Nat.le_of_ble_eq_true rfl) rfl rfl rfl (fun h z46 o46 c90 => ?_)
      have c91 := (o46 91 (by decide)).trans c91
      have c92 := (o46 92 (by decide)).trans c92
      have c93 := (o46 93 (by decide)).trans c93
      have hx := hx.step (a := 90) (by simp) z46 o46
      refine r_aload_n (pc2 := 50) 0 dX4_learn_49 rfl rfl rfl rfl ?_
      refine r_iconst (pc2 := 51) (v := 0) dX4_learn_50 (by decide) rfl ?_
      refine r_putfX (pc2 := 54) [.int 0, .ref 91, .int (nI (a 4)), .long (lN (pkL (L8 (fun r => a (29 + r))))), .long (lN (pkL (L8 (fun r => a (37 + r))))), .ref 92, .ref 93] fX4_38 dX4_learn_51 c90 (by decide) (Nat.le_of_ble_eq_true rfl) rfl rfl rfl (fun h z51 o51 c90 => ?_)
      have c91 := (o51 91 (by decide)).trans c91
      have c92 := (o51 92 (by decide)).trans c92
      have c93 := (o51 93 (by decide)).trans c93
      have hx := hx.step (a := 90) (by simp) z51 o51
      refine r_aload_n (pc2 := 55) 0 dX4_learn_54 rfl rfl rfl rfl ?_
      refine r_getf (pc2 := 58) (v := .ref 93) fX4_22 dX4_learn_55 c90 (by decide) rfl rfl ?_
      refine r_iconst (pc2 := 59) (v := 0) dX4_learn_58 (by decide) rfl ?_
      refine r_callS0 (pc2 := 62) (As := [.ref 93, .int 0]) (st := []) kX4_41 dX4_learn_59 rfl rfl (Nat.le_of_ble_eq_true rfl) (by omega) (c_fillI c93 (by decide) (by decide)) rfl (fun h hq59 => ?_)
      obtain ⟨hxf, tg0, c93, hz⟩ := hq59
      have c90 := hxf.get (by decide) c90
      have c91 := hxf.get (by decide) c91
      have c92 := hxf.get (by decide) c92
      have hx := hx.trans hxf (by simp)
      refine r_aload_n (pc2 := 63) 0 dX4_learn_62 rfl rfl rfl rfl ?_
      refine r_iconst (pc2 := 64) (v := 1) dX4_learn_63 (by decide) rfl ?_
      refine r_aload_n (pc2 := 65) 0 dX4_learn_64 rfl rfl rfl rfl ?_
      refine r_getf (pc2 := 68) (v := .int (nI (a 4))) fX4_15 dX4_learn_65 c90 (by decide) rfl rfl ?_
      refine r_ishl (pc2 := 69) dX4_learn_68 rfl ?_
      refine r_cast (nI (2 ^ a 4)) (shl1 _ (by omega)) ?_
      refine r_iconst (pc2 := 70) (v := 1) dX4_learn_69 (by decide) rfl ?_
      refine r_isub (pc2 := 71) dX4_learn_70 rfl ?_
      refine r_cast (nI (2 ^ a 4 - 1)) (pk_sub (b := 1) (Nat.one_le_two_pow)) ?_
      refine r_aload_n (pc2 := 72) 0 dX4_learn_71 rfl rfl rfl rfl ?_
      refine r_getf (pc2 := 75) (v := .int (nI (a 4))) fX4_15 dX4_learn_72 c90 (by decide) rfl rfl ?_
      refine r_iconst (pc2 := 76) (v := 2) dX4_learn_75 (by decide) rfl ?_
      refine r_irem (pc2 := 77) dX4_learn_76 (by decide) rfl ?_
      refine r_cast (nI (a 4 % 2)) (pk_rem (d := 2) (by omega) (by decide) (by decide)) ?_
      refine r_iconst (pc2 := 78) (v := 1) dX4_learn_77 (by decide) rfl ?_
      refine r_icmp_ne (tgt := 85) (pc2 := 81) dX4_learn_78 (by decide) rfl (fun b78 => ?_) (fun b78 => ?_)
      · skip
        refine r_iconst (pc2 := 86) (v := 0) dX4_learn_85 (by decide) rfl ?_
        refine r_iconst (pc2 := 87) (v := 0) dX4_learn_86 (by decide) rfl ?_
        refine r_callV0 (pc2 := 90) (As := [.int (nI (2 ^ a 4 - 1)), .int 0, .int 0]) (st := []) kX4_47 rfl rfl dX4_learn_87 c90 (by decide) rfl rfl (Nat.le_of_ble_eq_true rfl) (by omega) (c_bindLeast (a := a) ha.1 ha.2.1 ha.2.2 (a 4) 0 0 0 (d - 1) (2 ^ a 4 - 1) 0 (fun _ => -1) f pa tg0 h (by omega) (by omega) (by omega) (by omega) (FM.all ha.1) (fun q hq => absurd hq (by omega)) (fun q _ hb => absurd rfl hb) (by rw [hW]; have := WL_len ha.1; omega) ⟨c90, c91, c92, c93⟩) rfl (fun h hq87 => ?_)
        obtain ⟨hxr, n2, f2, pa2, tg2, hS, hs, _⟩ := hq87
        have hx := hx.trans hxr (fun _ z => z)
        exact r_vret rfl dX4_learn_90 ⟨rfl, hx, SYd.of ha.1 hS (by rw [← hW]; exact hs) hz⟩
      · exact absurd ((nI_eq (b := 1) (by omega) (by decide)).mp b78) ho
  refine Cn.go (ls := [.ref 90, .int (nI (a 4)), .long (lN (pkL (L8 (fun r => a (29 + r))))), .float 0, .long (lN (pkL (L8 (fun r => a (37 + r))))), .float 0]) (by decide +kernel) rfl (Nat.le_of_ble_eq_true rfl) ?_
  refine r_aload_n (pc2 := 1) 0 dX4_learn_0 rfl rfl rfl rfl ?_
  refine r_getf (pc2 := 4) (v := .int pe) fX4_15 dX4_learn_1 c90 (by decide) rfl rfl ?_
  refine r_iload_n (pc2 := 5) 1 dX4_learn_4 rfl rfl rfl ?_
  refine r_icmp_ne (tgt := 28) (pc2 := 8) dX4_learn_5 (by decide) rfl (fun b5 => ?_) (fun b5 => ?_)
  · skip
    exact again
  · skip
    refine r_aload_n (pc2 := 9) 0 dX4_learn_8 rfl rfl rfl rfl ?_
    refine r_getf (pc2 := 12) (v := .long bo) fX4_25 dX4_learn_9 c90 (by decide) rfl rfl ?_
    refine r_lload_n (pc2 := 13) 2 dX4_learn_12 rfl rfl rfl ?_
    refine r_lcmp (pc2 := 14) dX4_learn_13 rfl ?_
    refine r_if_ne (tgt := 28) (pc2 := 17) dX4_learn_14 (by decide) rfl (fun b14 => ?_) (fun b14 => ?_)
    · skip
      exact again
    · skip
      refine r_aload_n (pc2 := 18) 0 dX4_learn_17 rfl rfl rfl rfl ?_
      refine r_getf (pc2 := 21) (v := .long un) fX4_29 dX4_learn_18 c90 (by decide) rfl rfl ?_
      refine r_lload (pc2 := 23) 4 dX4_learn_21 rfl rfl ?_
      refine r_lcmp (pc2 := 24) dX4_learn_23 rfl ?_
      refine r_if_ne (tgt := 28) (pc2 := 27) dX4_learn_24 (by decide) rfl (fun b24 => ?_) (fun b24 => ?_)
      · skip
        exact again
      · skip
        exact r_vret rfl dX4_learn_27 ⟨rfl, Ex.rf, hgen a ha (b5) ((lgc_eq _ _).mp (b14)) ((lgc_eq _ _).mp (b24))⟩
set_option maxRecDepth 20000 in
set_option maxHeartbeats 1000000 in
theorem c_learnSays {E : EnvT} {d : Nat} {h0 : Hp} {ns s w1 w2 : Nat} {wk dt : Value} {Z : Nat → Prop} {reg : Nat → FR} {sg kd : Nat} {a b : FR} (hN : NW h0 s ns w1 w2 wk dt a) (hD : DV Z h0 reg ns s sg kd b) (hA : AIN a) (hst : Stat a b) (hY : MY h0) (hd : 13 ≤ d) : Cn E mX9_learnSays d [.ref 64] h0 (fun r h2 => r = some (.ref 90) ∧ Ex XS h0 h2 ∧ SYd a h2) := by
  obtain ⟨c64, c76, h77, hM⟩ := id hN
  obtain ⟨hL, hS, hZ, hb, hreg, hsg, hns, hn, zs⟩ := id hD
  have hs64 := (hZ.zl s zs).1
  obtain ⟨lo, so, sa, nl, sl, _, cs, _⟩ := id hS
  have st4 : a 4 = b 4 := hst 4 (by omega)
  have ha := hA.hb
  obtain ⟨wy, pe, bo, un, f, pa, tg, ⟨c90, _, _, _⟩, _⟩ := hY.gen
  refine Cn.go (ls := [.ref 64]) (by decide +kernel) rfl (Nat.le_of_ble_eq_true rfl) ?_
  refine r_aload_n (pc2 := 1) 0 dX9_learnSays_0 rfl rfl rfl rfl ?_
  refine r_getf (pc2 := 4) (v := .ref 90) fX9_62 dX9_learnSays_1 c64 (by decide) rfl rfl ?_
  refine r_aload_n (pc2 := 5) 0 dX9_learnSays_4 rfl rfl rfl rfl ?_
  refine r_getf (pc2 := 8) (v := .ref s) fX9_21 dX9_learnSays_5 c64 (by decide) rfl rfl ?_
  refine r_getf (pc2 := 11) (v := .int (nI (b 4))) fX9_177 dX9_learnSays_8 cs hs64 rfl rfl ?_
  refine r_cast (nI (a 4)) (by rw [st4]) ?_
  refine r_aload_n (pc2 := 12) 0 dX9_learnSays_11 rfl rfl rfl rfl ?_
  refine r_getf (pc2 := 15) (v := .ref 76) fX9_28 dX9_learnSays_12 c64 (by decide) rfl rfl ?_
  refine r_getf (pc2 := 18) (v := .long (bL (keepV a) 7)) fX9_284 dX9_learnSays_15 c76 (by decide) rfl rfl ?_
  refine r_castl (lN (pkL (L8 (fun r => a (29 + r))))) (bo_eq a 7) ?_
  refine r_aload_n (pc2 := 19) 0 dX9_learnSays_18 rfl rfl rfl rfl ?_
  refine r_getf (pc2 := 22) (v := .ref 76) fX9_28 dX9_learnSays_19 c64 (by decide) rfl rfl ?_
  refine r_getf (pc2 := 25) (v := .long (bL (keepV a) 15)) fX9_288 dX9_learnSays_22 c76 (by decide) rfl rfl ?_
  refine r_castl (lN (pkL (L8 (fun r => a (37 + r))))) (bo_eq a 15) ?_
  refine r_callV0 (pc2 := 28) (As := [.int (nI (a 4)), .long (lN (pkL (L8 (fun r => a (29 + r))))), .long (lN (pkL (L8 (fun r => a (37 + r)))))]) (st := []) kX9_291 rfl rfl dX9_learnSays_25 c90 (by decide) rfl rfl (Nat.le_of_ble_eq_true rfl) (by omega) (c_learn (a := a) hY ha (by omega)) rfl (fun h hq25 => ?_)
  obtain ⟨hxl, hSY⟩ := hq25
  have c64 := hxl.get (by decide) c64
  refine r_aload_n (pc2 := 29) 0 dX9_learnSays_28 rfl rfl rfl rfl ?_
  refine r_getf (pc2 := 32) (v := .ref 90) fX9_62 dX9_learnSays_29 c64 (by decide) rfl rfl ?_
  exact r_aret rfl (Or.inl ⟨_, rfl⟩) rfl dX9_learnSays_32 ⟨rfl, hxl, hSY⟩
theorem NW.xs {h h2 : Hp} {s ns w1 w2 : Nat} {wk dt : Value} {a : FR} (x : NW h s ns w1 w2 wk dt a) (h10 : a 45 ≤ 10) (e : Ex XS h h2) : NW h2 s ns w1 w2 wk dt a := x.frame h10 (fun q hq => e.2 q (by simp; omega))
set_option maxRecDepth 20000 in
set_option maxHeartbeats 1000000 in
theorem cl_ways {E : EnvT} {d : Nat} {h0 : Hp} {ns s w1 w2 : Nat} {wk dt : Value} {Z : Nat → Prop} {reg : Nat → FR} {sg kd : Nat} {a b : FR} (hN : NW h0 s ns w1 w2 wk dt a) (hD : DV Z h0 reg ns s sg kd b) (hA : AIN a) (hst : Stat a b) (hY : MY h0) (hd : 14 ≤ d) : Cn E mX9_ways d [.ref 64] h0 (fun r h2 => r = some (.int (waysF a)) ∧ Ex XS h0 h2 ∧ MY h2) := by
  obtain ⟨c64, c76, h77, hM⟩ := id hN
  obtain ⟨hL, hS, hZ, hb, hreg, hsg, hns, hn, zs⟩ := id hD
  have hs64 := (hZ.zl s zs).1
  obtain ⟨lo, so, sa, nl, sl, _, cs, _⟩ := id hS
  have st4 : a 4 = b 4 := hst 4 (by omega)
  have ha := hA.hb
  refine Cn.go (ls := [.ref 64]) (by decide +kernel) rfl (Nat.le_of_ble_eq_true rfl) ?_
  refine r_aload_n (pc2 := 1) 0 dX9_ways_0 rfl rfl rfl rfl ?_
  refine r_callV1 (pc2 := 4) (As := []) (st := []) kX9_203 rfl rfl dX9_ways_1 c64 (by decide) rfl rfl (Nat.le_of_ble_eq_true rfl) (by omega) (c_learnSays hN hD hA hst hY (by omega)) rfl (fun h hq1 => ?_)
  obtain ⟨hxl, hSY⟩ := hq1
  have c64 := hxl.get (by decide) c64
  obtain ⟨f, pa, tg, ⟨c90, c91, c92, c93⟩, hf, ht0, htg⟩ := id hSY
  refine r_getf (pc2 := 7) (v := .int (nI (WL a).length)) fX9_207 dX9_ways_4 c90 (by decide) rfl rfl ?_
  exact r_iret rfl dX9_ways_7 ⟨rfl, hxl, Or.inr ⟨a, ha, hSY⟩⟩
set_option maxRecDepth 20000 in
set_option maxHeartbeats 1000000 in
theorem cl_first {E : EnvT} {d : Nat} {h0 : Hp} {ns s w1 w2 : Nat} {wk dt : Value} {Z : Nat → Prop} {reg : Nat → FR} {sg kd : Nat} {a b : FR} {x : Int32} (hN : NW h0 s ns w1 w2 wk dt a) (hD : DV Z h0 reg ns s sg kd b) (hA : AIN a) (hst : Stat a b) (hY : MY h0) (hd : 14 ≤ d) : Cn E mX9_first d [.ref 64, .int x] h0 (fun r h2 => r = some (.int (firstF a x)) ∧ Ex XS h0 h2 ∧ MY h2) := by
  obtain ⟨c64, c76, h77, hM⟩ := id hN
  obtain ⟨hL, hS, hZ, hb, hreg, hsg, hns, hn, zs⟩ := id hD
  have hs64 := (hZ.zl s zs).1
  obtain ⟨lo, so, sa, nl, sl, _, cs, _⟩ := id hS
  have st4 : a 4 = b 4 := hst 4 (by omega)
  have ha := hA.hb
  by_cases hx : inP (a 4) x
  · have h8 := ha.1
    obtain ⟨p, hp, rfl⟩ := inP_of (by omega) hx
    by_cases hw : WL a = []
    · skip
      refine Cn.go (ls := [.ref 64, .int (nI p), .float 0]) (by decide +kernel) rfl (Nat.le_of_ble_eq_true rfl) ?_
      refine r_aload_n (pc2 := 1) 0 dX9_first_0 rfl rfl rfl rfl ?_
      refine r_iload_n (pc2 := 2) 1 dX9_first_1 rfl rfl rfl ?_
      refine r_callV1 (pc2 := 5) (As := [.int (nI p)]) (st := []) kX9_169 rfl rfl dX9_first_2 c64 (by decide) rfl rfl (Nat.le_of_ble_eq_true rfl) (by omega) ((c_isPersonC c64 cs hs64 hb.1.2.2.2.1).mono fun r h2 q => ⟨q.1.trans (by rw [← st4, if_pos hx]), q.2⟩) rfl (fun h2 hq2 => ?_)
      subst hq2
      refine r_if_ne (tgt := 11) (pc2 := 8) dX9_first_5 (by decide) rfl (fun b5 => ?_) (fun b5 => ?_)
      · skip
        refine r_aload_n (pc2 := 12) 0 dX9_first_11 rfl rfl rfl rfl ?_
        refine r_callV1 (pc2 := 15) (As := []) (st := []) kX9_203 rfl rfl dX9_first_12 c64 (by decide) rfl rfl (Nat.le_of_ble_eq_true rfl) (by omega) (c_learnSays hN hD hA hst hY (by omega)) rfl (fun h hq12 => ?_)
        obtain ⟨hxl, hSY⟩ := hq12
        have c64 := hxl.get (by decide) c64
        have cs := hxl.get (by have := hZ s zs; simp; omega) cs
        obtain ⟨f, pa, tg, ⟨c90, c91, c92, c93⟩, hf, ht0, htg⟩ := id hSY
        refine r_astore_n (pc2 := 16) (ls2 := [.ref 64, .int (nI p), .ref 90]) 2 dX9_first_15 rfl (by decide) rfl rfl rfl rfl ?_
        refine r_aload_n (pc2 := 17) 2 dX9_first_16 rfl rfl rfl rfl ?_
        refine r_getf (pc2 := 20) (v := .int (nI (WL a).length)) fX9_207 dX9_first_17 c90 (by decide) rfl rfl ?_
        refine r_if_ne (tgt := 27) (pc2 := 23) dX9_first_20 (by decide) rfl (fun b20 => ?_) (fun b20 => ?_)
        · exact absurd (by rw [hw]; rfl) b20
        · skip
          refine r_iconst (pc2 := 24) (v := -1) dX9_first_23 (by decide) rfl ?_
          refine r_goto (pc2 := 33) dX9_first_24 (by decide) ?_
          exact r_iret rfl dX9_first_33 ⟨by unfold firstF; rw [if_pos hx, if_pos hw], hxl, Or.inr ⟨a, ha, hSY⟩⟩
      · exact absurd b5 (by decide)
    · skip
      refine Cn.go (ls := [.ref 64, .int (nI p), .float 0]) (by decide +kernel) rfl (Nat.le_of_ble_eq_true rfl) ?_
      refine r_aload_n (pc2 := 1) 0 dX9_first_0 rfl rfl rfl rfl ?_
      refine r_iload_n (pc2 := 2) 1 dX9_first_1 rfl rfl rfl ?_
      refine r_callV1 (pc2 := 5) (As := [.int (nI p)]) (st := []) kX9_169 rfl rfl dX9_first_2 c64 (by decide) rfl rfl (Nat.le_of_ble_eq_true rfl) (by omega) ((c_isPersonC c64 cs hs64 hb.1.2.2.2.1).mono fun r h2 q => ⟨q.1.trans (by rw [← st4, if_pos hx]), q.2⟩) rfl (fun h2 hq2 => ?_)
      subst hq2
      refine r_if_ne (tgt := 11) (pc2 := 8) dX9_first_5 (by decide) rfl (fun b5 => ?_) (fun b5 => ?_)
      · skip
        refine r_aload_n (pc2 := 12) 0 dX9_first_11 rfl rfl rfl rfl ?_
        refine r_callV1 (pc2 := 15) (As := []) (st := []) kX9_203 rfl rfl dX9_first_12 c64 (by decide) rfl rfl (Nat.le_of_ble_eq_true rfl) (by omega) (c_learnSays hN hD hA hst hY (by omega)) rfl (fun h hq12 => ?_)
        obtain ⟨hxl, hSY⟩ := hq12
        have c64 := hxl.get (by decide) c64
        have cs := hxl.get (by have := hZ s zs; simp; omega) cs
        obtain ⟨f, pa, tg, ⟨c90, c91, c92, c93⟩, hf, ht0, htg⟩ := id hSY
        refine r_astore_n (pc2 := 16) (ls2 := [.ref 64, .int (nI p), .ref 90]) 2 dX9_first_15 rfl (by decide) rfl rfl rfl rfl ?_
        refine r_aload_n (pc2 := 17) 2 dX9_first_16 rfl rfl rfl rfl ?_
        refine r_getf (pc2 := 20) (v := .int (nI (WL a).length)) fX9_207 dX9_first_17 c90 (by decide) rfl rfl ?_
        refine r_if_ne (tgt := 27) (pc2 := 23) dX9_first_20 (by decide) rfl (fun b20 => ?_) (fun b20 => ?_)
        · skip
          refine r_aload_n (pc2 := 28) 2 dX9_first_27 rfl rfl rfl rfl ?_
          refine r_getf (pc2 := 31) (v := .ref 91) fX9_295 dX9_first_28 c90 (by decide) rfl rfl ?_
          refine r_iload_n (pc2 := 32) 1 dX9_first_31 rfl rfl rfl ?_
          refine r_ialdN (pc2 := 33) p dX9_first_32 c91 (by decide) rfl (by omega) (by decide) rfl ?_
          exact r_iret rfl dX9_first_33 ⟨by unfold firstF; rw [if_pos hx, if_neg hw, nI_clamp (by omega), hf p hp hw], hxl, Or.inr ⟨a, ha, hSY⟩⟩
        · exact absurd (List.length_eq_zero_iff.mp ((nI_eq (b := 0) (by have := WL_len ha.1; omega) (by decide)).mp b20)) hw
      · exact absurd b5 (by decide)
  · skip
    refine Cn.go (ls := [.ref 64, .int x, .float 0]) (by decide +kernel) rfl (Nat.le_of_ble_eq_true rfl) ?_
    refine r_aload_n (pc2 := 1) 0 dX9_first_0 rfl rfl rfl rfl ?_
    refine r_iload_n (pc2 := 2) 1 dX9_first_1 rfl rfl rfl ?_
    refine r_callV1 (pc2 := 5) (As := [.int x]) (st := []) kX9_169 rfl rfl dX9_first_2 c64 (by decide) rfl rfl (Nat.le_of_ble_eq_true rfl) (by omega) ((c_isPersonC c64 cs hs64 hb.1.2.2.2.1).mono fun r h2 q => ⟨q.1.trans (by rw [← st4, if_neg hx]), q.2⟩) rfl (fun h2 hq2 => ?_)
    subst hq2
    refine r_if_ne (tgt := 11) (pc2 := 8) dX9_first_5 (by decide) rfl (fun b5 => ?_) (fun b5 => ?_)
    · exact absurd b5 (by decide)
    · skip
      refine r_bipush (pc2 := 10) (v := -2) dX9_first_8 (by decide) rfl ?_
      exact r_iret rfl dX9_first_10 ⟨by unfold firstF; rw [if_neg hx], Ex.rf, hY⟩
