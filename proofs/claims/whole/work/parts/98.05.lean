/-! the class: laws as taken; what queries leave -/
def LQ (Z : Nat → Prop) (h : Hp) (reg : Nat → FR) (ns s sg dr kd : Nat) (b : FR) : Prop := LWS h reg ns s sg dr kd ∧ StO Z h s sg b ∧ ZP Z h kd ∧ LK b ∧ b = reg sg ∧ sg ≤ ns ∧ ns ≤ 900 ∧ 139 ≤ h.2.1 ∧ Z s ∧ dr ≤ 9 ∧ (b 9 = 1 → kd ≠ 0)
theorem LQ.dv {Z : Nat → Prop} {h : Hp} {reg : Nat → FR} {ns s sg dr kd : Nat} {b : FR} (x : LQ Z h reg ns s sg dr kd b) : DV Z h reg ns s sg kd b := ⟨x.1.any (h64 := (x.2.2.1.zl s x.2.2.2.2.2.2.2.2.1).1), x.2.1, x.2.2.1, x.2.2.2.1, x.2.2.2.2.1, x.2.2.2.2.2.1, x.2.2.2.2.2.2.1, x.2.2.2.2.2.2.2.1, x.2.2.2.2.2.2.2.2.1⟩
theorem DV.k0 {Z : Nat → Prop} {h : Hp} {reg : Nat → FR} {ns s sg kd : Nat} {b : FR} (x : DV Z h reg ns s sg kd b) : kd = 0 ∨ 139 ≤ kd := by
  by_cases z : kd = 0
  · exact Or.inl z
  · exact Or.inr (x.1.2.2.2.2 z).1
theorem DV.n {Z : Nat → Prop} {h : Hp} {reg : Nat → FR} {ns s sg kd : Nat} {b : FR} (x : DV Z h reg ns s sg kd b) : 139 ≤ h.2.1 := x.2.2.2.2.2.2.2.1
theorem DV.G {Z : Nat → Prop} {h : Hp} {reg : Nat → FR} {ns s sg kd : Nat} {b : FR} (x : DV Z h reg ns s sg kd b) : b 3 ≤ 4 := x.2.2.2.1.1.2.2.1
theorem DV.s64 {Z : Nat → Prop} {h : Hp} {reg : Nat → FR} {ns s sg kd : Nat} {b : FR} (x : DV Z h reg ns s sg kd b) : 64 ≤ s := (x.2.2.1.zl s x.2.2.2.2.2.2.2.2).1
theorem DV.zs {Z : Nat → Prop} {h : Hp} {reg : Nat → FR} {ns s sg kd : Nat} {b : FR} (x : DV Z h reg ns s sg kd b) : ((68 ≤ s ∧ s ≤ 75) ∨ (83 ≤ s ∧ s ≤ 86) ∨ 139 ≤ s) ∧ s ≠ kd ∧ s < h.2.1 := x.2.2.1 s x.2.2.2.2.2.2.2.2
theorem DV.cs {Z : Nat → Prop} {h : Hp} {reg : Nat → FR} {ns s sg kd : Nat} {b : FR} (x : DV Z h reg ns s sg kd b) : ∃ lo so sa nl sl, h.1 s = some (.inr (6, stL sg b lo so sa nl sl)) := by
  obtain ⟨lo, so, sa, nl, sl, _, c, _⟩ := x.2.1
  exact ⟨lo, so, sa, nl, sl, c⟩
theorem LWS.ex {h h2 : Hp} {reg : Nat → FR} {ns s sg dr kd : Nat} {S : List Nat} (l : LWS h reg ns s sg dr kd) (x : Ex S h h2) (hS : ∀ q ∈ S, q ≠ 82 ∧ q ≠ 87 ∧ q ≠ 88 ∧ q ≠ 89 ∧ q ≠ kd) : LWS h2 reg ns s sg dr kd := by
  obtain ⟨c1, ⟨kn, c2, q2⟩, ⟨w, c3⟩, ⟨f, c4⟩, c5⟩ := l
  refine ⟨x.get (fun z => (hS _ z).1 rfl) c1, ⟨kn, x.get (fun z => (hS _ z).2.1 rfl) c2, q2⟩, ⟨w, x.get (fun z => (hS _ z).2.2.1 rfl) c3⟩, ⟨f, x.get (fun z => (hS _ z).2.2.2.1 rfl) c4⟩, fun z => ⟨(c5 z).1, ?_⟩⟩
  obtain ⟨g, q, r⟩ := (c5 z).2
  exact ⟨g, x.get (fun y => (hS _ y).2.2.2.2 rfl) q, r⟩
theorem LWA.ex2 {h h2 : Hp} {reg : Nat → FR} {ns kd : Nat} {S : List Nat} (l : LWA h reg ns kd) (x : Ex S h h2) (hS : ∀ q ∈ S, q ≠ 82 ∧ q ≠ 87 ∧ q ≠ 88 ∧ q ≠ 89 ∧ q ≠ kd) : LWA h2 reg ns kd := by
  obtain ⟨⟨V0, V1, V2, c1⟩, ⟨kn, c2, q2⟩, ⟨w, c3⟩, ⟨f, c4⟩, c5⟩ := l
  refine ⟨⟨V0, V1, V2, x.get (fun z => (hS _ z).1 rfl) c1⟩, ⟨kn, x.get (fun z => (hS _ z).2.1 rfl) c2, q2⟩, ⟨w, x.get (fun z => (hS _ z).2.2.1 rfl) c3⟩, ⟨f, x.get (fun z => (hS _ z).2.2.2.1 rfl) c4⟩, fun z => ⟨(c5 z).1, ?_⟩⟩
  obtain ⟨g, q, r⟩ := (c5 z).2
  exact ⟨g, x.get (fun y => (hS _ y).2.2.2.2 rfl) q, r⟩
theorem ZP.ex {Z : Nat → Prop} {h h2 : Hp} {kd : Nat} {S : List Nat} (x : ZP Z h kd) (e : Ex S h h2) : ZP Z h2 kd := fun q z => by rw [e.1]; exact x q z
/-- cells written that are none of the laws' and none that stay -/
def OffL (Z : Nat → Prop) (kd : Nat) (S : List Nat) : Prop := ∀ q ∈ S, ¬ Z q ∧ q ≠ 82 ∧ q ≠ 87 ∧ q ≠ 88 ∧ q ≠ 89 ∧ q ≠ kd
theorem LQ.ex {Z : Nat → Prop} {h h2 : Hp} {reg : Nat → FR} {ns s sg dr kd : Nat} {b : FR} {S : List Nat} (x : LQ Z h reg ns s sg dr kd b) (e : Ex S h h2) (hS : OffL Z kd S) : LQ Z h2 reg ns s sg dr kd b := by
  obtain ⟨x1, x2, x3, x4, x5, x6, x7, x8, x9⟩ := x
  exact ⟨x1.ex e (fun q z => (hS q z).2), x2.ex e (fun q z m => (hS q m).1 z), x3.ex e, x4, x5, x6, x7, by rw [e.1]; exact x8, x9⟩
theorem DV.ex2 {Z : Nat → Prop} {h h2 : Hp} {reg : Nat → FR} {ns s sg kd : Nat} {b : FR} {S : List Nat} (x : DV Z h reg ns s sg kd b) (e : Ex S h h2) (hS : OffL Z kd S) : DV Z h2 reg ns s sg kd b := by
  obtain ⟨x1, x2, x3, x4, x5, x6, x7, x8, x9⟩ := x
  exact ⟨x1.ex2 e (fun q z => (hS q z).2), x2.ex e (fun q z m => (hS q m).1 z), x3.ex e, x4, x5, x6, x7, by rw [e.1]; exact x8, x9⟩
theorem DV.offl {Z : Nat → Prop} {h : Hp} {reg : Nat → FR} {ns s sg kd : Nat} {b : FR} (x : DV Z h reg ns s sg kd b) {S : List Nat} (hS : ∀ q ∈ S, (64 ≤ q ∧ q < 68) ∨ (76 ≤ q ∧ q < 82) ∨ (90 ≤ q ∧ q < 139)) : OffL Z kd S := fun q m => by
  have h1 := hS q m
  have h2 := x.k0
  exact ⟨fun z => by have := x.2.2.1 q z; omega, by omega, by omega, by omega, by omega, by omega⟩
theorem c_takeQ {E : EnvT} {d : Nat} {h0 : Hp} {Z : Nat → Prop} {reg : Nat → FR} {b : FR} {ns s sg dr kd : Nat} {D : Int32} (hD : DV Z h0 reg ns s sg kd b) (hdr : dr ≤ 9) (eD : D = nI dr) : Cn E mX2_take d [.ref 82, .ref s, .int D] h0 (fun r h2 => r = none ∧ ∃ kd2, KQ h0 h2 kd kd2 ∧ LQ Z h2 reg ns s sg dr kd2 b ∧ Gx [82] h0 h2) := by
  subst eD
  obtain ⟨x1, x2, x3, x4, x5, x6, x7, x8, x9⟩ := hD
  refine (c_take x1 x2 x3.zl x4 x7 (x3 s x9).2.2 x8).mono fun r h2 q => ?_
  obtain ⟨q1, kd2, q2, q3, q4, q5⟩ := q
  exact ⟨q1, kd2, q2, ⟨q4, x2.gx x3 q5 (fun a m => by simp at m; omega), x3.kq q2, x4, x5, x6, x7, Nat.le_trans x8 q5.1, x9, hdr, q3⟩, q5⟩
theorem c_depthQ {E : EnvT} {d : Nat} {h0 : Hp} {Z : Nat → Prop} {reg : Nat → FR} {a b : FR} {ns q sg dr kd s sn o : Nat} {W D S O : Int32} (hL : LQ Z h0 reg ns q sg dr kd b) (hst : Stat a b) (hs : ∀ g, g < 4 → s / 8 ^ g % 8 ≤ a 1) (hdp : s / 4096 ≤ 9) (hsn : sn < 16) (hstp : ∀ g, g < a 3 → sn.testBit g = true → s / 8 ^ g % 8 < a 1) (ho : o ≤ 9) (eW : W = nI (tws s)) (eD : D = nI (s / 4096)) (eS : S = nI sn) (eO : O = nI o) (hd : 3 ≤ d) : Cn E mX2_depthAfter d [.ref 82, .int W, .int D, .int S, .int O] h0 (fun r h2 => r = some (.int (nI (hourN a s sn o dr / 4096))) ∧ Ex [87, 88, 89, kd] h0 h2 ∧ LQ Z h2 reg ns q sg dr kd b) := by
  subst eW eD eS eO
  obtain ⟨x1, x2, x3, x4, x5, x6, x7, x8, x9, x10, x11⟩ := hL
  have e1 : a 1 = b 1 := hst 1 (by omega)
  have e3 : a 3 = b 3 := hst 3 (by omega)
  refine (c_depthAfter (s := s) (sn := sn) (o := o) (dp := s / 4096) x1 x2 x3.zl x4 x5 x6 x7 x10 x11 (fun g hg => by rw [← e1]; exact hs g hg) hdp rfl hsn (fun g hg z => by rw [← e1]; exact hstp g (by rw [e3]; exact hg) z) ho hd).mono fun r h2 z => ?_
  obtain ⟨q1, q2, q3⟩ := z
  refine ⟨q1.trans (by rw [hourN_stat hst x4.1, hourN_dep x4.1.2.2.1 (fun g hg z => by have := hstp g (by rw [e3]; exact hg) z; have := x4.1.1.2; omega)]), q2, ⟨q3, x2.ex q2 (x3.zl.n4), x3.ex q2, x4, x5, x6, x7, by rw [q2.1]; exact x8, x9, x10, x11⟩⟩
theorem c_noiseQ {E : EnvT} {d : Nat} {h0 : Hp} {Z : Nat → Prop} {reg : Nat → FR} {a b : FR} {ns s sg dr kd g to dp : Nat} {G T D : Int32} (hL : LQ Z h0 reg ns s sg dr kd b) (hst : Stat a b) (hg : g < 4) (hto : to ≤ 6) (hdp : dp ≤ 9) (eG : G = nI g) (eT : T = nI to) (eD : D = nI dp) (hd : 2 ≤ d) : Cn E mX2_noiseOf d [.ref 82, .int G, .int T, .int D] h0 (fun r h2 => r = some (.int (nI (noiseN a g to dp dr))) ∧ Ex [87, 88, 89] h0 h2 ∧ LQ Z h2 reg ns s sg dr kd b) := by
  subst eG eT eD
  obtain ⟨x1, x2, x3, x4, x5, x6, x7, x8, x9, x10, x11⟩ := hL
  refine (c_noise x1 x2 x3.zl x4 x5 x6 x7 x10 hg hto hdp hd).mono fun r h2 z => ?_
  obtain ⟨q1, q2, q3⟩ := z
  refine ⟨q1.trans (by rw [noiseN_stat hst x4.1 hg]), q2, ⟨q3, x2.ex q2 (x3.zl.n3), x3.ex q2, x4, x5, x6, x7, by rw [q2.1]; exact x8, x9, x10, x11⟩⟩
theorem dpT_stat {a b : FR} (hs : Stat a b) (hb : AOK b) (dp nz st pa dr : Nat) : dpT a dp nz st pa dr = dpT b dp nz st pa dr := by
  unfold dpT
  rw [hs 9 (by omega)]
  by_cases z : b 9 = 0
  · rw [if_pos z, if_pos z]
  · rw [if_neg z, if_neg z, lawV_stat (lw := 1) hs (by omega) hb.2.2.2.2.2.2.2.2 z]
theorem c_thenQ {E : EnvT} {d : Nat} {h0 : Hp} {Z : Nat → Prop} {reg : Nat → FR} {a b : FR} {ns s sg dr kd dp nz st pa : Nat} {D N S O : Int32} (hL : LQ Z h0 reg ns s sg dr kd b) (hst : Stat a b) (hdp : dp ≤ 9) (hnz : nz ≤ 1000) (hs4 : st ≤ 4) (hpa : pa ≤ 4) (eD : D = nI dp) (eN : N = nI nz) (eS : S = nI st) (eO : O = nI pa) (hd : 2 ≤ d) : Cn E mX2_depthThen d [.ref 82, .int D, .int N, .int S, .int O] h0 (fun r h2 => r = some (.int (nI (dpT a dp nz st pa dr))) ∧ Ex [87, 88, 89, kd] h0 h2 ∧ LQ Z h2 reg ns s sg dr kd b) := by
  subst eD eN eS eO
  obtain ⟨x1, x2, x3, x4, x5, x6, x7, x8, x9, x10, x11⟩ := hL
  refine (c_depthThen x1 x2 x3.zl x4 x5 x6 x7 x10 x11 hdp hnz hs4 hpa hd).mono fun r h2 z => ?_
  obtain ⟨q1, q2, q3⟩ := z
  refine ⟨q1.trans (by rw [dpT_stat hst x4.1]), q2, ⟨q3, x2.ex q2 (x3.zl.n4), x3.ex q2, x4, x5, x6, x7, by rw [q2.1]; exact x8, x9, x10, x11⟩⟩
/-- where a query has come: cells of S and the laws' may be other ones -/
def GQ (S : List Nat) (kd : Nat) (h0 h : Hp) (kd1 : Nat) : Prop := KQ h0 h kd kd1 ∧ Gx (S ++ [82, 87, 88, 89, kd]) h0 h
theorem GQ.rf {S : List Nat} {kd : Nat} {h : Hp} : GQ S kd h h kd := ⟨KQ.rf, Gx.rf⟩
theorem GQ.tk {S : List Nat} {kd kd1 kd2 : Nat} {h0 h h2 : Hp} (x : GQ S kd h0 h kd1) (k : KQ h h2 kd1 kd2) (g : Gx [82] h h2) (hn : 139 ≤ h0.2.1) : GQ S kd h0 h2 kd2 := ⟨x.1.trans k hn, x.2.trans g (by simp)⟩
theorem GQ.dp {S : List Nat} {kd kd1 : Nat} {h0 h h2 : Hp} (x : GQ S kd h0 h kd1) (e : Ex [87, 88, 89, kd1] h h2) : GQ S kd h0 h2 kd1 := ⟨x.1.same e.1, x.2.kd e (by rcases x.1 with z | z; exact Or.inl (by rw [z.1]; simp); exact Or.inr (by omega)) (by simp) (by simp) (by simp)⟩
theorem GQ.wr {S T : List Nat} {kd kd1 : Nat} {h0 h h2 : Hp} (x : GQ S kd h0 h kd1) (e : Ex T h h2) (hT : ∀ q ∈ T, q ∈ S) : GQ S kd h0 h2 kd1 := ⟨x.1.same e.1, x.2.ex e (fun q m => List.mem_append_left _ (hT q m))⟩
theorem GQ.nz {S : List Nat} {kd kd1 : Nat} {h0 h h2 : Hp} (x : GQ S kd h0 h kd1) (e : Ex [87, 88, 89] h h2) : GQ S kd h0 h2 kd1 := ⟨x.1.same e.1, x.2.ex e (fun q m => List.mem_append_right _ (by simp at m ⊢; omega))⟩
theorem GQ.mono {S T : List Nat} {kd kd1 : Nat} {h0 h : Hp} (x : GQ S kd h0 h kd1) (hT : ∀ q ∈ S, q ∈ T) : GQ T kd h0 h kd1 := ⟨x.1, x.2.mono (fun q m => by
  rcases List.mem_append.mp m with z | z
  · exact List.mem_append_left _ (hT q z)
  · exact List.mem_append_right _ z)⟩
theorem GQ.trans {S : List Nat} {kd kd1 kd2 : Nat} {h0 h h2 : Hp} (x : GQ S kd h0 h kd1) (y : GQ S kd1 h h2 kd2) (hn : 139 ≤ h0.2.1) : GQ S kd h0 h2 kd2 := ⟨x.1.trans y.1 hn, ⟨Nat.le_trans x.2.1 y.2.1, fun q a b => by
  refine (y.2.2 q (Nat.lt_of_lt_of_le a x.2.1) (fun m => b ?_)).trans (x.2.2 q a b)
  rcases List.mem_append.mp m with z | z
  · exact List.mem_append_left _ z
  · refine List.mem_append_right _ ?_
    simp at z ⊢
    rcases x.1 with k | k <;> omega⟩⟩
theorem GQ.get {S : List Nat} {kd kd1 q : Nat} {h0 h : Hp} {e : Option va_E} (x : GQ S kd h0 h kd1) (hl : q < h0.2.1) (hs : q ∉ S) (h5 : q ≠ 82 ∧ q ≠ 87 ∧ q ≠ 88 ∧ q ≠ 89 ∧ q ≠ kd) (c : h0.1 q = e) : h.1 q = e := (x.2.2 q hl (fun m => by
  rcases List.mem_append.mp m with z | z
  · exact hs z
  · simp at z
    omega)).trans c
theorem GQ.nw {S : List Nat} {kd kd1 : Nat} {h0 h : Hp} {s ns w1 w2 : Nat} {wk dt : Value} {a : FR} (x : GQ S kd h0 h kd1) (y : NW h0 s ns w1 w2 wk dt a) (h10 : a 45 ≤ 10) (hn : 139 ≤ h0.2.1) (hk : kd = 0 ∨ 139 ≤ kd) (hS : ∀ q ∈ S, ¬ (q = 64 ∨ (76 ≤ q ∧ q ≤ 78) ∨ (97 ≤ q ∧ q ≤ 106))) : NW h s ns w1 w2 wk dt a :=
  y.frame h10 (fun q hq => x.get (by omega) (fun m => hS q m hq) (by omega) rfl)
/-- the answer of a query: cells of S, the laws' and what lies beside them -/
def QS1 (S : List Nat) (Z : Nat → Prop) (reg : Nat → FR) (ns s sg : Nat) (b : FR) (h0 : Hp) (kd : Nat) (r0 : Value) : Option Value → Hp → Prop := fun r h2 => r = some r0 ∧ ∃ kd2, GQ S kd h0 h2 kd2 ∧ DV Z h2 reg ns s sg kd2 b
theorem tws_mod {s t : Nat} (h : s % 4096 = t % 4096) : tws s = tws t := by
  unfold tws
  have h0 : s % 8 = t % 8 := by omega
  have h1 : s / 8 % 8 = t / 8 % 8 := by omega
  have h2 : s / 64 % 8 = t / 64 % 8 := by omega
  have h3 : s / 512 % 8 = t / 512 % 8 := by omega
  rw [h0, h1, h2, h3]
theorem hCs_0 (st : Nat) : ∀ k, hCs st 0 k = st % 4096
  | 0 => rfl
  | k + 1 => by
    show hCs st 0 k + _ = _
    rw [hCs_0 st k, Nat.zero_testBit]
    rfl
theorem dig_mod {s t : Nat} (h : s % 4096 = t % 4096) (g : Nat) (hg : g < 4) : s / 8 ^ g % 8 = t / 8 ^ g % 8 := by
  match g, hg with
  | 0, _ => omega
  | 1, _ => omega
  | 2, _ => omega
  | 3, _ => omega
theorem hourN_mod0 (a : FR) (st o dr : Nat) : hourN a st 0 o dr % 4096 = st % 4096 := by
  unfold hourN
  rw [hCs_0]
  omega
theorem slS_mod (a : FR) (dr : Nat) : ∀ i, slS a dr i % 4096 = packS a % 4096
  | 0 => rfl
  | i + 1 => by
    unfold slS
    split
    · exact slS_mod a dr i
    · rw [hourN_mod0]; exact slS_mod a dr i
theorem no_bit0 {p : Prop} (g : Nat) (h : (0 : Nat).testBit g = true) : p := by rw [Nat.zero_testBit] at h; cases h
