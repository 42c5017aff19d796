/-! what the reference finds is there -/
theorem rch_ex {a : FR} (hA : AIN a) : ∃ Q : List Nat, Q.Nodup ∧ ∀ s, s ∈ Q ↔ Rch a s := by
  classical
  refine ⟨(List.range 40960).filter (fun s => decide (Rch a s)), List.Pairwise.filter _ List.nodup_range, fun s => ?_⟩
  rw [List.mem_filter, List.mem_range, decide_eq_true_iff]
  exact ⟨fun z => z.2, fun z => ⟨(z.sg hA).1, z⟩⟩
theorem sts_ex {a : FR} (hA : AIN a) : ∃ n, STr a n := by
  obtain ⟨Q, h1, h2⟩ := rch_ex hA
  exact ⟨Q.length, Q, h1, h2, rfl⟩
theorem can_ex {a : FR} (hA : AIN a) : ∃ r, CANr a r := by
  obtain ⟨Q, h1, h2⟩ := rch_ex hA
  have : ∀ L : List Nat, ∃ r : Nat, ∀ g, r.testBit g = true ↔ ∃ s, s ∈ L ∧ s / 4096 ≠ 0 ∧ (pastN (a 1) s (a 3)).testBit g = true := by
    intro L
    induction L with
    | nil => exact ⟨0, fun g => by rw [Nat.zero_testBit]; exact ⟨fun z => (by cases z), fun ⟨s, z, _⟩ => (by cases z)⟩⟩
    | cons x L ih =>
      obtain ⟨r, hr⟩ := ih
      refine ⟨r ||| (if x / 4096 = 0 then 0 else pastN (a 1) x (a 3)), fun g => ?_⟩
      rw [Nat.testBit_or, Bool.or_eq_true, hr g]
      constructor
      · rintro (⟨s, z1, z2⟩ | z)
        · exact ⟨s, List.mem_cons_of_mem _ z1, z2⟩
        · by_cases c : x / 4096 = 0
          · rw [if_pos c, Nat.zero_testBit] at z; cases z
          · rw [if_neg c] at z; exact ⟨x, List.mem_cons_self, c, z⟩
      · rintro ⟨s, z1, z2, z3⟩
        rcases List.mem_cons.mp z1 with e | e
        · subst e
          rw [if_neg z2]
          exact Or.inr z3
        · exact Or.inl ⟨s, e, z2, z3⟩
  obtain ⟨r, hr⟩ := this Q
  exact ⟨r, fun g => (hr g).trans ⟨fun ⟨s, z1, z2⟩ => ⟨s, (h2 s).mp z1, z2⟩, fun ⟨s, z1, z2⟩ => ⟨s, (h2 s).mpr z1, z2⟩⟩⟩
theorem deep_ex {a : FR} (hA : AIN a) : ∃ m, DEEPr a m := by
  obtain ⟨Q, h1, h2⟩ := rch_ex hA
  have : ∀ L : List Nat, L ≠ [] → ∃ m, (∀ s, s ∈ L → s / 4096 ≤ m) ∧ ∃ s, s ∈ L ∧ s / 4096 = m := by
    intro L
    induction L with
    | nil => intro z; exact absurd rfl z
    | cons x L ih =>
      intro _
      by_cases e : L = []
      · subst e
        exact ⟨x / 4096, fun s z => (by rcases List.mem_cons.mp z with w | w; rw [w]; exact Nat.le_refl _; cases w), x, List.mem_cons_self, rfl⟩
      · obtain ⟨m, m1, s, m2, m3⟩ := ih e
        by_cases c : x / 4096 ≤ m
        · exact ⟨m, fun s z => (by rcases List.mem_cons.mp z with w | w; rw [w]; exact c; exact m1 s w), s, List.mem_cons_of_mem _ m2, m3⟩
        · exact ⟨x / 4096, fun s z => (by rcases List.mem_cons.mp z with w | w; rw [w]; exact Nat.le_refl _; have := m1 s w; omega), x, List.mem_cons_self, rfl⟩
  obtain ⟨m, m1, s, m2, m3⟩ := this Q (fun z => by have := (h2 _).mpr Rch.now; rw [z] at this; cases this)
  exact ⟨m, fun s z => m1 s ((h2 s).mpr z), s, (h2 s).mp m2, m3⟩
theorem bett_or (b x : Nat) : bett b x ∨ bett x b := by
  unfold bett
  omega
theorem bett_tr {x y z : Nat} (h1 : bett x y) (h2 : bett y z) : bett x z := by
  unfold bett at *
  omega
theorem most_ex {a : FR} (hA : AIN a) : ∃ mo, MOSTr a mo := by
  obtain ⟨Q, h1, h2⟩ := rch_ex hA
  have : ∀ L : List Nat, (∀ s, s ∈ L → s / 4096 = 0) ∨ ∃ b, (∃ s, s ∈ L ∧ s / 4096 ≠ 0 ∧ pastN (a 1) s (a 3) = b) ∧ ∀ s, s ∈ L → s / 4096 ≠ 0 → bett b (pastN (a 1) s (a 3)) := by
    intro L
    induction L with
    | nil => exact Or.inl (fun s z => by cases z)
    | cons x L ih =>
      by_cases c : x / 4096 = 0
      · rcases ih with ih | ⟨b, ⟨s, s1, s2, s3⟩, ih⟩
        · exact Or.inl (fun s z => by rcases List.mem_cons.mp z with w | w; rw [w]; exact c; exact ih s w)
        · exact Or.inr ⟨b, ⟨s, List.mem_cons_of_mem _ s1, s2, s3⟩, fun s z w => by
            rcases List.mem_cons.mp z with e | e
            · rw [e] at w; exact absurd c w
            · exact ih s e w⟩
      · rcases ih with ih | ⟨b, ⟨s, s1, s2, s3⟩, ih⟩
        · exact Or.inr ⟨pastN (a 1) x (a 3), ⟨x, List.mem_cons_self, c, rfl⟩, fun s z w => by
            rcases List.mem_cons.mp z with e | e
            · rw [e]; exact (bett_or _ _).elim id id
            · exact absurd (ih s e) w⟩
        · rcases bett_or b (pastN (a 1) x (a 3)) with o | o
          · exact Or.inr ⟨b, ⟨s, List.mem_cons_of_mem _ s1, s2, s3⟩, fun s z w => by
              rcases List.mem_cons.mp z with e | e
              · rw [e]; exact o
              · exact ih s e w⟩
          · exact Or.inr ⟨pastN (a 1) x (a 3), ⟨x, List.mem_cons_self, c, rfl⟩, fun s z w => by
              rcases List.mem_cons.mp z with e | e
              · rw [e]; exact (bett_or _ _).elim id id
              · exact bett_tr o (ih s e w)⟩
  rcases this Q with h | ⟨b, ⟨s, s1, s2, s3⟩, h⟩
  · exact ⟨none, fun s z => h s ((h2 s).mpr z)⟩
  · exact ⟨some b, ⟨s, (h2 s).mp s1, s2, s3⟩, fun s z w => h s ((h2 s).mpr z) w⟩
/-! both states together -/
theorem RS.nm {h h2 : Hp} {v : Nat → Int32} {a : FR} {hi rs rm : Nat → Int32} {nu : Nat → Int64} {tp : Nat → Nat} (x1 : RS h v a hi tp rs rm nu) (e : NM h h2) : RS h2 v a hi tp rs rm nu := by
  have e9 : ∀ (y : Nat) (w : Option va_E), 117 ≤ y → y ≤ 138 → h.1 y = w → h2.1 y = w := fun y w a1 a2 c => (e y a1 a2).trans c
  obtain ⟨k117, k118, k119, k120, ⟨f121, k121⟩, ⟨f122, k122⟩, ⟨f123, k123⟩, ⟨f124, k124⟩, ⟨f125, k125⟩, ⟨f126, k126⟩, ⟨f127, k127⟩, ⟨f128, k128⟩, ⟨f129, k129⟩, ⟨f130, k130⟩, ⟨f131, k131⟩, ⟨f132, k132⟩, ⟨f133, k133⟩, ⟨f134, k134⟩, ⟨f135, k135⟩, k136, k137, k138⟩ := x1
  exact ⟨e9 _ _ (by decide) (by decide) k117, e9 _ _ (by decide) (by decide) k118, e9 _ _ (by decide) (by decide) k119, e9 _ _ (by decide) (by decide) k120, ⟨_, e9 _ _ (by decide) (by decide) k121⟩, ⟨_, e9 _ _ (by decide) (by decide) k122⟩, ⟨_, e9 _ _ (by decide) (by decide) k123⟩, ⟨_, e9 _ _ (by decide) (by decide) k124⟩, ⟨_, e9 _ _ (by decide) (by decide) k125⟩, ⟨_, e9 _ _ (by decide) (by decide) k126⟩, ⟨_, e9 _ _ (by decide) (by decide) k127⟩, ⟨_, e9 _ _ (by decide) (by decide) k128⟩, ⟨_, e9 _ _ (by decide) (by decide) k129⟩, ⟨_, e9 _ _ (by decide) (by decide) k130⟩, ⟨_, e9 _ _ (by decide) (by decide) k131⟩, ⟨_, e9 _ _ (by decide) (by decide) k132⟩, ⟨_, e9 _ _ (by decide) (by decide) k133⟩, ⟨_, e9 _ _ (by decide) (by decide) k134⟩, ⟨_, e9 _ _ (by decide) (by decide) k135⟩, e9 _ _ (by decide) (by decide) k136, e9 _ _ (by decide) (by decide) k137, e9 _ _ (by decide) (by decide) k138⟩
theorem CSt.ms {h h2 : Hp} {c : Nat} {a : FR} {hi rs rm : Nat → Int32} {nu : Nat → Int64} {fk fp : Int32} {t : Nat} {tp : Nat → Nat} (x : CSt h c a hi rs rm nu fk fp t tp) (hA : AIN a) (e : Ex MS h h2) : CSt h2 c a hi rs rm nu fk fp t tp := by
  obtain ⟨Z, reg, ns, s, sg, kd, w1, w2, wk, dt, b, ⟨xN, xD, xS, xR, xT, xI, xY, xW, x9, xK, xd⟩, ⟨hkl, hns⟩, hr1, hr2⟩ := x
  have hn := xD.n
  have hk0 := xD.k0
  have f : Fm (fun y => y ∈ MS) h h2 := e.fm
  have hz : ∀ y, Z y → h2.1 y = h.1 y := xD.zfm f (fun y z => by have := xD.at_ y z; exact (by simp <;> omega))
  have e1 : h2.2.1 = h.2.1 := congrArg Prod.fst e.1
  have e2 : h2.2.2 = h.2.2 := congrArg Prod.snd e.1
  refine ⟨Z, reg, ns, s, sg, kd, w1, w2, wk, dt, b, ⟨?_, ?_, xS, ?_, ?_, ?_, ?_, ?_, ?_, ?_, ?_⟩, ⟨by omega, hns⟩, by omega, by omega⟩
  · exact xN.fm hA.nd f hn (fun y hy => by simp <;> omega)
  · exact xD.fm (xD.1.fm f hn hkl (fun y hy => by simp <;> omega)) f (fun y z => by have := xD.at_ y z; exact (by simp <;> omega)) (Or.inl rfl)
  · exact xR.fm f hn (fun y h1 h9 => by simp <;> omega)
  · exact xT.fm f hn (fun y hy => by simp <;> omega)
  · exact xI.fm hz f hn (fun y hy => by simp <;> omega) (fun _ _ _ => rfl)
  · exact xY.fm f hn (fun y h1 h9 => by simp <;> omega)
  · exact xW.fm f hn (fun y h1 h9 => by simp <;> omega)
  · exact tf_fm x9 f hn (by simp)
  · exact xK.fm hz f (Or.inl rfl) (fun y hy => by have := xK.at_ y hy; exact (by simp <;> omega))
  · exact xd.fm hz f (Or.inl rfl) (Nat.le_refl _) (fun y hy => by have := xd.at_ y hy; exact (by simp <;> omega))
def PJ (a : FR) (rs rm : Nat → Int32) (t : Nat) (tp : Nat → Nat) : Prop := AIN a ∧ TOK rs rm ∧ t ≤ 900 ∧ ∀ k, k < 900 → tp k < 256
def JS (h : Hp) (c : Nat) : Prop := ∃ (a : FR) (hi rs rm : Nat → Int32) (nu : Nat → Int64) (fk fp : Int32) (t : Nat) (tp : Nat → Nat), CSt h c a hi rs rm nu fk fp t tp ∧ MSt h a hi rs rm nu fk fp t tp ∧ PJ a rs rm t tp
theorem JS.mk {h1 h2 : Hp} {c : Nat} {a : FR} {hi rs rm : Nat → Int32} {nu : Nat → Int64} {fk fp : Int32} {t : Nat} {tp : Nat → Nat} {v : Nat → Int32} {r0 : Value} {r : Option Value} (x : CSt h1 c a hi rs rm nu fk fp t tp) (hP : PJ a rs rm t tp) (v5 : v 5 = nI t) (v13 : v 13 = fk) (v14 : v 14 = fp) (q : RP r0 h1 v a hi tp rs rm nu r h2) : r = some r0 ∧ JS h2 c := by
  obtain ⟨e, v2, ⟨k1, k2, k3⟩, k4, k5⟩ := q
  exact ⟨e, a, hi, rs, rm, nu, fk, fp, t, tp, x.ms hP.1 k5, ⟨v2, k4, k1.trans v5, k2.trans v13, k3.trans v14⟩, hP⟩
theorem JS.mkV {h1 h2 : Hp} {c : Nat} {a : FR} {hi rs rm : Nat → Int32} {nu : Nat → Int64} {fk fp : Int32} {t : Nat} {tp : Nat → Nat} {r0 : Value} {r : Option Value} (x : CSt h1 c a hi rs rm nu fk fp t tp) (hP : PJ a rs rm t tp) (q : RPV r0 h1 (nI t) fk fp a hi tp rs rm nu r h2) : r = some r0 ∧ JS h2 c := by
  obtain ⟨e, v2, ⟨k1, k2, k3⟩, k4, k5⟩ := q
  exact ⟨e, a, hi, rs, rm, nu, fk, fp, t, tp, x.ms hP.1 k5, ⟨v2, k4, k1, k2, k3⟩, hP⟩
/-- a call of both -/
def BothI (E : EnvT) (M1 M2 : MD) (As : List Value) (h : Hp) (c : Nat) : Prop := ∃ x : Int32, Cn E M1 655 (.ref 64 :: As) h (fun r h1 => r = some (.int x) ∧ (∃ v, h1.1 117 = some (mO v)) ∧ Cn E M2 655 (.ref 117 :: As) h1 (fun r h2 => r = some (.int x) ∧ JS h2 (c + 1)))
def BothL (E : EnvT) (M1 M2 : MD) (As : List Value) (h : Hp) (c : Nat) : Prop := ∃ x : Int64, Cn E M1 655 (.ref 64 :: As) h (fun r h1 => r = some (.long x) ∧ (∃ v, h1.1 117 = some (mO v)) ∧ Cn E M2 655 (.ref 117 :: As) h1 (fun r h2 => r = some (.long x) ∧ JS h2 (c + 1)))
theorem JS.c64 {h : Hp} {c : Nat} (x : JS h c) : ∃ l, h.1 64 = some (.inr (9, l)) := by
  obtain ⟨a, hi, rs, rm, nu, fk, fp, t, tp, ⟨Z, reg, ns, s, sg, kd, w1, w2, wk, dt, b, x⟩, _⟩ := x
  exact ⟨_, x.1.1.1⟩
theorem JS.room {h : Hp} {c : Nat} (x : JS h c) (hc : c ≤ 512) : h.2.1 ≤ 400064 ∧ h.2.2 ≤ 5000000 := by
  obtain ⟨a, hi, rs, rm, nu, fk, fp, t, tp, ⟨Z, reg, ns, s, sg, kd, w1, w2, wk, dt, b, x⟩, _⟩ := x
  have h1 := x.2.2.1
  have h2 := x.2.2.2
  omega
theorem JS.up {h : Hp} {c : Nat} (x : JS h c) : JS h (c + 1) := by
  obtain ⟨a, hi, rs, rm, nu, fk, fp, t, tp, ⟨Z, reg, ns, s, sg, kd, w1, w2, wk, dt, b, x⟩, m, p⟩ := x
  exact ⟨a, hi, rs, rm, nu, fk, fp, t, tp, (cs_tr x p.1 Ex.rf x.1.2.2.2.2.1).1, m, p⟩
