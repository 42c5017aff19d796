/-! stands, can, deepest, most -/
theorem nd_len : ∀ {Q T : List Nat}, Q.Nodup → T.Nodup → (∀ s, s ∈ Q → s ∈ T) → Q.length ≤ T.length
  | [], T, _, _, _ => Nat.zero_le _
  | x :: Q, T, hq, ht, h => by
    obtain ⟨h1, h2⟩ := List.nodup_cons.mp hq
    have hx := h x List.mem_cons_self
    have := nd_len (Q := Q) (T := T.erase x) h2 (ht.erase x) (fun s hs => ht.mem_erase_iff.mpr ⟨fun e => h1 (e ▸ hs), h s (List.mem_cons_of_mem _ hs)⟩)
    rw [List.length_erase_of_mem hx] at this
    have := List.length_pos_of_mem hx
    rw [List.length_cons]; omega
def STr (a : Nat → Nat) (n : Nat) : Prop := ∃ Q : List Nat, Q.Nodup ∧ (∀ s, s ∈ Q ↔ Rch a s) ∧ Q.length = n
theorem STr.un {a : Nat → Nat} {n : Nat} (h : STr a n) {Q : List Nat} (h1 : Q.Nodup) (h2 : ∀ s, s ∈ Q ↔ Rch a s) : Q.length = n := by
  obtain ⟨T, t1, t2, rfl⟩ := h
  exact Nat.le_antisymm (nd_len h1 t1 (fun s z => (t2 s).mpr ((h2 s).mp z))) (nd_len t1 h1 (fun s z => (h2 s).mpr ((t2 s).mp z)))
def CANr (a : Nat → Nat) (r : Nat) : Prop := ∀ g, r.testBit g = true ↔ ∃ s, Rch a s ∧ s / 4096 ≠ 0 ∧ (pastN (a 1) s (a 3)).testBit g = true
def DEEPr (a : Nat → Nat) (m : Nat) : Prop := (∀ s, Rch a s → s / 4096 ≤ m) ∧ ∃ s, Rch a s ∧ s / 4096 = m
def bett (b x : Nat) : Prop := popN x < popN b ∨ (popN x = popN b ∧ b ≤ x)
def MOSTr (a : Nat → Nat) (mo : Option Nat) : Prop := match mo with
  | none => ∀ s, Rch a s → s / 4096 = 0
  | some b => (∃ s, Rch a s ∧ s / 4096 ≠ 0 ∧ pastN (a 1) s (a 3) = b) ∧ ∀ s, Rch a s → s / 4096 ≠ 0 → bett b (pastN (a 1) s (a 3))
def CANk (a : Nat → Nat) (Q : List Nat) (k r : Nat) : Prop := ∀ g, r.testBit g = true ↔ ∃ i, i < k ∧ Q.getD i 0 / 4096 ≠ 0 ∧ (pastN (a 1) (Q.getD i 0) (a 3)).testBit g = true
theorem CANk.s {a : Nat → Nat} {Q : List Nat} {k r : Nat} (h : CANk a Q k r) : CANk a Q (k + 1) (r ||| if Q.getD k 0 / 4096 = 0 then 0 else pastN (a 1) (Q.getD k 0) (a 3)) := by
  intro g
  rw [Nat.testBit_or, Bool.or_eq_true, h g]
  constructor
  · rintro (⟨i, hi, h1⟩ | h1)
    · exact ⟨i, by omega, h1⟩
    · by_cases c : Q.getD k 0 / 4096 = 0
      · rw [if_pos c, Nat.zero_testBit] at h1; cases h1
      · rw [if_neg c] at h1; exact ⟨k, by omega, c, h1⟩
  · rintro ⟨i, hi, h1, h2⟩
    by_cases e : i = k
    · subst e; right; rw [if_neg h1]; exact h2
    · left; exact ⟨i, by omega, h1, h2⟩
theorem CANk.un {a : Nat → Nat} {Q : List Nat} {r x : Nat} (h : CANk a Q Q.length r) (hm : ∀ s, s ∈ Q ↔ Rch a s) (hx : CANr a x) : r = x := by
  apply Nat.eq_of_testBit_eq
  intro g
  rw [Bool.eq_iff_iff, h g, hx g]
  constructor
  · rintro ⟨i, hi, h1, h2⟩; exact ⟨_, (hm _).mp (getD_mem hi), h1, h2⟩
  · rintro ⟨s, hs, h1, h2⟩
    obtain ⟨i, hi, rfl⟩ := mem_getD ((hm s).mpr hs)
    exact ⟨i, hi, h1, h2⟩
def DEEPk (Q : List Nat) (k m : Nat) : Prop := (∀ i, i < k → Q.getD i 0 / 4096 ≤ m) ∧ (m = 0 ∨ ∃ i, i < k ∧ Q.getD i 0 / 4096 = m)
theorem DEEPk.s {Q : List Nat} {k m : Nat} (h : DEEPk Q k m) : DEEPk Q (k + 1) (if m < Q.getD k 0 / 4096 then Q.getD k 0 / 4096 else m) := by
  by_cases c : m < Q.getD k 0 / 4096
  · rw [if_pos c]
    refine ⟨fun i hi => ?_, Or.inr ⟨k, by omega, rfl⟩⟩
    by_cases e : i = k
    · rw [e]; exact Nat.le_refl _
    · have := h.1 i (by omega); omega
  · rw [if_neg c]
    refine ⟨fun i hi => ?_, h.2.elim Or.inl (fun ⟨i, hi, e⟩ => Or.inr ⟨i, by omega, e⟩)⟩
    by_cases e : i = k
    · rw [e]; omega
    · exact h.1 i (by omega)
theorem DEEPk.un {a : Nat → Nat} {Q : List Nat} {m x : Nat} (h : DEEPk Q Q.length m) (hm : ∀ s, s ∈ Q ↔ Rch a s) (hx : DEEPr a x) : m = x := by
  obtain ⟨s, hs, e⟩ := hx.2
  obtain ⟨i, hi, rfl⟩ := mem_getD ((hm s).mpr hs)
  have h1 := h.1 i hi
  rcases h.2 with h2 | ⟨j, hj, h2⟩
  · omega
  · have := hx.1 _ ((hm _).mp (getD_mem hj)); omega
def optI (mo : Option Nat) : Int32 := match mo with
  | none => -1
  | some b => nI b
def MOk (a : Nat → Nat) (Q : List Nat) (k : Nat) (mo : Option Nat) : Prop := match mo with
  | none => ∀ i, i < k → Q.getD i 0 / 4096 = 0
  | some b => b < 16 ∧ (∃ i, i < k ∧ Q.getD i 0 / 4096 ≠ 0 ∧ pastN (a 1) (Q.getD i 0) (a 3) = b) ∧ ∀ i, i < k → Q.getD i 0 / 4096 ≠ 0 → bett b (pastN (a 1) (Q.getD i 0) (a 3))
theorem bett.trans {x y z : Nat} (h : bett x y) (g : bett y z) : bett x z := by unfold bett at *; omega
theorem bett.rf {x : Nat} : bett x x := Or.inr ⟨rfl, Nat.le_refl _⟩
theorem MOk.skip {a : Nat → Nat} {Q : List Nat} {k : Nat} {mo : Option Nat} (h : MOk a Q k mo) (hd : Q.getD k 0 / 4096 = 0) : MOk a Q (k + 1) mo := by
  match mo with
  | none => exact fun i hi => by by_cases e : i = k; rw [e]; exact hd; exact h i (by omega)
  | some b =>
    obtain ⟨h0, ⟨i, hi, h1⟩, h2⟩ := h
    exact ⟨h0, ⟨i, by omega, h1⟩, fun i hi hn => by by_cases e : i = k; rw [e] at hn; exact absurd hd hn; exact h2 i (by omega) hn⟩
theorem MOk.stay {a : Nat → Nat} {Q : List Nat} {k b : Nat} (h : MOk a Q k (some b)) (hb : bett b (pastN (a 1) (Q.getD k 0) (a 3))) : MOk a Q (k + 1) (some b) := by
  obtain ⟨h0, ⟨i, hi, h1⟩, h2⟩ := h
  exact ⟨h0, ⟨i, by omega, h1⟩, fun i hi hn => by by_cases e : i = k; rw [e]; exact hb; exact h2 i (by omega) hn⟩
theorem MOk.new {a : Nat → Nat} {Q : List Nat} {k : Nat} {mo : Option Nat} (h : MOk a Q k mo) (hG : a 3 ≤ 4) (hd : Q.getD k 0 / 4096 ≠ 0) (hb : ∀ b, mo = some b → bett (pastN (a 1) (Q.getD k 0) (a 3)) b) : MOk a Q (k + 1) (some (pastN (a 1) (Q.getD k 0) (a 3))) := by
  refine ⟨pastN_16 _ _ hG, ⟨k, by omega, hd, rfl⟩, fun i hi hn => ?_⟩
  by_cases e : i = k
  · rw [e]; exact bett.rf
  · match mo with
    | none => exact absurd (h i (by omega)) hn
    | some b => exact (hb b rfl).trans (h.2.2 i (by omega) hn)
theorem bett.anti {x y : Nat} (h : bett x y) (g : bett y x) : x = y := by unfold bett at *; omega
theorem MOk.un {a : Nat → Nat} {Q : List Nat} {mo x : Option Nat} (h : MOk a Q Q.length mo) (hm : ∀ s, s ∈ Q ↔ Rch a s) (hx : MOSTr a x) : mo = x := by
  match mo, x with
  | none, none => rfl
  | some b, none =>
    obtain ⟨_, ⟨i, hi, h1, _⟩, _⟩ := h
    exact absurd (hx _ ((hm _).mp (getD_mem hi))) h1
  | none, some b =>
    obtain ⟨⟨s, hs, h1, _⟩, _⟩ := hx
    obtain ⟨i, hi, rfl⟩ := mem_getD ((hm s).mpr hs)
    exact absurd (h i hi) h1
  | some b, some c =>
    obtain ⟨_, ⟨i, hi, h1, h2⟩, h3⟩ := h
    obtain ⟨⟨s, hs, g1, g2⟩, g3⟩ := hx
    have e1 := g3 _ ((hm _).mp (getD_mem hi)) h1
    obtain ⟨j, hj, rfl⟩ := mem_getD ((hm s).mpr hs)
    have e2 := h3 j hj g1
    rw [h2] at e1; rw [g2] at e2
    rw [e2.anti e1]
def mostF (mo : Option Nat) (y : Int32) : Int32 := if inR 0 1 y then (match mo with
  | none => -1
  | some b => if y = 1 then nI b else nI (popN b)) else -2
set_option maxRecDepth 20000 in
set_option maxHeartbeats 1000000 in
theorem ref_stands {E : EnvT} {d : Nat} {h0 : Hp} {v : Nat → Int32} {a : Nat → Nat} {hi : Nat → Int32} {tp : Nat → Nat} {rs rm : Nat → Int32} {nu : Nat → Int64} {n : Nat} (hR : RS h0 v a hi tp rs rm nu) (hA : AIN a) (hS : STr a n) (hd : 5 ≤ d) : Cn E mX10_stands d [.ref 117] h0 (RP (.int (nI n)) h0 v a hi tp rs rm nu) := by
  obtain ⟨k117, k118, k119, k120, ⟨f121, k121⟩, ⟨f122, k122⟩, ⟨f123, k123⟩, ⟨f124, k124⟩, ⟨f125, k125⟩, ⟨f126, k126⟩, ⟨f127, k127⟩, ⟨f128, k128⟩, ⟨f129, k129⟩, ⟨f130, k130⟩, ⟨f131, k131⟩, ⟨f132, k132⟩, ⟨f133, k133⟩, ⟨f134, k134⟩, ⟨f135, k135⟩, k136, k137, k138⟩ := hR
  have c117 := k117
  have c118 := k118
  have c122 := k122
  have c123 := k123
  have c125 := k125
  have c126 := k126
  have c128 := k128
  have hx : Ex [117, 118, 122, 123, 125, 126, 128] h0 h0 := Ex.rf
  refine Cn.go (ls := [.ref 117]) (by decide +kernel) rfl (Nat.le_of_ble_eq_true rfl) ?_
  refine r_aload_n (pc2 := 1) 0 dX10_stands_0 rfl rfl rfl rfl ?_
  refine r_iconst (pc2 := 2) (v := 0) dX10_stands_1 (by decide) rfl ?_
  refine r_putfX (pc2 := 5) (moL (upd v 0 0)) fX10_1 dX10_stands_2 c117 (by decide) (Nat.le_of_ble_eq_true rfl) rfl rfl rfl (fun h z2 o2 c117 => ?_)
  have c118 := (o2 118 (by decide)).trans c118
  have c122 := (o2 122 (by decide)).trans c122
  have c123 := (o2 123 (by decide)).trans c123
  have c125 := (o2 125 (by decide)).trans c125
  have c126 := (o2 126 (by decide)).trans c126
  have c128 := (o2 128 (by decide)).trans c128
  have hx := hx.step (a := 117) (by decide) z2 o2
  refine r_aload_n (pc2 := 6) 0 dX10_stands_5 rfl rfl rfl rfl ?_
  refine r_callV0 (pc2 := 9) (As := []) (st := []) kX10_351 rfl rfl dX10_stands_6 c117 (by decide) rfl rfl (Nat.le_of_ble_eq_true rfl) (by omega) (c_laysStands c117 c118 c122 c123 c125 c126 c128 hA (by omega)) rfl (fun h hq6 => ?_)
  obtain ⟨hxl, Q, g2, c117, ⟨f3, c125, hfQ⟩, c126, ⟨kn3, c128⟩, ⟨f4, c122⟩, ⟨w4, c123⟩, hnd, hmem, hgc, hq0⟩ := hq6
  have c118 := hxl.get (by decide) c118
  have hx := hx.trans hxl (by decide)
  refine r_aload_n (pc2 := 10) 0 dX10_stands_9 rfl rfl rfl rfl ?_
  refine r_getf (pc2 := 13) (v := .int (nI Q.length)) fX10_344 dX10_stands_10 c117 (by decide) rfl rfl ?_
  exact r_iret rfl dX10_stands_13 ⟨by rw [hS.un hnd hmem], (upd (upd v 0 0) 25 (nI Q.length)), ⟨rfl, rfl, rfl⟩, ⟨c117, c118, hx.get (by decide) k119, hx.get (by decide) k120, ⟨_, hx.get (by decide) k121⟩, ⟨_, c122⟩, ⟨_, c123⟩, ⟨_, hx.get (by decide) k124⟩, ⟨_, c125⟩, ⟨_, c126⟩, ⟨_, hx.get (by decide) k127⟩, ⟨_, c128⟩, ⟨_, hx.get (by decide) k129⟩, ⟨_, hx.get (by decide) k130⟩, ⟨_, hx.get (by decide) k131⟩, ⟨_, hx.get (by decide) k132⟩, ⟨_, hx.get (by decide) k133⟩, ⟨_, hx.get (by decide) k134⟩, ⟨_, hx.get (by decide) k135⟩, hx.get (by decide) k136, hx.get (by decide) k137, hx.get (by decide) k138⟩, hx.mono (by decide)⟩
set_option maxRecDepth 20000 in
set_option maxHeartbeats 1000000 in
theorem ref_can {E : EnvT} {d : Nat} {h0 : Hp} {v : Nat → Int32} {a : Nat → Nat} {hi : Nat → Int32} {tp : Nat → Nat} {rs rm : Nat → Int32} {nu : Nat → Int64} {x : Nat} (hR : RS h0 v a hi tp rs rm nu) (hA : AIN a) (hX : CANr a x) (hd : 5 ≤ d) : Cn E mX10_can d [.ref 117] h0 (RP (.int (nI x)) h0 v a hi tp rs rm nu) := by
  obtain ⟨k117, k118, k119, k120, ⟨f121, k121⟩, ⟨f122, k122⟩, ⟨f123, k123⟩, ⟨f124, k124⟩, ⟨f125, k125⟩, ⟨f126, k126⟩, ⟨f127, k127⟩, ⟨f128, k128⟩, ⟨f129, k129⟩, ⟨f130, k130⟩, ⟨f131, k131⟩, ⟨f132, k132⟩, ⟨f133, k133⟩, ⟨f134, k134⟩, ⟨f135, k135⟩, k136, k137, k138⟩ := hR
  have c117 := k117
  have c118 := k118
  have c122 := k122
  have c123 := k123
  have c125 := k125
  have c126 := k126
  have c128 := k128
  have hx : Ex [117, 118, 122, 123, 125, 126, 128] h0 h0 := Ex.rf
  refine Cn.go (ls := [.ref 117, .float 0, .float 0]) (by decide +kernel) rfl (Nat.le_of_ble_eq_true rfl) ?_
  refine r_aload_n (pc2 := 1) 0 dX10_can_0 rfl rfl rfl rfl ?_
  refine r_iconst (pc2 := 2) (v := 0) dX10_can_1 (by decide) rfl ?_
  refine r_putfX (pc2 := 5) (moL (upd v 0 0)) fX10_1 dX10_can_2 c117 (by decide) (Nat.le_of_ble_eq_true rfl) rfl rfl rfl (fun h z2 o2 c117 => ?_)
  have c118 := (o2 118 (by decide)).trans c118
  have c122 := (o2 122 (by decide)).trans c122
  have c123 := (o2 123 (by decide)).trans c123
  have c125 := (o2 125 (by decide)).trans c125
  have c126 := (o2 126 (by decide)).trans c126
  have c128 := (o2 128 (by decide)).trans c128
  have hx := hx.step (a := 117) (by decide) z2 o2
  refine r_aload_n (pc2 := 6) 0 dX10_can_5 rfl rfl rfl rfl ?_
  refine r_callV0 (pc2 := 9) (As := []) (st := []) kX10_351 rfl rfl dX10_can_6 c117 (by decide) rfl rfl (Nat.le_of_ble_eq_true rfl) (by omega) (c_laysStands c117 c118 c122 c123 c125 c126 c128 hA (by omega)) rfl (fun h hq6 => ?_)
  obtain ⟨hxl, Q, g2, c117, ⟨f3, c125, hfQ⟩, c126, ⟨kn3, c128⟩, ⟨f4, c122⟩, ⟨w4, c123⟩, hnd, hmem, hgc, hq0⟩ := hq6
  have c118 := hxl.get (by decide) c118
  have hx := hx.trans hxl (by decide)
  refine r_iconst (pc2 := 10) (v := 0) dX10_can_9 (by decide) rfl ?_
  refine r_istore_n (pc2 := 11) (ls2 := [.ref 117, .int 0, .float 0]) 1 dX10_can_10 rfl (by decide) rfl rfl rfl ?_
  refine r_iconst (pc2 := 12) (v := 0) dX10_can_11 (by decide) rfl ?_
  refine r_istore_n (pc2 := 13) (ls2 := [.ref 117, .int 0, .int 0]) 2 dX10_can_12 rfl (by decide) rfl rfl rfl ?_
  have hQ4 : ∀ s ∈ Q, s < 40960 := fun s hs => (((hmem s).mp hs).sg hA).1
  have hle : Q.length ≤ 40960 := nodup_le _ _ hnd hQ4
  have loop : ∀ (m k r : Nat), k + m = Q.length → CANk a Q k r → Fr E mX10_can d 13 [.ref 117, .int (nI r), .int (nI k)] [] h (RP (.int (nI x)) h0 v a hi tp rs rm nu) := by
    intro m
    induction m with
    | zero =>
      intro k r hk hi
      obtain rfl : k = Q.length := by omega
      refine r_iload_n (pc2 := 14) 2 dX10_can_13 rfl rfl rfl ?_
      refine r_aload_n (pc2 := 15) 0 dX10_can_14 rfl rfl rfl rfl ?_
      refine r_getf (pc2 := 18) (v := .int (nI Q.length)) fX10_344 dX10_can_15 c117 (by decide) rfl rfl ?_
      refine r_icmp_ge (tgt := 56) (pc2 := 21) dX10_can_18 (by decide) rfl (fun b18 => ?_) (fun b18 => ?_)
      · skip
        refine r_iload_n (pc2 := 57) 1 dX10_can_56 rfl rfl rfl ?_
        exact r_iret rfl dX10_can_57 ⟨by rw [hi.un hmem hX], (upd (upd v 0 0) 25 (nI Q.length)), ⟨rfl, rfl, rfl⟩, ⟨c117, c118, hx.get (by decide) k119, hx.get (by decide) k120, ⟨_, hx.get (by decide) k121⟩, ⟨_, c122⟩, ⟨_, c123⟩, ⟨_, hx.get (by decide) k124⟩, ⟨_, c125⟩, ⟨_, c126⟩, ⟨_, hx.get (by decide) k127⟩, ⟨_, c128⟩, ⟨_, hx.get (by decide) k129⟩, ⟨_, hx.get (by decide) k130⟩, ⟨_, hx.get (by decide) k131⟩, ⟨_, hx.get (by decide) k132⟩, ⟨_, hx.get (by decide) k133⟩, ⟨_, hx.get (by decide) k134⟩, ⟨_, hx.get (by decide) k135⟩, hx.get (by decide) k136, hx.get (by decide) k137, hx.get (by decide) k138⟩, hx.mono (by decide)⟩
      · exact absurd (nI_le (Nat.le_refl _) (by omega)) b18
    | succ m ih =>
      intro k r hk hi
      have hlt : k < Q.length := by omega
      have hs4 := hQ4 _ (getD_mem hlt)
      by_cases hz : (Q.getD k 0) / 4096 = 0
      · skip
        refine r_iload_n (pc2 := 14) 2 dX10_can_13 rfl rfl rfl ?_
        refine r_aload_n (pc2 := 15) 0 dX10_can_14 rfl rfl rfl rfl ?_
        refine r_getf (pc2 := 18) (v := .int (nI Q.length)) fX10_344 dX10_can_15 c117 (by decide) rfl rfl ?_
        refine r_icmp_ge (tgt := 56) (pc2 := 21) dX10_can_18 (by decide) rfl (fun b18 => ?_) (fun b18 => ?_)
        · exact absurd b18 (nI_ge hlt (by omega))
        · skip
          refine r_iload_n (pc2 := 22) 1 dX10_can_21 rfl rfl rfl ?_
          refine r_aload_n (pc2 := 23) 0 dX10_can_22 rfl rfl rfl rfl ?_
          refine r_getf (pc2 := 26) (v := .ref 125) fX10_40 dX10_can_23 c117 (by decide) rfl rfl ?_
          refine r_iload_n (pc2 := 27) 2 dX10_can_26 rfl rfl rfl ?_
          refine r_ialdN (pc2 := 28) k dX10_can_27 c125 (by decide) rfl (by omega) (by decide) rfl ?_
          refine r_cast (nI (Q.getD k 0)) (hfQ k hlt) ?_
          refine r_callS1 (pc2 := 31) (As := [.int (nI (Q.getD k 0))]) (st := [.int (nI r)]) kX10_231 dX10_can_28 rfl rfl (Nat.le_of_ble_eq_true rfl) (by omega) (c_depthIn (nI (Q.getD k 0))) rfl (fun h2 hq28 => ?_)
          subst hq28
          refine r_cast (nI ((Q.getD k 0) / 4096)) (depthN (by omega)) ?_
          refine r_if_le (tgt := 47) (pc2 := 34) dX10_can_31 (by decide) rfl (fun b31 => ?_) (fun b31 => ?_)
          · skip
            refine r_iconst (pc2 := 48) (v := 0) dX10_can_47 (by decide) rfl ?_
            refine r_cast (nI (if (Q.getD k 0) / 4096 = 0 then 0 else pastN (a 1) (Q.getD k 0) (a 3))) (by rw [if_pos hz]; rfl) ?_
            refine r_ior (pc2 := 49) dX10_can_48 rfl ?_
            refine r_cast (nI (r ||| if (Q.getD k 0) / 4096 = 0 then 0 else pastN (a 1) (Q.getD k 0) (a 3))) (nI_or _ _) ?_
            refine r_istore_n (pc2 := 50) (ls2 := [.ref 117, .int (nI (r ||| if (Q.getD k 0) / 4096 = 0 then 0 else pastN (a 1) (Q.getD k 0) (a 3))), .int (nI k)]) 1 dX10_can_49 rfl (by decide) rfl rfl rfl ?_
            obtain ⟨x50, e50⟩ : ∃ z : Int32, z = (nI k) + (1) := ⟨_, rfl⟩
            refine r_iinc (pc2 := 53) (ls2 := [.ref 117, .int (nI (r ||| if (Q.getD k 0) / 4096 = 0 then 0 else pastN (a 1) (Q.getD k 0) (a 3))), .int x50]) (v := x50) 2 dX10_can_50 rfl (by rw [e50]; rfl) rfl rfl rfl ?_
            refine r_goto (pc2 := 13) dX10_can_53 (by decide) ?_
            rw [e50, nI_1]
            exact ih (k + 1) _ (by omega) hi.s
          · exact absurd (by rw [hz]; decide) b31
      · skip
        refine r_iload_n (pc2 := 14) 2 dX10_can_13 rfl rfl rfl ?_
        refine r_aload_n (pc2 := 15) 0 dX10_can_14 rfl rfl rfl rfl ?_
        refine r_getf (pc2 := 18) (v := .int (nI Q.length)) fX10_344 dX10_can_15 c117 (by decide) rfl rfl ?_
        refine r_icmp_ge (tgt := 56) (pc2 := 21) dX10_can_18 (by decide) rfl (fun b18 => ?_) (fun b18 => ?_)
        · exact absurd b18 (nI_ge hlt (by omega))
        · skip
          refine r_iload_n (pc2 := 22) 1 dX10_can_21 rfl rfl rfl ?_
          refine r_aload_n (pc2 := 23) 0 dX10_can_22 rfl rfl rfl rfl ?_
          refine r_getf (pc2 := 26) (v := .ref 125) fX10_40 dX10_can_23 c117 (by decide) rfl rfl ?_
          refine r_iload_n (pc2 := 27) 2 dX10_can_26 rfl rfl rfl ?_
          refine r_ialdN (pc2 := 28) k dX10_can_27 c125 (by decide) rfl (by omega) (by decide) rfl ?_
          refine r_cast (nI (Q.getD k 0)) (hfQ k hlt) ?_
          refine r_callS1 (pc2 := 31) (As := [.int (nI (Q.getD k 0))]) (st := [.int (nI r)]) kX10_231 dX10_can_28 rfl rfl (Nat.le_of_ble_eq_true rfl) (by omega) (c_depthIn (nI (Q.getD k 0))) rfl (fun h2 hq28 => ?_)
          subst hq28
          refine r_cast (nI ((Q.getD k 0) / 4096)) (depthN (by omega)) ?_
          refine r_if_le (tgt := 47) (pc2 := 34) dX10_can_31 (by decide) rfl (fun b31 => ?_) (fun b31 => ?_)
          · exact absurd b31 (nI_nle (by omega) (by omega))
          · skip
            refine r_aload_n (pc2 := 35) 0 dX10_can_34 rfl rfl rfl rfl ?_
            refine r_aload_n (pc2 := 36) 0 dX10_can_35 rfl rfl rfl rfl ?_
            refine r_getf (pc2 := 39) (v := .ref 125) fX10_40 dX10_can_36 c117 (by decide) rfl rfl ?_
            refine r_iload_n (pc2 := 40) 2 dX10_can_39 rfl rfl rfl ?_
            refine r_ialdN (pc2 := 41) k dX10_can_40 c125 (by decide) rfl (by omega) (by decide) rfl ?_
            refine r_cast (nI (Q.getD k 0)) (hfQ k hlt) ?_
            refine r_callV1 (pc2 := 44) (As := [.int (nI (Q.getD k 0))]) (st := [.int (nI r)]) kX10_256 rfl rfl dX10_can_41 c117 (by decide) rfl rfl (Nat.le_of_ble_eq_true rfl) (by omega) (c_pastIn (st := (Q.getD k 0)) c117 c118 hA.G hA.C (by omega) (by omega)) rfl (fun h2 hq41 => ?_)
            subst hq41
            refine r_goto (pc2 := 48) dX10_can_44 (by decide) ?_
            refine r_cast (nI (if (Q.getD k 0) / 4096 = 0 then 0 else pastN (a 1) (Q.getD k 0) (a 3))) (by rw [if_neg hz]) ?_
            refine r_ior (pc2 := 49) dX10_can_48 rfl ?_
            refine r_cast (nI (r ||| if (Q.getD k 0) / 4096 = 0 then 0 else pastN (a 1) (Q.getD k 0) (a 3))) (nI_or _ _) ?_
            refine r_istore_n (pc2 := 50) (ls2 := [.ref 117, .int (nI (r ||| if (Q.getD k 0) / 4096 = 0 then 0 else pastN (a 1) (Q.getD k 0) (a 3))), .int (nI k)]) 1 dX10_can_49 rfl (by decide) rfl rfl rfl ?_
            obtain ⟨x50, e50⟩ : ∃ z : Int32, z = (nI k) + (1) := ⟨_, rfl⟩
            refine r_iinc (pc2 := 53) (ls2 := [.ref 117, .int (nI (r ||| if (Q.getD k 0) / 4096 = 0 then 0 else pastN (a 1) (Q.getD k 0) (a 3))), .int x50]) (v := x50) 2 dX10_can_50 rfl (by rw [e50]; rfl) rfl rfl rfl ?_
            refine r_goto (pc2 := 13) dX10_can_53 (by decide) ?_
            rw [e50, nI_1]
            exact ih (k + 1) _ (by omega) hi.s
  exact loop Q.length 0 0 (by omega) (fun g => by rw [Nat.zero_testBit]; exact ⟨fun z => (by cases z), fun ⟨i, hi, _⟩ => absurd hi (Nat.not_lt_zero _)⟩)
set_option maxRecDepth 20000 in
set_option maxHeartbeats 1000000 in
theorem ref_deepest {E : EnvT} {d : Nat} {h0 : Hp} {v : Nat → Int32} {a : Nat → Nat} {hi : Nat → Int32} {tp : Nat → Nat} {rs rm : Nat → Int32} {nu : Nat → Int64} {x : Nat} (hR : RS h0 v a hi tp rs rm nu) (hA : AIN a) (hX : DEEPr a x) (hd : 5 ≤ d) : Cn E mX10_deepest d [.ref 117] h0 (RP (.int (nI x)) h0 v a hi tp rs rm nu) := by
  obtain ⟨k117, k118, k119, k120, ⟨f121, k121⟩, ⟨f122, k122⟩, ⟨f123, k123⟩, ⟨f124, k124⟩, ⟨f125, k125⟩, ⟨f126, k126⟩, ⟨f127, k127⟩, ⟨f128, k128⟩, ⟨f129, k129⟩, ⟨f130, k130⟩, ⟨f131, k131⟩, ⟨f132, k132⟩, ⟨f133, k133⟩, ⟨f134, k134⟩, ⟨f135, k135⟩, k136, k137, k138⟩ := hR
  have c117 := k117
  have c118 := k118
  have c122 := k122
  have c123 := k123
  have c125 := k125
  have c126 := k126
  have c128 := k128
  have hx : Ex [117, 118, 122, 123, 125, 126, 128] h0 h0 := Ex.rf
  refine Cn.go (ls := [.ref 117, .float 0, .float 0]) (by decide +kernel) rfl (Nat.le_of_ble_eq_true rfl) ?_
  refine r_aload_n (pc2 := 1) 0 dX10_deepest_0 rfl rfl rfl rfl ?_
  refine r_iconst (pc2 := 2) (v := 0) dX10_deepest_1 (by decide) rfl ?_
  refine r_putfX (pc2 := 5) (moL (upd v 0 0)) fX10_1 dX10_deepest_2 c117 (by decide) (Nat.le_of_ble_eq_true rfl) rfl rfl rfl (fun h z2 o2 c117 => ?_)
  have c118 := (o2 118 (by decide)).trans c118
  have c122 := (o2 122 (by decide)).trans c122
  have c123 := (o2 123 (by decide)).trans c123
  have c125 := (o2 125 (by decide)).trans c125
  have c126 := (o2 126 (by decide)).trans c126
  have c128 := (o2 128 (by decide)).trans c128
  have hx := hx.step (a := 117) (by decide) z2 o2
  refine r_aload_n (pc2 := 6) 0 dX10_deepest_5 rfl rfl rfl rfl ?_
  refine r_callV0 (pc2 := 9) (As := []) (st := []) kX10_351 rfl rfl dX10_deepest_6 c117 (by decide) rfl rfl (Nat.le_of_ble_eq_true rfl) (by omega) (c_laysStands c117 c118 c122 c123 c125 c126 c128 hA (by omega)) rfl (fun h hq6 => ?_)
  obtain ⟨hxl, Q, g2, c117, ⟨f3, c125, hfQ⟩, c126, ⟨kn3, c128⟩, ⟨f4, c122⟩, ⟨w4, c123⟩, hnd, hmem, hgc, hq0⟩ := hq6
  have c118 := hxl.get (by decide) c118
  have hx := hx.trans hxl (by decide)
  refine r_iconst (pc2 := 10) (v := 0) dX10_deepest_9 (by decide) rfl ?_
  refine r_istore_n (pc2 := 11) (ls2 := [.ref 117, .int 0, .float 0]) 1 dX10_deepest_10 rfl (by decide) rfl rfl rfl ?_
  refine r_iconst (pc2 := 12) (v := 0) dX10_deepest_11 (by decide) rfl ?_
  refine r_istore_n (pc2 := 13) (ls2 := [.ref 117, .int 0, .int 0]) 2 dX10_deepest_12 rfl (by decide) rfl rfl rfl ?_
  have hQ4 : ∀ s ∈ Q, s < 40960 := fun s hs => (((hmem s).mp hs).sg hA).1
  have hle : Q.length ≤ 40960 := nodup_le _ _ hnd hQ4
  have loop : ∀ (m k r : Nat), k + m = Q.length → DEEPk Q k r → r < 10 → Fr E mX10_deepest d 13 [.ref 117, .int (nI r), .int (nI k)] [] h (RP (.int (nI x)) h0 v a hi tp rs rm nu) := by
    intro m
    induction m with
    | zero =>
      intro k r hk hi hr
      obtain rfl : k = Q.length := by omega
      refine r_iload_n (pc2 := 14) 2 dX10_deepest_13 rfl rfl rfl ?_
      refine r_aload_n (pc2 := 15) 0 dX10_deepest_14 rfl rfl rfl rfl ?_
      refine r_getf (pc2 := 18) (v := .int (nI Q.length)) fX10_344 dX10_deepest_15 c117 (by decide) rfl rfl ?_
      refine r_icmp_ge (tgt := 54) (pc2 := 21) dX10_deepest_18 (by decide) rfl (fun b18 => ?_) (fun b18 => ?_)
      · skip
        refine r_iload_n (pc2 := 55) 1 dX10_deepest_54 rfl rfl rfl ?_
        exact r_iret rfl dX10_deepest_55 ⟨by rw [hi.un hmem hX], (upd (upd v 0 0) 25 (nI Q.length)), ⟨rfl, rfl, rfl⟩, ⟨c117, c118, hx.get (by decide) k119, hx.get (by decide) k120, ⟨_, hx.get (by decide) k121⟩, ⟨_, c122⟩, ⟨_, c123⟩, ⟨_, hx.get (by decide) k124⟩, ⟨_, c125⟩, ⟨_, c126⟩, ⟨_, hx.get (by decide) k127⟩, ⟨_, c128⟩, ⟨_, hx.get (by decide) k129⟩, ⟨_, hx.get (by decide) k130⟩, ⟨_, hx.get (by decide) k131⟩, ⟨_, hx.get (by decide) k132⟩, ⟨_, hx.get (by decide) k133⟩, ⟨_, hx.get (by decide) k134⟩, ⟨_, hx.get (by decide) k135⟩, hx.get (by decide) k136, hx.get (by decide) k137, hx.get (by decide) k138⟩, hx.mono (by decide)⟩
      · exact absurd (nI_le (Nat.le_refl _) (by omega)) b18
    | succ m ih =>
      intro k r hk hi hr
      have hlt : k < Q.length := by omega
      have hs4 := hQ4 _ (getD_mem hlt)
      by_cases hz : r < (Q.getD k 0) / 4096
      · skip
        refine r_iload_n (pc2 := 14) 2 dX10_deepest_13 rfl rfl rfl ?_
        refine r_aload_n (pc2 := 15) 0 dX10_deepest_14 rfl rfl rfl rfl ?_
        refine r_getf (pc2 := 18) (v := .int (nI Q.length)) fX10_344 dX10_deepest_15 c117 (by decide) rfl rfl ?_
        refine r_icmp_ge (tgt := 54) (pc2 := 21) dX10_deepest_18 (by decide) rfl (fun b18 => ?_) (fun b18 => ?_)
        · exact absurd b18 (nI_ge hlt (by omega))
        · skip
          refine r_aload_n (pc2 := 22) 0 dX10_deepest_21 rfl rfl rfl rfl ?_
          refine r_getf (pc2 := 25) (v := .ref 125) fX10_40 dX10_deepest_22 c117 (by decide) rfl rfl ?_
          refine r_iload_n (pc2 := 26) 2 dX10_deepest_25 rfl rfl rfl ?_
          refine r_ialdN (pc2 := 27) k dX10_deepest_26 c125 (by decide) rfl (by omega) (by decide) rfl ?_
          refine r_cast (nI (Q.getD k 0)) (hfQ k hlt) ?_
          refine r_callS1 (pc2 := 30) (As := [.int (nI (Q.getD k 0))]) (st := []) kX10_231 dX10_deepest_27 rfl rfl (Nat.le_of_ble_eq_true rfl) (by omega) (c_depthIn (nI (Q.getD k 0))) rfl (fun h2 hq27 => ?_)
          subst hq27
          refine r_cast (nI ((Q.getD k 0) / 4096)) (depthN (by omega)) ?_
          refine r_iload_n (pc2 := 31) 1 dX10_deepest_30 rfl rfl rfl ?_
          refine r_icmp_le (tgt := 46) (pc2 := 34) dX10_deepest_31 (by decide) rfl (fun b31 => ?_) (fun b31 => ?_)
          · exact absurd b31 (nI_ge hz (by omega))
          · skip
            refine r_aload_n (pc2 := 35) 0 dX10_deepest_34 rfl rfl rfl rfl ?_
            refine r_getf (pc2 := 38) (v := .ref 125) fX10_40 dX10_deepest_35 c117 (by decide) rfl rfl ?_
            refine r_iload_n (pc2 := 39) 2 dX10_deepest_38 rfl rfl rfl ?_
            refine r_ialdN (pc2 := 40) k dX10_deepest_39 c125 (by decide) rfl (by omega) (by decide) rfl ?_
            refine r_cast (nI (Q.getD k 0)) (hfQ k hlt) ?_
            refine r_callS1 (pc2 := 43) (As := [.int (nI (Q.getD k 0))]) (st := []) kX10_231 dX10_deepest_40 rfl rfl (Nat.le_of_ble_eq_true rfl) (by omega) (c_depthIn (nI (Q.getD k 0))) rfl (fun h2 hq40 => ?_)
            subst hq40
            refine r_cast (nI ((Q.getD k 0) / 4096)) (depthN (by omega)) ?_
            refine r_goto (pc2 := 47) dX10_deepest_43 (by decide) ?_
            refine r_cast (nI (if r < (Q.getD k 0) / 4096 then (Q.getD k 0) / 4096 else r)) (by rw [if_pos hz]) ?_
            refine r_istore_n (pc2 := 48) (ls2 := [.ref 117, .int (nI (if r < (Q.getD k 0) / 4096 then (Q.getD k 0) / 4096 else r)), .int (nI k)]) 1 dX10_deepest_47 rfl (by decide) rfl rfl rfl ?_
            obtain ⟨x48, e48⟩ : ∃ z : Int32, z = (nI k) + (1) := ⟨_, rfl⟩
            refine r_iinc (pc2 := 51) (ls2 := [.ref 117, .int (nI (if r < (Q.getD k 0) / 4096 then (Q.getD k 0) / 4096 else r)), .int x48]) (v := x48) 2 dX10_deepest_48 rfl (by rw [e48]; rfl) rfl rfl rfl ?_
            refine r_goto (pc2 := 13) dX10_deepest_51 (by decide) ?_
            rw [e48, nI_1]
            exact ih (k + 1) _ (by omega) hi.s (by split <;> omega)
      · skip
        refine r_iload_n (pc2 := 14) 2 dX10_deepest_13 rfl rfl rfl ?_
        refine r_aload_n (pc2 := 15) 0 dX10_deepest_14 rfl rfl rfl rfl ?_
        refine r_getf (pc2 := 18) (v := .int (nI Q.length)) fX10_344 dX10_deepest_15 c117 (by decide) rfl rfl ?_
        refine r_icmp_ge (tgt := 54) (pc2 := 21) dX10_deepest_18 (by decide) rfl (fun b18 => ?_) (fun b18 => ?_)
        · exact absurd b18 (nI_ge hlt (by omega))
        · skip
          refine r_aload_n (pc2 := 22) 0 dX10_deepest_21 rfl rfl rfl rfl ?_
          refine r_getf (pc2 := 25) (v := .ref 125) fX10_40 dX10_deepest_22 c117 (by decide) rfl rfl ?_
          refine r_iload_n (pc2 := 26) 2 dX10_deepest_25 rfl rfl rfl ?_
          refine r_ialdN (pc2 := 27) k dX10_deepest_26 c125 (by decide) rfl (by omega) (by decide) rfl ?_
          refine r_cast (nI (Q.getD k 0)) (hfQ k hlt) ?_
          refine r_callS1 (pc2 := 30) (As := [.int (nI (Q.getD k 0))]) (st := []) kX10_231 dX10_deepest_27 rfl rfl (Nat.le_of_ble_eq_true rfl) (by omega) (c_depthIn (nI (Q.getD k 0))) rfl (fun h2 hq27 => ?_)
          subst hq27
          refine r_cast (nI ((Q.getD k 0) / 4096)) (depthN (by omega)) ?_
          refine r_iload_n (pc2 := 31) 1 dX10_deepest_30 rfl rfl rfl ?_
          refine r_icmp_le (tgt := 46) (pc2 := 34) dX10_deepest_31 (by decide) rfl (fun b31 => ?_) (fun b31 => ?_)
          · skip
            refine r_iload_n (pc2 := 47) 1 dX10_deepest_46 rfl rfl rfl ?_
            refine r_cast (nI (if r < (Q.getD k 0) / 4096 then (Q.getD k 0) / 4096 else r)) (by rw [if_neg hz]) ?_
            refine r_istore_n (pc2 := 48) (ls2 := [.ref 117, .int (nI (if r < (Q.getD k 0) / 4096 then (Q.getD k 0) / 4096 else r)), .int (nI k)]) 1 dX10_deepest_47 rfl (by decide) rfl rfl rfl ?_
            obtain ⟨x48, e48⟩ : ∃ z : Int32, z = (nI k) + (1) := ⟨_, rfl⟩
            refine r_iinc (pc2 := 51) (ls2 := [.ref 117, .int (nI (if r < (Q.getD k 0) / 4096 then (Q.getD k 0) / 4096 else r)), .int x48]) (v := x48) 2 dX10_deepest_48 rfl (by rw [e48]; rfl) rfl rfl rfl ?_
            refine r_goto (pc2 := 13) dX10_deepest_51 (by decide) ?_
            rw [e48, nI_1]
            exact ih (k + 1) _ (by omega) hi.s (by split <;> omega)
          · exact absurd (nI_le (by omega) (by omega)) b31
  exact loop Q.length 0 0 (by omega) ⟨fun i hi => absurd hi (Nat.not_lt_zero _), Or.inl rfl⟩ (by omega)
set_option maxRecDepth 20000 in
set_option maxHeartbeats 1000000 in
theorem ref_most {E : EnvT} {d : Nat} {h0 : Hp} {v : Nat → Int32} {a : Nat → Nat} {hi : Nat → Int32} {tp : Nat → Nat} {rs rm : Nat → Int32} {nu : Nat → Int64} {x : Option Nat} {w : Int32} (hR : RS h0 v a hi tp rs rm nu) (hA : AIN a) (hX : MOSTr a x) (hd : 5 ≤ d) : Cn E mX10_most d [.ref 117, .int w] h0 (RP (.int (mostF x w)) h0 v a hi tp rs rm nu) := by
  obtain ⟨k117, k118, k119, k120, ⟨f121, k121⟩, ⟨f122, k122⟩, ⟨f123, k123⟩, ⟨f124, k124⟩, ⟨f125, k125⟩, ⟨f126, k126⟩, ⟨f127, k127⟩, ⟨f128, k128⟩, ⟨f129, k129⟩, ⟨f130, k130⟩, ⟨f131, k131⟩, ⟨f132, k132⟩, ⟨f133, k133⟩, ⟨f134, k134⟩, ⟨f135, k135⟩, k136, k137, k138⟩ := hR
  have c117 := k117
  have c118 := k118
  have c122 := k122
  have c123 := k123
  have c125 := k125
  have c126 := k126
  have c128 := k128
  have hx : Ex [117, 118, 122, 123, 125, 126, 128] h0 h0 := Ex.rf
  by_cases hv : inR 0 1 w
  · obtain ⟨y, y0, y1, rfl⟩ := inR_of (by decide) (by decide) hv
    refine Cn.go (ls := [.ref 117, .int (nI y), .float 0, .float 0, .float 0]) (by decide +kernel) rfl (Nat.le_of_ble_eq_true rfl) ?_
    refine r_aload_n (pc2 := 1) 0 dX10_most_0 rfl rfl rfl rfl ?_
    refine r_iconst (pc2 := 2) (v := 0) dX10_most_1 (by decide) rfl ?_
    refine r_putfX (pc2 := 5) (moL (upd v 0 0)) fX10_1 dX10_most_2 c117 (by decide) (Nat.le_of_ble_eq_true rfl) rfl rfl rfl (fun h z2 o2 c117 => ?_)
    have c118 := (o2 118 (by decide)).trans c118
    have c122 := (o2 122 (by decide)).trans c122
    have c123 := (o2 123 (by decide)).trans c123
    have c125 := (o2 125 (by decide)).trans c125
    have c126 := (o2 126 (by decide)).trans c126
    have c128 := (o2 128 (by decide)).trans c128
    have hx := hx.step (a := 117) (by decide) z2 o2
    refine r_iload_n (pc2 := 6) 1 dX10_most_5 rfl rfl rfl ?_
    refine r_i2l (pc2 := 7) dX10_most_6 rfl ?_
    refine r_lconst (pc2 := 8) (v := 0) dX10_most_7 (by decide) rfl ?_
    refine r_lconst (pc2 := 9) (v := 1) dX10_most_8 (by decide) rfl ?_
    refine r_callS1 (pc2 := 12) (As := [.long (Int32.toInt64 (nI y)), .long 0, .long 1]) (st := []) kX10_152 dX10_most_9 rfl rfl (Nat.le_of_ble_eq_true rfl) (by omega) (c_within (Int32.toInt64 (nI y)) 0 1) rfl (fun h2 hq9 => ?_)
    subst hq9
    refine r_if_ne (tgt := 18) (pc2 := 15) dX10_most_12 (by decide) rfl (fun b12 => ?_) (fun b12 => ?_)
    · skip
      refine r_aload_n (pc2 := 19) 0 dX10_most_18 rfl rfl rfl rfl ?_
      refine r_callV0 (pc2 := 22) (As := []) (st := []) kX10_351 rfl rfl dX10_most_19 c117 (by decide) rfl rfl (Nat.le_of_ble_eq_true rfl) (by omega) (c_laysStands c117 c118 c122 c123 c125 c126 c128 hA (by omega)) rfl (fun h hq19 => ?_)
      obtain ⟨hxl, Q, g2, c117, ⟨f3, c125, hfQ⟩, c126, ⟨kn3, c128⟩, ⟨f4, c122⟩, ⟨w4, c123⟩, hnd, hmem, hgc, hq0⟩ := hq19
      have c118 := hxl.get (by decide) c118
      have hx := hx.trans hxl (by decide)
      refine r_iconst (pc2 := 23) (v := -1) dX10_most_22 (by decide) rfl ?_
      refine r_istore_n (pc2 := 24) (ls2 := [.ref 117, .int (nI y), .int (-1), .float 0, .float 0]) 2 dX10_most_23 rfl (by decide) rfl rfl rfl ?_
      refine r_iconst (pc2 := 25) (v := 0) dX10_most_24 (by decide) rfl ?_
      refine r_istore_n (pc2 := 26) (ls2 := [.ref 117, .int (nI y), .int (-1), .int 0, .float 0]) 3 dX10_most_25 rfl (by decide) rfl rfl rfl ?_
      have hQ4 : ∀ s ∈ Q, s < 40960 := fun s hs => (((hmem s).mp hs).sg hA).1
      have hle : Q.length ≤ 40960 := nodup_le _ _ hnd hQ4
      have hpl : ∀ z, popN z ≤ 4 := fun z => by unfold popN; split <;> split <;> split <;> split <;> omega
      have loop : ∀ (m k : Nat) (mo : Option Nat) (u4 : Value), k + m = Q.length → MOk a Q k mo → Fr E mX10_most d 26 [.ref 117, .int (nI y), .int (optI mo), .int (nI k), u4] [] h (RP (.int (mostF x (nI y))) h0 v a hi tp rs rm nu) := by
        intro m
        induction m with
        | zero =>
          intro k mo u4 hk hi
          obtain rfl : k = Q.length := by omega
          match mo with
          | none =>
            show Fr E mX10_most d 26 [.ref 117, .int (nI y), .int (-1), .int (nI Q.length), u4] [] h _
            refine r_iload_n (pc2 := 27) 3 dX10_most_26 rfl rfl rfl ?_
            refine r_aload_n (pc2 := 28) 0 dX10_most_27 rfl rfl rfl rfl ?_
            refine r_getf (pc2 := 31) (v := .int (nI Q.length)) fX10_344 dX10_most_28 c117 (by decide) rfl rfl ?_
            refine r_icmp_ge (tgt := 105) (pc2 := 34) dX10_most_31 (by decide) rfl (fun b31 => ?_) (fun b31 => ?_)
            · skip
              refine r_iload_n (pc2 := 106) 2 dX10_most_105 rfl rfl rfl ?_
              refine r_iconst (pc2 := 107) (v := -1) dX10_most_106 (by decide) rfl ?_
              refine r_icmp_eq (tgt := 115) (pc2 := 110) dX10_most_107 (by decide) rfl (fun b107 => ?_) (fun b107 => ?_)
              · skip
                refine r_iload_n (pc2 := 116) 2 dX10_most_115 rfl rfl rfl ?_
                refine r_goto (pc2 := 123) dX10_most_116 (by decide) ?_
                exact r_iret rfl dX10_most_123 ⟨by rw [← hi.un hmem hX]; refine Eq.trans ?_ (congrArg (fun z => some (Value.int z)) (if_pos hv).symm); rfl, (upd (upd v 0 0) 25 (nI Q.length)), ⟨rfl, rfl, rfl⟩, ⟨c117, c118, hx.get (by decide) k119, hx.get (by decide) k120, ⟨_, hx.get (by decide) k121⟩, ⟨_, c122⟩, ⟨_, c123⟩, ⟨_, hx.get (by decide) k124⟩, ⟨_, c125⟩, ⟨_, c126⟩, ⟨_, hx.get (by decide) k127⟩, ⟨_, c128⟩, ⟨_, hx.get (by decide) k129⟩, ⟨_, hx.get (by decide) k130⟩, ⟨_, hx.get (by decide) k131⟩, ⟨_, hx.get (by decide) k132⟩, ⟨_, hx.get (by decide) k133⟩, ⟨_, hx.get (by decide) k134⟩, ⟨_, hx.get (by decide) k135⟩, hx.get (by decide) k136, hx.get (by decide) k137, hx.get (by decide) k138⟩, hx.mono (by decide)⟩
              · exact absurd rfl b107
            · exact absurd (nI_le (Nat.le_refl _) (by omega)) b31
          | some b =>
            show Fr E mX10_most d 26 [.ref 117, .int (nI y), .int (nI b), .int (nI Q.length), u4] [] h _
            have hb16 := hi.1
            rcases (show y = 0 ∨ y = 1 by omega) with rfl | rfl
            · skip
              refine r_iload_n (pc2 := 27) 3 dX10_most_26 rfl rfl rfl ?_
              refine r_aload_n (pc2 := 28) 0 dX10_most_27 rfl rfl rfl rfl ?_
              refine r_getf (pc2 := 31) (v := .int (nI Q.length)) fX10_344 dX10_most_28 c117 (by decide) rfl rfl ?_
              refine r_icmp_ge (tgt := 105) (pc2 := 34) dX10_most_31 (by decide) rfl (fun b31 => ?_) (fun b31 => ?_)
              · skip
                refine r_iload_n (pc2 := 106) 2 dX10_most_105 rfl rfl rfl ?_
                refine r_iconst (pc2 := 107) (v := -1) dX10_most_106 (by decide) rfl ?_
                refine r_icmp_eq (tgt := 115) (pc2 := 110) dX10_most_107 (by decide) rfl (fun b107 => ?_) (fun b107 => ?_)
                · exact absurd b107 (nI_nm1 (by omega))
                · skip
                  refine r_iload_n (pc2 := 111) 1 dX10_most_110 rfl rfl rfl ?_
                  refine r_iconst (pc2 := 112) (v := 1) dX10_most_111 (by decide) rfl ?_
                  refine r_icmp_ne (tgt := 119) (pc2 := 115) dX10_most_112 (by decide) rfl (fun b112 => ?_) (fun b112 => ?_)
                  · skip
                    refine r_iload_n (pc2 := 120) 2 dX10_most_119 rfl rfl rfl ?_
                    refine r_callS1 (pc2 := 123) (As := [.int (nI b)]) (st := []) kX10_253 dX10_most_120 rfl rfl (Nat.le_of_ble_eq_true rfl) (by omega) (c_bitsOf (nI b)) rfl (fun h2 hq120 => ?_)
                    subst hq120
                    refine r_cast (nI (popN b)) (bitsF_pop _ hb16) ?_
                    exact r_iret rfl dX10_most_123 ⟨by rw [← hi.un hmem hX]; refine Eq.trans ?_ (congrArg (fun z => some (Value.int z)) (if_pos hv).symm); rfl, (upd (upd v 0 0) 25 (nI Q.length)), ⟨rfl, rfl, rfl⟩, ⟨c117, c118, hx.get (by decide) k119, hx.get (by decide) k120, ⟨_, hx.get (by decide) k121⟩, ⟨_, c122⟩, ⟨_, c123⟩, ⟨_, hx.get (by decide) k124⟩, ⟨_, c125⟩, ⟨_, c126⟩, ⟨_, hx.get (by decide) k127⟩, ⟨_, c128⟩, ⟨_, hx.get (by decide) k129⟩, ⟨_, hx.get (by decide) k130⟩, ⟨_, hx.get (by decide) k131⟩, ⟨_, hx.get (by decide) k132⟩, ⟨_, hx.get (by decide) k133⟩, ⟨_, hx.get (by decide) k134⟩, ⟨_, hx.get (by decide) k135⟩, hx.get (by decide) k136, hx.get (by decide) k137, hx.get (by decide) k138⟩, hx.mono (by decide)⟩
                  · exact absurd b112 (by decide)
              · exact absurd (nI_le (Nat.le_refl _) (by omega)) b31
            · skip
              refine r_iload_n (pc2 := 27) 3 dX10_most_26 rfl rfl rfl ?_
              refine r_aload_n (pc2 := 28) 0 dX10_most_27 rfl rfl rfl rfl ?_
              refine r_getf (pc2 := 31) (v := .int (nI Q.length)) fX10_344 dX10_most_28 c117 (by decide) rfl rfl ?_
              refine r_icmp_ge (tgt := 105) (pc2 := 34) dX10_most_31 (by decide) rfl (fun b31 => ?_) (fun b31 => ?_)
              · skip
                refine r_iload_n (pc2 := 106) 2 dX10_most_105 rfl rfl rfl ?_
                refine r_iconst (pc2 := 107) (v := -1) dX10_most_106 (by decide) rfl ?_
                refine r_icmp_eq (tgt := 115) (pc2 := 110) dX10_most_107 (by decide) rfl (fun b107 => ?_) (fun b107 => ?_)
                · exact absurd b107 (nI_nm1 (by omega))
                · skip
                  refine r_iload_n (pc2 := 111) 1 dX10_most_110 rfl rfl rfl ?_
                  refine r_iconst (pc2 := 112) (v := 1) dX10_most_111 (by decide) rfl ?_
                  refine r_icmp_ne (tgt := 119) (pc2 := 115) dX10_most_112 (by decide) rfl (fun b112 => ?_) (fun b112 => ?_)
                  · exact absurd rfl b112
                  · skip
                    refine r_iload_n (pc2 := 116) 2 dX10_most_115 rfl rfl rfl ?_
                    refine r_goto (pc2 := 123) dX10_most_116 (by decide) ?_
                    exact r_iret rfl dX10_most_123 ⟨by rw [← hi.un hmem hX]; refine Eq.trans ?_ (congrArg (fun z => some (Value.int z)) (if_pos hv).symm); rfl, (upd (upd v 0 0) 25 (nI Q.length)), ⟨rfl, rfl, rfl⟩, ⟨c117, c118, hx.get (by decide) k119, hx.get (by decide) k120, ⟨_, hx.get (by decide) k121⟩, ⟨_, c122⟩, ⟨_, c123⟩, ⟨_, hx.get (by decide) k124⟩, ⟨_, c125⟩, ⟨_, c126⟩, ⟨_, hx.get (by decide) k127⟩, ⟨_, c128⟩, ⟨_, hx.get (by decide) k129⟩, ⟨_, hx.get (by decide) k130⟩, ⟨_, hx.get (by decide) k131⟩, ⟨_, hx.get (by decide) k132⟩, ⟨_, hx.get (by decide) k133⟩, ⟨_, hx.get (by decide) k134⟩, ⟨_, hx.get (by decide) k135⟩, hx.get (by decide) k136, hx.get (by decide) k137, hx.get (by decide) k138⟩, hx.mono (by decide)⟩
              · exact absurd (nI_le (Nat.le_refl _) (by omega)) b31
        | succ m ih =>
          intro k mo u4 hk hi
          have hlt : k < Q.length := by omega
          have hs4 := hQ4 _ (getD_mem hlt)
          have hp16 : (pastN (a 1) (Q.getD k 0) (a 3)) < 16 := pastN_16 _ _ hA.G
          have hpl1 := hpl (pastN (a 1) (Q.getD k 0) (a 3))
          by_cases hz : (Q.getD k 0) / 4096 = 0
          · skip
            refine r_iload_n (pc2 := 27) 3 dX10_most_26 rfl rfl rfl ?_
            refine r_aload_n (pc2 := 28) 0 dX10_most_27 rfl rfl rfl rfl ?_
            refine r_getf (pc2 := 31) (v := .int (nI Q.length)) fX10_344 dX10_most_28 c117 (by decide) rfl rfl ?_
            refine r_icmp_ge (tgt := 105) (pc2 := 34) dX10_most_31 (by decide) rfl (fun b31 => ?_) (fun b31 => ?_)
            · exact absurd b31 (nI_ge hlt (by omega))
            · skip
              refine r_aload_n (pc2 := 35) 0 dX10_most_34 rfl rfl rfl rfl ?_
              refine r_getf (pc2 := 38) (v := .ref 125) fX10_40 dX10_most_35 c117 (by decide) rfl rfl ?_
              refine r_iload_n (pc2 := 39) 3 dX10_most_38 rfl rfl rfl ?_
              refine r_ialdN (pc2 := 40) k dX10_most_39 c125 (by decide) rfl (by omega) (by decide) rfl ?_
              refine r_cast (nI (Q.getD k 0)) (hfQ k hlt) ?_
              refine r_callS1 (pc2 := 43) (As := [.int (nI (Q.getD k 0))]) (st := []) kX10_231 dX10_most_40 rfl rfl (Nat.le_of_ble_eq_true rfl) (by omega) (c_depthIn (nI (Q.getD k 0))) rfl (fun h2 hq40 => ?_)
              subst hq40
              refine r_cast (nI ((Q.getD k 0) / 4096)) (depthN (by omega)) ?_
              refine r_if_ne (tgt := 49) (pc2 := 46) dX10_most_43 (by decide) rfl (fun b43 => ?_) (fun b43 => ?_)
              · exact absurd (by rw [hz]; rfl) b43
              · skip
                refine r_goto (pc2 := 99) dX10_most_46 (by decide) ?_
                obtain ⟨x99, e99⟩ : ∃ z : Int32, z = (nI k) + (1) := ⟨_, rfl⟩
                refine r_iinc (pc2 := 102) (ls2 := [.ref 117, .int (nI y), .int (optI mo), .int x99, u4]) (v := x99) 3 dX10_most_99 rfl (by rw [e99]; rfl) rfl rfl rfl ?_
                refine r_goto (pc2 := 26) dX10_most_102 (by decide) ?_
                rw [e99, nI_1]
                exact ih (k + 1) mo _ (by omega) (hi.skip hz)
          · match mo with
            | none =>
              show Fr E mX10_most d 26 [.ref 117, .int (nI y), .int (-1), .int (nI k), u4] [] h _
              refine r_iload_n (pc2 := 27) 3 dX10_most_26 rfl rfl rfl ?_
              refine r_aload_n (pc2 := 28) 0 dX10_most_27 rfl rfl rfl rfl ?_
              refine r_getf (pc2 := 31) (v := .int (nI Q.length)) fX10_344 dX10_most_28 c117 (by decide) rfl rfl ?_
              refine r_icmp_ge (tgt := 105) (pc2 := 34) dX10_most_31 (by decide) rfl (fun b31 => ?_) (fun b31 => ?_)
              · exact absurd b31 (nI_ge hlt (by omega))
              · skip
                refine r_aload_n (pc2 := 35) 0 dX10_most_34 rfl rfl rfl rfl ?_
                refine r_getf (pc2 := 38) (v := .ref 125) fX10_40 dX10_most_35 c117 (by decide) rfl rfl ?_
                refine r_iload_n (pc2 := 39) 3 dX10_most_38 rfl rfl rfl ?_
                refine r_ialdN (pc2 := 40) k dX10_most_39 c125 (by decide) rfl (by omega) (by decide) rfl ?_
                refine r_cast (nI (Q.getD k 0)) (hfQ k hlt) ?_
                refine r_callS1 (pc2 := 43) (As := [.int (nI (Q.getD k 0))]) (st := []) kX10_231 dX10_most_40 rfl rfl (Nat.le_of_ble_eq_true rfl) (by omega) (c_depthIn (nI (Q.getD k 0))) rfl (fun h2 hq40 => ?_)
                subst hq40
                refine r_cast (nI ((Q.getD k 0) / 4096)) (depthN (by omega)) ?_
                refine r_if_ne (tgt := 49) (pc2 := 46) dX10_most_43 (by decide) rfl (fun b43 => ?_) (fun b43 => ?_)
                · skip
                  refine r_aload_n (pc2 := 50) 0 dX10_most_49 rfl rfl rfl rfl ?_
                  refine r_aload_n (pc2 := 51) 0 dX10_most_50 rfl rfl rfl rfl ?_
                  refine r_getf (pc2 := 54) (v := .ref 125) fX10_40 dX10_most_51 c117 (by decide) rfl rfl ?_
                  refine r_iload_n (pc2 := 55) 3 dX10_most_54 rfl rfl rfl ?_
                  refine r_ialdN (pc2 := 56) k dX10_most_55 c125 (by decide) rfl (by omega) (by decide) rfl ?_
                  refine r_cast (nI (Q.getD k 0)) (hfQ k hlt) ?_
                  refine r_callV1 (pc2 := 59) (As := [.int (nI (Q.getD k 0))]) (st := []) kX10_256 rfl rfl dX10_most_56 c117 (by decide) rfl rfl (Nat.le_of_ble_eq_true rfl) (by omega) (c_pastIn (st := (Q.getD k 0)) c117 c118 hA.G hA.C (by omega) (by omega)) rfl (fun h2 hq56 => ?_)
                  subst hq56
                  refine r_istore (pc2 := 61) (ls2 := [.ref 117, .int (nI y), .int (-1), .int (nI k), .int (nI (pastN (a 1) (Q.getD k 0) (a 3)))]) 4 dX10_most_59 (by decide) rfl rfl rfl ?_
                  refine r_iload_n (pc2 := 62) 2 dX10_most_61 rfl rfl rfl ?_
                  refine r_iconst (pc2 := 63) (v := -1) dX10_most_62 (by decide) rfl ?_
                  refine r_icmp_eq (tgt := 96) (pc2 := 66) dX10_most_63 (by decide) rfl (fun b63 => ?_) (fun b63 => ?_)
                  · skip
                    refine r_iload (pc2 := 98) 4 dX10_most_96 rfl rfl ?_
                    refine r_istore_n (pc2 := 99) (ls2 := [.ref 117, .int (nI y), .int (nI (pastN (a 1) (Q.getD k 0) (a 3))), .int (nI k), .int (nI (pastN (a 1) (Q.getD k 0) (a 3)))]) 2 dX10_most_98 rfl (by decide) rfl rfl rfl ?_
                    obtain ⟨x99, e99⟩ : ∃ z : Int32, z = (nI k) + (1) := ⟨_, rfl⟩
                    refine r_iinc (pc2 := 102) (ls2 := [.ref 117, .int (nI y), .int (nI (pastN (a 1) (Q.getD k 0) (a 3))), .int x99, .int (nI (pastN (a 1) (Q.getD k 0) (a 3)))]) (v := x99) 3 dX10_most_99 rfl (by rw [e99]; rfl) rfl rfl rfl ?_
                    refine r_goto (pc2 := 26) dX10_most_102 (by decide) ?_
                    rw [e99, nI_1]
                    exact ih (k + 1) (some (pastN (a 1) (Q.getD k 0) (a 3))) _ (by omega) (hi.new hA.G hz (fun b z => by cases z))
                  · exact absurd rfl b63
                · exact absurd (nI_z0 (by omega) b43) hz
            | some b =>
              show Fr E mX10_most d 26 [.ref 117, .int (nI y), .int (nI b), .int (nI k), u4] [] h _
              have hb16 := hi.1
              have hpl2 := hpl b
              by_cases hgt : popN b < popN (pastN (a 1) (Q.getD k 0) (a 3))
              · skip
                refine r_iload_n (pc2 := 27) 3 dX10_most_26 rfl rfl rfl ?_
                refine r_aload_n (pc2 := 28) 0 dX10_most_27 rfl rfl rfl rfl ?_
                refine r_getf (pc2 := 31) (v := .int (nI Q.length)) fX10_344 dX10_most_28 c117 (by decide) rfl rfl ?_
                refine r_icmp_ge (tgt := 105) (pc2 := 34) dX10_most_31 (by decide) rfl (fun b31 => ?_) (fun b31 => ?_)
                · exact absurd b31 (nI_ge hlt (by omega))
                · skip
                  refine r_aload_n (pc2 := 35) 0 dX10_most_34 rfl rfl rfl rfl ?_
                  refine r_getf (pc2 := 38) (v := .ref 125) fX10_40 dX10_most_35 c117 (by decide) rfl rfl ?_
                  refine r_iload_n (pc2 := 39) 3 dX10_most_38 rfl rfl rfl ?_
                  refine r_ialdN (pc2 := 40) k dX10_most_39 c125 (by decide) rfl (by omega) (by decide) rfl ?_
                  refine r_cast (nI (Q.getD k 0)) (hfQ k hlt) ?_
                  refine r_callS1 (pc2 := 43) (As := [.int (nI (Q.getD k 0))]) (st := []) kX10_231 dX10_most_40 rfl rfl (Nat.le_of_ble_eq_true rfl) (by omega) (c_depthIn (nI (Q.getD k 0))) rfl (fun h2 hq40 => ?_)
                  subst hq40
                  refine r_cast (nI ((Q.getD k 0) / 4096)) (depthN (by omega)) ?_
                  refine r_if_ne (tgt := 49) (pc2 := 46) dX10_most_43 (by decide) rfl (fun b43 => ?_) (fun b43 => ?_)
                  · skip
                    refine r_aload_n (pc2 := 50) 0 dX10_most_49 rfl rfl rfl rfl ?_
                    refine r_aload_n (pc2 := 51) 0 dX10_most_50 rfl rfl rfl rfl ?_
                    refine r_getf (pc2 := 54) (v := .ref 125) fX10_40 dX10_most_51 c117 (by decide) rfl rfl ?_
                    refine r_iload_n (pc2 := 55) 3 dX10_most_54 rfl rfl rfl ?_
                    refine r_ialdN (pc2 := 56) k dX10_most_55 c125 (by decide) rfl (by omega) (by decide) rfl ?_
                    refine r_cast (nI (Q.getD k 0)) (hfQ k hlt) ?_
                    refine r_callV1 (pc2 := 59) (As := [.int (nI (Q.getD k 0))]) (st := []) kX10_256 rfl rfl dX10_most_56 c117 (by decide) rfl rfl (Nat.le_of_ble_eq_true rfl) (by omega) (c_pastIn (st := (Q.getD k 0)) c117 c118 hA.G hA.C (by omega) (by omega)) rfl (fun h2 hq56 => ?_)
                    subst hq56
                    refine r_istore (pc2 := 61) (ls2 := [.ref 117, .int (nI y), .int (nI b), .int (nI k), .int (nI (pastN (a 1) (Q.getD k 0) (a 3)))]) 4 dX10_most_59 (by decide) rfl rfl rfl ?_
                    refine r_iload_n (pc2 := 62) 2 dX10_most_61 rfl rfl rfl ?_
                    refine r_iconst (pc2 := 63) (v := -1) dX10_most_62 (by decide) rfl ?_
                    refine r_icmp_eq (tgt := 96) (pc2 := 66) dX10_most_63 (by decide) rfl (fun b63 => ?_) (fun b63 => ?_)
                    · exact absurd b63 (nI_nm1 (by omega))
                    · skip
                      refine r_iload (pc2 := 68) 4 dX10_most_66 rfl rfl ?_
                      refine r_callS1 (pc2 := 71) (As := [.int (nI (pastN (a 1) (Q.getD k 0) (a 3)))]) (st := []) kX10_253 dX10_most_68 rfl rfl (Nat.le_of_ble_eq_true rfl) (by omega) (c_bitsOf (nI (pastN (a 1) (Q.getD k 0) (a 3)))) rfl (fun h2 hq68 => ?_)
                      subst hq68
                      refine r_cast (nI (popN (pastN (a 1) (Q.getD k 0) (a 3)))) (bitsF_pop _ hp16) ?_
                      refine r_iload_n (pc2 := 72) 2 dX10_most_71 rfl rfl rfl ?_
                      refine r_callS1 (pc2 := 75) (As := [.int (nI b)]) (st := [.int (nI (popN (pastN (a 1) (Q.getD k 0) (a 3))))]) kX10_253 dX10_most_72 rfl rfl (Nat.le_of_ble_eq_true rfl) (by omega) (c_bitsOf (nI b)) rfl (fun h2 hq72 => ?_)
                      subst hq72
                      refine r_cast (nI (popN b)) (bitsF_pop _ hb16) ?_
                      refine r_icmp_gt (tgt := 96) (pc2 := 78) dX10_most_75 (by decide) rfl (fun b75 => ?_) (fun b75 => ?_)
                      · skip
                        refine r_iload (pc2 := 98) 4 dX10_most_96 rfl rfl ?_
                        refine r_istore_n (pc2 := 99) (ls2 := [.ref 117, .int (nI y), .int (nI (pastN (a 1) (Q.getD k 0) (a 3))), .int (nI k), .int (nI (pastN (a 1) (Q.getD k 0) (a 3)))]) 2 dX10_most_98 rfl (by decide) rfl rfl rfl ?_
                        obtain ⟨x99, e99⟩ : ∃ z : Int32, z = (nI k) + (1) := ⟨_, rfl⟩
                        refine r_iinc (pc2 := 102) (ls2 := [.ref 117, .int (nI y), .int (nI (pastN (a 1) (Q.getD k 0) (a 3))), .int x99, .int (nI (pastN (a 1) (Q.getD k 0) (a 3)))]) (v := x99) 3 dX10_most_99 rfl (by rw [e99]; rfl) rfl rfl rfl ?_
                        refine r_goto (pc2 := 26) dX10_most_102 (by decide) ?_
                        rw [e99, nI_1]
                        exact ih (k + 1) (some (pastN (a 1) (Q.getD k 0) (a 3))) _ (by omega) (hi.new hA.G hz (fun b2 z => by cases z; exact Or.inl hgt))
                      · exact absurd (nI_lt hgt (by omega)) b75
                  · exact absurd (nI_z0 (by omega) b43) hz
              · by_cases heq : popN (pastN (a 1) (Q.getD k 0) (a 3)) = popN b
                · by_cases hlt2 : (pastN (a 1) (Q.getD k 0) (a 3)) < b
                  · skip
                    refine r_iload_n (pc2 := 27) 3 dX10_most_26 rfl rfl rfl ?_
                    refine r_aload_n (pc2 := 28) 0 dX10_most_27 rfl rfl rfl rfl ?_
                    refine r_getf (pc2 := 31) (v := .int (nI Q.length)) fX10_344 dX10_most_28 c117 (by decide) rfl rfl ?_
                    refine r_icmp_ge (tgt := 105) (pc2 := 34) dX10_most_31 (by decide) rfl (fun b31 => ?_) (fun b31 => ?_)
                    · exact absurd b31 (nI_ge hlt (by omega))
                    · skip
                      refine r_aload_n (pc2 := 35) 0 dX10_most_34 rfl rfl rfl rfl ?_
                      refine r_getf (pc2 := 38) (v := .ref 125) fX10_40 dX10_most_35 c117 (by decide) rfl rfl ?_
                      refine r_iload_n (pc2 := 39) 3 dX10_most_38 rfl rfl rfl ?_
                      refine r_ialdN (pc2 := 40) k dX10_most_39 c125 (by decide) rfl (by omega) (by decide) rfl ?_
                      refine r_cast (nI (Q.getD k 0)) (hfQ k hlt) ?_
                      refine r_callS1 (pc2 := 43) (As := [.int (nI (Q.getD k 0))]) (st := []) kX10_231 dX10_most_40 rfl rfl (Nat.le_of_ble_eq_true rfl) (by omega) (c_depthIn (nI (Q.getD k 0))) rfl (fun h2 hq40 => ?_)
                      subst hq40
                      refine r_cast (nI ((Q.getD k 0) / 4096)) (depthN (by omega)) ?_
                      refine r_if_ne (tgt := 49) (pc2 := 46) dX10_most_43 (by decide) rfl (fun b43 => ?_) (fun b43 => ?_)
                      · skip
                        refine r_aload_n (pc2 := 50) 0 dX10_most_49 rfl rfl rfl rfl ?_
                        refine r_aload_n (pc2 := 51) 0 dX10_most_50 rfl rfl rfl rfl ?_
                        refine r_getf (pc2 := 54) (v := .ref 125) fX10_40 dX10_most_51 c117 (by decide) rfl rfl ?_
                        refine r_iload_n (pc2 := 55) 3 dX10_most_54 rfl rfl rfl ?_
                        refine r_ialdN (pc2 := 56) k dX10_most_55 c125 (by decide) rfl (by omega) (by decide) rfl ?_
                        refine r_cast (nI (Q.getD k 0)) (hfQ k hlt) ?_
                        refine r_callV1 (pc2 := 59) (As := [.int (nI (Q.getD k 0))]) (st := []) kX10_256 rfl rfl dX10_most_56 c117 (by decide) rfl rfl (Nat.le_of_ble_eq_true rfl) (by omega) (c_pastIn (st := (Q.getD k 0)) c117 c118 hA.G hA.C (by omega) (by omega)) rfl (fun h2 hq56 => ?_)
                        subst hq56
                        refine r_istore (pc2 := 61) (ls2 := [.ref 117, .int (nI y), .int (nI b), .int (nI k), .int (nI (pastN (a 1) (Q.getD k 0) (a 3)))]) 4 dX10_most_59 (by decide) rfl rfl rfl ?_
                        refine r_iload_n (pc2 := 62) 2 dX10_most_61 rfl rfl rfl ?_
                        refine r_iconst (pc2 := 63) (v := -1) dX10_most_62 (by decide) rfl ?_
                        refine r_icmp_eq (tgt := 96) (pc2 := 66) dX10_most_63 (by decide) rfl (fun b63 => ?_) (fun b63 => ?_)
                        · exact absurd b63 (nI_nm1 (by omega))
                        · skip
                          refine r_iload (pc2 := 68) 4 dX10_most_66 rfl rfl ?_
                          refine r_callS1 (pc2 := 71) (As := [.int (nI (pastN (a 1) (Q.getD k 0) (a 3)))]) (st := []) kX10_253 dX10_most_68 rfl rfl (Nat.le_of_ble_eq_true rfl) (by omega) (c_bitsOf (nI (pastN (a 1) (Q.getD k 0) (a 3)))) rfl (fun h2 hq68 => ?_)
                          subst hq68
                          refine r_cast (nI (popN (pastN (a 1) (Q.getD k 0) (a 3)))) (bitsF_pop _ hp16) ?_
                          refine r_iload_n (pc2 := 72) 2 dX10_most_71 rfl rfl rfl ?_
                          refine r_callS1 (pc2 := 75) (As := [.int (nI b)]) (st := [.int (nI (popN (pastN (a 1) (Q.getD k 0) (a 3))))]) kX10_253 dX10_most_72 rfl rfl (Nat.le_of_ble_eq_true rfl) (by omega) (c_bitsOf (nI b)) rfl (fun h2 hq72 => ?_)
                          subst hq72
                          refine r_cast (nI (popN b)) (bitsF_pop _ hb16) ?_
                          refine r_icmp_gt (tgt := 96) (pc2 := 78) dX10_most_75 (by decide) rfl (fun b75 => ?_) (fun b75 => ?_)
                          · exact absurd b75 (nI_nlt (by omega) (by omega))
                          · skip
                            refine r_iload (pc2 := 80) 4 dX10_most_78 rfl rfl ?_
                            refine r_callS1 (pc2 := 83) (As := [.int (nI (pastN (a 1) (Q.getD k 0) (a 3)))]) (st := []) kX10_253 dX10_most_80 rfl rfl (Nat.le_of_ble_eq_true rfl) (by omega) (c_bitsOf (nI (pastN (a 1) (Q.getD k 0) (a 3)))) rfl (fun h2 hq80 => ?_)
                            subst hq80
                            refine r_cast (nI (popN (pastN (a 1) (Q.getD k 0) (a 3)))) (bitsF_pop _ hp16) ?_
                            refine r_iload_n (pc2 := 84) 2 dX10_most_83 rfl rfl rfl ?_
                            refine r_callS1 (pc2 := 87) (As := [.int (nI b)]) (st := [.int (nI (popN (pastN (a 1) (Q.getD k 0) (a 3))))]) kX10_253 dX10_most_84 rfl rfl (Nat.le_of_ble_eq_true rfl) (by omega) (c_bitsOf (nI b)) rfl (fun h2 hq84 => ?_)
                            subst hq84
                            refine r_cast (nI (popN b)) (bitsF_pop _ hb16) ?_
                            refine r_icmp_ne (tgt := 99) (pc2 := 90) dX10_most_87 (by decide) rfl (fun b87 => ?_) (fun b87 => ?_)
                            · exact absurd (congrArg nI heq) b87
                            · skip
                              refine r_iload (pc2 := 92) 4 dX10_most_90 rfl rfl ?_
                              refine r_iload_n (pc2 := 93) 2 dX10_most_92 rfl rfl rfl ?_
                              refine r_icmp_ge (tgt := 99) (pc2 := 96) dX10_most_93 (by decide) rfl (fun b93 => ?_) (fun b93 => ?_)
                              · exact absurd b93 (nI_ge hlt2 (by omega))
                              · skip
                                refine r_iload (pc2 := 98) 4 dX10_most_96 rfl rfl ?_
                                refine r_istore_n (pc2 := 99) (ls2 := [.ref 117, .int (nI y), .int (nI (pastN (a 1) (Q.getD k 0) (a 3))), .int (nI k), .int (nI (pastN (a 1) (Q.getD k 0) (a 3)))]) 2 dX10_most_98 rfl (by decide) rfl rfl rfl ?_
                                obtain ⟨x99, e99⟩ : ∃ z : Int32, z = (nI k) + (1) := ⟨_, rfl⟩
                                refine r_iinc (pc2 := 102) (ls2 := [.ref 117, .int (nI y), .int (nI (pastN (a 1) (Q.getD k 0) (a 3))), .int x99, .int (nI (pastN (a 1) (Q.getD k 0) (a 3)))]) (v := x99) 3 dX10_most_99 rfl (by rw [e99]; rfl) rfl rfl rfl ?_
                                refine r_goto (pc2 := 26) dX10_most_102 (by decide) ?_
                                rw [e99, nI_1]
                                exact ih (k + 1) (some (pastN (a 1) (Q.getD k 0) (a 3))) _ (by omega) (hi.new hA.G hz (fun b2 z => by cases z; exact Or.inr ⟨heq.symm, by omega⟩))
                      · exact absurd (nI_z0 (by omega) b43) hz
                  · skip
                    refine r_iload_n (pc2 := 27) 3 dX10_most_26 rfl rfl rfl ?_
                    refine r_aload_n (pc2 := 28) 0 dX10_most_27 rfl rfl rfl rfl ?_
                    refine r_getf (pc2 := 31) (v := .int (nI Q.length)) fX10_344 dX10_most_28 c117 (by decide) rfl rfl ?_
                    refine r_icmp_ge (tgt := 105) (pc2 := 34) dX10_most_31 (by decide) rfl (fun b31 => ?_) (fun b31 => ?_)
                    · exact absurd b31 (nI_ge hlt (by omega))
                    · skip
                      refine r_aload_n (pc2 := 35) 0 dX10_most_34 rfl rfl rfl rfl ?_
                      refine r_getf (pc2 := 38) (v := .ref 125) fX10_40 dX10_most_35 c117 (by decide) rfl rfl ?_
                      refine r_iload_n (pc2 := 39) 3 dX10_most_38 rfl rfl rfl ?_
                      refine r_ialdN (pc2 := 40) k dX10_most_39 c125 (by decide) rfl (by omega) (by decide) rfl ?_
                      refine r_cast (nI (Q.getD k 0)) (hfQ k hlt) ?_
                      refine r_callS1 (pc2 := 43) (As := [.int (nI (Q.getD k 0))]) (st := []) kX10_231 dX10_most_40 rfl rfl (Nat.le_of_ble_eq_true rfl) (by omega) (c_depthIn (nI (Q.getD k 0))) rfl (fun h2 hq40 => ?_)
                      subst hq40
                      refine r_cast (nI ((Q.getD k 0) / 4096)) (depthN (by omega)) ?_
                      refine r_if_ne (tgt := 49) (pc2 := 46) dX10_most_43 (by decide) rfl (fun b43 => ?_) (fun b43 => ?_)
                      · skip
                        refine r_aload_n (pc2 := 50) 0 dX10_most_49 rfl rfl rfl rfl ?_
                        refine r_aload_n (pc2 := 51) 0 dX10_most_50 rfl rfl rfl rfl ?_
                        refine r_getf (pc2 := 54) (v := .ref 125) fX10_40 dX10_most_51 c117 (by decide) rfl rfl ?_
                        refine r_iload_n (pc2 := 55) 3 dX10_most_54 rfl rfl rfl ?_
                        refine r_ialdN (pc2 := 56) k dX10_most_55 c125 (by decide) rfl (by omega) (by decide) rfl ?_
                        refine r_cast (nI (Q.getD k 0)) (hfQ k hlt) ?_
                        refine r_callV1 (pc2 := 59) (As := [.int (nI (Q.getD k 0))]) (st := []) kX10_256 rfl rfl dX10_most_56 c117 (by decide) rfl rfl (Nat.le_of_ble_eq_true rfl) (by omega) (c_pastIn (st := (Q.getD k 0)) c117 c118 hA.G hA.C (by omega) (by omega)) rfl (fun h2 hq56 => ?_)
                        subst hq56
                        refine r_istore (pc2 := 61) (ls2 := [.ref 117, .int (nI y), .int (nI b), .int (nI k), .int (nI (pastN (a 1) (Q.getD k 0) (a 3)))]) 4 dX10_most_59 (by decide) rfl rfl rfl ?_
                        refine r_iload_n (pc2 := 62) 2 dX10_most_61 rfl rfl rfl ?_
                        refine r_iconst (pc2 := 63) (v := -1) dX10_most_62 (by decide) rfl ?_
                        refine r_icmp_eq (tgt := 96) (pc2 := 66) dX10_most_63 (by decide) rfl (fun b63 => ?_) (fun b63 => ?_)
                        · exact absurd b63 (nI_nm1 (by omega))
                        · skip
                          refine r_iload (pc2 := 68) 4 dX10_most_66 rfl rfl ?_
                          refine r_callS1 (pc2 := 71) (As := [.int (nI (pastN (a 1) (Q.getD k 0) (a 3)))]) (st := []) kX10_253 dX10_most_68 rfl rfl (Nat.le_of_ble_eq_true rfl) (by omega) (c_bitsOf (nI (pastN (a 1) (Q.getD k 0) (a 3)))) rfl (fun h2 hq68 => ?_)
                          subst hq68
                          refine r_cast (nI (popN (pastN (a 1) (Q.getD k 0) (a 3)))) (bitsF_pop _ hp16) ?_
                          refine r_iload_n (pc2 := 72) 2 dX10_most_71 rfl rfl rfl ?_
                          refine r_callS1 (pc2 := 75) (As := [.int (nI b)]) (st := [.int (nI (popN (pastN (a 1) (Q.getD k 0) (a 3))))]) kX10_253 dX10_most_72 rfl rfl (Nat.le_of_ble_eq_true rfl) (by omega) (c_bitsOf (nI b)) rfl (fun h2 hq72 => ?_)
                          subst hq72
                          refine r_cast (nI (popN b)) (bitsF_pop _ hb16) ?_
                          refine r_icmp_gt (tgt := 96) (pc2 := 78) dX10_most_75 (by decide) rfl (fun b75 => ?_) (fun b75 => ?_)
                          · exact absurd b75 (nI_nlt (by omega) (by omega))
                          · skip
                            refine r_iload (pc2 := 80) 4 dX10_most_78 rfl rfl ?_
                            refine r_callS1 (pc2 := 83) (As := [.int (nI (pastN (a 1) (Q.getD k 0) (a 3)))]) (st := []) kX10_253 dX10_most_80 rfl rfl (Nat.le_of_ble_eq_true rfl) (by omega) (c_bitsOf (nI (pastN (a 1) (Q.getD k 0) (a 3)))) rfl (fun h2 hq80 => ?_)
                            subst hq80
                            refine r_cast (nI (popN (pastN (a 1) (Q.getD k 0) (a 3)))) (bitsF_pop _ hp16) ?_
                            refine r_iload_n (pc2 := 84) 2 dX10_most_83 rfl rfl rfl ?_
                            refine r_callS1 (pc2 := 87) (As := [.int (nI b)]) (st := [.int (nI (popN (pastN (a 1) (Q.getD k 0) (a 3))))]) kX10_253 dX10_most_84 rfl rfl (Nat.le_of_ble_eq_true rfl) (by omega) (c_bitsOf (nI b)) rfl (fun h2 hq84 => ?_)
                            subst hq84
                            refine r_cast (nI (popN b)) (bitsF_pop _ hb16) ?_
                            refine r_icmp_ne (tgt := 99) (pc2 := 90) dX10_most_87 (by decide) rfl (fun b87 => ?_) (fun b87 => ?_)
                            · exact absurd (congrArg nI heq) b87
                            · skip
                              refine r_iload (pc2 := 92) 4 dX10_most_90 rfl rfl ?_
                              refine r_iload_n (pc2 := 93) 2 dX10_most_92 rfl rfl rfl ?_
                              refine r_icmp_ge (tgt := 99) (pc2 := 96) dX10_most_93 (by decide) rfl (fun b93 => ?_) (fun b93 => ?_)
                              · skip
                                obtain ⟨x99, e99⟩ : ∃ z : Int32, z = (nI k) + (1) := ⟨_, rfl⟩
                                refine r_iinc (pc2 := 102) (ls2 := [.ref 117, .int (nI y), .int (nI b), .int x99, .int (nI (pastN (a 1) (Q.getD k 0) (a 3)))]) (v := x99) 3 dX10_most_99 rfl (by rw [e99]; rfl) rfl rfl rfl ?_
                                refine r_goto (pc2 := 26) dX10_most_102 (by decide) ?_
                                rw [e99, nI_1]
                                exact ih (k + 1) (some b) _ (by omega) (hi.stay (Or.inr ⟨heq, by omega⟩))
                              · exact absurd (nI_le (by omega) (by omega)) b93
                      · exact absurd (nI_z0 (by omega) b43) hz
                · skip
                  refine r_iload_n (pc2 := 27) 3 dX10_most_26 rfl rfl rfl ?_
                  refine r_aload_n (pc2 := 28) 0 dX10_most_27 rfl rfl rfl rfl ?_
                  refine r_getf (pc2 := 31) (v := .int (nI Q.length)) fX10_344 dX10_most_28 c117 (by decide) rfl rfl ?_
                  refine r_icmp_ge (tgt := 105) (pc2 := 34) dX10_most_31 (by decide) rfl (fun b31 => ?_) (fun b31 => ?_)
                  · exact absurd b31 (nI_ge hlt (by omega))
                  · skip
                    refine r_aload_n (pc2 := 35) 0 dX10_most_34 rfl rfl rfl rfl ?_
                    refine r_getf (pc2 := 38) (v := .ref 125) fX10_40 dX10_most_35 c117 (by decide) rfl rfl ?_
                    refine r_iload_n (pc2 := 39) 3 dX10_most_38 rfl rfl rfl ?_
                    refine r_ialdN (pc2 := 40) k dX10_most_39 c125 (by decide) rfl (by omega) (by decide) rfl ?_
                    refine r_cast (nI (Q.getD k 0)) (hfQ k hlt) ?_
                    refine r_callS1 (pc2 := 43) (As := [.int (nI (Q.getD k 0))]) (st := []) kX10_231 dX10_most_40 rfl rfl (Nat.le_of_ble_eq_true rfl) (by omega) (c_depthIn (nI (Q.getD k 0))) rfl (fun h2 hq40 => ?_)
                    subst hq40
                    refine r_cast (nI ((Q.getD k 0) / 4096)) (depthN (by omega)) ?_
                    refine r_if_ne (tgt := 49) (pc2 := 46) dX10_most_43 (by decide) rfl (fun b43 => ?_) (fun b43 => ?_)
                    · skip
                      refine r_aload_n (pc2 := 50) 0 dX10_most_49 rfl rfl rfl rfl ?_
                      refine r_aload_n (pc2 := 51) 0 dX10_most_50 rfl rfl rfl rfl ?_
                      refine r_getf (pc2 := 54) (v := .ref 125) fX10_40 dX10_most_51 c117 (by decide) rfl rfl ?_
                      refine r_iload_n (pc2 := 55) 3 dX10_most_54 rfl rfl rfl ?_
                      refine r_ialdN (pc2 := 56) k dX10_most_55 c125 (by decide) rfl (by omega) (by decide) rfl ?_
                      refine r_cast (nI (Q.getD k 0)) (hfQ k hlt) ?_
                      refine r_callV1 (pc2 := 59) (As := [.int (nI (Q.getD k 0))]) (st := []) kX10_256 rfl rfl dX10_most_56 c117 (by decide) rfl rfl (Nat.le_of_ble_eq_true rfl) (by omega) (c_pastIn (st := (Q.getD k 0)) c117 c118 hA.G hA.C (by omega) (by omega)) rfl (fun h2 hq56 => ?_)
                      subst hq56
                      refine r_istore (pc2 := 61) (ls2 := [.ref 117, .int (nI y), .int (nI b), .int (nI k), .int (nI (pastN (a 1) (Q.getD k 0) (a 3)))]) 4 dX10_most_59 (by decide) rfl rfl rfl ?_
                      refine r_iload_n (pc2 := 62) 2 dX10_most_61 rfl rfl rfl ?_
                      refine r_iconst (pc2 := 63) (v := -1) dX10_most_62 (by decide) rfl ?_
                      refine r_icmp_eq (tgt := 96) (pc2 := 66) dX10_most_63 (by decide) rfl (fun b63 => ?_) (fun b63 => ?_)
                      · exact absurd b63 (nI_nm1 (by omega))
                      · skip
                        refine r_iload (pc2 := 68) 4 dX10_most_66 rfl rfl ?_
                        refine r_callS1 (pc2 := 71) (As := [.int (nI (pastN (a 1) (Q.getD k 0) (a 3)))]) (st := []) kX10_253 dX10_most_68 rfl rfl (Nat.le_of_ble_eq_true rfl) (by omega) (c_bitsOf (nI (pastN (a 1) (Q.getD k 0) (a 3)))) rfl (fun h2 hq68 => ?_)
                        subst hq68
                        refine r_cast (nI (popN (pastN (a 1) (Q.getD k 0) (a 3)))) (bitsF_pop _ hp16) ?_
                        refine r_iload_n (pc2 := 72) 2 dX10_most_71 rfl rfl rfl ?_
                        refine r_callS1 (pc2 := 75) (As := [.int (nI b)]) (st := [.int (nI (popN (pastN (a 1) (Q.getD k 0) (a 3))))]) kX10_253 dX10_most_72 rfl rfl (Nat.le_of_ble_eq_true rfl) (by omega) (c_bitsOf (nI b)) rfl (fun h2 hq72 => ?_)
                        subst hq72
                        refine r_cast (nI (popN b)) (bitsF_pop _ hb16) ?_
                        refine r_icmp_gt (tgt := 96) (pc2 := 78) dX10_most_75 (by decide) rfl (fun b75 => ?_) (fun b75 => ?_)
                        · exact absurd b75 (nI_nlt (by omega) (by omega))
                        · skip
                          refine r_iload (pc2 := 80) 4 dX10_most_78 rfl rfl ?_
                          refine r_callS1 (pc2 := 83) (As := [.int (nI (pastN (a 1) (Q.getD k 0) (a 3)))]) (st := []) kX10_253 dX10_most_80 rfl rfl (Nat.le_of_ble_eq_true rfl) (by omega) (c_bitsOf (nI (pastN (a 1) (Q.getD k 0) (a 3)))) rfl (fun h2 hq80 => ?_)
                          subst hq80
                          refine r_cast (nI (popN (pastN (a 1) (Q.getD k 0) (a 3)))) (bitsF_pop _ hp16) ?_
                          refine r_iload_n (pc2 := 84) 2 dX10_most_83 rfl rfl rfl ?_
                          refine r_callS1 (pc2 := 87) (As := [.int (nI b)]) (st := [.int (nI (popN (pastN (a 1) (Q.getD k 0) (a 3))))]) kX10_253 dX10_most_84 rfl rfl (Nat.le_of_ble_eq_true rfl) (by omega) (c_bitsOf (nI b)) rfl (fun h2 hq84 => ?_)
                          subst hq84
                          refine r_cast (nI (popN b)) (bitsF_pop _ hb16) ?_
                          refine r_icmp_ne (tgt := 99) (pc2 := 90) dX10_most_87 (by decide) rfl (fun b87 => ?_) (fun b87 => ?_)
                          · skip
                            obtain ⟨x99, e99⟩ : ∃ z : Int32, z = (nI k) + (1) := ⟨_, rfl⟩
                            refine r_iinc (pc2 := 102) (ls2 := [.ref 117, .int (nI y), .int (nI b), .int x99, .int (nI (pastN (a 1) (Q.getD k 0) (a 3)))]) (v := x99) 3 dX10_most_99 rfl (by rw [e99]; rfl) rfl rfl rfl ?_
                            refine r_goto (pc2 := 26) dX10_most_102 (by decide) ?_
                            rw [e99, nI_1]
                            exact ih (k + 1) (some b) _ (by omega) (hi.stay (Or.inl (by omega)))
                          · exact absurd ((nI_eq (by omega) (by omega)).mp b87) heq
                    · exact absurd (nI_z0 (by omega) b43) hz
      exact loop Q.length 0 none _ (by omega) (fun i hi => absurd hi (Nat.not_lt_zero _))
    · exact absurd b12 (if1 hv)
  · skip
    refine Cn.go (ls := [.ref 117, .int w, .float 0, .float 0, .float 0]) (by decide +kernel) rfl (Nat.le_of_ble_eq_true rfl) ?_
    refine r_aload_n (pc2 := 1) 0 dX10_most_0 rfl rfl rfl rfl ?_
    refine r_iconst (pc2 := 2) (v := 0) dX10_most_1 (by decide) rfl ?_
    refine r_putfX (pc2 := 5) (moL (upd v 0 0)) fX10_1 dX10_most_2 c117 (by decide) (Nat.le_of_ble_eq_true rfl) rfl rfl rfl (fun h z2 o2 c117 => ?_)
    have c118 := (o2 118 (by decide)).trans c118
    have c122 := (o2 122 (by decide)).trans c122
    have c123 := (o2 123 (by decide)).trans c123
    have c125 := (o2 125 (by decide)).trans c125
    have c126 := (o2 126 (by decide)).trans c126
    have c128 := (o2 128 (by decide)).trans c128
    have hx := hx.step (a := 117) (by decide) z2 o2
    refine r_iload_n (pc2 := 6) 1 dX10_most_5 rfl rfl rfl ?_
    refine r_i2l (pc2 := 7) dX10_most_6 rfl ?_
    refine r_lconst (pc2 := 8) (v := 0) dX10_most_7 (by decide) rfl ?_
    refine r_lconst (pc2 := 9) (v := 1) dX10_most_8 (by decide) rfl ?_
    refine r_callS1 (pc2 := 12) (As := [.long (Int32.toInt64 w), .long 0, .long 1]) (st := []) kX10_152 dX10_most_9 rfl rfl (Nat.le_of_ble_eq_true rfl) (by omega) (c_within (Int32.toInt64 w) 0 1) rfl (fun h2 hq9 => ?_)
    subst hq9
    refine r_if_ne (tgt := 18) (pc2 := 15) dX10_most_12 (by decide) rfl (fun b12 => ?_) (fun b12 => ?_)
    · exact absurd (if0 hv) b12
    · skip
      refine r_bipush (pc2 := 17) (v := -2) dX10_most_15 (by decide) rfl ?_
      exact r_iret rfl dX10_most_17 ⟨by refine Eq.trans ?_ (congrArg (fun z => some (Value.int z)) (if_neg hv).symm); rfl, (upd v 0 0), ⟨rfl, rfl, rfl⟩, ⟨c117, c118, hx.get (by decide) k119, hx.get (by decide) k120, ⟨_, hx.get (by decide) k121⟩, ⟨_, c122⟩, ⟨_, c123⟩, ⟨_, hx.get (by decide) k124⟩, ⟨_, c125⟩, ⟨_, c126⟩, ⟨_, hx.get (by decide) k127⟩, ⟨_, c128⟩, ⟨_, hx.get (by decide) k129⟩, ⟨_, hx.get (by decide) k130⟩, ⟨_, hx.get (by decide) k131⟩, ⟨_, hx.get (by decide) k132⟩, ⟨_, hx.get (by decide) k133⟩, ⟨_, hx.get (by decide) k134⟩, ⟨_, hx.get (by decide) k135⟩, hx.get (by decide) k136, hx.get (by decide) k137, hx.get (by decide) k138⟩, hx.mono (by decide)⟩
