/-! stands: the graph -/
theorem nodup_le : ∀ (n : Nat) (L : List Nat), L.Nodup → (∀ x ∈ L, x < n) → L.length ≤ n
  | 0, L, _, h => by
    match L with
    | [] => exact Nat.le_refl _
    | x :: _ => exact absurd (h x List.mem_cons_self) (Nat.not_lt_zero _)
  | n + 1, L, hd, h => by
    by_cases c : n ∈ L
    · have h1 := nodup_le n (L.erase n) (hd.erase n) (fun x hx => by
        have := (hd.mem_erase_iff).mp hx
        have := h x this.2
        omega)
      rw [List.length_erase_of_mem c] at h1
      omega
    · have h1 := nodup_le n L hd (fun x hx => by
        have := h x hx
        have : x ≠ n := fun e => c (e ▸ hx)
        omega)
      omega
abbrev okS (a : Nat → Nat) (s c : Nat) : Prop := c < 2 ^ (a 3) ∧ why2 a s c = 0
def nxS (a : Nat → Nat) (s c : Nat) : Nat := hourN a s c 0 (a 27)
def nxI (a : Nat → Nat) (s c : Nat) : Int32 := if okS a s c then nI (nxS a s c) else -1
def rc (a : Nat → Nat) : Nat → Nat → Prop
  | 0, t => t = packS a
  | n + 1, t => ∃ s c, rc a n s ∧ c < 16 ∧ okS a s c ∧ t = nxS a s c
def Rch (a : Nat → Nat) (t : Nat) : Prop := ∃ n, rc a n t
theorem Rch.now {a : Nat → Nat} : Rch a (packS a) := ⟨0, rfl⟩
theorem Rch.step {a : Nat → Nat} {s c : Nat} (h : Rch a s) (hc : c < 16) (ho : okS a s c) : Rch a (nxS a s c) := by
  obtain ⟨n, hn⟩ := h
  exact ⟨n + 1, s, c, hn, hc, ho, rfl⟩
def SG (a : Nat → Nat) (s : Nat) : Prop := s < 40960 ∧ (∀ g, g < 4 → s / 8 ^ g % 8 ≤ a 1) ∧ ∀ g, a 3 ≤ g → g < 4 → s / 8 ^ g % 8 = 0
theorem SG.dep {a : Nat → Nat} {s : Nat} (h : SG a s) : s / 4096 ≤ 9 := by have := h.1; omega
theorem SG.now {a : Nat → Nat} (hA : AIN a) : SG a (packS a) := ⟨hA.plt, fun g hg => by rw [hA.pdig g hg]; exact hA.cl g hg, fun g h1 hg => by rw [hA.pdig g hg]; exact hA.c0 g h1 hg⟩
theorem okS_dig {a : Nat → Nat} {s c : Nat} (hs : SG a s) (hG : a 3 ≤ 4) (ho : okS a s c) : (∀ g, g < a 3 → c.testBit g = true → s / 8 ^ g % 8 < a 1) ∧ s / 4096 ≠ 0 := by
  have h := ho.2
  unfold why2 at h
  split at h
  · cases h
  · rename_i h1
    have h1 : pastN (a 1) s (a 3) &&& c = 0 := Classical.not_not.mp h1
    split at h
    · cases h
    · rename_i h2
      refine ⟨fun g hg hb => ?_, h2⟩
      have hb2 : (pastN (a 1) s (a 3)).testBit g = false := by
        have : (pastN (a 1) s (a 3) &&& c).testBit g = false := by rw [h1, Nat.zero_testBit]
        rw [Nat.testBit_and, hb, Bool.and_true] at this
        exact this
      rw [pastN_bit _ _ _ _ hg] at hb2
      have := of_decide_eq_false hb2
      have := hs.2.1 g (by omega)
      omega
theorem nxS_dig {a : Nat → Nat} {s c : Nat} (hs : SG a s) (hG : a 3 ≤ 4) (hC : a 1 ≤ 6) (ho : okS a s c) {g : Nat} (hg : g < 4) : nxS a s c / 8 ^ g % 8 = s / 8 ^ g % 8 + (if g < a 3 ∧ c.testBit g = true then 1 else 0) := by
  have hd := okS_dig hs hG ho
  have h7 : ∀ g, g < a 3 → c.testBit g = true → s / 8 ^ g % 8 < 7 := fun g h1 h2 => by have := hd.1 g h1 h2; omega
  unfold nxS hourN
  rw [dig_hi (hCs_lt _ _ _ hG h7) hg, hCs_dig _ hG h7 g hg]
theorem nxS_dep {a : Nat → Nat} {s c : Nat} (hs : SG a s) (hG : a 3 ≤ 4) (hC : a 1 ≤ 6) (ho : okS a s c) : nxS a s c / 4096 = dpN a (s / 4096) (hNz a s c 0 (a 27) (a 3)) (hCs s c (a 3)) c (a 27) := by
  have hd := okS_dig hs hG ho
  have h7 : ∀ g, g < a 3 → c.testBit g = true → s / 8 ^ g % 8 < 7 := fun g h1 h2 => by have := hd.1 g h1 h2; omega
  have := hCs_lt s c _ hG h7
  unfold nxS hourN
  omega
theorem SG.next {a : Nat → Nat} {s c : Nat} (hs : SG a s) (hG : a 3 ≤ 4) (hC : a 1 ≤ 6) (ho : okS a s c) : SG a (nxS a s c) := by
  have hd := okS_dig hs hG ho
  refine ⟨hourN_lt hG hC hs.dep hd.1, fun g hg => ?_, fun g h1 hg => ?_⟩
  · rw [nxS_dig hs hG hC ho hg]
    split
    · rename_i h; have := hd.1 g h.1 h.2; omega
    · have := hs.2.1 g hg; omega
  · rw [nxS_dig hs hG hC ho hg, hs.2.2 g h1 hg, if_neg (fun z => by omega)]
theorem Rch.sg {a : Nat → Nat} (hA : AIN a) {t : Nat} (h : Rch a t) : SG a t := by
  obtain ⟨n, hn⟩ := h
  induction n generalizing t with
  | zero => rw [show t = packS a from hn]; exact SG.now hA
  | succ n ih =>
    obtain ⟨s, c, h1, hc, ho, rfl⟩ := hn
    exact (ih h1).next hA.G hA.C ho
/-- a row of stands, as kept -/
def QS (Q : List Nat) (f kn : Nat → Int32) : Prop := Q.Nodup ∧ (∀ s ∈ Q, s < 40960) ∧ (∀ k, k < Q.length → f k = nI (Q.getD k 0)) ∧ ∀ s, s < 40960 → kn s = if s ∈ Q then 1 else 0
def addL (Q : List Nat) (s : Nat) : List Nat := if s ∈ Q then Q else Q ++ [s]
theorem mem_addL {Q : List Nat} {s t : Nat} : t ∈ addL Q s ↔ t ∈ Q ∨ t = s := by
  unfold addL
  split
  · rename_i h
    exact ⟨Or.inl, fun z => z.elim id (fun e => e ▸ h)⟩
  · rw [List.mem_append, List.mem_singleton]
theorem gd_app {Q T : List Nat} {k : Nat} (h : k < Q.length) : (Q ++ T).getD k 0 = Q.getD k 0 := by rw [List.getD_eq_getElem?_getD, List.getD_eq_getElem?_getD, List.getElem?_append_left h]
theorem gd_end {Q : List Nat} {s : Nat} : (Q ++ [s]).getD Q.length 0 = s := by rw [List.getD_eq_getElem?_getD, List.getElem?_append_right (Nat.le_refl _), Nat.sub_self]; rfl
theorem gd_get {Q : List Nat} {k : Nat} (h : k < Q.length) : Q.getD k 0 = Q[k] := by rw [List.getD_eq_getElem?_getD, List.getElem?_eq_getElem h]; rfl
theorem addL_get {Q : List Nat} {s k : Nat} (h : k < Q.length) : (addL Q s).getD k 0 = Q.getD k 0 := by
  unfold addL
  split
  · rfl
  · rw [gd_app h]
theorem addL_len {Q : List Nat} {s : Nat} : Q.length ≤ (addL Q s).length := by
  unfold addL
  split
  · exact Nat.le_refl _
  · rw [List.length_append]; exact Nat.le_add_right _ _
theorem QS.le {Q : List Nat} {f kn : Nat → Int32} (h : QS Q f kn) : Q.length ≤ 40960 := nodup_le _ _ h.1 h.2.1
theorem QS.lt {Q : List Nat} {f kn : Nat → Int32} {s : Nat} (h : QS Q f kn) (hs : s < 40960) (hn : s ∉ Q) : Q.length < 40960 := by
  have := nodup_le 40960 (s :: Q) (List.nodup_cons.mpr ⟨hn, h.1⟩) (fun x hx => by
    rcases List.mem_cons.mp hx with rfl | hx
    · exact hs
    · exact h.2.1 x hx)
  exact this
theorem QS.add {Q : List Nat} {f kn : Nat → Int32} {s : Nat} (h : QS Q f kn) (hs : s < 40960) (hn : s ∉ Q) : QS (addL Q s) (upd f Q.length (nI s)) (upd kn s 1) := by
  have e : addL Q s = Q ++ [s] := if_neg hn
  rw [e]
  refine ⟨?_, ?_, ?_, ?_⟩
  · rw [List.nodup_append]
    refine ⟨h.1, by simp, fun x hx y hy => ?_⟩
    rw [List.mem_singleton] at hy
    exact fun z => hn (hy ▸ z ▸ hx)
  · intro x hx
    rcases List.mem_append.mp hx with hx | hx
    · exact h.2.1 x hx
    · rw [List.mem_singleton] at hx; rw [hx]; exact hs
  · intro k hk
    rw [List.length_append] at hk
    by_cases c : k = Q.length
    · rw [c, upd, if_pos rfl, gd_end]
    · have hk2 : k < Q.length := by have : [s].length = 1 := rfl; omega
      rw [upd, if_neg c, gd_app hk2]
      exact h.2.2.1 k hk2
  · intro t ht
    by_cases c : t = s
    · rw [c, upd, if_pos rfl, if_pos (List.mem_append_right _ (List.mem_singleton.mpr rfl))]
    · rw [upd, if_neg c, h.2.2.2 t ht]
      by_cases g : t ∈ Q
      · rw [if_pos g, if_pos (List.mem_append_left _ g)]
      · rw [if_neg g, if_neg (fun z => (List.mem_append.mp z).elim g (fun y => c (List.mem_singleton.mp y)))]
theorem upd_same {v : Nat → Int32} {k : Nat} {x : Int32} (h : v k = x) : upd v k x = v := by
  funext j; unfold upd
  by_cases c : j = k
  · rw [if_pos c, c, h]
  · rw [if_neg c]
theorem getD_mem {Q : List Nat} {k : Nat} (h : k < Q.length) : Q.getD k 0 ∈ Q := by
  rw [gd_get h]; exact List.getElem_mem h
theorem mem_getD {Q : List Nat} {s : Nat} (h : s ∈ Q) : ∃ k, k < Q.length ∧ Q.getD k 0 = s := by
  obtain ⟨k, hk, e⟩ := List.getElem_of_mem h
  exact ⟨k, hk, by rw [gd_get hk]; exact e⟩
set_option maxRecDepth 20000 in
set_option maxHeartbeats 1000000 in
theorem c_adds {E : EnvT} {d : Nat} {h0 : Hp} {v f kn : Nat → Int32} {Q : List Nat} {s : Nat} (c117 : h0.1 117 = some (mO (upd v 25 (nI Q.length)))) (c125 : h0.1 125 = some (aI 40960 f)) (c128 : h0.1 128 = some (aZ 40960 kn)) (hQ : QS Q f kn) (hs : s < 40960) : Cn E mX10_adds d [.ref 117, .int (nI s)] h0 (fun r h2 => r = none ∧ Ex [117, 125, 128] h0 h2 ∧ h2.1 117 = some (mO (upd v 25 (nI (addL Q s).length))) ∧ ∃ f2 kn2, QS (addL Q s) f2 kn2 ∧ h2.1 125 = some (aI 40960 f2) ∧ h2.1 128 = some (aZ 40960 kn2)) := by
  have hx : Ex [117, 125, 128] h0 h0 := Ex.rf
  by_cases hm : s ∈ Q
  · skip
    refine Cn.go (ls := [.ref 117, .int (nI s)]) (by decide +kernel) rfl (Nat.le_of_ble_eq_true rfl) ?_
    refine r_aload_n (pc2 := 1) 0 dX10_adds_0 rfl rfl rfl rfl ?_
    refine r_getf (pc2 := 4) (v := .ref 128) fX10_50 dX10_adds_1 c117 (by decide) rfl rfl ?_
    refine r_iload_n (pc2 := 5) 1 dX10_adds_4 rfl rfl rfl ?_
    refine r_zaldN (pc2 := 6) s dX10_adds_5 c128 (by decide) rfl (by omega) (by decide) rfl ?_
    refine r_if_eq (tgt := 10) (pc2 := 9) dX10_adds_6 (by decide) rfl (fun b6 => ?_) (fun b6 => ?_)
    · exact absurd b6 (by rw [hQ.2.2.2 s hs, if_pos hm]; decide)
    · skip
      exact r_vret rfl dX10_adds_9 ⟨rfl, hx, by rw [c117, addL, if_pos hm], f, kn, by rw [addL, if_pos hm]; exact hQ, c125, c128⟩
  · have hlt := hQ.lt hs hm
    have eL : (addL Q s).length = Q.length + 1 := by rw [addL, if_neg hm, List.length_append]; rfl
    refine Cn.go (ls := [.ref 117, .int (nI s)]) (by decide +kernel) rfl (Nat.le_of_ble_eq_true rfl) ?_
    refine r_aload_n (pc2 := 1) 0 dX10_adds_0 rfl rfl rfl rfl ?_
    refine r_getf (pc2 := 4) (v := .ref 128) fX10_50 dX10_adds_1 c117 (by decide) rfl rfl ?_
    refine r_iload_n (pc2 := 5) 1 dX10_adds_4 rfl rfl rfl ?_
    refine r_zaldN (pc2 := 6) s dX10_adds_5 c128 (by decide) rfl (by omega) (by decide) rfl ?_
    refine r_if_eq (tgt := 10) (pc2 := 9) dX10_adds_6 (by decide) rfl (fun b6 => ?_) (fun b6 => ?_)
    · skip
      refine r_aload_n (pc2 := 11) 0 dX10_adds_10 rfl rfl rfl rfl ?_
      refine r_getf (pc2 := 14) (v := .ref 128) fX10_50 dX10_adds_11 c117 (by decide) rfl rfl ?_
      refine r_iload_n (pc2 := 15) 1 dX10_adds_14 rfl rfl rfl ?_
      refine r_iconst (pc2 := 16) (v := 1) dX10_adds_15 (by decide) rfl ?_
      refine r_zastN (pc2 := 17) s dX10_adds_16 c128 (by decide) rfl (by omega) (by decide) rfl (fun h z16 o16 c128 => ?_)
      have c117 := (o16 117 (by decide)).trans c117
      have c125 := (o16 125 (by decide)).trans c125
      have hx := hx.step (a := 128) (by decide) z16 o16
      refine r_aload_n (pc2 := 18) 0 dX10_adds_17 rfl rfl rfl rfl ?_
      refine r_getf (pc2 := 21) (v := .ref 125) fX10_40 dX10_adds_18 c117 (by decide) rfl rfl ?_
      refine r_aload_n (pc2 := 22) 0 dX10_adds_21 rfl rfl rfl rfl ?_
      refine r_getf (pc2 := 25) (v := .int (nI Q.length)) fX10_344 dX10_adds_22 c117 (by decide) rfl rfl ?_
      refine r_iload_n (pc2 := 26) 1 dX10_adds_25 rfl rfl rfl ?_
      refine r_iastN (pc2 := 27) Q.length dX10_adds_26 c125 (by decide) rfl (by omega) (by decide) rfl (fun h z26 o26 c125 => ?_)
      have c117 := (o26 117 (by decide)).trans c117
      have c128 := (o26 128 (by decide)).trans c128
      have hx := hx.step (a := 125) (by decide) z26 o26
      refine r_aload_n (pc2 := 28) 0 dX10_adds_27 rfl rfl rfl rfl ?_
      refine r_dup (pc2 := 29) dX10_adds_28 rfl rfl ?_
      refine r_getf (pc2 := 32) (v := .int (nI Q.length)) fX10_344 dX10_adds_29 c117 (by decide) rfl rfl ?_
      refine r_iconst (pc2 := 33) (v := 1) dX10_adds_32 (by decide) rfl ?_
      refine r_iadd (pc2 := 34) dX10_adds_33 rfl ?_
      refine r_cast (nI (Q.length + 1)) (nI_1 _) ?_
      refine r_putfX (pc2 := 37) (moL (upd (upd v 25 (nI Q.length)) 25 (nI (Q.length + 1)))) fX10_344 dX10_adds_34 c117 (by decide) (Nat.le_of_ble_eq_true rfl) rfl rfl rfl (fun h z34 o34 c117 => ?_)
      have c125 := (o34 125 (by decide)).trans c125
      have c128 := (o34 128 (by decide)).trans c128
      have hx := hx.step (a := 117) (by decide) z34 o34
      exact r_vret rfl dX10_adds_37 ⟨rfl, hx, by rw [c117, upd_upd, eL], _, _, hQ.add hs hm, c125, c128⟩
    · exact absurd (by rw [hQ.2.2.2 s hs, if_neg hm]) b6
