/-! the reference's reading, seen as that -/
def N6 (v w : Nat → Int32) : Prop := ∀ k, k ≠ 6 → k ≠ 7 → k ≠ 9 → k ≠ 10 → k ≠ 11 → k ≠ 12 → w k = v k
def RV {α : Type} (tp : Nat → Nat) (n : Nat) (rep : α → Nat → Nat) (x : PX α) (v f : Nat → Int32) : Prop := match x with
  | .ok (p, L) => p ≤ n ∧ PA tp n v p ∧ f = nA (rep L)
  | .error (w, a) => (1 ≤ w ∧ w ≤ 4 ∧ a ≤ n) ∧ v 11 = nI w ∧ v 12 = nI a
def RT {α : Type} (tp : Nat → Nat) (n : Nat) (rep : α → Nat → Nat) (v0 : Nat → Int32) (x : PX α) (h : Hp) : Prop := ∃ v f, h.1 117 = some (mO v) ∧ h.1 120 = some (aI 900 (nA tp)) ∧ h.1 121 = some (aI 1177 f) ∧ N6 v0 v ∧ RV tp n rep x v f
def RQ {α : Type} (tp : Nat → Nat) (n : Nat) (rep : α → Nat → Nat) (v0 : Nat → Int32) (h0 : Hp) (r0 : Option Value) (x : PX α) : Option Value → Hp → Prop := fun r h2 => r = r0 ∧ Ex [117, 121] h0 h2 ∧ RT tp n rep v0 x h2
abbrev TOk (tp : Nat → Nat) (n : Nat) : Prop := n ≤ 900 ∧ ∀ k, k < 900 → tp k < 256
def isB {α : Type} (tp : Nat → Nat) (n : Nat) (x : PX α) (k : Nat) : Bool := match x with
  | .ok (p, _) => lxK tp n p == k
  | .error _ => false
def okB {α : Type} (x : PX α) : Bool := match x with
  | .ok _ => true
  | .error _ => false
theorem isB_y {α : Type} {tp : Nat → Nat} {n p k : Nat} {L : α} (h : lxK tp n p = k) : isB tp n (.ok (p, L) : PX α) k = true := by
  show (lxK tp n p == k) = true
  rw [h]
  exact beq_self_eq_true k
theorem isB_n {α : Type} {tp : Nat → Nat} {n p k : Nat} {L : α} (h : lxK tp n p ≠ k) : ¬ isB tp n (.ok (p, L) : PX α) k = true := fun z => h (eq_of_beq z)
theorem isB_e {α : Type} {tp : Nat → Nat} {n k : Nat} {e : Nat × Nat} : ¬ isB tp n (.error e : PX α) k = true := fun z => Bool.noConfusion z
theorem kF_le (w : List Nat) : ∀ m i, i + m ≤ 23 → kF w m i ≤ 23
  | 0, i, h => Nat.le_refl _
  | m + 1, i, h => by
    unfold kF
    split
    · omega
    · exact kF_le w m (i + 1) (by omega)
theorem sgF_le (c : Nat) : ∀ k, k ≤ 12 → sgF c k ≤ 41
  | 0, _ => show (26 : Nat) ≤ 41 by decide
  | k + 1, h => by
    unfold sgF
    split
    · omega
    · exact sgF_le c k (by omega)
theorem lxK_le (tp : Nat → Nat) (n p : Nat) : lxK tp n p ≤ 41 := by
  unfold lxK tkK
  repeat' split
  · decide
  · exact Nat.le_trans (kF_le _ _ _ (by decide)) (by decide)
  · decide
  · decide
  · exact sgF_le _ _ (by decide)
theorem N6.rf {v : Nat → Int32} : N6 v v := fun _ _ _ _ _ _ _ => rfl
theorem N6.trans {u v w : Nat → Int32} (a : N6 u v) (b : N6 v w) : N6 u w := fun k h1 h2 h3 h4 h5 h6 => (b k h1 h2 h3 h4 h5 h6).trans (a k h1 h2 h3 h4 h5 h6)
theorem N6.up {v w : Nat → Int32} (a : N6 v w) {k : Nat} {x : Int32} (hk : k = 6 ∨ k = 7 ∨ k = 9 ∨ k = 10 ∨ k = 11 ∨ k = 12) : N6 v (upd w k x) := fun j h1 h2 h3 h4 h5 h6 => (if_neg (by omega)).trans (a j h1 h2 h3 h4 h5 h6)
theorem N6.nv {v w : Nat → Int32} (a : NV v w) : N6 v w := fun k h1 h2 h3 h4 _ _ => a k h1 h2 h3 h4
theorem nI_k {x k : Nat} (hx : x ≤ 41) (hk : k ≤ 41) : nI x = nI k ↔ x = k := nI_eq (by omega) (by omega)
theorem nI_w0 {w : Nat} (h1 : 1 ≤ w) (h2 : w ≤ 4) : ¬ nI w = 0 := fun z => by
  have := (nI_eq (b := 0) (by omega) (by decide)).mp z
  omega
set_option maxRecDepth 20000 in
set_option maxHeartbeats 1000000 in
theorem c_is {E : EnvT} {d : Nat} {h0 : Hp} {v : Nat → Int32} {k : Int32} (c117 : h0.1 117 = some (mO v)) : Cn E mX10_is d [.ref 117, .int k] h0 (fun r h2 => r = some (.int (if v 11 = 0 ∧ v 9 = k then (1 : Int32) else 0)) ∧ h2 = h0) := by
  refine Cn.go (ls := [.ref 117, .int k]) (by decide +kernel) rfl (Nat.le_of_ble_eq_true rfl) ?_
  refine r_aload_n (pc2 := 1) 0 dX10_is_0 rfl rfl rfl rfl ?_
  refine r_getf (pc2 := 4) (v := .int (v 11)) fX10_136 dX10_is_1 c117 (by decide) rfl rfl ?_
  refine r_if_ne (tgt := 19) (pc2 := 7) dX10_is_4 (by decide) rfl (fun b4 => ?_) (fun b4 => ?_)
  · skip
    refine r_iconst (pc2 := 20) (v := 0) dX10_is_19 (by decide) rfl ?_
    exact r_zret (ty := .boolean) rfl (by decide) dX10_is_20 ⟨by rw [if_neg (fun z => by first | exact b4 z.1 | exact b12 z.2)], rfl⟩
  · skip
    refine r_aload_n (pc2 := 8) 0 dX10_is_7 rfl rfl rfl rfl ?_
    refine r_getf (pc2 := 11) (v := .int (v 9)) fX10_118 dX10_is_8 c117 (by decide) rfl rfl ?_
    refine r_iload_n (pc2 := 12) 1 dX10_is_11 rfl rfl rfl ?_
    refine r_icmp_ne (tgt := 19) (pc2 := 15) dX10_is_12 (by decide) rfl (fun b12 => ?_) (fun b12 => ?_)
    · skip
      refine r_iconst (pc2 := 20) (v := 0) dX10_is_19 (by decide) rfl ?_
      exact r_zret (ty := .boolean) rfl (by decide) dX10_is_20 ⟨by rw [if_neg (fun z => by first | exact b4 z.1 | exact b12 z.2)], rfl⟩
    · skip
      refine r_iconst (pc2 := 16) (v := 1) dX10_is_15 (by decide) rfl ?_
      refine r_goto (pc2 := 20) dX10_is_16 (by decide) ?_
      exact r_zret (ty := .boolean) rfl (by decide) dX10_is_20 ⟨by rw [if_pos ⟨b4, b12⟩], rfl⟩
set_option maxRecDepth 20000 in
set_option maxHeartbeats 1000000 in
theorem z_fails {E : EnvT} {d : Nat} {h0 : Hp} {v : Nat → Int32} {f : Int32} (c117 : h0.1 117 = some (mO v)) (hw : ¬ v 11 = 0) : Cn E mX10_fails d [.ref 117, .int f] h0 (fun r h2 => r = none ∧ h2 = h0) := by
  refine Cn.go (ls := [.ref 117, .int f]) (by decide +kernel) rfl (Nat.le_of_ble_eq_true rfl) ?_
  refine r_aload_n (pc2 := 1) 0 dX10_fails_0 rfl rfl rfl rfl ?_
  refine r_getf (pc2 := 4) (v := .int (v 11)) fX10_136 dX10_fails_1 c117 (by decide) rfl rfl ?_
  refine r_if_eq (tgt := 8) (pc2 := 7) dX10_fails_4 (by decide) rfl (fun b4 => ?_) (fun b4 => ?_)
  · exact absurd b4 hw
  · skip
    exact r_vret rfl dX10_fails_7 ⟨rfl, rfl⟩
set_option maxRecDepth 20000 in
set_option maxHeartbeats 1000000 in
theorem c_fails {E : EnvT} {d : Nat} {h0 : Hp} {v : Nat → Int32} {f : Int32} (c117 : h0.1 117 = some (mO v)) (hw : v 11 = 0) : Cn E mX10_fails d [.ref 117, .int f] h0 (fun r h2 => r = none ∧ Ex [117] h0 h2 ∧ h2.1 117 = some (mO (upd (upd v 11 (if v 9 = 26 then 1 else f)) 12 (v 6)))) := by
  have hx : Ex [117] h0 h0 := Ex.rf
  refine Cn.go (ls := [.ref 117, .int f]) (by decide +kernel) rfl (Nat.le_of_ble_eq_true rfl) ?_
  refine r_aload_n (pc2 := 1) 0 dX10_fails_0 rfl rfl rfl rfl ?_
  refine r_getf (pc2 := 4) (v := .int (v 11)) fX10_136 dX10_fails_1 c117 (by decide) rfl rfl ?_
  refine r_if_eq (tgt := 8) (pc2 := 7) dX10_fails_4 (by decide) rfl (fun b4 => ?_) (fun b4 => ?_)
  · skip
    refine r_aload_n (pc2 := 9) 0 dX10_fails_8 rfl rfl rfl rfl ?_
    refine r_aload_n (pc2 := 10) 0 dX10_fails_9 rfl rfl rfl rfl ?_
    refine r_getf (pc2 := 13) (v := .int (v 9)) fX10_118 dX10_fails_10 c117 (by decide) rfl rfl ?_
    refine r_bipush (pc2 := 15) (v := 26) dX10_fails_13 (by decide) rfl ?_
    refine r_icmp_ne (tgt := 22) (pc2 := 18) dX10_fails_15 (by decide) rfl (fun b15 => ?_) (fun b15 => ?_)
    · skip
      refine r_iload_n (pc2 := 23) 1 dX10_fails_22 rfl rfl rfl ?_
      refine r_putfX (pc2 := 26) (moL (upd v 11 f)) fX10_136 dX10_fails_23 c117 (by decide) (Nat.le_of_ble_eq_true rfl) rfl rfl rfl (fun h z23 o23 c117 => ?_)
      have hx := hx.step (a := 117) (by decide) z23 o23
      refine r_aload_n (pc2 := 27) 0 dX10_fails_26 rfl rfl rfl rfl ?_
      refine r_aload_n (pc2 := 28) 0 dX10_fails_27 rfl rfl rfl rfl ?_
      refine r_getf (pc2 := 31) (v := .int ((upd v 11 f) 6)) fX10_108 dX10_fails_28 c117 (by decide) rfl rfl ?_
      refine r_topi (fun y31 ey31 => ?_)
      refine r_putfX (pc2 := 34) (moL (upd (upd v 11 f) 12 y31)) fX10_139 dX10_fails_31 c117 (by decide) (Nat.le_of_ble_eq_true rfl) rfl rfl rfl (fun h z31 o31 c117 => ?_)
      have hx := hx.step (a := 117) (by decide) z31 o31
      exact r_vret rfl dX10_fails_34 ⟨rfl, hx, by subst ey31; first | (rw [if_neg b15]; exact c117) | (rw [if_pos b15]; exact c117)⟩
    · skip
      refine r_iconst (pc2 := 19) (v := 1) dX10_fails_18 (by decide) rfl ?_
      refine r_goto (pc2 := 23) dX10_fails_19 (by decide) ?_
      refine r_putfX (pc2 := 26) (moL (upd v 11 1)) fX10_136 dX10_fails_23 c117 (by decide) (Nat.le_of_ble_eq_true rfl) rfl rfl rfl (fun h z23 o23 c117 => ?_)
      have hx := hx.step (a := 117) (by decide) z23 o23
      refine r_aload_n (pc2 := 27) 0 dX10_fails_26 rfl rfl rfl rfl ?_
      refine r_aload_n (pc2 := 28) 0 dX10_fails_27 rfl rfl rfl rfl ?_
      refine r_getf (pc2 := 31) (v := .int ((upd v 11 1) 6)) fX10_108 dX10_fails_28 c117 (by decide) rfl rfl ?_
      refine r_topi (fun y31 ey31 => ?_)
      refine r_putfX (pc2 := 34) (moL (upd (upd v 11 1) 12 y31)) fX10_139 dX10_fails_31 c117 (by decide) (Nat.le_of_ble_eq_true rfl) rfl rfl rfl (fun h z31 o31 c117 => ?_)
      have hx := hx.step (a := 117) (by decide) z31 o31
      exact r_vret rfl dX10_fails_34 ⟨rfl, hx, by subst ey31; first | (rw [if_neg b15]; exact c117) | (rw [if_pos b15]; exact c117)⟩
  · exact absurd hw b4
theorem Ex2.of {h0 h2 : Hp} (x : Ex [117] h0 h2) : Ex [117, 121] h0 h2 := x.mono (by decide)
section RTS
variable {E : EnvT} {d : Nat} {h0 : Hp} {α : Type} {tp : Nat → Nat} {n : Nat} {rep : α → Nat → Nat} {v0 : Nat → Int32} {x : PX α}
theorem G_is {k : Nat} (hk : k ≤ 41) (hT : RT tp n rep v0 x h0) : Cn E mX10_is d [.ref 117, .int (nI k)] h0 (fun r h2 => r = some (.int (if isB tp n x k = true then (1 : Int32) else 0)) ∧ h2 = h0) := by
  obtain ⟨v, f, c117, c120, c121, hN, hR⟩ := hT
  refine (c_is c117).mono fun r h2 q => ⟨q.1.trans ?_, q.2⟩
  match x, hR with
  | .ok (p, L), hR =>
    have h9 := hR.2.1.2.2.2.2.1
    congr 2
    by_cases e : lxK tp n p = k
    · rw [if_pos (isB_y e), if_pos ⟨hR.2.1.2.1, by rw [h9, e]⟩]
    · rw [if_neg (isB_n e), if_neg (fun z => e ((nI_k (lxK_le tp n p) hk).mp (h9.symm.trans z.2)))]
  | .error (w, a), hR =>
    rw [if_neg (fun z => nI_w0 hR.1.1 hR.1.2.1 (hR.2.1.symm.trans z.1))]
    rfl
theorem G_fails {f : Nat} (h1 : 1 ≤ f) (h2 : f ≤ 4) (hT : RT tp n rep v0 x h0) : Cn E mX10_fails d [.ref 117, .int (nI f)] h0 (RQ tp n rep v0 h0 none (bnd x (fun p _ => pFl tp n f p))) := by
  obtain ⟨v, g, c117, c120, c121, hN, hR⟩ := hT
  match x, hR with
  | .ok (p, L), hR =>
    obtain ⟨hp, hP, hf⟩ := hR
    obtain ⟨p8, p11, p6, p7, p9, p10⟩ := hP
    refine (c_fails c117 p11).mono fun r h2 q => ⟨q.1, Ex2.of q.2.1, ?_⟩
    have e9 : (v 9 = 26) = (lxK tp n p = 26) := propext (by rw [p9]; exact nI_k (k := 26) (lxK_le tp n p) (by decide))
    refine ⟨_, g, q.2.2, q.2.1.get (by decide) c120, q.2.1.get (by decide) c121, (hN.up (by omega)).up (by omega), ?_⟩
    refine ⟨⟨?_, ?_, lxS_n hp⟩, ?_, ?_⟩
    · split <;> omega
    · split <;> omega
    · show (if v 9 = 26 then (1 : Int32) else nI f) = _
      by_cases e : lxK tp n p = 26
      · rw [if_pos (e9.mpr e), if_pos e]; rfl
      · rw [if_neg (fun z => e (e9.mp z)), if_neg e]
    · show v 6 = _
      exact p6
  | .error (w, a), hR =>
    refine (z_fails c117 (fun z => nI_w0 hR.1.1 hR.1.2.1 (hR.2.1.symm.trans z))).mono fun r h2 q => ⟨q.1, by rw [q.2]; exact Ex.rf, by rw [q.2]; exact ⟨v, g, c117, c120, c121, hN, hR⟩⟩
theorem G_next (ht : TOk tp n) (hd : 6 ≤ d) {p : Nat} {L : α} (hT : RT tp n rep v0 (.ok (p, L)) h0) : Cn E mX10_next d [.ref 117] h0 (RQ tp n rep v0 h0 none (pNx tp n p L)) := by
  obtain ⟨v, g, c117, c120, c121, hN, hp, ⟨p8, p11, p6, p7, p9, p10⟩, hf⟩ := hT
  refine (c_next c117 c120 p7 p8 p11 (lxE_n hp) ht.1 ht.2 hd).mono fun r h2 q => ⟨q.1, Ex2.of q.2.1, ?_⟩
  obtain ⟨_, hx, v2, e1, e2, e3⟩ := q
  exact ⟨v2, g, e1, hx.get (by decide) c120, hx.get (by decide) c121, hN.trans (N6.nv e2), lxE_n hp, e3, hf⟩
end RTS
set_option maxRecDepth 20000 in
set_option maxHeartbeats 1000000 in
theorem G_eats {E : EnvT} {d : Nat} {h0 : Hp} {α : Type} {tp : Nat → Nat} {n : Nat} {rep : α → Nat → Nat} {v0 : Nat → Int32} {x : PX α} {k : Nat} (hk : k ≤ 41) (ht : TOk tp n) (hd : 7 ≤ d) (hT : RT tp n rep v0 x h0) : Cn E mX10_eats d [.ref 117, .int (nI k)] h0 (RQ tp n rep v0 h0 (some (.int (if isB tp n x k = true then (1 : Int32) else 0))) (if isB tp n x k = true then bnd x (pNx tp n) else x)) := by
  have hT2 := hT
  obtain ⟨v, g, c117, c120, c121, hN, hR⟩ := hT2
  have hx : Ex [117, 121] h0 h0 := Ex.rf
  cases eb : isB tp n x k with
  | false =>
    refine Cn.go (ls := [.ref 117, .int (nI k)]) (by decide +kernel) rfl (Nat.le_of_ble_eq_true rfl) ?_
    refine r_aload_n (pc2 := 1) 0 dX10_eats_0 rfl rfl rfl rfl ?_
    refine r_iload_n (pc2 := 2) 1 dX10_eats_1 rfl rfl rfl ?_
    refine r_callV1 (pc2 := 5) (As := [.int (nI k)]) (st := []) kX10_142 rfl rfl dX10_eats_2 c117 (by decide) rfl rfl (Nat.le_of_ble_eq_true rfl) (by omega) ((G_is hk hT).mono fun r h2 q => ⟨q.1.trans (by rw [if_neg (by rw [eb]; decide)]), q.2⟩) rfl (fun h2 hq2 => ?_)
    subst hq2
    refine r_if_ne (tgt := 10) (pc2 := 8) dX10_eats_5 (by decide) rfl (fun b5 => ?_) (fun b5 => ?_)
    · exact absurd b5 (by decide)
    · skip
      refine r_iconst (pc2 := 9) (v := 0) dX10_eats_8 (by decide) rfl ?_
      exact r_zret (ty := .boolean) rfl (by decide) dX10_eats_9 ⟨rfl, Ex.rf, hT⟩
  | true =>
    match x, hT, eb with
    | .ok (p, L), hT, eb =>
      refine Cn.go (ls := [.ref 117, .int (nI k)]) (by decide +kernel) rfl (Nat.le_of_ble_eq_true rfl) ?_
      refine r_aload_n (pc2 := 1) 0 dX10_eats_0 rfl rfl rfl rfl ?_
      refine r_iload_n (pc2 := 2) 1 dX10_eats_1 rfl rfl rfl ?_
      refine r_callV1 (pc2 := 5) (As := [.int (nI k)]) (st := []) kX10_142 rfl rfl dX10_eats_2 c117 (by decide) rfl rfl (Nat.le_of_ble_eq_true rfl) (by omega) ((G_is hk hT).mono fun r h2 q => ⟨q.1.trans (by rw [if_pos eb]), q.2⟩) rfl (fun h2 hq2 => ?_)
      subst hq2
      refine r_if_ne (tgt := 10) (pc2 := 8) dX10_eats_5 (by decide) rfl (fun b5 => ?_) (fun b5 => ?_)
      · skip
        refine r_aload_n (pc2 := 11) 0 dX10_eats_10 rfl rfl rfl rfl ?_
        refine r_callV0 (pc2 := 14) (As := []) (st := []) kX10_145 rfl rfl dX10_eats_11 c117 (by decide) rfl rfl (Nat.le_of_ble_eq_true rfl) (by omega) (G_next ht (by omega) (p := p) (L := L) hT) rfl (fun h hq11 => ?_)
        obtain ⟨hxn, hTn⟩ := hq11
        have hx := hx.trans hxn (by decide)
        refine r_iconst (pc2 := 15) (v := 1) dX10_eats_14 (by decide) rfl ?_
        exact r_zret (ty := .boolean) rfl (by decide) dX10_eats_15 ⟨rfl, hx, hTn⟩
      · exact absurd b5 (by decide)
    | .error e, _, eb => exact absurd eb (by simp [isB])
def frL (fr : Nat → Nat) (c0 : Nat) (L : List Nat) : Nat → Nat := va_up (fillN fr (277 + c0) L.length (fun j => L.getD j 0)) 276 (c0 + L.length)
theorem fillN_at {α : Type} {a : Nat → α} {off n j : Nat} {g : Nat → α} (h : off ≤ j) (h2 : j < off + n) : fillN a off n g j = g (j - off) := if_pos ⟨h, h2⟩
theorem frL_276 (fr : Nat → Nat) (c0 : Nat) (L : List Nat) : frL fr c0 L 276 = c0 + L.length := va_up_self _ _ _
theorem frL_nil {fr : Nat → Nat} {c0 : Nat} (h : fr 276 = c0) : frL fr c0 [] = fr := by
  funext k
  unfold frL
  by_cases hk : k = 276
  · rw [hk, va_up_self, h]; rfl
  · rw [va_up_ne _ _ hk]; exact fillN_out (by simp only [List.length_nil]; omega)
theorem frL_co (fr : Nat → Nat) (c0 : Nat) (L : List Nat) (c : Nat) : va_up (va_up (frL fr c0 L) (277 + (c0 + L.length)) c) 276 (c0 + L.length + 1) = frL fr c0 (L ++ [c]) := by
  funext k
  unfold frL
  have hl : (L ++ [c]).length = L.length + 1 := by rw [List.length_append]; rfl
  by_cases hk : k = 276
  · rw [hk, va_up_self, va_up_self, hl]; omega
  · rw [va_up_ne _ _ hk, va_up_ne _ _ hk]
    by_cases hk2 : k = 277 + (c0 + L.length)
    · rw [hk2, va_up_self, fillN_at (by omega) (by omega)]
      rw [show 277 + (c0 + L.length) - (277 + c0) = L.length by omega, List.getD_eq_getElem?_getD, List.getElem?_append_right (Nat.le_refl _)]
      simp
    · rw [va_up_ne _ _ hk2, va_up_ne _ _ hk]
      by_cases hi : 277 + c0 ≤ k ∧ k < 277 + c0 + L.length
      · rw [fillN_at hi.1 hi.2, fillN_at hi.1 (by omega), List.getD_eq_getElem?_getD, List.getD_eq_getElem?_getD, List.getElem?_append_left (by omega)]
      · rw [fillN_out (by omega), fillN_out (by omega)]
set_option maxRecDepth 20000 in
set_option maxHeartbeats 1000000 in
theorem c_codes {E : EnvT} {d : Nat} {h0 : Hp} {v : Nat → Int32} {fr : Nat → Nat} {c0 c : Nat} {L : List Nat} (c117 : h0.1 117 = some (mO v)) (c121 : h0.1 121 = some (aI 1177 (nA (frL fr c0 L)))) (hw : v 11 = 0) (hl : c0 + L.length < 900) : Cn E mX10_codes d [.ref 117, .int (nI c)] h0 (fun r h2 => r = none ∧ Ex [121] h0 h2 ∧ h2.1 121 = some (aI 1177 (nA (frL fr c0 (L ++ [c]))))) := by
  have hx : Ex [121] h0 h0 := Ex.rf
  refine Cn.go (ls := [.ref 117, .int (nI c)]) (by decide +kernel) rfl (Nat.le_of_ble_eq_true rfl) ?_
  refine r_aload_n (pc2 := 1) 0 dX10_codes_0 rfl rfl rfl rfl ?_
  refine r_getf (pc2 := 4) (v := .int (v 11)) fX10_136 dX10_codes_1 c117 (by decide) rfl rfl ?_
  refine r_cast (0) (hw) ?_
  refine r_if_eq (tgt := 8) (pc2 := 7) dX10_codes_4 (by decide) rfl (fun b4 => ?_) (fun b4 => ?_)
  · skip
    refine r_aload_n (pc2 := 9) 0 dX10_codes_8 rfl rfl rfl rfl ?_
    refine r_getf (pc2 := 12) (v := .ref 121) fX10_24 dX10_codes_9 c117 (by decide) rfl rfl ?_
    refine r_sipush (pc2 := 15) (v := 277) dX10_codes_12 (by decide) rfl ?_
    refine r_aload_n (pc2 := 16) 0 dX10_codes_15 rfl rfl rfl rfl ?_
    refine r_getf (pc2 := 19) (v := .ref 121) fX10_24 dX10_codes_16 c117 (by decide) rfl rfl ?_
    refine r_sipush (pc2 := 22) (v := 276) dX10_codes_19 (by decide) rfl ?_
    refine r_ialdA (pc2 := 23) 276 dX10_codes_22 c121 (by decide) rfl (by decide) (by decide) rfl ?_
    refine r_cast (nI (c0 + L.length)) (by rw [frL_276]) ?_
    refine r_iadd (pc2 := 24) dX10_codes_23 rfl ?_
    refine r_cast (nI (277 + (c0 + L.length))) (nI_add 277 _) ?_
    refine r_iload_n (pc2 := 25) 1 dX10_codes_24 rfl rfl rfl ?_
    refine r_iastN (pc2 := 26) (277 + (c0 + L.length)) dX10_codes_25 c121 (by decide) rfl (by omega) (by decide) rfl (fun h z25 o25 c121 => ?_)
    rw [upd_nA] at c121
    have c117 := (o25 117 (by decide)).trans c117
    have hx := hx.step (a := 121) (by decide) z25 o25
    refine r_aload_n (pc2 := 27) 0 dX10_codes_26 rfl rfl rfl rfl ?_
    refine r_getf (pc2 := 30) (v := .ref 121) fX10_24 dX10_codes_27 c117 (by decide) rfl rfl ?_
    refine r_sipush (pc2 := 33) (v := 276) dX10_codes_30 (by decide) rfl ?_
    refine r_dup2 (pc2 := 34) dX10_codes_33 rfl rfl rfl ?_
    refine r_ialdA (pc2 := 35) 276 dX10_codes_34 c121 (by decide) rfl (by decide) (by decide) rfl ?_
    refine r_cast (nI (c0 + L.length)) (by rw [va_up_ne _ _ (by omega), frL_276]) ?_
    refine r_iconst (pc2 := 36) (v := 1) dX10_codes_35 (by decide) rfl ?_
    refine r_iadd (pc2 := 37) dX10_codes_36 rfl ?_
    refine r_cast (nI (c0 + L.length + 1)) (nI_add _ 1) ?_
    refine r_iastN (pc2 := 38) 276 dX10_codes_37 c121 (by decide) rfl (by decide) (by decide) rfl (fun h z37 o37 c121 => ?_)
    rw [upd_nA] at c121
    have c117 := (o37 117 (by decide)).trans c117
    have hx := hx.step (a := 121) (by decide) z37 o37
    exact r_vret rfl dX10_codes_38 ⟨rfl, hx, by rw [frL_co] at c121; exact c121⟩
  · exact absurd b4 (by decide)
set_option maxRecDepth 20000 in
set_option maxHeartbeats 1000000 in
theorem z_codes {E : EnvT} {d : Nat} {h0 : Hp} {v : Nat → Int32} {f : Int32} (c117 : h0.1 117 = some (mO v)) (hw : ¬ v 11 = 0) : Cn E mX10_codes d [.ref 117, .int f] h0 (fun r h2 => r = none ∧ h2 = h0) := by
  refine Cn.go (ls := [.ref 117, .int f]) (by decide +kernel) rfl (Nat.le_of_ble_eq_true rfl) ?_
  refine r_aload_n (pc2 := 1) 0 dX10_codes_0 rfl rfl rfl rfl ?_
  refine r_getf (pc2 := 4) (v := .int (v 11)) fX10_136 dX10_codes_1 c117 (by decide) rfl rfl ?_
  refine r_if_eq (tgt := 8) (pc2 := 7) dX10_codes_4 (by decide) rfl (fun b4 => ?_) (fun b4 => ?_)
  · exact absurd b4 hw
  · skip
    exact r_vret rfl dX10_codes_7 ⟨rfl, rfl⟩
theorem G_codes {E : EnvT} {d : Nat} {h0 : Hp} {tp : Nat → Nat} {n : Nat} {fr : Nat → Nat} {c0 c : Nat} {v0 : Nat → Int32} {x : PX (List Nat)} (hl : ∀ p L, x = .ok (p, L) → c0 + L.length < 900) (hT : RT tp n (frL fr c0) v0 x h0) : Cn E mX10_codes d [.ref 117, .int (nI c)] h0 (RQ tp n (frL fr c0) v0 h0 none (bnd x (pCo c))) := by
  obtain ⟨v, g, c117, c120, c121, hN, hR⟩ := hT
  match x, hR with
  | .ok (p, L), hR =>
    obtain ⟨hp, hP, hf⟩ := hR
    subst hf
    refine (c_codes c117 c121 hP.2.1 (hl p L rfl)).mono fun r h2 q => ⟨q.1, q.2.1.mono (by decide), ?_⟩
    exact ⟨v, _, q.2.1.get (by decide) c117, q.2.1.get (by decide) c120, q.2.2, hN, hp, hP, rfl⟩
  | .error (w, a), hR =>
    exact (z_codes c117 (fun z => nI_w0 hR.1.1 hR.1.2.1 (hR.2.1.symm.trans z))).mono fun r h2 q => ⟨q.1, by rw [q.2]; exact Ex.rf, by rw [q.2]; exact ⟨v, g, c117, c120, c121, hN, hR⟩⟩
theorem IV.len {n c q : Nat} {x : PX (List Nat)} (h : IV n (c + 1) q x) (hn : n ≤ 900) : ∀ p L, x = .ok (p, L) → c + L.length < 900 := fun p L e => by
  subst e
  have h1 := h.2.1
  have h2 := h.2.2
  omega
set_option maxRecDepth 20000 in
set_option maxHeartbeats 1000000 in
theorem G_goesIn {E : EnvT} {d : Nat} {h0 : Hp} {α : Type} {tp : Nat → Nat} {n : Nat} {rep : α → Nat → Nat} {v0 : Nat → Int32} {p b e : Nat} {L : α} (heb : e + b = 6) (ht : TOk tp n) (hd : 7 ≤ d) (hT : RT tp n rep v0 (.ok (p, L)) h0) : Cn E mX10_goesIn d [.ref 117, .int (nI e)] h0 (RQ tp n rep v0 h0 (some (.int (if okB (pIn tp n b p L) = true then (1 : Int32) else 0))) (pIn tp n b p L)) := by
  have hT2 := hT
  obtain ⟨v, g, c117, c120, c121, hN, hp, hP, hf⟩ := hT2
  have hx : Ex [117, 121] h0 h0 := Ex.rf
  by_cases he : e = 6
  · have hb : b = 0 := by omega
    have ep : pIn tp n b p L = pFl tp n 4 p := by unfold pIn; rw [if_pos hb]
    rw [ep]
    have w11 : ∀ h : Hp, Ex [117, 121] h0 h → RT tp n rep v0 (pFl tp n 4 p) h → Fr E mX10_goesIn d 11 [.ref 117, .int (nI e)] [] h (RQ tp n rep v0 h0 (some (.int (if okB (pFl tp n 4 p : PX α) = true then (1 : Int32) else 0))) (pFl tp n 4 p)) := by
      intro h hx hT
      have hT2 := hT
      obtain ⟨v, g, c117, c120, c121, hN, hR, h11, h12⟩ := hT2
      have hw : ¬ v 11 = 0 := fun z => nI_w0 hR.1 hR.2.1 (h11.symm.trans z)
      refine r_aload_n (pc2 := 12) 0 dX10_goesIn_11 rfl rfl rfl rfl ?_
      refine r_getf (pc2 := 15) (v := .int (v 11)) fX10_136 dX10_goesIn_12 c117 (by decide) rfl rfl ?_
      refine r_if_ne (tgt := 22) (pc2 := 18) dX10_goesIn_15 (by decide) rfl (fun b15 => ?_) (fun b15 => ?_)
      · skip
        refine r_aload_n (pc2 := 23) 0 dX10_goesIn_22 rfl rfl rfl rfl ?_
        refine r_getf (pc2 := 26) (v := .int (v 11)) fX10_136 dX10_goesIn_23 c117 (by decide) rfl rfl ?_
        refine r_if_ne (tgt := 33) (pc2 := 29) dX10_goesIn_26 (by decide) rfl (fun b26 => ?_) (fun b26 => ?_)
        · skip
          refine r_iconst (pc2 := 34) (v := 0) dX10_goesIn_33 (by decide) rfl ?_
          exact r_zret (ty := .boolean) rfl (by decide) dX10_goesIn_34 ⟨rfl, hx, hT⟩
        · exact absurd b26 hw
      · exact absurd b15 hw
    refine Cn.go (ls := [.ref 117, .int (nI e)]) (by decide +kernel) rfl (Nat.le_of_ble_eq_true rfl) ?_
    refine r_iload_n (pc2 := 1) 1 dX10_goesIn_0 rfl rfl rfl ?_
    refine r_bipush (pc2 := 3) (v := 6) dX10_goesIn_1 (by decide) rfl ?_
    refine r_icmp_ne (tgt := 11) (pc2 := 6) dX10_goesIn_3 (by decide) rfl (fun b3 => ?_) (fun b3 => ?_)
    · exact absurd (congrArg nI he) b3
    · skip
      refine r_aload_n (pc2 := 7) 0 dX10_goesIn_6 rfl rfl rfl rfl ?_
      refine r_iconst (pc2 := 8) (v := 4) dX10_goesIn_7 (by decide) rfl ?_
      refine r_callV0 (pc2 := 11) (As := [.int 4]) (st := []) kX10_148 rfl rfl dX10_goesIn_8 c117 (by decide) rfl rfl (Nat.le_of_ble_eq_true rfl) (by omega) (G_fails (f := 4) (by decide) (by decide) hT) rfl (fun h hq8 => ?_)
      obtain ⟨hxf, hTf⟩ := hq8
      have hx := hx.trans hxf (by decide)
      exact w11 h hx hTf
  · have hb : ¬ b = 0 := by omega
    have ep : pIn tp n b p L = pNx tp n p L := by unfold pIn; rw [if_neg hb]
    rw [ep]
    have w22 : ∀ h : Hp, Ex [117, 121] h0 h → RT tp n rep v0 (pNx tp n p L) h → Fr E mX10_goesIn d 22 [.ref 117, .int (nI e)] [] h (RQ tp n rep v0 h0 (some (.int (if okB (pNx tp n p L : PX α) = true then (1 : Int32) else 0))) (pNx tp n p L)) := by
      intro h hx hT
      have hT2 := hT
      obtain ⟨v, g, c117, c120, c121, hN, hp, hP, hf⟩ := hT2
      refine r_aload_n (pc2 := 23) 0 dX10_goesIn_22 rfl rfl rfl rfl ?_
      refine r_getf (pc2 := 26) (v := .int (v 11)) fX10_136 dX10_goesIn_23 c117 (by decide) rfl rfl ?_
      refine r_if_ne (tgt := 33) (pc2 := 29) dX10_goesIn_26 (by decide) rfl (fun b26 => ?_) (fun b26 => ?_)
      · exact absurd hP.2.1 b26
      · skip
        refine r_iconst (pc2 := 30) (v := 1) dX10_goesIn_29 (by decide) rfl ?_
        refine r_goto (pc2 := 34) dX10_goesIn_30 (by decide) ?_
        exact r_zret (ty := .boolean) rfl (by decide) dX10_goesIn_34 ⟨rfl, hx, hT⟩
    refine Cn.go (ls := [.ref 117, .int (nI e)]) (by decide +kernel) rfl (Nat.le_of_ble_eq_true rfl) ?_
    refine r_iload_n (pc2 := 1) 1 dX10_goesIn_0 rfl rfl rfl ?_
    refine r_bipush (pc2 := 3) (v := 6) dX10_goesIn_1 (by decide) rfl ?_
    refine r_icmp_ne (tgt := 11) (pc2 := 6) dX10_goesIn_3 (by decide) rfl (fun b3 => ?_) (fun b3 => ?_)
    · skip
      refine r_aload_n (pc2 := 12) 0 dX10_goesIn_11 rfl rfl rfl rfl ?_
      refine r_getf (pc2 := 15) (v := .int (v 11)) fX10_136 dX10_goesIn_12 c117 (by decide) rfl rfl ?_
      refine r_if_ne (tgt := 22) (pc2 := 18) dX10_goesIn_15 (by decide) rfl (fun b15 => ?_) (fun b15 => ?_)
      · exact absurd (hP.2.1) b15
      · skip
        refine r_aload_n (pc2 := 19) 0 dX10_goesIn_18 rfl rfl rfl rfl ?_
        refine r_callV0 (pc2 := 22) (As := []) (st := []) kX10_145 rfl rfl dX10_goesIn_19 c117 (by decide) rfl rfl (Nat.le_of_ble_eq_true rfl) (by omega) (G_next ht (by omega) (p := p) (L := L) hT) rfl (fun h hq19 => ?_)
        obtain ⟨hxn, hTn⟩ := hq19
        have hx := hx.trans hxn (by decide)
        exact w22 h hx hTn
    · exact absurd ((nI_eq (b := 6) (by omega) (by decide)).mp b3) he
def wordI (rd k : Nat) : Int32 := if wordN rd k < 9 then nI (wordN rd k) else -1
set_option maxRecDepth 20000 in
set_option maxHeartbeats 1000000 in
theorem c_wordOf {E : EnvT} {d : Nat} {h0 : Hp} {v : Nat → Int32} {rd k : Nat} (c117 : h0.1 117 = some (mO v)) (hr : v 15 = nI rd) (hrd : rd < 2) (hk : k ≤ 41) : Cn E mX10_wordOf d [.ref 117, .int (nI k)] h0 (fun r h2 => r = some (.int (wordI rd k)) ∧ h2 = h0) := by
  by_cases e : rd = 1
  · skip
    by_cases e11 : k = 11
    · skip
      refine Cn.go (ls := [.ref 117, .int (nI k)]) (by decide +kernel) rfl (Nat.le_of_ble_eq_true rfl) ?_
      refine r_iload_n (pc2 := 1) 1 dX10_wordOf_0 rfl rfl rfl ?_
      refine r_bipush (pc2 := 3) (v := 11) dX10_wordOf_1 (by decide) rfl ?_
      refine r_icmp_ne (tgt := 8) (pc2 := 6) dX10_wordOf_3 (by decide) rfl (fun b3 => ?_) (fun b3 => ?_)
      · exact absurd (show nI k = nI 11 by rw [e11]) b3
      · skip
        refine r_iconst (pc2 := 7) (v := 0) dX10_wordOf_6 (by decide) rfl ?_
        exact r_iret rfl dX10_wordOf_7 ⟨by rw [e11, e]; decide, rfl⟩
    · have n11 := e11
      by_cases e2 : k = 2
      · skip
        refine Cn.go (ls := [.ref 117, .int (nI k)]) (by decide +kernel) rfl (Nat.le_of_ble_eq_true rfl) ?_
        refine r_iload_n (pc2 := 1) 1 dX10_wordOf_0 rfl rfl rfl ?_
        refine r_bipush (pc2 := 3) (v := 11) dX10_wordOf_1 (by decide) rfl ?_
        refine r_icmp_ne (tgt := 8) (pc2 := 6) dX10_wordOf_3 (by decide) rfl (fun b3 => ?_) (fun b3 => ?_)
        · skip
          refine r_iload_n (pc2 := 9) 1 dX10_wordOf_8 rfl rfl rfl ?_
          refine r_iconst (pc2 := 10) (v := 2) dX10_wordOf_9 (by decide) rfl ?_
          refine r_icmp_ne (tgt := 15) (pc2 := 13) dX10_wordOf_10 (by decide) rfl (fun b10 => ?_) (fun b10 => ?_)
          · exact absurd (show nI k = nI 2 by rw [e2]) b10
          · skip
            refine r_iconst (pc2 := 14) (v := 1) dX10_wordOf_13 (by decide) rfl ?_
            exact r_iret rfl dX10_wordOf_14 ⟨by rw [e2, e]; decide, rfl⟩
        · exact absurd ((nI_k (k := 11) hk (by decide)).mp b3) n11
      · have n2 := e2
        by_cases e10 : k = 10
        · skip
          refine Cn.go (ls := [.ref 117, .int (nI k)]) (by decide +kernel) rfl (Nat.le_of_ble_eq_true rfl) ?_
          refine r_iload_n (pc2 := 1) 1 dX10_wordOf_0 rfl rfl rfl ?_
          refine r_bipush (pc2 := 3) (v := 11) dX10_wordOf_1 (by decide) rfl ?_
          refine r_icmp_ne (tgt := 8) (pc2 := 6) dX10_wordOf_3 (by decide) rfl (fun b3 => ?_) (fun b3 => ?_)
          · skip
            refine r_iload_n (pc2 := 9) 1 dX10_wordOf_8 rfl rfl rfl ?_
            refine r_iconst (pc2 := 10) (v := 2) dX10_wordOf_9 (by decide) rfl ?_
            refine r_icmp_ne (tgt := 15) (pc2 := 13) dX10_wordOf_10 (by decide) rfl (fun b10 => ?_) (fun b10 => ?_)
            · skip
              refine r_aload_n (pc2 := 16) 0 dX10_wordOf_15 rfl rfl rfl rfl ?_
              refine r_getf (pc2 := 19) (v := .int (v 15)) fX10_156 dX10_wordOf_16 c117 (by decide) rfl rfl ?_
              refine r_iconst (pc2 := 20) (v := 1) dX10_wordOf_19 (by decide) rfl ?_
              refine r_icmp_ne (tgt := 58) (pc2 := 23) dX10_wordOf_20 (by decide) rfl (fun b20 => ?_) (fun b20 => ?_)
              · exact absurd (hr.trans (congrArg nI e)) b20
              · skip
                refine r_iload_n (pc2 := 24) 1 dX10_wordOf_23 rfl rfl rfl ?_
                refine r_bipush (pc2 := 26) (v := 10) dX10_wordOf_24 (by decide) rfl ?_
                refine r_icmp_ne (tgt := 34) (pc2 := 29) dX10_wordOf_26 (by decide) rfl (fun b26 => ?_) (fun b26 => ?_)
                · exact absurd (show nI k = nI 10 by rw [e10]) b26
                · skip
                  refine r_bipush (pc2 := 31) (v := 6) dX10_wordOf_29 (by decide) rfl ?_
                  refine r_goto (pc2 := 57) dX10_wordOf_31 (by decide) ?_
                  exact r_iret rfl dX10_wordOf_57 ⟨by rw [e10, e]; decide, rfl⟩
            · exact absurd ((nI_k (k := 2) hk (by decide)).mp b10) n2
          · exact absurd ((nI_k (k := 11) hk (by decide)).mp b3) n11
        · have n10 := e10
          by_cases e18 : k = 18
          · skip
            refine Cn.go (ls := [.ref 117, .int (nI k)]) (by decide +kernel) rfl (Nat.le_of_ble_eq_true rfl) ?_
            refine r_iload_n (pc2 := 1) 1 dX10_wordOf_0 rfl rfl rfl ?_
            refine r_bipush (pc2 := 3) (v := 11) dX10_wordOf_1 (by decide) rfl ?_
            refine r_icmp_ne (tgt := 8) (pc2 := 6) dX10_wordOf_3 (by decide) rfl (fun b3 => ?_) (fun b3 => ?_)
            · skip
              refine r_iload_n (pc2 := 9) 1 dX10_wordOf_8 rfl rfl rfl ?_
              refine r_iconst (pc2 := 10) (v := 2) dX10_wordOf_9 (by decide) rfl ?_
              refine r_icmp_ne (tgt := 15) (pc2 := 13) dX10_wordOf_10 (by decide) rfl (fun b10 => ?_) (fun b10 => ?_)
              · skip
                refine r_aload_n (pc2 := 16) 0 dX10_wordOf_15 rfl rfl rfl rfl ?_
                refine r_getf (pc2 := 19) (v := .int (v 15)) fX10_156 dX10_wordOf_16 c117 (by decide) rfl rfl ?_
                refine r_iconst (pc2 := 20) (v := 1) dX10_wordOf_19 (by decide) rfl ?_
                refine r_icmp_ne (tgt := 58) (pc2 := 23) dX10_wordOf_20 (by decide) rfl (fun b20 => ?_) (fun b20 => ?_)
                · exact absurd (hr.trans (congrArg nI e)) b20
                · skip
                  refine r_iload_n (pc2 := 24) 1 dX10_wordOf_23 rfl rfl rfl ?_
                  refine r_bipush (pc2 := 26) (v := 10) dX10_wordOf_24 (by decide) rfl ?_
                  refine r_icmp_ne (tgt := 34) (pc2 := 29) dX10_wordOf_26 (by decide) rfl (fun b26 => ?_) (fun b26 => ?_)
                  · skip
                    refine r_iload_n (pc2 := 35) 1 dX10_wordOf_34 rfl rfl rfl ?_
                    refine r_bipush (pc2 := 37) (v := 18) dX10_wordOf_35 (by decide) rfl ?_
                    refine r_icmp_ne (tgt := 45) (pc2 := 40) dX10_wordOf_37 (by decide) rfl (fun b37 => ?_) (fun b37 => ?_)
                    · exact absurd (show nI k = nI 18 by rw [e18]) b37
                    · skip
                      refine r_bipush (pc2 := 42) (v := 7) dX10_wordOf_40 (by decide) rfl ?_
                      refine r_goto (pc2 := 57) dX10_wordOf_42 (by decide) ?_
                      exact r_iret rfl dX10_wordOf_57 ⟨by rw [e18, e]; decide, rfl⟩
                  · exact absurd ((nI_k (k := 10) hk (by decide)).mp b26) n10
              · exact absurd ((nI_k (k := 2) hk (by decide)).mp b10) n2
            · exact absurd ((nI_k (k := 11) hk (by decide)).mp b3) n11
          · have n18 := e18
            by_cases e19 : k = 19
            · skip
              refine Cn.go (ls := [.ref 117, .int (nI k)]) (by decide +kernel) rfl (Nat.le_of_ble_eq_true rfl) ?_
              refine r_iload_n (pc2 := 1) 1 dX10_wordOf_0 rfl rfl rfl ?_
              refine r_bipush (pc2 := 3) (v := 11) dX10_wordOf_1 (by decide) rfl ?_
              refine r_icmp_ne (tgt := 8) (pc2 := 6) dX10_wordOf_3 (by decide) rfl (fun b3 => ?_) (fun b3 => ?_)
              · skip
                refine r_iload_n (pc2 := 9) 1 dX10_wordOf_8 rfl rfl rfl ?_
                refine r_iconst (pc2 := 10) (v := 2) dX10_wordOf_9 (by decide) rfl ?_
                refine r_icmp_ne (tgt := 15) (pc2 := 13) dX10_wordOf_10 (by decide) rfl (fun b10 => ?_) (fun b10 => ?_)
                · skip
                  refine r_aload_n (pc2 := 16) 0 dX10_wordOf_15 rfl rfl rfl rfl ?_
                  refine r_getf (pc2 := 19) (v := .int (v 15)) fX10_156 dX10_wordOf_16 c117 (by decide) rfl rfl ?_
                  refine r_iconst (pc2 := 20) (v := 1) dX10_wordOf_19 (by decide) rfl ?_
                  refine r_icmp_ne (tgt := 58) (pc2 := 23) dX10_wordOf_20 (by decide) rfl (fun b20 => ?_) (fun b20 => ?_)
                  · exact absurd (hr.trans (congrArg nI e)) b20
                  · skip
                    refine r_iload_n (pc2 := 24) 1 dX10_wordOf_23 rfl rfl rfl ?_
                    refine r_bipush (pc2 := 26) (v := 10) dX10_wordOf_24 (by decide) rfl ?_
                    refine r_icmp_ne (tgt := 34) (pc2 := 29) dX10_wordOf_26 (by decide) rfl (fun b26 => ?_) (fun b26 => ?_)
                    · skip
                      refine r_iload_n (pc2 := 35) 1 dX10_wordOf_34 rfl rfl rfl ?_
                      refine r_bipush (pc2 := 37) (v := 18) dX10_wordOf_35 (by decide) rfl ?_
                      refine r_icmp_ne (tgt := 45) (pc2 := 40) dX10_wordOf_37 (by decide) rfl (fun b37 => ?_) (fun b37 => ?_)
                      · skip
                        refine r_iload_n (pc2 := 46) 1 dX10_wordOf_45 rfl rfl rfl ?_
                        refine r_bipush (pc2 := 48) (v := 19) dX10_wordOf_46 (by decide) rfl ?_
                        refine r_icmp_ne (tgt := 56) (pc2 := 51) dX10_wordOf_48 (by decide) rfl (fun b48 => ?_) (fun b48 => ?_)
                        · exact absurd (show nI k = nI 19 by rw [e19]) b48
                        · skip
                          refine r_bipush (pc2 := 53) (v := 8) dX10_wordOf_51 (by decide) rfl ?_
                          refine r_goto (pc2 := 57) dX10_wordOf_53 (by decide) ?_
                          exact r_iret rfl dX10_wordOf_57 ⟨by rw [e19, e]; decide, rfl⟩
                      · exact absurd ((nI_k (k := 18) hk (by decide)).mp b37) n18
                    · exact absurd ((nI_k (k := 10) hk (by decide)).mp b26) n10
                · exact absurd ((nI_k (k := 2) hk (by decide)).mp b10) n2
              · exact absurd ((nI_k (k := 11) hk (by decide)).mp b3) n11
            · have n19 := e19
              have e9 : wordN rd k = 9 := by unfold wordN; rw [e]; simp [n11, n2, n10, n18, n19]
              refine Cn.go (ls := [.ref 117, .int (nI k)]) (by decide +kernel) rfl (Nat.le_of_ble_eq_true rfl) ?_
              refine r_iload_n (pc2 := 1) 1 dX10_wordOf_0 rfl rfl rfl ?_
              refine r_bipush (pc2 := 3) (v := 11) dX10_wordOf_1 (by decide) rfl ?_
              refine r_icmp_ne (tgt := 8) (pc2 := 6) dX10_wordOf_3 (by decide) rfl (fun b3 => ?_) (fun b3 => ?_)
              · skip
                refine r_iload_n (pc2 := 9) 1 dX10_wordOf_8 rfl rfl rfl ?_
                refine r_iconst (pc2 := 10) (v := 2) dX10_wordOf_9 (by decide) rfl ?_
                refine r_icmp_ne (tgt := 15) (pc2 := 13) dX10_wordOf_10 (by decide) rfl (fun b10 => ?_) (fun b10 => ?_)
                · skip
                  refine r_aload_n (pc2 := 16) 0 dX10_wordOf_15 rfl rfl rfl rfl ?_
                  refine r_getf (pc2 := 19) (v := .int (v 15)) fX10_156 dX10_wordOf_16 c117 (by decide) rfl rfl ?_
                  refine r_iconst (pc2 := 20) (v := 1) dX10_wordOf_19 (by decide) rfl ?_
                  refine r_icmp_ne (tgt := 58) (pc2 := 23) dX10_wordOf_20 (by decide) rfl (fun b20 => ?_) (fun b20 => ?_)
                  · exact absurd (hr.trans (congrArg nI e)) b20
                  · skip
                    refine r_iload_n (pc2 := 24) 1 dX10_wordOf_23 rfl rfl rfl ?_
                    refine r_bipush (pc2 := 26) (v := 10) dX10_wordOf_24 (by decide) rfl ?_
                    refine r_icmp_ne (tgt := 34) (pc2 := 29) dX10_wordOf_26 (by decide) rfl (fun b26 => ?_) (fun b26 => ?_)
                    · skip
                      refine r_iload_n (pc2 := 35) 1 dX10_wordOf_34 rfl rfl rfl ?_
                      refine r_bipush (pc2 := 37) (v := 18) dX10_wordOf_35 (by decide) rfl ?_
                      refine r_icmp_ne (tgt := 45) (pc2 := 40) dX10_wordOf_37 (by decide) rfl (fun b37 => ?_) (fun b37 => ?_)
                      · skip
                        refine r_iload_n (pc2 := 46) 1 dX10_wordOf_45 rfl rfl rfl ?_
                        refine r_bipush (pc2 := 48) (v := 19) dX10_wordOf_46 (by decide) rfl ?_
                        refine r_icmp_ne (tgt := 56) (pc2 := 51) dX10_wordOf_48 (by decide) rfl (fun b48 => ?_) (fun b48 => ?_)
                        · skip
                          refine r_iconst (pc2 := 57) (v := -1) dX10_wordOf_56 (by decide) rfl ?_
                          exact r_iret rfl dX10_wordOf_57 ⟨by rw [wordI, e9]; rfl, rfl⟩
                        · exact absurd ((nI_k (k := 19) hk (by decide)).mp b48) n19
                      · exact absurd ((nI_k (k := 18) hk (by decide)).mp b37) n18
                    · exact absurd ((nI_k (k := 10) hk (by decide)).mp b26) n10
                · exact absurd ((nI_k (k := 2) hk (by decide)).mp b10) n2
              · exact absurd ((nI_k (k := 11) hk (by decide)).mp b3) n11
  · obtain e : rd = 0 := by omega
    by_cases e11 : k = 11
    · skip
      refine Cn.go (ls := [.ref 117, .int (nI k)]) (by decide +kernel) rfl (Nat.le_of_ble_eq_true rfl) ?_
      refine r_iload_n (pc2 := 1) 1 dX10_wordOf_0 rfl rfl rfl ?_
      refine r_bipush (pc2 := 3) (v := 11) dX10_wordOf_1 (by decide) rfl ?_
      refine r_icmp_ne (tgt := 8) (pc2 := 6) dX10_wordOf_3 (by decide) rfl (fun b3 => ?_) (fun b3 => ?_)
      · exact absurd (show nI k = nI 11 by rw [e11]) b3
      · skip
        refine r_iconst (pc2 := 7) (v := 0) dX10_wordOf_6 (by decide) rfl ?_
        exact r_iret rfl dX10_wordOf_7 ⟨by rw [e11, e]; decide, rfl⟩
    · have n11 := e11
      by_cases e2 : k = 2
      · skip
        refine Cn.go (ls := [.ref 117, .int (nI k)]) (by decide +kernel) rfl (Nat.le_of_ble_eq_true rfl) ?_
        refine r_iload_n (pc2 := 1) 1 dX10_wordOf_0 rfl rfl rfl ?_
        refine r_bipush (pc2 := 3) (v := 11) dX10_wordOf_1 (by decide) rfl ?_
        refine r_icmp_ne (tgt := 8) (pc2 := 6) dX10_wordOf_3 (by decide) rfl (fun b3 => ?_) (fun b3 => ?_)
        · skip
          refine r_iload_n (pc2 := 9) 1 dX10_wordOf_8 rfl rfl rfl ?_
          refine r_iconst (pc2 := 10) (v := 2) dX10_wordOf_9 (by decide) rfl ?_
          refine r_icmp_ne (tgt := 15) (pc2 := 13) dX10_wordOf_10 (by decide) rfl (fun b10 => ?_) (fun b10 => ?_)
          · exact absurd (show nI k = nI 2 by rw [e2]) b10
          · skip
            refine r_iconst (pc2 := 14) (v := 1) dX10_wordOf_13 (by decide) rfl ?_
            exact r_iret rfl dX10_wordOf_14 ⟨by rw [e2, e]; decide, rfl⟩
        · exact absurd ((nI_k (k := 11) hk (by decide)).mp b3) n11
      · have n2 := e2
        by_cases e3 : k = 3
        · skip
          refine Cn.go (ls := [.ref 117, .int (nI k)]) (by decide +kernel) rfl (Nat.le_of_ble_eq_true rfl) ?_
          refine r_iload_n (pc2 := 1) 1 dX10_wordOf_0 rfl rfl rfl ?_
          refine r_bipush (pc2 := 3) (v := 11) dX10_wordOf_1 (by decide) rfl ?_
          refine r_icmp_ne (tgt := 8) (pc2 := 6) dX10_wordOf_3 (by decide) rfl (fun b3 => ?_) (fun b3 => ?_)
          · skip
            refine r_iload_n (pc2 := 9) 1 dX10_wordOf_8 rfl rfl rfl ?_
            refine r_iconst (pc2 := 10) (v := 2) dX10_wordOf_9 (by decide) rfl ?_
            refine r_icmp_ne (tgt := 15) (pc2 := 13) dX10_wordOf_10 (by decide) rfl (fun b10 => ?_) (fun b10 => ?_)
            · skip
              refine r_aload_n (pc2 := 16) 0 dX10_wordOf_15 rfl rfl rfl rfl ?_
              refine r_getf (pc2 := 19) (v := .int (v 15)) fX10_156 dX10_wordOf_16 c117 (by decide) rfl rfl ?_
              refine r_iconst (pc2 := 20) (v := 1) dX10_wordOf_19 (by decide) rfl ?_
              refine r_icmp_ne (tgt := 58) (pc2 := 23) dX10_wordOf_20 (by decide) rfl (fun b20 => ?_) (fun b20 => ?_)
              · skip
                refine r_iload_n (pc2 := 59) 1 dX10_wordOf_58 rfl rfl rfl ?_
                refine r_iconst (pc2 := 60) (v := 3) dX10_wordOf_59 (by decide) rfl ?_
                refine r_icmp_ne (tgt := 67) (pc2 := 63) dX10_wordOf_60 (by decide) rfl (fun b60 => ?_) (fun b60 => ?_)
                · exact absurd (show nI k = nI 3 by rw [e3]) b60
                · skip
                  refine r_iconst (pc2 := 64) (v := 2) dX10_wordOf_63 (by decide) rfl ?_
                  refine r_goto (pc2 := 97) dX10_wordOf_64 (by decide) ?_
                  exact r_iret rfl dX10_wordOf_97 ⟨by rw [e3, e]; decide, rfl⟩
              · exact absurd ((nI_eq (b := 1) (by omega) (by decide)).mp (hr.symm.trans b20)) (by omega)
            · exact absurd ((nI_k (k := 2) hk (by decide)).mp b10) n2
          · exact absurd ((nI_k (k := 11) hk (by decide)).mp b3) n11
        · have n3 := e3
          by_cases e4 : k = 4
          · skip
            refine Cn.go (ls := [.ref 117, .int (nI k)]) (by decide +kernel) rfl (Nat.le_of_ble_eq_true rfl) ?_
            refine r_iload_n (pc2 := 1) 1 dX10_wordOf_0 rfl rfl rfl ?_
            refine r_bipush (pc2 := 3) (v := 11) dX10_wordOf_1 (by decide) rfl ?_
            refine r_icmp_ne (tgt := 8) (pc2 := 6) dX10_wordOf_3 (by decide) rfl (fun b3 => ?_) (fun b3 => ?_)
            · skip
              refine r_iload_n (pc2 := 9) 1 dX10_wordOf_8 rfl rfl rfl ?_
              refine r_iconst (pc2 := 10) (v := 2) dX10_wordOf_9 (by decide) rfl ?_
              refine r_icmp_ne (tgt := 15) (pc2 := 13) dX10_wordOf_10 (by decide) rfl (fun b10 => ?_) (fun b10 => ?_)
              · skip
                refine r_aload_n (pc2 := 16) 0 dX10_wordOf_15 rfl rfl rfl rfl ?_
                refine r_getf (pc2 := 19) (v := .int (v 15)) fX10_156 dX10_wordOf_16 c117 (by decide) rfl rfl ?_
                refine r_iconst (pc2 := 20) (v := 1) dX10_wordOf_19 (by decide) rfl ?_
                refine r_icmp_ne (tgt := 58) (pc2 := 23) dX10_wordOf_20 (by decide) rfl (fun b20 => ?_) (fun b20 => ?_)
                · skip
                  refine r_iload_n (pc2 := 59) 1 dX10_wordOf_58 rfl rfl rfl ?_
                  refine r_iconst (pc2 := 60) (v := 3) dX10_wordOf_59 (by decide) rfl ?_
                  refine r_icmp_ne (tgt := 67) (pc2 := 63) dX10_wordOf_60 (by decide) rfl (fun b60 => ?_) (fun b60 => ?_)
                  · skip
                    refine r_iload_n (pc2 := 68) 1 dX10_wordOf_67 rfl rfl rfl ?_
                    refine r_iconst (pc2 := 69) (v := 4) dX10_wordOf_68 (by decide) rfl ?_
                    refine r_icmp_ne (tgt := 76) (pc2 := 72) dX10_wordOf_69 (by decide) rfl (fun b69 => ?_) (fun b69 => ?_)
                    · exact absurd (show nI k = nI 4 by rw [e4]) b69
                    · skip
                      refine r_iconst (pc2 := 73) (v := 3) dX10_wordOf_72 (by decide) rfl ?_
                      refine r_goto (pc2 := 97) dX10_wordOf_73 (by decide) ?_
                      exact r_iret rfl dX10_wordOf_97 ⟨by rw [e4, e]; decide, rfl⟩
                  · exact absurd ((nI_k (k := 3) hk (by decide)).mp b60) n3
                · exact absurd ((nI_eq (b := 1) (by omega) (by decide)).mp (hr.symm.trans b20)) (by omega)
              · exact absurd ((nI_k (k := 2) hk (by decide)).mp b10) n2
            · exact absurd ((nI_k (k := 11) hk (by decide)).mp b3) n11
          · have n4 := e4
            by_cases e6 : k = 6
            · skip
              refine Cn.go (ls := [.ref 117, .int (nI k)]) (by decide +kernel) rfl (Nat.le_of_ble_eq_true rfl) ?_
              refine r_iload_n (pc2 := 1) 1 dX10_wordOf_0 rfl rfl rfl ?_
              refine r_bipush (pc2 := 3) (v := 11) dX10_wordOf_1 (by decide) rfl ?_
              refine r_icmp_ne (tgt := 8) (pc2 := 6) dX10_wordOf_3 (by decide) rfl (fun b3 => ?_) (fun b3 => ?_)
              · skip
                refine r_iload_n (pc2 := 9) 1 dX10_wordOf_8 rfl rfl rfl ?_
                refine r_iconst (pc2 := 10) (v := 2) dX10_wordOf_9 (by decide) rfl ?_
                refine r_icmp_ne (tgt := 15) (pc2 := 13) dX10_wordOf_10 (by decide) rfl (fun b10 => ?_) (fun b10 => ?_)
                · skip
                  refine r_aload_n (pc2 := 16) 0 dX10_wordOf_15 rfl rfl rfl rfl ?_
                  refine r_getf (pc2 := 19) (v := .int (v 15)) fX10_156 dX10_wordOf_16 c117 (by decide) rfl rfl ?_
                  refine r_iconst (pc2 := 20) (v := 1) dX10_wordOf_19 (by decide) rfl ?_
                  refine r_icmp_ne (tgt := 58) (pc2 := 23) dX10_wordOf_20 (by decide) rfl (fun b20 => ?_) (fun b20 => ?_)
                  · skip
                    refine r_iload_n (pc2 := 59) 1 dX10_wordOf_58 rfl rfl rfl ?_
                    refine r_iconst (pc2 := 60) (v := 3) dX10_wordOf_59 (by decide) rfl ?_
                    refine r_icmp_ne (tgt := 67) (pc2 := 63) dX10_wordOf_60 (by decide) rfl (fun b60 => ?_) (fun b60 => ?_)
                    · skip
                      refine r_iload_n (pc2 := 68) 1 dX10_wordOf_67 rfl rfl rfl ?_
                      refine r_iconst (pc2 := 69) (v := 4) dX10_wordOf_68 (by decide) rfl ?_
                      refine r_icmp_ne (tgt := 76) (pc2 := 72) dX10_wordOf_69 (by decide) rfl (fun b69 => ?_) (fun b69 => ?_)
                      · skip
                        refine r_iload_n (pc2 := 77) 1 dX10_wordOf_76 rfl rfl rfl ?_
                        refine r_bipush (pc2 := 79) (v := 6) dX10_wordOf_77 (by decide) rfl ?_
                        refine r_icmp_ne (tgt := 86) (pc2 := 82) dX10_wordOf_79 (by decide) rfl (fun b79 => ?_) (fun b79 => ?_)
                        · exact absurd (show nI k = nI 6 by rw [e6]) b79
                        · skip
                          refine r_iconst (pc2 := 83) (v := 4) dX10_wordOf_82 (by decide) rfl ?_
                          refine r_goto (pc2 := 97) dX10_wordOf_83 (by decide) ?_
                          exact r_iret rfl dX10_wordOf_97 ⟨by rw [e6, e]; decide, rfl⟩
                      · exact absurd ((nI_k (k := 4) hk (by decide)).mp b69) n4
                    · exact absurd ((nI_k (k := 3) hk (by decide)).mp b60) n3
                  · exact absurd ((nI_eq (b := 1) (by omega) (by decide)).mp (hr.symm.trans b20)) (by omega)
                · exact absurd ((nI_k (k := 2) hk (by decide)).mp b10) n2
              · exact absurd ((nI_k (k := 11) hk (by decide)).mp b3) n11
            · have n6 := e6
              by_cases e17 : k = 17
              · skip
                refine Cn.go (ls := [.ref 117, .int (nI k)]) (by decide +kernel) rfl (Nat.le_of_ble_eq_true rfl) ?_
                refine r_iload_n (pc2 := 1) 1 dX10_wordOf_0 rfl rfl rfl ?_
                refine r_bipush (pc2 := 3) (v := 11) dX10_wordOf_1 (by decide) rfl ?_
                refine r_icmp_ne (tgt := 8) (pc2 := 6) dX10_wordOf_3 (by decide) rfl (fun b3 => ?_) (fun b3 => ?_)
                · skip
                  refine r_iload_n (pc2 := 9) 1 dX10_wordOf_8 rfl rfl rfl ?_
                  refine r_iconst (pc2 := 10) (v := 2) dX10_wordOf_9 (by decide) rfl ?_
                  refine r_icmp_ne (tgt := 15) (pc2 := 13) dX10_wordOf_10 (by decide) rfl (fun b10 => ?_) (fun b10 => ?_)
                  · skip
                    refine r_aload_n (pc2 := 16) 0 dX10_wordOf_15 rfl rfl rfl rfl ?_
                    refine r_getf (pc2 := 19) (v := .int (v 15)) fX10_156 dX10_wordOf_16 c117 (by decide) rfl rfl ?_
                    refine r_iconst (pc2 := 20) (v := 1) dX10_wordOf_19 (by decide) rfl ?_
                    refine r_icmp_ne (tgt := 58) (pc2 := 23) dX10_wordOf_20 (by decide) rfl (fun b20 => ?_) (fun b20 => ?_)
                    · skip
                      refine r_iload_n (pc2 := 59) 1 dX10_wordOf_58 rfl rfl rfl ?_
                      refine r_iconst (pc2 := 60) (v := 3) dX10_wordOf_59 (by decide) rfl ?_
                      refine r_icmp_ne (tgt := 67) (pc2 := 63) dX10_wordOf_60 (by decide) rfl (fun b60 => ?_) (fun b60 => ?_)
                      · skip
                        refine r_iload_n (pc2 := 68) 1 dX10_wordOf_67 rfl rfl rfl ?_
                        refine r_iconst (pc2 := 69) (v := 4) dX10_wordOf_68 (by decide) rfl ?_
                        refine r_icmp_ne (tgt := 76) (pc2 := 72) dX10_wordOf_69 (by decide) rfl (fun b69 => ?_) (fun b69 => ?_)
                        · skip
                          refine r_iload_n (pc2 := 77) 1 dX10_wordOf_76 rfl rfl rfl ?_
                          refine r_bipush (pc2 := 79) (v := 6) dX10_wordOf_77 (by decide) rfl ?_
                          refine r_icmp_ne (tgt := 86) (pc2 := 82) dX10_wordOf_79 (by decide) rfl (fun b79 => ?_) (fun b79 => ?_)
                          · skip
                            refine r_iload_n (pc2 := 87) 1 dX10_wordOf_86 rfl rfl rfl ?_
                            refine r_bipush (pc2 := 89) (v := 17) dX10_wordOf_87 (by decide) rfl ?_
                            refine r_icmp_ne (tgt := 96) (pc2 := 92) dX10_wordOf_89 (by decide) rfl (fun b89 => ?_) (fun b89 => ?_)
                            · exact absurd (show nI k = nI 17 by rw [e17]) b89
                            · skip
                              refine r_iconst (pc2 := 93) (v := 5) dX10_wordOf_92 (by decide) rfl ?_
                              refine r_goto (pc2 := 97) dX10_wordOf_93 (by decide) ?_
                              exact r_iret rfl dX10_wordOf_97 ⟨by rw [e17, e]; decide, rfl⟩
                          · exact absurd ((nI_k (k := 6) hk (by decide)).mp b79) n6
                        · exact absurd ((nI_k (k := 4) hk (by decide)).mp b69) n4
                      · exact absurd ((nI_k (k := 3) hk (by decide)).mp b60) n3
                    · exact absurd ((nI_eq (b := 1) (by omega) (by decide)).mp (hr.symm.trans b20)) (by omega)
                  · exact absurd ((nI_k (k := 2) hk (by decide)).mp b10) n2
                · exact absurd ((nI_k (k := 11) hk (by decide)).mp b3) n11
              · have n17 := e17
                have e9 : wordN rd k = 9 := by unfold wordN; rw [e]; simp [n11, n2, n3, n4, n6, n17]
                refine Cn.go (ls := [.ref 117, .int (nI k)]) (by decide +kernel) rfl (Nat.le_of_ble_eq_true rfl) ?_
                refine r_iload_n (pc2 := 1) 1 dX10_wordOf_0 rfl rfl rfl ?_
                refine r_bipush (pc2 := 3) (v := 11) dX10_wordOf_1 (by decide) rfl ?_
                refine r_icmp_ne (tgt := 8) (pc2 := 6) dX10_wordOf_3 (by decide) rfl (fun b3 => ?_) (fun b3 => ?_)
                · skip
                  refine r_iload_n (pc2 := 9) 1 dX10_wordOf_8 rfl rfl rfl ?_
                  refine r_iconst (pc2 := 10) (v := 2) dX10_wordOf_9 (by decide) rfl ?_
                  refine r_icmp_ne (tgt := 15) (pc2 := 13) dX10_wordOf_10 (by decide) rfl (fun b10 => ?_) (fun b10 => ?_)
                  · skip
                    refine r_aload_n (pc2 := 16) 0 dX10_wordOf_15 rfl rfl rfl rfl ?_
                    refine r_getf (pc2 := 19) (v := .int (v 15)) fX10_156 dX10_wordOf_16 c117 (by decide) rfl rfl ?_
                    refine r_iconst (pc2 := 20) (v := 1) dX10_wordOf_19 (by decide) rfl ?_
                    refine r_icmp_ne (tgt := 58) (pc2 := 23) dX10_wordOf_20 (by decide) rfl (fun b20 => ?_) (fun b20 => ?_)
                    · skip
                      refine r_iload_n (pc2 := 59) 1 dX10_wordOf_58 rfl rfl rfl ?_
                      refine r_iconst (pc2 := 60) (v := 3) dX10_wordOf_59 (by decide) rfl ?_
                      refine r_icmp_ne (tgt := 67) (pc2 := 63) dX10_wordOf_60 (by decide) rfl (fun b60 => ?_) (fun b60 => ?_)
                      · skip
                        refine r_iload_n (pc2 := 68) 1 dX10_wordOf_67 rfl rfl rfl ?_
                        refine r_iconst (pc2 := 69) (v := 4) dX10_wordOf_68 (by decide) rfl ?_
                        refine r_icmp_ne (tgt := 76) (pc2 := 72) dX10_wordOf_69 (by decide) rfl (fun b69 => ?_) (fun b69 => ?_)
                        · skip
                          refine r_iload_n (pc2 := 77) 1 dX10_wordOf_76 rfl rfl rfl ?_
                          refine r_bipush (pc2 := 79) (v := 6) dX10_wordOf_77 (by decide) rfl ?_
                          refine r_icmp_ne (tgt := 86) (pc2 := 82) dX10_wordOf_79 (by decide) rfl (fun b79 => ?_) (fun b79 => ?_)
                          · skip
                            refine r_iload_n (pc2 := 87) 1 dX10_wordOf_86 rfl rfl rfl ?_
                            refine r_bipush (pc2 := 89) (v := 17) dX10_wordOf_87 (by decide) rfl ?_
                            refine r_icmp_ne (tgt := 96) (pc2 := 92) dX10_wordOf_89 (by decide) rfl (fun b89 => ?_) (fun b89 => ?_)
                            · skip
                              refine r_iconst (pc2 := 97) (v := -1) dX10_wordOf_96 (by decide) rfl ?_
                              exact r_iret rfl dX10_wordOf_97 ⟨by rw [wordI, e9]; rfl, rfl⟩
                            · exact absurd ((nI_k (k := 17) hk (by decide)).mp b89) n17
                          · exact absurd ((nI_k (k := 6) hk (by decide)).mp b79) n6
                        · exact absurd ((nI_k (k := 4) hk (by decide)).mp b69) n4
                      · exact absurd ((nI_k (k := 3) hk (by decide)).mp b60) n3
                    · exact absurd ((nI_eq (b := 1) (by omega) (by decide)).mp (hr.symm.trans b20)) (by omega)
                  · exact absurd ((nI_k (k := 2) hk (by decide)).mp b10) n2
                · exact absurd ((nI_k (k := 11) hk (by decide)).mp b3) n11
