/-! the class's reader: words of a law, repeated things -/
theorem r_ldcwS {E : EnvT} {M : MD} {d pc pc2 idx : Nat} {ls st : List Value} {h : Hp} {Q : Option Value → Hp → Prop} (t : Nat) (ht : t < 25) (ho : (xOwn t).1 = M.1.cls) (hx : (xOwn t).2.1 = idx) (hd : decode M.2.1 pc = .ok (.ldc_w idx, 3)) (hp : pc + 3 = pc2) (k : Fr E M d pc2 ls (.ref t :: st) h Q) : Fr E M d pc ls st h Q := by
  subst hp; subst hx
  refine Fr.pure (fun {p e R s m args below meth c H locs cells slots sl Qp} C L S RH k2 => ?_) k
  have hZ := C.X.2.2.2.2.2.2.2.2.1 t ht
  rw [ho] at hZ
  rw [List.map_cons, tV_ext (by omega)] at k2
  intro T hT X
  obtain ⟨t9, a1, b1⟩ := k2 T hT X
  exact ⟨t9, X.ldcStringW C.1 C.own hZ.1 hZ.2 (g := F0 m pc _ _) rfl (by rw [C.2.1]; exact hd) t9 a1, b1⟩
def lwV (rd k : Nat) : Int32 := if wordN rd k < 9 then cmI (1000 + wordN rd k) else 0
def inOk (rd : Nat) (z : Int32) : Prop := (rd = 0 ∧ z = 1) ∨ (rd = 1 ∧ z = 0)
theorem Bs.b {tp : Nat → Nat} {n : Nat} {F G : PF} (hF : Bs tp n F) (hG : Bs tp n G) : Bs tp n (fun p L => bnd (F p L) G) := by
  intro p L h
  have f := hF p L h
  show yo tp n (bnd (F p L) G) = _
  match F p L, f with
  | .error g, f => exact f
  | .ok (q, M), f =>
    by_cases h2 : lxK tp n q = 26
    · rw [yo_26 h2] at f
      exact (hG q M h2).trans f
    · rw [yo_ok h2] at f
      cases f
theorem b_fl {tp : Nat → Nat} {n f : Nat} : Bs tp n (fun p _ => (pFl tp n f p : PX (List Nat))) := fun p L h => yo_fl26 h
theorem w26 (rd : Nat) : ¬ wordN rd 26 < 9 := by unfold wordN; by_cases r : rd = 1 <;> simp [r]
theorem b_lvA (tp : Nat → Nat) (n rd b : Nat) : Bs tp n (lvA tp n rd b) := fun p L h => by
  unfold lvA pAtom
  rw [h, if_neg (by decide), if_neg (w26 rd), if_neg (by decide), if_neg (by decide)]
  exact yo_fl26 h
theorem b_rep {tp : Nat → Nat} {n k c : Nat} {A : PF} (hk : k ≠ 26) : ∀ m, Bs tp n (pRep tp n k c A m)
  | 0 => fun p L h => yo_26 h
  | m + 1 => fun p L h => by rw [pRep_s, if_neg (by rw [h]; exact fun z => hk z.symm)]; exact yo_26 h
theorem b_add {tp : Nat → Nat} {n : Nat} {A : PF} : ∀ m, Bs tp n (pAdd tp n A m)
  | 0 => fun p L h => yo_26 h
  | m + 1 => fun p L h => by rw [pAdd_s, if_neg (by rw [h]; decide)]; exact yo_26 h
theorem b_sum {tp : Nat → Nat} {n : Nat} {A : PF} (hA : Bs tp n A) : Bs tp n (pSum tp n A) := (hA.b (b_rep (by decide) 901)).b (b_add 901)
theorem b_ord {tp : Nat → Nat} {n : Nat} {S : PF} : Bs tp n (pOrd tp n S) := fun p L h => by
  unfold pOrd pCmp
  rw [h, if_neg (by decide)]
  exact yo_fl26 (α := List Nat) h
theorem b_unit {tp : Nat → Nat} {n b : Nat} {S T U : PF} (hS : Bs tp n S) : Bs tp n (pUnit tp n b S T U) := fun p L h => by
  unfold pUnit
  rw [h, if_neg (by decide), if_neg (by decide)]
  exact (hS.b b_ord) p L h
theorem Fr.nrm {E : EnvT} {tp : Nat → Nat} {n : Nat} {u : RLT} {s e : Nat} {M : MD} {d pc : Nat} {ls st : List Value} {h h0 : Hp} (x y : PX (List Nat)) (g : Nat × Nat) (h1 : yo tp n x = .error g) (h2 : yo tp n y = .error g) (c : Fr E M d pc ls st h (RLQ tp n u e s h0 none x)) : Fr E M d pc ls st h (RLQ tp n u e s h0 none y) := c.mono fun _ _ q => ⟨q.1, q.2.1, q.2.2.nrm h1 h2⟩
theorem X_wordY {E : EnvT} {d : Nat} {h0 : Hp} {tp : Nat → Nat} {n : Nat} {u : RLT} {s e w k p : Nat} {L : List Nat} (hw : w < 23) (ek : kx w = k) (hk : lxK tp n p = k) (h26 : lxK tp n p ≠ 26) (ht : TOk tp n) (hd : 4 ≤ d) (hP : TPo tp h0) (hT : RLw tp n u e s (.ok (p, L)) h0) : Cn E mX3_isWord d [.ref 65, .ref w] h0 (fun r h2 => r = some (.int 1) ∧ h2 = h0) := (X_word hw ht hd hP hT).mono fun r h2 q => ⟨q.1.trans (by rw [yo_ok h26, if_pos (isY_y (hk.trans ek.symm))]), q.2⟩
theorem X_wordN {E : EnvT} {d : Nat} {h0 : Hp} {tp : Nat → Nat} {n : Nat} {u : RLT} {s e w k p : Nat} {L : List Nat} (hw : w < 23) (ek : kx w = k) (hk : lxK tp n p ≠ k) (h26 : lxK tp n p ≠ 26) (ht : TOk tp n) (hd : 4 ≤ d) (hP : TPo tp h0) (hT : RLw tp n u e s (.ok (p, L)) h0) : Cn E mX3_isWord d [.ref 65, .ref w] h0 (fun r h2 => r = some (.int 0) ∧ h2 = h0) := (X_word hw ht hd hP hT).mono fun r h2 q => ⟨q.1.trans (by rw [yo_ok h26, if_neg (isY_n (by rw [ek]; exact hk))]), q.2⟩
theorem X_wordE {E : EnvT} {d : Nat} {h0 : Hp} {tp : Nat → Nat} {n : Nat} {u : RLT} {s e w : Nat} {g : Nat × Nat} (hw : w < 23) (ht : TOk tp n) (hd : 4 ≤ d) (hP : TPo tp h0) (hT : RLw tp n u e s (.error g) h0) : Cn E mX3_isWord d [.ref 65, .ref w] h0 (fun r h2 => r = some (.int 0) ∧ h2 = h0) := (X_word hw ht hd hP hT).mono fun r h2 q => ⟨q.1.trans (by rw [if_neg (fun z => Bool.noConfusion z)]), q.2⟩
theorem X_signY {E : EnvT} {d : Nat} {h0 : Hp} {tp : Nat → Nat} {n : Nat} {u : RLT} {s e k j p : Nat} {cv : Int32} {L : List Nat} (hw : k < 12) (ec : cv = nI (sg k)) (ek : 30 + k = j) (hk : lxK tp n p = j) (h26 : lxK tp n p ≠ 26) (ht : TOk tp n) (hd : 1 ≤ d) (hP : TPo tp h0) (hT : RLw tp n u e s (.ok (p, L)) h0) : Cn E mX3_isSign d [.ref 65, .int cv] h0 (fun r h2 => r = some (.int 1) ∧ h2 = h0) := (X_sign hw ec ht hd hP hT).mono fun r h2 q => ⟨q.1.trans (by rw [yo_ok h26, if_pos (isY_y (hk.trans ek.symm))]), q.2⟩
theorem X_signN {E : EnvT} {d : Nat} {h0 : Hp} {tp : Nat → Nat} {n : Nat} {u : RLT} {s e k j p : Nat} {cv : Int32} {L : List Nat} (hw : k < 12) (ec : cv = nI (sg k)) (ek : 30 + k = j) (hk : lxK tp n p ≠ j) (h26 : lxK tp n p ≠ 26) (ht : TOk tp n) (hd : 1 ≤ d) (hP : TPo tp h0) (hT : RLw tp n u e s (.ok (p, L)) h0) : Cn E mX3_isSign d [.ref 65, .int cv] h0 (fun r h2 => r = some (.int 0) ∧ h2 = h0) := (X_sign hw ec ht hd hP hT).mono fun r h2 q => ⟨q.1.trans (by rw [yo_ok h26, if_neg (isY_n (by rw [ek]; exact hk))]), q.2⟩
theorem X_signE {E : EnvT} {d : Nat} {h0 : Hp} {tp : Nat → Nat} {n : Nat} {u : RLT} {s e k : Nat} {cv : Int32} {g : Nat × Nat} (hw : k < 12) (ec : cv = nI (sg k)) (ht : TOk tp n) (hd : 1 ≤ d) (hP : TPo tp h0) (hT : RLw tp n u e s (.error g) h0) : Cn E mX3_isSign d [.ref 65, .int cv] h0 (fun r h2 => r = some (.int 0) ∧ h2 = h0) := (X_sign hw ec ht hd hP hT).mono fun r h2 q => ⟨q.1.trans (by rw [if_neg (fun z => Bool.noConfusion z)]), q.2⟩
theorem x_cs {tp : Nat → Nat} {n : Nat} {u : RLT} {s e : Nat} {F : PF} {R : Hp → (PX (List Nat)) → Prop} {h0 : Hp} {x : PX (List Nat)} (hB : Bs tp n F) (hR : ∀ x y g, yo tp n x = .error g → yo tp n y = .error g → R h0 x → R h0 y) (hT : RLw tp n u e s x h0) (h1 : ∀ w a, RLw tp n u e s (.error (w, a)) h0 → R h0 (.error (w, a))) (h2 : ∀ p L, x = .ok (p, L) → lxK tp n p ≠ 26 → RLw tp n u e s (.ok (p, L)) h0 → R h0 (F p L)) : R h0 (bnd x F) := by
  match x, hT, h2 with
  | .error (w, a), hT, _ => exact h1 w a hT
  | .ok (p, L), hT, h2 =>
    by_cases h26 : lxK tp n p = 26
    · exact hR (.error (1, lxS tp n p)) _ _ rfl (hB p L h26) (h1 _ _ (hT.nrm (yo_26 h26) rfl))
    · exact h2 p L rfl h26 hT
theorem rep_end {tp : Nat → Nat} {n k c : Nat} {A : PF} {m p : Nat} {L : List Nat} (hk : k ≠ 25) (hn : n ≤ p) : pRep tp n k c A m p L = .ok (p, L) := by
  cases m with
  | zero => rfl
  | succ m =>
    have : lxK tp n p = 25 := by unfold lxK tkK; rw [if_pos (Nat.le_trans hn (lxS_le tp n p))]
    rw [pRep_s, if_neg (by rw [this]; exact fun z => hk z.symm)]
theorem add_end {tp : Nat → Nat} {n : Nat} {A : PF} {m p : Nat} {L : List Nat} (hn : n ≤ p) : pAdd tp n A m p L = .ok (p, L) := by
  cases m with
  | zero => rfl
  | succ m =>
    have : lxK tp n p = 25 := by unfold lxK tkK; rw [if_pos (Nat.le_trans hn (lxS_le tp n p))]
    rw [pAdd_s, if_neg (by rw [this]; decide)]
set_option maxRecDepth 20000 in
set_option maxHeartbeats 1000000 in
theorem c_lawWord {h0 : Hp} {E : EnvT} {d : Nat} {tp : Nat → Nat} {n : Nat} {u : RLT} {rd b e s : Nat} {p : Nat} {L : List Nat} (hin : inOk rd u.2.1) (h26 : lxK tp n p ≠ 26) (ht : TOk tp n) (hd : 5 ≤ d) (hP : TPo tp h0) (hT : RLw tp n u e (s + 1) (.ok (p, L)) h0) : Cn E mX3_lawWord d [.ref 65] h0 (fun r h2 => r = some (.int (lwV rd (lxK tp n p))) ∧ h2 = h0) := by
  obtain ⟨t, c, c65, hK, hC⟩ := id hT
  rcases hin with hin | hin
  · obtain ⟨rfl, hz⟩ := hin
    by_cases hk : lxK tp n p = 11
    · skip
      refine Cn.go (ls := [.ref 65]) (by decide +kernel) rfl (Nat.le_of_ble_eq_true rfl) ?_
      refine r_aload_n (pc2 := 1) 0 dX3_lawWord_0 rfl rfl rfl rfl ?_
      refine r_ldcS (pc2 := 3) 12 (by decide) rfl rfl dX3_lawWord_1 rfl ?_
      refine r_callV1 (pc2 := 6) (As := [.ref 12]) (st := []) kX3_88 rfl rfl dX3_lawWord_3 c65 (by decide) rfl rfl (Nat.le_of_ble_eq_true rfl) (by omega) (X_wordY (w := 12) (k := 11) (by decide) rfl hk h26 ht (by omega) hP hT) rfl (fun h2 hq3 => ?_)
      obtain rfl := hq3.symm
      refine r_if_eq (tgt := 11) (pc2 := 9) dX3_lawWord_6 (by decide) rfl (fun b6 => ?_) (fun b6 => ?_)
      · exact absurd b6 (by decide)
      · skip
        refine r_iconst (pc2 := 10) (v := -1) dX3_lawWord_9 (by decide) rfl ?_
        exact r_iret rfl dX3_lawWord_10 ⟨by unfold lwV; rw [hk]; decide, rfl⟩
    · have n11 := hk
      by_cases hk : lxK tp n p = 2
      · skip
        refine Cn.go (ls := [.ref 65]) (by decide +kernel) rfl (Nat.le_of_ble_eq_true rfl) ?_
        refine r_aload_n (pc2 := 1) 0 dX3_lawWord_0 rfl rfl rfl rfl ?_
        refine r_ldcS (pc2 := 3) 12 (by decide) rfl rfl dX3_lawWord_1 rfl ?_
        refine r_callV1 (pc2 := 6) (As := [.ref 12]) (st := []) kX3_88 rfl rfl dX3_lawWord_3 c65 (by decide) rfl rfl (Nat.le_of_ble_eq_true rfl) (by omega) (X_wordN (w := 12) (k := 11) (by decide) rfl (by rw [hk]; decide) h26 ht (by omega) hP hT) rfl (fun h2 hq3 => ?_)
        obtain rfl := hq3.symm
        refine r_if_eq (tgt := 11) (pc2 := 9) dX3_lawWord_6 (by decide) rfl (fun b6 => ?_) (fun b6 => ?_)
        · skip
          refine r_aload_n (pc2 := 12) 0 dX3_lawWord_11 rfl rfl rfl rfl ?_
          refine r_ldcS (pc2 := 14) 2 (by decide) rfl rfl dX3_lawWord_12 rfl ?_
          refine r_callV1 (pc2 := 17) (As := [.ref 2]) (st := []) kX3_88 rfl rfl dX3_lawWord_14 c65 (by decide) rfl rfl (Nat.le_of_ble_eq_true rfl) (by omega) (X_wordY (w := 2) (k := 2) (by decide) rfl hk h26 ht (by omega) hP hT) rfl (fun h2 hq14 => ?_)
          obtain rfl := hq14.symm
          refine r_if_eq (tgt := 23) (pc2 := 20) dX3_lawWord_17 (by decide) rfl (fun b17 => ?_) (fun b17 => ?_)
          · exact absurd b17 (by decide)
          · skip
            refine r_bipush (pc2 := 22) (v := -2) dX3_lawWord_20 (by decide) rfl ?_
            exact r_iret rfl dX3_lawWord_22 ⟨by unfold lwV; rw [hk]; decide, rfl⟩
        · exact absurd b6 (by decide)
      · have n2 := hk
        by_cases hk : lxK tp n p = 3
        · skip
          refine Cn.go (ls := [.ref 65]) (by decide +kernel) rfl (Nat.le_of_ble_eq_true rfl) ?_
          refine r_aload_n (pc2 := 1) 0 dX3_lawWord_0 rfl rfl rfl rfl ?_
          refine r_ldcS (pc2 := 3) 12 (by decide) rfl rfl dX3_lawWord_1 rfl ?_
          refine r_callV1 (pc2 := 6) (As := [.ref 12]) (st := []) kX3_88 rfl rfl dX3_lawWord_3 c65 (by decide) rfl rfl (Nat.le_of_ble_eq_true rfl) (by omega) (X_wordN (w := 12) (k := 11) (by decide) rfl (by rw [hk]; decide) h26 ht (by omega) hP hT) rfl (fun h2 hq3 => ?_)
          obtain rfl := hq3.symm
          refine r_if_eq (tgt := 11) (pc2 := 9) dX3_lawWord_6 (by decide) rfl (fun b6 => ?_) (fun b6 => ?_)
          · skip
            refine r_aload_n (pc2 := 12) 0 dX3_lawWord_11 rfl rfl rfl rfl ?_
            refine r_ldcS (pc2 := 14) 2 (by decide) rfl rfl dX3_lawWord_12 rfl ?_
            refine r_callV1 (pc2 := 17) (As := [.ref 2]) (st := []) kX3_88 rfl rfl dX3_lawWord_14 c65 (by decide) rfl rfl (Nat.le_of_ble_eq_true rfl) (by omega) (X_wordN (w := 2) (k := 2) (by decide) rfl (by rw [hk]; decide) h26 ht (by omega) hP hT) rfl (fun h2 hq14 => ?_)
            obtain rfl := hq14.symm
            refine r_if_eq (tgt := 23) (pc2 := 20) dX3_lawWord_17 (by decide) rfl (fun b17 => ?_) (fun b17 => ?_)
            · skip
              refine r_aload_n (pc2 := 24) 0 dX3_lawWord_23 rfl rfl rfl rfl ?_
              refine r_getf (pc2 := 27) (v := .int u.2.1) fX3_207 dX3_lawWord_24 c65 (by decide) rfl rfl ?_
              refine r_cast (1) (hz) ?_
              refine r_if_eq (tgt := 42) (pc2 := 30) dX3_lawWord_27 (by decide) rfl (fun b27 => ?_) (fun b27 => ?_)
              · exact absurd b27 (by decide)
              · skip
                refine r_aload_n (pc2 := 31) 0 dX3_lawWord_30 rfl rfl rfl rfl ?_
                refine r_ldcS (pc2 := 33) 3 (by decide) rfl rfl dX3_lawWord_31 rfl ?_
                refine r_callV1 (pc2 := 36) (As := [.ref 3]) (st := []) kX3_88 rfl rfl dX3_lawWord_33 c65 (by decide) rfl rfl (Nat.le_of_ble_eq_true rfl) (by omega) (X_wordY (w := 3) (k := 3) (by decide) rfl hk h26 ht (by omega) hP hT) rfl (fun h2 hq33 => ?_)
                obtain rfl := hq33.symm
                refine r_if_eq (tgt := 42) (pc2 := 39) dX3_lawWord_36 (by decide) rfl (fun b36 => ?_) (fun b36 => ?_)
                · exact absurd b36 (by decide)
                · skip
                  refine r_bipush (pc2 := 41) (v := -3) dX3_lawWord_39 (by decide) rfl ?_
                  exact r_iret rfl dX3_lawWord_41 ⟨by unfold lwV; rw [hk]; decide, rfl⟩
            · exact absurd b17 (by decide)
          · exact absurd b6 (by decide)
        · have n3 := hk
          by_cases hk : lxK tp n p = 4
          · skip
            refine Cn.go (ls := [.ref 65]) (by decide +kernel) rfl (Nat.le_of_ble_eq_true rfl) ?_
            refine r_aload_n (pc2 := 1) 0 dX3_lawWord_0 rfl rfl rfl rfl ?_
            refine r_ldcS (pc2 := 3) 12 (by decide) rfl rfl dX3_lawWord_1 rfl ?_
            refine r_callV1 (pc2 := 6) (As := [.ref 12]) (st := []) kX3_88 rfl rfl dX3_lawWord_3 c65 (by decide) rfl rfl (Nat.le_of_ble_eq_true rfl) (by omega) (X_wordN (w := 12) (k := 11) (by decide) rfl (by rw [hk]; decide) h26 ht (by omega) hP hT) rfl (fun h2 hq3 => ?_)
            obtain rfl := hq3.symm
            refine r_if_eq (tgt := 11) (pc2 := 9) dX3_lawWord_6 (by decide) rfl (fun b6 => ?_) (fun b6 => ?_)
            · skip
              refine r_aload_n (pc2 := 12) 0 dX3_lawWord_11 rfl rfl rfl rfl ?_
              refine r_ldcS (pc2 := 14) 2 (by decide) rfl rfl dX3_lawWord_12 rfl ?_
              refine r_callV1 (pc2 := 17) (As := [.ref 2]) (st := []) kX3_88 rfl rfl dX3_lawWord_14 c65 (by decide) rfl rfl (Nat.le_of_ble_eq_true rfl) (by omega) (X_wordN (w := 2) (k := 2) (by decide) rfl (by rw [hk]; decide) h26 ht (by omega) hP hT) rfl (fun h2 hq14 => ?_)
              obtain rfl := hq14.symm
              refine r_if_eq (tgt := 23) (pc2 := 20) dX3_lawWord_17 (by decide) rfl (fun b17 => ?_) (fun b17 => ?_)
              · skip
                refine r_aload_n (pc2 := 24) 0 dX3_lawWord_23 rfl rfl rfl rfl ?_
                refine r_getf (pc2 := 27) (v := .int u.2.1) fX3_207 dX3_lawWord_24 c65 (by decide) rfl rfl ?_
                refine r_cast (1) (hz) ?_
                refine r_if_eq (tgt := 42) (pc2 := 30) dX3_lawWord_27 (by decide) rfl (fun b27 => ?_) (fun b27 => ?_)
                · exact absurd b27 (by decide)
                · skip
                  refine r_aload_n (pc2 := 31) 0 dX3_lawWord_30 rfl rfl rfl rfl ?_
                  refine r_ldcS (pc2 := 33) 3 (by decide) rfl rfl dX3_lawWord_31 rfl ?_
                  refine r_callV1 (pc2 := 36) (As := [.ref 3]) (st := []) kX3_88 rfl rfl dX3_lawWord_33 c65 (by decide) rfl rfl (Nat.le_of_ble_eq_true rfl) (by omega) (X_wordN (w := 3) (k := 3) (by decide) rfl (by rw [hk]; decide) h26 ht (by omega) hP hT) rfl (fun h2 hq33 => ?_)
                  obtain rfl := hq33.symm
                  refine r_if_eq (tgt := 42) (pc2 := 39) dX3_lawWord_36 (by decide) rfl (fun b36 => ?_) (fun b36 => ?_)
                  · skip
                    refine r_aload_n (pc2 := 43) 0 dX3_lawWord_42 rfl rfl rfl rfl ?_
                    refine r_getf (pc2 := 46) (v := .int u.2.1) fX3_207 dX3_lawWord_43 c65 (by decide) rfl rfl ?_
                    refine r_cast (1) (hz) ?_
                    refine r_if_eq (tgt := 61) (pc2 := 49) dX3_lawWord_46 (by decide) rfl (fun b46 => ?_) (fun b46 => ?_)
                    · exact absurd b46 (by decide)
                    · skip
                      refine r_aload_n (pc2 := 50) 0 dX3_lawWord_49 rfl rfl rfl rfl ?_
                      refine r_ldcS (pc2 := 52) 4 (by decide) rfl rfl dX3_lawWord_50 rfl ?_
                      refine r_callV1 (pc2 := 55) (As := [.ref 4]) (st := []) kX3_88 rfl rfl dX3_lawWord_52 c65 (by decide) rfl rfl (Nat.le_of_ble_eq_true rfl) (by omega) (X_wordY (w := 4) (k := 4) (by decide) rfl hk h26 ht (by omega) hP hT) rfl (fun h2 hq52 => ?_)
                      obtain rfl := hq52.symm
                      refine r_if_eq (tgt := 61) (pc2 := 58) dX3_lawWord_55 (by decide) rfl (fun b55 => ?_) (fun b55 => ?_)
                      · exact absurd b55 (by decide)
                      · skip
                        refine r_bipush (pc2 := 60) (v := -4) dX3_lawWord_58 (by decide) rfl ?_
                        exact r_iret rfl dX3_lawWord_60 ⟨by unfold lwV; rw [hk]; decide, rfl⟩
                  · exact absurd b36 (by decide)
              · exact absurd b17 (by decide)
            · exact absurd b6 (by decide)
          · have n4 := hk
            by_cases hk : lxK tp n p = 6
            · skip
              refine Cn.go (ls := [.ref 65]) (by decide +kernel) rfl (Nat.le_of_ble_eq_true rfl) ?_
              refine r_aload_n (pc2 := 1) 0 dX3_lawWord_0 rfl rfl rfl rfl ?_
              refine r_ldcS (pc2 := 3) 12 (by decide) rfl rfl dX3_lawWord_1 rfl ?_
              refine r_callV1 (pc2 := 6) (As := [.ref 12]) (st := []) kX3_88 rfl rfl dX3_lawWord_3 c65 (by decide) rfl rfl (Nat.le_of_ble_eq_true rfl) (by omega) (X_wordN (w := 12) (k := 11) (by decide) rfl (by rw [hk]; decide) h26 ht (by omega) hP hT) rfl (fun h2 hq3 => ?_)
              obtain rfl := hq3.symm
              refine r_if_eq (tgt := 11) (pc2 := 9) dX3_lawWord_6 (by decide) rfl (fun b6 => ?_) (fun b6 => ?_)
              · skip
                refine r_aload_n (pc2 := 12) 0 dX3_lawWord_11 rfl rfl rfl rfl ?_
                refine r_ldcS (pc2 := 14) 2 (by decide) rfl rfl dX3_lawWord_12 rfl ?_
                refine r_callV1 (pc2 := 17) (As := [.ref 2]) (st := []) kX3_88 rfl rfl dX3_lawWord_14 c65 (by decide) rfl rfl (Nat.le_of_ble_eq_true rfl) (by omega) (X_wordN (w := 2) (k := 2) (by decide) rfl (by rw [hk]; decide) h26 ht (by omega) hP hT) rfl (fun h2 hq14 => ?_)
                obtain rfl := hq14.symm
                refine r_if_eq (tgt := 23) (pc2 := 20) dX3_lawWord_17 (by decide) rfl (fun b17 => ?_) (fun b17 => ?_)
                · skip
                  refine r_aload_n (pc2 := 24) 0 dX3_lawWord_23 rfl rfl rfl rfl ?_
                  refine r_getf (pc2 := 27) (v := .int u.2.1) fX3_207 dX3_lawWord_24 c65 (by decide) rfl rfl ?_
                  refine r_cast (1) (hz) ?_
                  refine r_if_eq (tgt := 42) (pc2 := 30) dX3_lawWord_27 (by decide) rfl (fun b27 => ?_) (fun b27 => ?_)
                  · exact absurd b27 (by decide)
                  · skip
                    refine r_aload_n (pc2 := 31) 0 dX3_lawWord_30 rfl rfl rfl rfl ?_
                    refine r_ldcS (pc2 := 33) 3 (by decide) rfl rfl dX3_lawWord_31 rfl ?_
                    refine r_callV1 (pc2 := 36) (As := [.ref 3]) (st := []) kX3_88 rfl rfl dX3_lawWord_33 c65 (by decide) rfl rfl (Nat.le_of_ble_eq_true rfl) (by omega) (X_wordN (w := 3) (k := 3) (by decide) rfl (by rw [hk]; decide) h26 ht (by omega) hP hT) rfl (fun h2 hq33 => ?_)
                    obtain rfl := hq33.symm
                    refine r_if_eq (tgt := 42) (pc2 := 39) dX3_lawWord_36 (by decide) rfl (fun b36 => ?_) (fun b36 => ?_)
                    · skip
                      refine r_aload_n (pc2 := 43) 0 dX3_lawWord_42 rfl rfl rfl rfl ?_
                      refine r_getf (pc2 := 46) (v := .int u.2.1) fX3_207 dX3_lawWord_43 c65 (by decide) rfl rfl ?_
                      refine r_cast (1) (hz) ?_
                      refine r_if_eq (tgt := 61) (pc2 := 49) dX3_lawWord_46 (by decide) rfl (fun b46 => ?_) (fun b46 => ?_)
                      · exact absurd b46 (by decide)
                      · skip
                        refine r_aload_n (pc2 := 50) 0 dX3_lawWord_49 rfl rfl rfl rfl ?_
                        refine r_ldcS (pc2 := 52) 4 (by decide) rfl rfl dX3_lawWord_50 rfl ?_
                        refine r_callV1 (pc2 := 55) (As := [.ref 4]) (st := []) kX3_88 rfl rfl dX3_lawWord_52 c65 (by decide) rfl rfl (Nat.le_of_ble_eq_true rfl) (by omega) (X_wordN (w := 4) (k := 4) (by decide) rfl (by rw [hk]; decide) h26 ht (by omega) hP hT) rfl (fun h2 hq52 => ?_)
                        obtain rfl := hq52.symm
                        refine r_if_eq (tgt := 61) (pc2 := 58) dX3_lawWord_55 (by decide) rfl (fun b55 => ?_) (fun b55 => ?_)
                        · skip
                          refine r_aload_n (pc2 := 62) 0 dX3_lawWord_61 rfl rfl rfl rfl ?_
                          refine r_getf (pc2 := 65) (v := .int u.2.1) fX3_207 dX3_lawWord_62 c65 (by decide) rfl rfl ?_
                          refine r_cast (1) (hz) ?_
                          refine r_if_eq (tgt := 80) (pc2 := 68) dX3_lawWord_65 (by decide) rfl (fun b65 => ?_) (fun b65 => ?_)
                          · exact absurd b65 (by decide)
                          · skip
                            refine r_aload_n (pc2 := 69) 0 dX3_lawWord_68 rfl rfl rfl rfl ?_
                            refine r_ldcS (pc2 := 71) 6 (by decide) rfl rfl dX3_lawWord_69 rfl ?_
                            refine r_callV1 (pc2 := 74) (As := [.ref 6]) (st := []) kX3_88 rfl rfl dX3_lawWord_71 c65 (by decide) rfl rfl (Nat.le_of_ble_eq_true rfl) (by omega) (X_wordY (w := 6) (k := 6) (by decide) rfl hk h26 ht (by omega) hP hT) rfl (fun h2 hq71 => ?_)
                            obtain rfl := hq71.symm
                            refine r_if_eq (tgt := 80) (pc2 := 77) dX3_lawWord_74 (by decide) rfl (fun b74 => ?_) (fun b74 => ?_)
                            · exact absurd b74 (by decide)
                            · skip
                              refine r_bipush (pc2 := 79) (v := -5) dX3_lawWord_77 (by decide) rfl ?_
                              exact r_iret rfl dX3_lawWord_79 ⟨by unfold lwV; rw [hk]; decide, rfl⟩
                        · exact absurd b55 (by decide)
                    · exact absurd b36 (by decide)
                · exact absurd b17 (by decide)
              · exact absurd b6 (by decide)
            · have n6 := hk
              by_cases hk : lxK tp n p = 17
              · skip
                refine Cn.go (ls := [.ref 65]) (by decide +kernel) rfl (Nat.le_of_ble_eq_true rfl) ?_
                refine r_aload_n (pc2 := 1) 0 dX3_lawWord_0 rfl rfl rfl rfl ?_
                refine r_ldcS (pc2 := 3) 12 (by decide) rfl rfl dX3_lawWord_1 rfl ?_
                refine r_callV1 (pc2 := 6) (As := [.ref 12]) (st := []) kX3_88 rfl rfl dX3_lawWord_3 c65 (by decide) rfl rfl (Nat.le_of_ble_eq_true rfl) (by omega) (X_wordN (w := 12) (k := 11) (by decide) rfl (by rw [hk]; decide) h26 ht (by omega) hP hT) rfl (fun h2 hq3 => ?_)
                obtain rfl := hq3.symm
                refine r_if_eq (tgt := 11) (pc2 := 9) dX3_lawWord_6 (by decide) rfl (fun b6 => ?_) (fun b6 => ?_)
                · skip
                  refine r_aload_n (pc2 := 12) 0 dX3_lawWord_11 rfl rfl rfl rfl ?_
                  refine r_ldcS (pc2 := 14) 2 (by decide) rfl rfl dX3_lawWord_12 rfl ?_
                  refine r_callV1 (pc2 := 17) (As := [.ref 2]) (st := []) kX3_88 rfl rfl dX3_lawWord_14 c65 (by decide) rfl rfl (Nat.le_of_ble_eq_true rfl) (by omega) (X_wordN (w := 2) (k := 2) (by decide) rfl (by rw [hk]; decide) h26 ht (by omega) hP hT) rfl (fun h2 hq14 => ?_)
                  obtain rfl := hq14.symm
                  refine r_if_eq (tgt := 23) (pc2 := 20) dX3_lawWord_17 (by decide) rfl (fun b17 => ?_) (fun b17 => ?_)
                  · skip
                    refine r_aload_n (pc2 := 24) 0 dX3_lawWord_23 rfl rfl rfl rfl ?_
                    refine r_getf (pc2 := 27) (v := .int u.2.1) fX3_207 dX3_lawWord_24 c65 (by decide) rfl rfl ?_
                    refine r_cast (1) (hz) ?_
                    refine r_if_eq (tgt := 42) (pc2 := 30) dX3_lawWord_27 (by decide) rfl (fun b27 => ?_) (fun b27 => ?_)
                    · exact absurd b27 (by decide)
                    · skip
                      refine r_aload_n (pc2 := 31) 0 dX3_lawWord_30 rfl rfl rfl rfl ?_
                      refine r_ldcS (pc2 := 33) 3 (by decide) rfl rfl dX3_lawWord_31 rfl ?_
                      refine r_callV1 (pc2 := 36) (As := [.ref 3]) (st := []) kX3_88 rfl rfl dX3_lawWord_33 c65 (by decide) rfl rfl (Nat.le_of_ble_eq_true rfl) (by omega) (X_wordN (w := 3) (k := 3) (by decide) rfl (by rw [hk]; decide) h26 ht (by omega) hP hT) rfl (fun h2 hq33 => ?_)
                      obtain rfl := hq33.symm
                      refine r_if_eq (tgt := 42) (pc2 := 39) dX3_lawWord_36 (by decide) rfl (fun b36 => ?_) (fun b36 => ?_)
                      · skip
                        refine r_aload_n (pc2 := 43) 0 dX3_lawWord_42 rfl rfl rfl rfl ?_
                        refine r_getf (pc2 := 46) (v := .int u.2.1) fX3_207 dX3_lawWord_43 c65 (by decide) rfl rfl ?_
                        refine r_cast (1) (hz) ?_
                        refine r_if_eq (tgt := 61) (pc2 := 49) dX3_lawWord_46 (by decide) rfl (fun b46 => ?_) (fun b46 => ?_)
                        · exact absurd b46 (by decide)
                        · skip
                          refine r_aload_n (pc2 := 50) 0 dX3_lawWord_49 rfl rfl rfl rfl ?_
                          refine r_ldcS (pc2 := 52) 4 (by decide) rfl rfl dX3_lawWord_50 rfl ?_
                          refine r_callV1 (pc2 := 55) (As := [.ref 4]) (st := []) kX3_88 rfl rfl dX3_lawWord_52 c65 (by decide) rfl rfl (Nat.le_of_ble_eq_true rfl) (by omega) (X_wordN (w := 4) (k := 4) (by decide) rfl (by rw [hk]; decide) h26 ht (by omega) hP hT) rfl (fun h2 hq52 => ?_)
                          obtain rfl := hq52.symm
                          refine r_if_eq (tgt := 61) (pc2 := 58) dX3_lawWord_55 (by decide) rfl (fun b55 => ?_) (fun b55 => ?_)
                          · skip
                            refine r_aload_n (pc2 := 62) 0 dX3_lawWord_61 rfl rfl rfl rfl ?_
                            refine r_getf (pc2 := 65) (v := .int u.2.1) fX3_207 dX3_lawWord_62 c65 (by decide) rfl rfl ?_
                            refine r_cast (1) (hz) ?_
                            refine r_if_eq (tgt := 80) (pc2 := 68) dX3_lawWord_65 (by decide) rfl (fun b65 => ?_) (fun b65 => ?_)
                            · exact absurd b65 (by decide)
                            · skip
                              refine r_aload_n (pc2 := 69) 0 dX3_lawWord_68 rfl rfl rfl rfl ?_
                              refine r_ldcS (pc2 := 71) 6 (by decide) rfl rfl dX3_lawWord_69 rfl ?_
                              refine r_callV1 (pc2 := 74) (As := [.ref 6]) (st := []) kX3_88 rfl rfl dX3_lawWord_71 c65 (by decide) rfl rfl (Nat.le_of_ble_eq_true rfl) (by omega) (X_wordN (w := 6) (k := 6) (by decide) rfl (by rw [hk]; decide) h26 ht (by omega) hP hT) rfl (fun h2 hq71 => ?_)
                              obtain rfl := hq71.symm
                              refine r_if_eq (tgt := 80) (pc2 := 77) dX3_lawWord_74 (by decide) rfl (fun b74 => ?_) (fun b74 => ?_)
                              · skip
                                refine r_aload_n (pc2 := 81) 0 dX3_lawWord_80 rfl rfl rfl rfl ?_
                                refine r_getf (pc2 := 84) (v := .int u.2.1) fX3_207 dX3_lawWord_81 c65 (by decide) rfl rfl ?_
                                refine r_cast (1) (hz) ?_
                                refine r_if_eq (tgt := 100) (pc2 := 87) dX3_lawWord_84 (by decide) rfl (fun b84 => ?_) (fun b84 => ?_)
                                · exact absurd b84 (by decide)
                                · skip
                                  refine r_aload_n (pc2 := 88) 0 dX3_lawWord_87 rfl rfl rfl rfl ?_
                                  refine r_ldcwS (pc2 := 91) 19 (by decide) rfl rfl dX3_lawWord_88 rfl ?_
                                  refine r_callV1 (pc2 := 94) (As := [.ref 19]) (st := []) kX3_88 rfl rfl dX3_lawWord_91 c65 (by decide) rfl rfl (Nat.le_of_ble_eq_true rfl) (by omega) (X_wordY (w := 19) (k := 17) (by decide) rfl hk h26 ht (by omega) hP hT) rfl (fun h2 hq91 => ?_)
                                  obtain rfl := hq91.symm
                                  refine r_if_eq (tgt := 100) (pc2 := 97) dX3_lawWord_94 (by decide) rfl (fun b94 => ?_) (fun b94 => ?_)
                                  · exact absurd b94 (by decide)
                                  · skip
                                    refine r_bipush (pc2 := 99) (v := -6) dX3_lawWord_97 (by decide) rfl ?_
                                    exact r_iret rfl dX3_lawWord_99 ⟨by unfold lwV; rw [hk]; decide, rfl⟩
                              · exact absurd b74 (by decide)
                          · exact absurd b55 (by decide)
                      · exact absurd b36 (by decide)
                  · exact absurd b17 (by decide)
                · exact absurd b6 (by decide)
              · have n17 := hk
                have hno : ¬ wordN 0 (lxK tp n p) < 9 := by unfold wordN; simp [n11, n2, n3, n4, n6, n17]
                refine Cn.go (ls := [.ref 65]) (by decide +kernel) rfl (Nat.le_of_ble_eq_true rfl) ?_
                refine r_aload_n (pc2 := 1) 0 dX3_lawWord_0 rfl rfl rfl rfl ?_
                refine r_ldcS (pc2 := 3) 12 (by decide) rfl rfl dX3_lawWord_1 rfl ?_
                refine r_callV1 (pc2 := 6) (As := [.ref 12]) (st := []) kX3_88 rfl rfl dX3_lawWord_3 c65 (by decide) rfl rfl (Nat.le_of_ble_eq_true rfl) (by omega) (X_wordN (w := 12) (k := 11) (by decide) rfl n11 h26 ht (by omega) hP hT) rfl (fun h2 hq3 => ?_)
                obtain rfl := hq3.symm
                refine r_if_eq (tgt := 11) (pc2 := 9) dX3_lawWord_6 (by decide) rfl (fun b6 => ?_) (fun b6 => ?_)
                · skip
                  refine r_aload_n (pc2 := 12) 0 dX3_lawWord_11 rfl rfl rfl rfl ?_
                  refine r_ldcS (pc2 := 14) 2 (by decide) rfl rfl dX3_lawWord_12 rfl ?_
                  refine r_callV1 (pc2 := 17) (As := [.ref 2]) (st := []) kX3_88 rfl rfl dX3_lawWord_14 c65 (by decide) rfl rfl (Nat.le_of_ble_eq_true rfl) (by omega) (X_wordN (w := 2) (k := 2) (by decide) rfl n2 h26 ht (by omega) hP hT) rfl (fun h2 hq14 => ?_)
                  obtain rfl := hq14.symm
                  refine r_if_eq (tgt := 23) (pc2 := 20) dX3_lawWord_17 (by decide) rfl (fun b17 => ?_) (fun b17 => ?_)
                  · skip
                    refine r_aload_n (pc2 := 24) 0 dX3_lawWord_23 rfl rfl rfl rfl ?_
                    refine r_getf (pc2 := 27) (v := .int u.2.1) fX3_207 dX3_lawWord_24 c65 (by decide) rfl rfl ?_
                    refine r_cast (1) (hz) ?_
                    refine r_if_eq (tgt := 42) (pc2 := 30) dX3_lawWord_27 (by decide) rfl (fun b27 => ?_) (fun b27 => ?_)
                    · exact absurd b27 (by decide)
                    · skip
                      refine r_aload_n (pc2 := 31) 0 dX3_lawWord_30 rfl rfl rfl rfl ?_
                      refine r_ldcS (pc2 := 33) 3 (by decide) rfl rfl dX3_lawWord_31 rfl ?_
                      refine r_callV1 (pc2 := 36) (As := [.ref 3]) (st := []) kX3_88 rfl rfl dX3_lawWord_33 c65 (by decide) rfl rfl (Nat.le_of_ble_eq_true rfl) (by omega) (X_wordN (w := 3) (k := 3) (by decide) rfl n3 h26 ht (by omega) hP hT) rfl (fun h2 hq33 => ?_)
                      obtain rfl := hq33.symm
                      refine r_if_eq (tgt := 42) (pc2 := 39) dX3_lawWord_36 (by decide) rfl (fun b36 => ?_) (fun b36 => ?_)
                      · skip
                        refine r_aload_n (pc2 := 43) 0 dX3_lawWord_42 rfl rfl rfl rfl ?_
                        refine r_getf (pc2 := 46) (v := .int u.2.1) fX3_207 dX3_lawWord_43 c65 (by decide) rfl rfl ?_
                        refine r_cast (1) (hz) ?_
                        refine r_if_eq (tgt := 61) (pc2 := 49) dX3_lawWord_46 (by decide) rfl (fun b46 => ?_) (fun b46 => ?_)
                        · exact absurd b46 (by decide)
                        · skip
                          refine r_aload_n (pc2 := 50) 0 dX3_lawWord_49 rfl rfl rfl rfl ?_
                          refine r_ldcS (pc2 := 52) 4 (by decide) rfl rfl dX3_lawWord_50 rfl ?_
                          refine r_callV1 (pc2 := 55) (As := [.ref 4]) (st := []) kX3_88 rfl rfl dX3_lawWord_52 c65 (by decide) rfl rfl (Nat.le_of_ble_eq_true rfl) (by omega) (X_wordN (w := 4) (k := 4) (by decide) rfl n4 h26 ht (by omega) hP hT) rfl (fun h2 hq52 => ?_)
                          obtain rfl := hq52.symm
                          refine r_if_eq (tgt := 61) (pc2 := 58) dX3_lawWord_55 (by decide) rfl (fun b55 => ?_) (fun b55 => ?_)
                          · skip
                            refine r_aload_n (pc2 := 62) 0 dX3_lawWord_61 rfl rfl rfl rfl ?_
                            refine r_getf (pc2 := 65) (v := .int u.2.1) fX3_207 dX3_lawWord_62 c65 (by decide) rfl rfl ?_
                            refine r_cast (1) (hz) ?_
                            refine r_if_eq (tgt := 80) (pc2 := 68) dX3_lawWord_65 (by decide) rfl (fun b65 => ?_) (fun b65 => ?_)
                            · exact absurd b65 (by decide)
                            · skip
                              refine r_aload_n (pc2 := 69) 0 dX3_lawWord_68 rfl rfl rfl rfl ?_
                              refine r_ldcS (pc2 := 71) 6 (by decide) rfl rfl dX3_lawWord_69 rfl ?_
                              refine r_callV1 (pc2 := 74) (As := [.ref 6]) (st := []) kX3_88 rfl rfl dX3_lawWord_71 c65 (by decide) rfl rfl (Nat.le_of_ble_eq_true rfl) (by omega) (X_wordN (w := 6) (k := 6) (by decide) rfl n6 h26 ht (by omega) hP hT) rfl (fun h2 hq71 => ?_)
                              obtain rfl := hq71.symm
                              refine r_if_eq (tgt := 80) (pc2 := 77) dX3_lawWord_74 (by decide) rfl (fun b74 => ?_) (fun b74 => ?_)
                              · skip
                                refine r_aload_n (pc2 := 81) 0 dX3_lawWord_80 rfl rfl rfl rfl ?_
                                refine r_getf (pc2 := 84) (v := .int u.2.1) fX3_207 dX3_lawWord_81 c65 (by decide) rfl rfl ?_
                                refine r_cast (1) (hz) ?_
                                refine r_if_eq (tgt := 100) (pc2 := 87) dX3_lawWord_84 (by decide) rfl (fun b84 => ?_) (fun b84 => ?_)
                                · exact absurd b84 (by decide)
                                · skip
                                  refine r_aload_n (pc2 := 88) 0 dX3_lawWord_87 rfl rfl rfl rfl ?_
                                  refine r_ldcwS (pc2 := 91) 19 (by decide) rfl rfl dX3_lawWord_88 rfl ?_
                                  refine r_callV1 (pc2 := 94) (As := [.ref 19]) (st := []) kX3_88 rfl rfl dX3_lawWord_91 c65 (by decide) rfl rfl (Nat.le_of_ble_eq_true rfl) (by omega) (X_wordN (w := 19) (k := 17) (by decide) rfl n17 h26 ht (by omega) hP hT) rfl (fun h2 hq91 => ?_)
                                  obtain rfl := hq91.symm
                                  refine r_if_eq (tgt := 100) (pc2 := 97) dX3_lawWord_94 (by decide) rfl (fun b94 => ?_) (fun b94 => ?_)
                                  · skip
                                    refine r_aload_n (pc2 := 101) 0 dX3_lawWord_100 rfl rfl rfl rfl ?_
                                    refine r_getf (pc2 := 104) (v := .int u.2.1) fX3_207 dX3_lawWord_101 c65 (by decide) rfl rfl ?_
                                    refine r_cast (1) (hz) ?_
                                    refine r_if_ne (tgt := 119) (pc2 := 107) dX3_lawWord_104 (by decide) rfl (fun b104 => ?_) (fun b104 => ?_)
                                    · skip
                                      refine r_aload_n (pc2 := 120) 0 dX3_lawWord_119 rfl rfl rfl rfl ?_
                                      refine r_getf (pc2 := 123) (v := .int u.2.1) fX3_207 dX3_lawWord_120 c65 (by decide) rfl rfl ?_
                                      refine r_cast (1) (hz) ?_
                                      refine r_if_ne (tgt := 139) (pc2 := 126) dX3_lawWord_123 (by decide) rfl (fun b123 => ?_) (fun b123 => ?_)
                                      · skip
                                        refine r_aload_n (pc2 := 140) 0 dX3_lawWord_139 rfl rfl rfl rfl ?_
                                        refine r_getf (pc2 := 143) (v := .int u.2.1) fX3_207 dX3_lawWord_140 c65 (by decide) rfl rfl ?_
                                        refine r_cast (1) (hz) ?_
                                        refine r_if_ne (tgt := 161) (pc2 := 146) dX3_lawWord_143 (by decide) rfl (fun b143 => ?_) (fun b143 => ?_)
                                        · skip
                                          refine r_iconst (pc2 := 162) (v := 0) dX3_lawWord_161 (by decide) rfl ?_
                                          exact r_iret rfl dX3_lawWord_162 ⟨by unfold lwV; rw [if_neg hno], rfl⟩
                                        · exact absurd b143 (by decide)
                                      · exact absurd b123 (by decide)
                                    · exact absurd b104 (by decide)
                                  · exact absurd b94 (by decide)
                              · exact absurd b74 (by decide)
                          · exact absurd b55 (by decide)
                      · exact absurd b36 (by decide)
                  · exact absurd b17 (by decide)
                · exact absurd b6 (by decide)
  · obtain ⟨rfl, hz⟩ := hin
    by_cases hk : lxK tp n p = 11
    · skip
      refine Cn.go (ls := [.ref 65]) (by decide +kernel) rfl (Nat.le_of_ble_eq_true rfl) ?_
      refine r_aload_n (pc2 := 1) 0 dX3_lawWord_0 rfl rfl rfl rfl ?_
      refine r_ldcS (pc2 := 3) 12 (by decide) rfl rfl dX3_lawWord_1 rfl ?_
      refine r_callV1 (pc2 := 6) (As := [.ref 12]) (st := []) kX3_88 rfl rfl dX3_lawWord_3 c65 (by decide) rfl rfl (Nat.le_of_ble_eq_true rfl) (by omega) (X_wordY (w := 12) (k := 11) (by decide) rfl hk h26 ht (by omega) hP hT) rfl (fun h2 hq3 => ?_)
      obtain rfl := hq3.symm
      refine r_if_eq (tgt := 11) (pc2 := 9) dX3_lawWord_6 (by decide) rfl (fun b6 => ?_) (fun b6 => ?_)
      · exact absurd b6 (by decide)
      · skip
        refine r_iconst (pc2 := 10) (v := -1) dX3_lawWord_9 (by decide) rfl ?_
        exact r_iret rfl dX3_lawWord_10 ⟨by unfold lwV; rw [hk]; decide, rfl⟩
    · have n11 := hk
      by_cases hk : lxK tp n p = 2
      · skip
        refine Cn.go (ls := [.ref 65]) (by decide +kernel) rfl (Nat.le_of_ble_eq_true rfl) ?_
        refine r_aload_n (pc2 := 1) 0 dX3_lawWord_0 rfl rfl rfl rfl ?_
        refine r_ldcS (pc2 := 3) 12 (by decide) rfl rfl dX3_lawWord_1 rfl ?_
        refine r_callV1 (pc2 := 6) (As := [.ref 12]) (st := []) kX3_88 rfl rfl dX3_lawWord_3 c65 (by decide) rfl rfl (Nat.le_of_ble_eq_true rfl) (by omega) (X_wordN (w := 12) (k := 11) (by decide) rfl (by rw [hk]; decide) h26 ht (by omega) hP hT) rfl (fun h2 hq3 => ?_)
        obtain rfl := hq3.symm
        refine r_if_eq (tgt := 11) (pc2 := 9) dX3_lawWord_6 (by decide) rfl (fun b6 => ?_) (fun b6 => ?_)
        · skip
          refine r_aload_n (pc2 := 12) 0 dX3_lawWord_11 rfl rfl rfl rfl ?_
          refine r_ldcS (pc2 := 14) 2 (by decide) rfl rfl dX3_lawWord_12 rfl ?_
          refine r_callV1 (pc2 := 17) (As := [.ref 2]) (st := []) kX3_88 rfl rfl dX3_lawWord_14 c65 (by decide) rfl rfl (Nat.le_of_ble_eq_true rfl) (by omega) (X_wordY (w := 2) (k := 2) (by decide) rfl hk h26 ht (by omega) hP hT) rfl (fun h2 hq14 => ?_)
          obtain rfl := hq14.symm
          refine r_if_eq (tgt := 23) (pc2 := 20) dX3_lawWord_17 (by decide) rfl (fun b17 => ?_) (fun b17 => ?_)
          · exact absurd b17 (by decide)
          · skip
            refine r_bipush (pc2 := 22) (v := -2) dX3_lawWord_20 (by decide) rfl ?_
            exact r_iret rfl dX3_lawWord_22 ⟨by unfold lwV; rw [hk]; decide, rfl⟩
        · exact absurd b6 (by decide)
      · have n2 := hk
        by_cases hk : lxK tp n p = 10
        · skip
          refine Cn.go (ls := [.ref 65]) (by decide +kernel) rfl (Nat.le_of_ble_eq_true rfl) ?_
          refine r_aload_n (pc2 := 1) 0 dX3_lawWord_0 rfl rfl rfl rfl ?_
          refine r_ldcS (pc2 := 3) 12 (by decide) rfl rfl dX3_lawWord_1 rfl ?_
          refine r_callV1 (pc2 := 6) (As := [.ref 12]) (st := []) kX3_88 rfl rfl dX3_lawWord_3 c65 (by decide) rfl rfl (Nat.le_of_ble_eq_true rfl) (by omega) (X_wordN (w := 12) (k := 11) (by decide) rfl (by rw [hk]; decide) h26 ht (by omega) hP hT) rfl (fun h2 hq3 => ?_)
          obtain rfl := hq3.symm
          refine r_if_eq (tgt := 11) (pc2 := 9) dX3_lawWord_6 (by decide) rfl (fun b6 => ?_) (fun b6 => ?_)
          · skip
            refine r_aload_n (pc2 := 12) 0 dX3_lawWord_11 rfl rfl rfl rfl ?_
            refine r_ldcS (pc2 := 14) 2 (by decide) rfl rfl dX3_lawWord_12 rfl ?_
            refine r_callV1 (pc2 := 17) (As := [.ref 2]) (st := []) kX3_88 rfl rfl dX3_lawWord_14 c65 (by decide) rfl rfl (Nat.le_of_ble_eq_true rfl) (by omega) (X_wordN (w := 2) (k := 2) (by decide) rfl (by rw [hk]; decide) h26 ht (by omega) hP hT) rfl (fun h2 hq14 => ?_)
            obtain rfl := hq14.symm
            refine r_if_eq (tgt := 23) (pc2 := 20) dX3_lawWord_17 (by decide) rfl (fun b17 => ?_) (fun b17 => ?_)
            · skip
              refine r_aload_n (pc2 := 24) 0 dX3_lawWord_23 rfl rfl rfl rfl ?_
              refine r_getf (pc2 := 27) (v := .int u.2.1) fX3_207 dX3_lawWord_24 c65 (by decide) rfl rfl ?_
              refine r_cast (0) (hz) ?_
              refine r_if_eq (tgt := 42) (pc2 := 30) dX3_lawWord_27 (by decide) rfl (fun b27 => ?_) (fun b27 => ?_)
              · skip
                refine r_aload_n (pc2 := 43) 0 dX3_lawWord_42 rfl rfl rfl rfl ?_
                refine r_getf (pc2 := 46) (v := .int u.2.1) fX3_207 dX3_lawWord_43 c65 (by decide) rfl rfl ?_
                refine r_cast (0) (hz) ?_
                refine r_if_eq (tgt := 61) (pc2 := 49) dX3_lawWord_46 (by decide) rfl (fun b46 => ?_) (fun b46 => ?_)
                · skip
                  refine r_aload_n (pc2 := 62) 0 dX3_lawWord_61 rfl rfl rfl rfl ?_
                  refine r_getf (pc2 := 65) (v := .int u.2.1) fX3_207 dX3_lawWord_62 c65 (by decide) rfl rfl ?_
                  refine r_cast (0) (hz) ?_
                  refine r_if_eq (tgt := 80) (pc2 := 68) dX3_lawWord_65 (by decide) rfl (fun b65 => ?_) (fun b65 => ?_)
                  · skip
                    refine r_aload_n (pc2 := 81) 0 dX3_lawWord_80 rfl rfl rfl rfl ?_
                    refine r_getf (pc2 := 84) (v := .int u.2.1) fX3_207 dX3_lawWord_81 c65 (by decide) rfl rfl ?_
                    refine r_cast (0) (hz) ?_
                    refine r_if_eq (tgt := 100) (pc2 := 87) dX3_lawWord_84 (by decide) rfl (fun b84 => ?_) (fun b84 => ?_)
                    · skip
                      refine r_aload_n (pc2 := 101) 0 dX3_lawWord_100 rfl rfl rfl rfl ?_
                      refine r_getf (pc2 := 104) (v := .int u.2.1) fX3_207 dX3_lawWord_101 c65 (by decide) rfl rfl ?_
                      refine r_cast (0) (hz) ?_
                      refine r_if_ne (tgt := 119) (pc2 := 107) dX3_lawWord_104 (by decide) rfl (fun b104 => ?_) (fun b104 => ?_)
                      · exact absurd b104 (by decide)
                      · skip
                        refine r_aload_n (pc2 := 108) 0 dX3_lawWord_107 rfl rfl rfl rfl ?_
                        refine r_ldcS (pc2 := 110) 11 (by decide) rfl rfl dX3_lawWord_108 rfl ?_
                        refine r_callV1 (pc2 := 113) (As := [.ref 11]) (st := []) kX3_88 rfl rfl dX3_lawWord_110 c65 (by decide) rfl rfl (Nat.le_of_ble_eq_true rfl) (by omega) (X_wordY (w := 11) (k := 10) (by decide) rfl hk h26 ht (by omega) hP hT) rfl (fun h2 hq110 => ?_)
                        obtain rfl := hq110.symm
                        refine r_if_eq (tgt := 119) (pc2 := 116) dX3_lawWord_113 (by decide) rfl (fun b113 => ?_) (fun b113 => ?_)
                        · exact absurd b113 (by decide)
                        · skip
                          refine r_bipush (pc2 := 118) (v := -3) dX3_lawWord_116 (by decide) rfl ?_
                          exact r_iret rfl dX3_lawWord_118 ⟨by unfold lwV; rw [hk]; decide, rfl⟩
                    · exact absurd b84 (by decide)
                  · exact absurd b65 (by decide)
                · exact absurd b46 (by decide)
              · exact absurd b27 (by decide)
            · exact absurd b17 (by decide)
          · exact absurd b6 (by decide)
        · have n10 := hk
          by_cases hk : lxK tp n p = 18
          · skip
            refine Cn.go (ls := [.ref 65]) (by decide +kernel) rfl (Nat.le_of_ble_eq_true rfl) ?_
            refine r_aload_n (pc2 := 1) 0 dX3_lawWord_0 rfl rfl rfl rfl ?_
            refine r_ldcS (pc2 := 3) 12 (by decide) rfl rfl dX3_lawWord_1 rfl ?_
            refine r_callV1 (pc2 := 6) (As := [.ref 12]) (st := []) kX3_88 rfl rfl dX3_lawWord_3 c65 (by decide) rfl rfl (Nat.le_of_ble_eq_true rfl) (by omega) (X_wordN (w := 12) (k := 11) (by decide) rfl (by rw [hk]; decide) h26 ht (by omega) hP hT) rfl (fun h2 hq3 => ?_)
            obtain rfl := hq3.symm
            refine r_if_eq (tgt := 11) (pc2 := 9) dX3_lawWord_6 (by decide) rfl (fun b6 => ?_) (fun b6 => ?_)
            · skip
              refine r_aload_n (pc2 := 12) 0 dX3_lawWord_11 rfl rfl rfl rfl ?_
              refine r_ldcS (pc2 := 14) 2 (by decide) rfl rfl dX3_lawWord_12 rfl ?_
              refine r_callV1 (pc2 := 17) (As := [.ref 2]) (st := []) kX3_88 rfl rfl dX3_lawWord_14 c65 (by decide) rfl rfl (Nat.le_of_ble_eq_true rfl) (by omega) (X_wordN (w := 2) (k := 2) (by decide) rfl (by rw [hk]; decide) h26 ht (by omega) hP hT) rfl (fun h2 hq14 => ?_)
              obtain rfl := hq14.symm
              refine r_if_eq (tgt := 23) (pc2 := 20) dX3_lawWord_17 (by decide) rfl (fun b17 => ?_) (fun b17 => ?_)
              · skip
                refine r_aload_n (pc2 := 24) 0 dX3_lawWord_23 rfl rfl rfl rfl ?_
                refine r_getf (pc2 := 27) (v := .int u.2.1) fX3_207 dX3_lawWord_24 c65 (by decide) rfl rfl ?_
                refine r_cast (0) (hz) ?_
                refine r_if_eq (tgt := 42) (pc2 := 30) dX3_lawWord_27 (by decide) rfl (fun b27 => ?_) (fun b27 => ?_)
                · skip
                  refine r_aload_n (pc2 := 43) 0 dX3_lawWord_42 rfl rfl rfl rfl ?_
                  refine r_getf (pc2 := 46) (v := .int u.2.1) fX3_207 dX3_lawWord_43 c65 (by decide) rfl rfl ?_
                  refine r_cast (0) (hz) ?_
                  refine r_if_eq (tgt := 61) (pc2 := 49) dX3_lawWord_46 (by decide) rfl (fun b46 => ?_) (fun b46 => ?_)
                  · skip
                    refine r_aload_n (pc2 := 62) 0 dX3_lawWord_61 rfl rfl rfl rfl ?_
                    refine r_getf (pc2 := 65) (v := .int u.2.1) fX3_207 dX3_lawWord_62 c65 (by decide) rfl rfl ?_
                    refine r_cast (0) (hz) ?_
                    refine r_if_eq (tgt := 80) (pc2 := 68) dX3_lawWord_65 (by decide) rfl (fun b65 => ?_) (fun b65 => ?_)
                    · skip
                      refine r_aload_n (pc2 := 81) 0 dX3_lawWord_80 rfl rfl rfl rfl ?_
                      refine r_getf (pc2 := 84) (v := .int u.2.1) fX3_207 dX3_lawWord_81 c65 (by decide) rfl rfl ?_
                      refine r_cast (0) (hz) ?_
                      refine r_if_eq (tgt := 100) (pc2 := 87) dX3_lawWord_84 (by decide) rfl (fun b84 => ?_) (fun b84 => ?_)
                      · skip
                        refine r_aload_n (pc2 := 101) 0 dX3_lawWord_100 rfl rfl rfl rfl ?_
                        refine r_getf (pc2 := 104) (v := .int u.2.1) fX3_207 dX3_lawWord_101 c65 (by decide) rfl rfl ?_
                        refine r_cast (0) (hz) ?_
                        refine r_if_ne (tgt := 119) (pc2 := 107) dX3_lawWord_104 (by decide) rfl (fun b104 => ?_) (fun b104 => ?_)
                        · exact absurd b104 (by decide)
                        · skip
                          refine r_aload_n (pc2 := 108) 0 dX3_lawWord_107 rfl rfl rfl rfl ?_
                          refine r_ldcS (pc2 := 110) 11 (by decide) rfl rfl dX3_lawWord_108 rfl ?_
                          refine r_callV1 (pc2 := 113) (As := [.ref 11]) (st := []) kX3_88 rfl rfl dX3_lawWord_110 c65 (by decide) rfl rfl (Nat.le_of_ble_eq_true rfl) (by omega) (X_wordN (w := 11) (k := 10) (by decide) rfl (by rw [hk]; decide) h26 ht (by omega) hP hT) rfl (fun h2 hq110 => ?_)
                          obtain rfl := hq110.symm
                          refine r_if_eq (tgt := 119) (pc2 := 116) dX3_lawWord_113 (by decide) rfl (fun b113 => ?_) (fun b113 => ?_)
                          · skip
                            refine r_aload_n (pc2 := 120) 0 dX3_lawWord_119 rfl rfl rfl rfl ?_
                            refine r_getf (pc2 := 123) (v := .int u.2.1) fX3_207 dX3_lawWord_120 c65 (by decide) rfl rfl ?_
                            refine r_cast (0) (hz) ?_
                            refine r_if_ne (tgt := 139) (pc2 := 126) dX3_lawWord_123 (by decide) rfl (fun b123 => ?_) (fun b123 => ?_)
                            · exact absurd b123 (by decide)
                            · skip
                              refine r_aload_n (pc2 := 127) 0 dX3_lawWord_126 rfl rfl rfl rfl ?_
                              refine r_ldcwS (pc2 := 130) 20 (by decide) rfl rfl dX3_lawWord_127 rfl ?_
                              refine r_callV1 (pc2 := 133) (As := [.ref 20]) (st := []) kX3_88 rfl rfl dX3_lawWord_130 c65 (by decide) rfl rfl (Nat.le_of_ble_eq_true rfl) (by omega) (X_wordY (w := 20) (k := 18) (by decide) rfl hk h26 ht (by omega) hP hT) rfl (fun h2 hq130 => ?_)
                              obtain rfl := hq130.symm
                              refine r_if_eq (tgt := 139) (pc2 := 136) dX3_lawWord_133 (by decide) rfl (fun b133 => ?_) (fun b133 => ?_)
                              · exact absurd b133 (by decide)
                              · skip
                                refine r_bipush (pc2 := 138) (v := -4) dX3_lawWord_136 (by decide) rfl ?_
                                exact r_iret rfl dX3_lawWord_138 ⟨by unfold lwV; rw [hk]; decide, rfl⟩
                          · exact absurd b113 (by decide)
                      · exact absurd b84 (by decide)
                    · exact absurd b65 (by decide)
                  · exact absurd b46 (by decide)
                · exact absurd b27 (by decide)
              · exact absurd b17 (by decide)
            · exact absurd b6 (by decide)
          · have n18 := hk
            by_cases hk : lxK tp n p = 19
            · skip
              refine Cn.go (ls := [.ref 65]) (by decide +kernel) rfl (Nat.le_of_ble_eq_true rfl) ?_
              refine r_aload_n (pc2 := 1) 0 dX3_lawWord_0 rfl rfl rfl rfl ?_
              refine r_ldcS (pc2 := 3) 12 (by decide) rfl rfl dX3_lawWord_1 rfl ?_
              refine r_callV1 (pc2 := 6) (As := [.ref 12]) (st := []) kX3_88 rfl rfl dX3_lawWord_3 c65 (by decide) rfl rfl (Nat.le_of_ble_eq_true rfl) (by omega) (X_wordN (w := 12) (k := 11) (by decide) rfl (by rw [hk]; decide) h26 ht (by omega) hP hT) rfl (fun h2 hq3 => ?_)
              obtain rfl := hq3.symm
              refine r_if_eq (tgt := 11) (pc2 := 9) dX3_lawWord_6 (by decide) rfl (fun b6 => ?_) (fun b6 => ?_)
              · skip
                refine r_aload_n (pc2 := 12) 0 dX3_lawWord_11 rfl rfl rfl rfl ?_
                refine r_ldcS (pc2 := 14) 2 (by decide) rfl rfl dX3_lawWord_12 rfl ?_
                refine r_callV1 (pc2 := 17) (As := [.ref 2]) (st := []) kX3_88 rfl rfl dX3_lawWord_14 c65 (by decide) rfl rfl (Nat.le_of_ble_eq_true rfl) (by omega) (X_wordN (w := 2) (k := 2) (by decide) rfl (by rw [hk]; decide) h26 ht (by omega) hP hT) rfl (fun h2 hq14 => ?_)
                obtain rfl := hq14.symm
                refine r_if_eq (tgt := 23) (pc2 := 20) dX3_lawWord_17 (by decide) rfl (fun b17 => ?_) (fun b17 => ?_)
                · skip
                  refine r_aload_n (pc2 := 24) 0 dX3_lawWord_23 rfl rfl rfl rfl ?_
                  refine r_getf (pc2 := 27) (v := .int u.2.1) fX3_207 dX3_lawWord_24 c65 (by decide) rfl rfl ?_
                  refine r_cast (0) (hz) ?_
                  refine r_if_eq (tgt := 42) (pc2 := 30) dX3_lawWord_27 (by decide) rfl (fun b27 => ?_) (fun b27 => ?_)
                  · skip
                    refine r_aload_n (pc2 := 43) 0 dX3_lawWord_42 rfl rfl rfl rfl ?_
                    refine r_getf (pc2 := 46) (v := .int u.2.1) fX3_207 dX3_lawWord_43 c65 (by decide) rfl rfl ?_
                    refine r_cast (0) (hz) ?_
                    refine r_if_eq (tgt := 61) (pc2 := 49) dX3_lawWord_46 (by decide) rfl (fun b46 => ?_) (fun b46 => ?_)
                    · skip
                      refine r_aload_n (pc2 := 62) 0 dX3_lawWord_61 rfl rfl rfl rfl ?_
                      refine r_getf (pc2 := 65) (v := .int u.2.1) fX3_207 dX3_lawWord_62 c65 (by decide) rfl rfl ?_
                      refine r_cast (0) (hz) ?_
                      refine r_if_eq (tgt := 80) (pc2 := 68) dX3_lawWord_65 (by decide) rfl (fun b65 => ?_) (fun b65 => ?_)
                      · skip
                        refine r_aload_n (pc2 := 81) 0 dX3_lawWord_80 rfl rfl rfl rfl ?_
                        refine r_getf (pc2 := 84) (v := .int u.2.1) fX3_207 dX3_lawWord_81 c65 (by decide) rfl rfl ?_
                        refine r_cast (0) (hz) ?_
                        refine r_if_eq (tgt := 100) (pc2 := 87) dX3_lawWord_84 (by decide) rfl (fun b84 => ?_) (fun b84 => ?_)
                        · skip
                          refine r_aload_n (pc2 := 101) 0 dX3_lawWord_100 rfl rfl rfl rfl ?_
                          refine r_getf (pc2 := 104) (v := .int u.2.1) fX3_207 dX3_lawWord_101 c65 (by decide) rfl rfl ?_
                          refine r_cast (0) (hz) ?_
                          refine r_if_ne (tgt := 119) (pc2 := 107) dX3_lawWord_104 (by decide) rfl (fun b104 => ?_) (fun b104 => ?_)
                          · exact absurd b104 (by decide)
                          · skip
                            refine r_aload_n (pc2 := 108) 0 dX3_lawWord_107 rfl rfl rfl rfl ?_
                            refine r_ldcS (pc2 := 110) 11 (by decide) rfl rfl dX3_lawWord_108 rfl ?_
                            refine r_callV1 (pc2 := 113) (As := [.ref 11]) (st := []) kX3_88 rfl rfl dX3_lawWord_110 c65 (by decide) rfl rfl (Nat.le_of_ble_eq_true rfl) (by omega) (X_wordN (w := 11) (k := 10) (by decide) rfl (by rw [hk]; decide) h26 ht (by omega) hP hT) rfl (fun h2 hq110 => ?_)
                            obtain rfl := hq110.symm
                            refine r_if_eq (tgt := 119) (pc2 := 116) dX3_lawWord_113 (by decide) rfl (fun b113 => ?_) (fun b113 => ?_)
                            · skip
                              refine r_aload_n (pc2 := 120) 0 dX3_lawWord_119 rfl rfl rfl rfl ?_
                              refine r_getf (pc2 := 123) (v := .int u.2.1) fX3_207 dX3_lawWord_120 c65 (by decide) rfl rfl ?_
                              refine r_cast (0) (hz) ?_
                              refine r_if_ne (tgt := 139) (pc2 := 126) dX3_lawWord_123 (by decide) rfl (fun b123 => ?_) (fun b123 => ?_)
                              · exact absurd b123 (by decide)
                              · skip
                                refine r_aload_n (pc2 := 127) 0 dX3_lawWord_126 rfl rfl rfl rfl ?_
                                refine r_ldcwS (pc2 := 130) 20 (by decide) rfl rfl dX3_lawWord_127 rfl ?_
                                refine r_callV1 (pc2 := 133) (As := [.ref 20]) (st := []) kX3_88 rfl rfl dX3_lawWord_130 c65 (by decide) rfl rfl (Nat.le_of_ble_eq_true rfl) (by omega) (X_wordN (w := 20) (k := 18) (by decide) rfl (by rw [hk]; decide) h26 ht (by omega) hP hT) rfl (fun h2 hq130 => ?_)
                                obtain rfl := hq130.symm
                                refine r_if_eq (tgt := 139) (pc2 := 136) dX3_lawWord_133 (by decide) rfl (fun b133 => ?_) (fun b133 => ?_)
                                · skip
                                  refine r_aload_n (pc2 := 140) 0 dX3_lawWord_139 rfl rfl rfl rfl ?_
                                  refine r_getf (pc2 := 143) (v := .int u.2.1) fX3_207 dX3_lawWord_140 c65 (by decide) rfl rfl ?_
                                  refine r_cast (0) (hz) ?_
                                  refine r_if_ne (tgt := 161) (pc2 := 146) dX3_lawWord_143 (by decide) rfl (fun b143 => ?_) (fun b143 => ?_)
                                  · exact absurd b143 (by decide)
                                  · skip
                                    refine r_aload_n (pc2 := 147) 0 dX3_lawWord_146 rfl rfl rfl rfl ?_
                                    refine r_ldcwS (pc2 := 150) 21 (by decide) rfl rfl dX3_lawWord_147 rfl ?_
                                    refine r_callV1 (pc2 := 153) (As := [.ref 21]) (st := []) kX3_88 rfl rfl dX3_lawWord_150 c65 (by decide) rfl rfl (Nat.le_of_ble_eq_true rfl) (by omega) (X_wordY (w := 21) (k := 19) (by decide) rfl hk h26 ht (by omega) hP hT) rfl (fun h2 hq150 => ?_)
                                    obtain rfl := hq150.symm
                                    refine r_if_eq (tgt := 161) (pc2 := 156) dX3_lawWord_153 (by decide) rfl (fun b153 => ?_) (fun b153 => ?_)
                                    · exact absurd b153 (by decide)
                                    · skip
                                      refine r_bipush (pc2 := 158) (v := -5) dX3_lawWord_156 (by decide) rfl ?_
                                      refine r_goto (pc2 := 162) dX3_lawWord_158 (by decide) ?_
                                      exact r_iret rfl dX3_lawWord_162 ⟨by unfold lwV; rw [hk]; decide, rfl⟩
                                · exact absurd b133 (by decide)
                            · exact absurd b113 (by decide)
                        · exact absurd b84 (by decide)
                      · exact absurd b65 (by decide)
                    · exact absurd b46 (by decide)
                  · exact absurd b27 (by decide)
                · exact absurd b17 (by decide)
              · exact absurd b6 (by decide)
            · have n19 := hk
              have hno : ¬ wordN 1 (lxK tp n p) < 9 := by unfold wordN; simp [n11, n2, n10, n18, n19]
              refine Cn.go (ls := [.ref 65]) (by decide +kernel) rfl (Nat.le_of_ble_eq_true rfl) ?_
              refine r_aload_n (pc2 := 1) 0 dX3_lawWord_0 rfl rfl rfl rfl ?_
              refine r_ldcS (pc2 := 3) 12 (by decide) rfl rfl dX3_lawWord_1 rfl ?_
              refine r_callV1 (pc2 := 6) (As := [.ref 12]) (st := []) kX3_88 rfl rfl dX3_lawWord_3 c65 (by decide) rfl rfl (Nat.le_of_ble_eq_true rfl) (by omega) (X_wordN (w := 12) (k := 11) (by decide) rfl n11 h26 ht (by omega) hP hT) rfl (fun h2 hq3 => ?_)
              obtain rfl := hq3.symm
              refine r_if_eq (tgt := 11) (pc2 := 9) dX3_lawWord_6 (by decide) rfl (fun b6 => ?_) (fun b6 => ?_)
              · skip
                refine r_aload_n (pc2 := 12) 0 dX3_lawWord_11 rfl rfl rfl rfl ?_
                refine r_ldcS (pc2 := 14) 2 (by decide) rfl rfl dX3_lawWord_12 rfl ?_
                refine r_callV1 (pc2 := 17) (As := [.ref 2]) (st := []) kX3_88 rfl rfl dX3_lawWord_14 c65 (by decide) rfl rfl (Nat.le_of_ble_eq_true rfl) (by omega) (X_wordN (w := 2) (k := 2) (by decide) rfl n2 h26 ht (by omega) hP hT) rfl (fun h2 hq14 => ?_)
                obtain rfl := hq14.symm
                refine r_if_eq (tgt := 23) (pc2 := 20) dX3_lawWord_17 (by decide) rfl (fun b17 => ?_) (fun b17 => ?_)
                · skip
                  refine r_aload_n (pc2 := 24) 0 dX3_lawWord_23 rfl rfl rfl rfl ?_
                  refine r_getf (pc2 := 27) (v := .int u.2.1) fX3_207 dX3_lawWord_24 c65 (by decide) rfl rfl ?_
                  refine r_cast (0) (hz) ?_
                  refine r_if_eq (tgt := 42) (pc2 := 30) dX3_lawWord_27 (by decide) rfl (fun b27 => ?_) (fun b27 => ?_)
                  · skip
                    refine r_aload_n (pc2 := 43) 0 dX3_lawWord_42 rfl rfl rfl rfl ?_
                    refine r_getf (pc2 := 46) (v := .int u.2.1) fX3_207 dX3_lawWord_43 c65 (by decide) rfl rfl ?_
                    refine r_cast (0) (hz) ?_
                    refine r_if_eq (tgt := 61) (pc2 := 49) dX3_lawWord_46 (by decide) rfl (fun b46 => ?_) (fun b46 => ?_)
                    · skip
                      refine r_aload_n (pc2 := 62) 0 dX3_lawWord_61 rfl rfl rfl rfl ?_
                      refine r_getf (pc2 := 65) (v := .int u.2.1) fX3_207 dX3_lawWord_62 c65 (by decide) rfl rfl ?_
                      refine r_cast (0) (hz) ?_
                      refine r_if_eq (tgt := 80) (pc2 := 68) dX3_lawWord_65 (by decide) rfl (fun b65 => ?_) (fun b65 => ?_)
                      · skip
                        refine r_aload_n (pc2 := 81) 0 dX3_lawWord_80 rfl rfl rfl rfl ?_
                        refine r_getf (pc2 := 84) (v := .int u.2.1) fX3_207 dX3_lawWord_81 c65 (by decide) rfl rfl ?_
                        refine r_cast (0) (hz) ?_
                        refine r_if_eq (tgt := 100) (pc2 := 87) dX3_lawWord_84 (by decide) rfl (fun b84 => ?_) (fun b84 => ?_)
                        · skip
                          refine r_aload_n (pc2 := 101) 0 dX3_lawWord_100 rfl rfl rfl rfl ?_
                          refine r_getf (pc2 := 104) (v := .int u.2.1) fX3_207 dX3_lawWord_101 c65 (by decide) rfl rfl ?_
                          refine r_cast (0) (hz) ?_
                          refine r_if_ne (tgt := 119) (pc2 := 107) dX3_lawWord_104 (by decide) rfl (fun b104 => ?_) (fun b104 => ?_)
                          · exact absurd b104 (by decide)
                          · skip
                            refine r_aload_n (pc2 := 108) 0 dX3_lawWord_107 rfl rfl rfl rfl ?_
                            refine r_ldcS (pc2 := 110) 11 (by decide) rfl rfl dX3_lawWord_108 rfl ?_
                            refine r_callV1 (pc2 := 113) (As := [.ref 11]) (st := []) kX3_88 rfl rfl dX3_lawWord_110 c65 (by decide) rfl rfl (Nat.le_of_ble_eq_true rfl) (by omega) (X_wordN (w := 11) (k := 10) (by decide) rfl n10 h26 ht (by omega) hP hT) rfl (fun h2 hq110 => ?_)
                            obtain rfl := hq110.symm
                            refine r_if_eq (tgt := 119) (pc2 := 116) dX3_lawWord_113 (by decide) rfl (fun b113 => ?_) (fun b113 => ?_)
                            · skip
                              refine r_aload_n (pc2 := 120) 0 dX3_lawWord_119 rfl rfl rfl rfl ?_
                              refine r_getf (pc2 := 123) (v := .int u.2.1) fX3_207 dX3_lawWord_120 c65 (by decide) rfl rfl ?_
                              refine r_cast (0) (hz) ?_
                              refine r_if_ne (tgt := 139) (pc2 := 126) dX3_lawWord_123 (by decide) rfl (fun b123 => ?_) (fun b123 => ?_)
                              · exact absurd b123 (by decide)
                              · skip
                                refine r_aload_n (pc2 := 127) 0 dX3_lawWord_126 rfl rfl rfl rfl ?_
                                refine r_ldcwS (pc2 := 130) 20 (by decide) rfl rfl dX3_lawWord_127 rfl ?_
                                refine r_callV1 (pc2 := 133) (As := [.ref 20]) (st := []) kX3_88 rfl rfl dX3_lawWord_130 c65 (by decide) rfl rfl (Nat.le_of_ble_eq_true rfl) (by omega) (X_wordN (w := 20) (k := 18) (by decide) rfl n18 h26 ht (by omega) hP hT) rfl (fun h2 hq130 => ?_)
                                obtain rfl := hq130.symm
                                refine r_if_eq (tgt := 139) (pc2 := 136) dX3_lawWord_133 (by decide) rfl (fun b133 => ?_) (fun b133 => ?_)
                                · skip
                                  refine r_aload_n (pc2 := 140) 0 dX3_lawWord_139 rfl rfl rfl rfl ?_
                                  refine r_getf (pc2 := 143) (v := .int u.2.1) fX3_207 dX3_lawWord_140 c65 (by decide) rfl rfl ?_
                                  refine r_cast (0) (hz) ?_
                                  refine r_if_ne (tgt := 161) (pc2 := 146) dX3_lawWord_143 (by decide) rfl (fun b143 => ?_) (fun b143 => ?_)
                                  · exact absurd b143 (by decide)
                                  · skip
                                    refine r_aload_n (pc2 := 147) 0 dX3_lawWord_146 rfl rfl rfl rfl ?_
                                    refine r_ldcwS (pc2 := 150) 21 (by decide) rfl rfl dX3_lawWord_147 rfl ?_
                                    refine r_callV1 (pc2 := 153) (As := [.ref 21]) (st := []) kX3_88 rfl rfl dX3_lawWord_150 c65 (by decide) rfl rfl (Nat.le_of_ble_eq_true rfl) (by omega) (X_wordN (w := 21) (k := 19) (by decide) rfl n19 h26 ht (by omega) hP hT) rfl (fun h2 hq150 => ?_)
                                    obtain rfl := hq150.symm
                                    refine r_if_eq (tgt := 161) (pc2 := 156) dX3_lawWord_153 (by decide) rfl (fun b153 => ?_) (fun b153 => ?_)
                                    · skip
                                      refine r_iconst (pc2 := 162) (v := 0) dX3_lawWord_161 (by decide) rfl ?_
                                      exact r_iret rfl dX3_lawWord_162 ⟨by unfold lwV; rw [if_neg hno], rfl⟩
                                    · exact absurd b153 (by decide)
                                · exact absurd b133 (by decide)
                            · exact absurd b113 (by decide)
                        · exact absurd b84 (by decide)
                      · exact absurd b65 (by decide)
                    · exact absurd b46 (by decide)
                  · exact absurd b27 (by decide)
                · exact absurd b17 (by decide)
              · exact absurd b6 (by decide)
set_option maxRecDepth 20000 in
set_option maxHeartbeats 1000000 in
theorem c_lawWordE {h0 : Hp} {E : EnvT} {d : Nat} {tp : Nat → Nat} {n : Nat} {u : RLT} {rd b e s : Nat} {we ae : Nat} (hin : inOk rd u.2.1) (ht : TOk tp n) (hd : 5 ≤ d) (hP : TPo tp h0) (hT : RLw tp n u e (s + 1) (.error (we, ae)) h0) : Cn E mX3_lawWord d [.ref 65] h0 (fun r h2 => r = some (.int 0) ∧ h2 = h0) := by
  obtain ⟨t, c, c65, hK, hC⟩ := id hT
  rcases hin with hin | hin
  · obtain ⟨_, hz⟩ := hin
    refine Cn.go (ls := [.ref 65]) (by decide +kernel) rfl (Nat.le_of_ble_eq_true rfl) ?_
    refine r_aload_n (pc2 := 1) 0 dX3_lawWord_0 rfl rfl rfl rfl ?_
    refine r_ldcS (pc2 := 3) 12 (by decide) rfl rfl dX3_lawWord_1 rfl ?_
    refine r_callV1 (pc2 := 6) (As := [.ref 12]) (st := []) kX3_88 rfl rfl dX3_lawWord_3 c65 (by decide) rfl rfl (Nat.le_of_ble_eq_true rfl) (by omega) (X_wordE (w := 12) (by decide) ht (by omega) hP hT) rfl (fun h2 hq3 => ?_)
    obtain rfl := hq3.symm
    refine r_if_eq (tgt := 11) (pc2 := 9) dX3_lawWord_6 (by decide) rfl (fun b6 => ?_) (fun b6 => ?_)
    · skip
      refine r_aload_n (pc2 := 12) 0 dX3_lawWord_11 rfl rfl rfl rfl ?_
      refine r_ldcS (pc2 := 14) 2 (by decide) rfl rfl dX3_lawWord_12 rfl ?_
      refine r_callV1 (pc2 := 17) (As := [.ref 2]) (st := []) kX3_88 rfl rfl dX3_lawWord_14 c65 (by decide) rfl rfl (Nat.le_of_ble_eq_true rfl) (by omega) (X_wordE (w := 2) (by decide) ht (by omega) hP hT) rfl (fun h2 hq14 => ?_)
      obtain rfl := hq14.symm
      refine r_if_eq (tgt := 23) (pc2 := 20) dX3_lawWord_17 (by decide) rfl (fun b17 => ?_) (fun b17 => ?_)
      · skip
        refine r_aload_n (pc2 := 24) 0 dX3_lawWord_23 rfl rfl rfl rfl ?_
        refine r_getf (pc2 := 27) (v := .int u.2.1) fX3_207 dX3_lawWord_24 c65 (by decide) rfl rfl ?_
        refine r_cast (1) (hz) ?_
        refine r_if_eq (tgt := 42) (pc2 := 30) dX3_lawWord_27 (by decide) rfl (fun b27 => ?_) (fun b27 => ?_)
        · exact absurd b27 (by decide)
        · skip
          refine r_aload_n (pc2 := 31) 0 dX3_lawWord_30 rfl rfl rfl rfl ?_
          refine r_ldcS (pc2 := 33) 3 (by decide) rfl rfl dX3_lawWord_31 rfl ?_
          refine r_callV1 (pc2 := 36) (As := [.ref 3]) (st := []) kX3_88 rfl rfl dX3_lawWord_33 c65 (by decide) rfl rfl (Nat.le_of_ble_eq_true rfl) (by omega) (X_wordE (w := 3) (by decide) ht (by omega) hP hT) rfl (fun h2 hq33 => ?_)
          obtain rfl := hq33.symm
          refine r_if_eq (tgt := 42) (pc2 := 39) dX3_lawWord_36 (by decide) rfl (fun b36 => ?_) (fun b36 => ?_)
          · skip
            refine r_aload_n (pc2 := 43) 0 dX3_lawWord_42 rfl rfl rfl rfl ?_
            refine r_getf (pc2 := 46) (v := .int u.2.1) fX3_207 dX3_lawWord_43 c65 (by decide) rfl rfl ?_
            refine r_cast (1) (hz) ?_
            refine r_if_eq (tgt := 61) (pc2 := 49) dX3_lawWord_46 (by decide) rfl (fun b46 => ?_) (fun b46 => ?_)
            · exact absurd b46 (by decide)
            · skip
              refine r_aload_n (pc2 := 50) 0 dX3_lawWord_49 rfl rfl rfl rfl ?_
              refine r_ldcS (pc2 := 52) 4 (by decide) rfl rfl dX3_lawWord_50 rfl ?_
              refine r_callV1 (pc2 := 55) (As := [.ref 4]) (st := []) kX3_88 rfl rfl dX3_lawWord_52 c65 (by decide) rfl rfl (Nat.le_of_ble_eq_true rfl) (by omega) (X_wordE (w := 4) (by decide) ht (by omega) hP hT) rfl (fun h2 hq52 => ?_)
              obtain rfl := hq52.symm
              refine r_if_eq (tgt := 61) (pc2 := 58) dX3_lawWord_55 (by decide) rfl (fun b55 => ?_) (fun b55 => ?_)
              · skip
                refine r_aload_n (pc2 := 62) 0 dX3_lawWord_61 rfl rfl rfl rfl ?_
                refine r_getf (pc2 := 65) (v := .int u.2.1) fX3_207 dX3_lawWord_62 c65 (by decide) rfl rfl ?_
                refine r_cast (1) (hz) ?_
                refine r_if_eq (tgt := 80) (pc2 := 68) dX3_lawWord_65 (by decide) rfl (fun b65 => ?_) (fun b65 => ?_)
                · exact absurd b65 (by decide)
                · skip
                  refine r_aload_n (pc2 := 69) 0 dX3_lawWord_68 rfl rfl rfl rfl ?_
                  refine r_ldcS (pc2 := 71) 6 (by decide) rfl rfl dX3_lawWord_69 rfl ?_
                  refine r_callV1 (pc2 := 74) (As := [.ref 6]) (st := []) kX3_88 rfl rfl dX3_lawWord_71 c65 (by decide) rfl rfl (Nat.le_of_ble_eq_true rfl) (by omega) (X_wordE (w := 6) (by decide) ht (by omega) hP hT) rfl (fun h2 hq71 => ?_)
                  obtain rfl := hq71.symm
                  refine r_if_eq (tgt := 80) (pc2 := 77) dX3_lawWord_74 (by decide) rfl (fun b74 => ?_) (fun b74 => ?_)
                  · skip
                    refine r_aload_n (pc2 := 81) 0 dX3_lawWord_80 rfl rfl rfl rfl ?_
                    refine r_getf (pc2 := 84) (v := .int u.2.1) fX3_207 dX3_lawWord_81 c65 (by decide) rfl rfl ?_
                    refine r_cast (1) (hz) ?_
                    refine r_if_eq (tgt := 100) (pc2 := 87) dX3_lawWord_84 (by decide) rfl (fun b84 => ?_) (fun b84 => ?_)
                    · exact absurd b84 (by decide)
                    · skip
                      refine r_aload_n (pc2 := 88) 0 dX3_lawWord_87 rfl rfl rfl rfl ?_
                      refine r_ldcwS (pc2 := 91) 19 (by decide) rfl rfl dX3_lawWord_88 rfl ?_
                      refine r_callV1 (pc2 := 94) (As := [.ref 19]) (st := []) kX3_88 rfl rfl dX3_lawWord_91 c65 (by decide) rfl rfl (Nat.le_of_ble_eq_true rfl) (by omega) (X_wordE (w := 19) (by decide) ht (by omega) hP hT) rfl (fun h2 hq91 => ?_)
                      obtain rfl := hq91.symm
                      refine r_if_eq (tgt := 100) (pc2 := 97) dX3_lawWord_94 (by decide) rfl (fun b94 => ?_) (fun b94 => ?_)
                      · skip
                        refine r_aload_n (pc2 := 101) 0 dX3_lawWord_100 rfl rfl rfl rfl ?_
                        refine r_getf (pc2 := 104) (v := .int u.2.1) fX3_207 dX3_lawWord_101 c65 (by decide) rfl rfl ?_
                        refine r_cast (1) (hz) ?_
                        refine r_if_ne (tgt := 119) (pc2 := 107) dX3_lawWord_104 (by decide) rfl (fun b104 => ?_) (fun b104 => ?_)
                        · skip
                          refine r_aload_n (pc2 := 120) 0 dX3_lawWord_119 rfl rfl rfl rfl ?_
                          refine r_getf (pc2 := 123) (v := .int u.2.1) fX3_207 dX3_lawWord_120 c65 (by decide) rfl rfl ?_
                          refine r_cast (1) (hz) ?_
                          refine r_if_ne (tgt := 139) (pc2 := 126) dX3_lawWord_123 (by decide) rfl (fun b123 => ?_) (fun b123 => ?_)
                          · skip
                            refine r_aload_n (pc2 := 140) 0 dX3_lawWord_139 rfl rfl rfl rfl ?_
                            refine r_getf (pc2 := 143) (v := .int u.2.1) fX3_207 dX3_lawWord_140 c65 (by decide) rfl rfl ?_
                            refine r_cast (1) (hz) ?_
                            refine r_if_ne (tgt := 161) (pc2 := 146) dX3_lawWord_143 (by decide) rfl (fun b143 => ?_) (fun b143 => ?_)
                            · skip
                              refine r_iconst (pc2 := 162) (v := 0) dX3_lawWord_161 (by decide) rfl ?_
                              exact r_iret rfl dX3_lawWord_162 ⟨rfl, rfl⟩
                            · exact absurd b143 (by decide)
                          · exact absurd b123 (by decide)
                        · exact absurd b104 (by decide)
                      · exact absurd b94 (by decide)
                  · exact absurd b74 (by decide)
              · exact absurd b55 (by decide)
          · exact absurd b36 (by decide)
      · exact absurd b17 (by decide)
    · exact absurd b6 (by decide)
  · obtain ⟨_, hz⟩ := hin
    refine Cn.go (ls := [.ref 65]) (by decide +kernel) rfl (Nat.le_of_ble_eq_true rfl) ?_
    refine r_aload_n (pc2 := 1) 0 dX3_lawWord_0 rfl rfl rfl rfl ?_
    refine r_ldcS (pc2 := 3) 12 (by decide) rfl rfl dX3_lawWord_1 rfl ?_
    refine r_callV1 (pc2 := 6) (As := [.ref 12]) (st := []) kX3_88 rfl rfl dX3_lawWord_3 c65 (by decide) rfl rfl (Nat.le_of_ble_eq_true rfl) (by omega) (X_wordE (w := 12) (by decide) ht (by omega) hP hT) rfl (fun h2 hq3 => ?_)
    obtain rfl := hq3.symm
    refine r_if_eq (tgt := 11) (pc2 := 9) dX3_lawWord_6 (by decide) rfl (fun b6 => ?_) (fun b6 => ?_)
    · skip
      refine r_aload_n (pc2 := 12) 0 dX3_lawWord_11 rfl rfl rfl rfl ?_
      refine r_ldcS (pc2 := 14) 2 (by decide) rfl rfl dX3_lawWord_12 rfl ?_
      refine r_callV1 (pc2 := 17) (As := [.ref 2]) (st := []) kX3_88 rfl rfl dX3_lawWord_14 c65 (by decide) rfl rfl (Nat.le_of_ble_eq_true rfl) (by omega) (X_wordE (w := 2) (by decide) ht (by omega) hP hT) rfl (fun h2 hq14 => ?_)
      obtain rfl := hq14.symm
      refine r_if_eq (tgt := 23) (pc2 := 20) dX3_lawWord_17 (by decide) rfl (fun b17 => ?_) (fun b17 => ?_)
      · skip
        refine r_aload_n (pc2 := 24) 0 dX3_lawWord_23 rfl rfl rfl rfl ?_
        refine r_getf (pc2 := 27) (v := .int u.2.1) fX3_207 dX3_lawWord_24 c65 (by decide) rfl rfl ?_
        refine r_cast (0) (hz) ?_
        refine r_if_eq (tgt := 42) (pc2 := 30) dX3_lawWord_27 (by decide) rfl (fun b27 => ?_) (fun b27 => ?_)
        · skip
          refine r_aload_n (pc2 := 43) 0 dX3_lawWord_42 rfl rfl rfl rfl ?_
          refine r_getf (pc2 := 46) (v := .int u.2.1) fX3_207 dX3_lawWord_43 c65 (by decide) rfl rfl ?_
          refine r_cast (0) (hz) ?_
          refine r_if_eq (tgt := 61) (pc2 := 49) dX3_lawWord_46 (by decide) rfl (fun b46 => ?_) (fun b46 => ?_)
          · skip
            refine r_aload_n (pc2 := 62) 0 dX3_lawWord_61 rfl rfl rfl rfl ?_
            refine r_getf (pc2 := 65) (v := .int u.2.1) fX3_207 dX3_lawWord_62 c65 (by decide) rfl rfl ?_
            refine r_cast (0) (hz) ?_
            refine r_if_eq (tgt := 80) (pc2 := 68) dX3_lawWord_65 (by decide) rfl (fun b65 => ?_) (fun b65 => ?_)
            · skip
              refine r_aload_n (pc2 := 81) 0 dX3_lawWord_80 rfl rfl rfl rfl ?_
              refine r_getf (pc2 := 84) (v := .int u.2.1) fX3_207 dX3_lawWord_81 c65 (by decide) rfl rfl ?_
              refine r_cast (0) (hz) ?_
              refine r_if_eq (tgt := 100) (pc2 := 87) dX3_lawWord_84 (by decide) rfl (fun b84 => ?_) (fun b84 => ?_)
              · skip
                refine r_aload_n (pc2 := 101) 0 dX3_lawWord_100 rfl rfl rfl rfl ?_
                refine r_getf (pc2 := 104) (v := .int u.2.1) fX3_207 dX3_lawWord_101 c65 (by decide) rfl rfl ?_
                refine r_cast (0) (hz) ?_
                refine r_if_ne (tgt := 119) (pc2 := 107) dX3_lawWord_104 (by decide) rfl (fun b104 => ?_) (fun b104 => ?_)
                · exact absurd b104 (by decide)
                · skip
                  refine r_aload_n (pc2 := 108) 0 dX3_lawWord_107 rfl rfl rfl rfl ?_
                  refine r_ldcS (pc2 := 110) 11 (by decide) rfl rfl dX3_lawWord_108 rfl ?_
                  refine r_callV1 (pc2 := 113) (As := [.ref 11]) (st := []) kX3_88 rfl rfl dX3_lawWord_110 c65 (by decide) rfl rfl (Nat.le_of_ble_eq_true rfl) (by omega) (X_wordE (w := 11) (by decide) ht (by omega) hP hT) rfl (fun h2 hq110 => ?_)
                  obtain rfl := hq110.symm
                  refine r_if_eq (tgt := 119) (pc2 := 116) dX3_lawWord_113 (by decide) rfl (fun b113 => ?_) (fun b113 => ?_)
                  · skip
                    refine r_aload_n (pc2 := 120) 0 dX3_lawWord_119 rfl rfl rfl rfl ?_
                    refine r_getf (pc2 := 123) (v := .int u.2.1) fX3_207 dX3_lawWord_120 c65 (by decide) rfl rfl ?_
                    refine r_cast (0) (hz) ?_
                    refine r_if_ne (tgt := 139) (pc2 := 126) dX3_lawWord_123 (by decide) rfl (fun b123 => ?_) (fun b123 => ?_)
                    · exact absurd b123 (by decide)
                    · skip
                      refine r_aload_n (pc2 := 127) 0 dX3_lawWord_126 rfl rfl rfl rfl ?_
                      refine r_ldcwS (pc2 := 130) 20 (by decide) rfl rfl dX3_lawWord_127 rfl ?_
                      refine r_callV1 (pc2 := 133) (As := [.ref 20]) (st := []) kX3_88 rfl rfl dX3_lawWord_130 c65 (by decide) rfl rfl (Nat.le_of_ble_eq_true rfl) (by omega) (X_wordE (w := 20) (by decide) ht (by omega) hP hT) rfl (fun h2 hq130 => ?_)
                      obtain rfl := hq130.symm
                      refine r_if_eq (tgt := 139) (pc2 := 136) dX3_lawWord_133 (by decide) rfl (fun b133 => ?_) (fun b133 => ?_)
                      · skip
                        refine r_aload_n (pc2 := 140) 0 dX3_lawWord_139 rfl rfl rfl rfl ?_
                        refine r_getf (pc2 := 143) (v := .int u.2.1) fX3_207 dX3_lawWord_140 c65 (by decide) rfl rfl ?_
                        refine r_cast (0) (hz) ?_
                        refine r_if_ne (tgt := 161) (pc2 := 146) dX3_lawWord_143 (by decide) rfl (fun b143 => ?_) (fun b143 => ?_)
                        · exact absurd b143 (by decide)
                        · skip
                          refine r_aload_n (pc2 := 147) 0 dX3_lawWord_146 rfl rfl rfl rfl ?_
                          refine r_ldcwS (pc2 := 150) 21 (by decide) rfl rfl dX3_lawWord_147 rfl ?_
                          refine r_callV1 (pc2 := 153) (As := [.ref 21]) (st := []) kX3_88 rfl rfl dX3_lawWord_150 c65 (by decide) rfl rfl (Nat.le_of_ble_eq_true rfl) (by omega) (X_wordE (w := 21) (by decide) ht (by omega) hP hT) rfl (fun h2 hq150 => ?_)
                          obtain rfl := hq150.symm
                          refine r_if_eq (tgt := 161) (pc2 := 156) dX3_lawWord_153 (by decide) rfl (fun b153 => ?_) (fun b153 => ?_)
                          · skip
                            refine r_iconst (pc2 := 162) (v := 0) dX3_lawWord_161 (by decide) rfl ?_
                            exact r_iret rfl dX3_lawWord_162 ⟨rfl, rfl⟩
                          · exact absurd b153 (by decide)
                      · exact absurd b133 (by decide)
                  · exact absurd b113 (by decide)
              · exact absurd b84 (by decide)
            · exact absurd b65 (by decide)
          · exact absurd b46 (by decide)
        · exact absurd b27 (by decide)
      · exact absurd b17 (by decide)
    · exact absurd b6 (by decide)
set_option maxRecDepth 20000 in
set_option maxHeartbeats 1000000 in
theorem K_term {E : EnvT} {d : Nat} {tp : Nat → Nat} {n : Nat} {u : RLT} {e : Nat} {A : PF} (ht : TOk tp n) (hd : 6 ≤ d) (gA : Good n A) (hA : CR E tp n u mX3_readAtom (d - 1) e A) : CR E tp n u mX3_readTerm d e (pTerm tp n A) := by
  intro s h0 x hI hT hP
  have hn9 := ht.1
  have hx : Ex [65, 67] h0 h0 := Ex.rf
  obtain ⟨t, c, c65, hK, hC⟩ := id hT
  have eF : bnd x (pTerm tp n A) = bnd (bnd x A) (pRep tp n 34 3002 A 901) := by cases x <;> rfl
  rw [eF]
  have loop : ∀ (m i : Nat) (x : PX (List Nat)) (h : Hp), i + m = 901 → Ex [65, 67] h0 h → IV n 0 0 x → (∀ p L, x = .ok (p, L) → i ≤ p) → RLw tp n u e (s + 1) x h → TPo tp h → Fr E mX3_readTerm d 6 [.ref 65, .int (nI i)] [] h (RLQ tp n u e (s + 1) h0 none (bnd x (pRep tp n 34 3002 A m))) := by
    intro m
    induction m with
    | zero =>
      intro i x h hm hx hI hq hT hP
      obtain ⟨t, c, c65, hK, hC⟩ := id hT
      have hTx : RLw tp n u e (s + 1) (bnd x (pRep tp n 34 3002 A 0)) h := by
        match x, hI, hq, hT with
        | .error g, _, _, hT => exact hT
        | .ok (p, L), hI, hq, hT => exact hT
      refine r_iload_n (pc2 := 7) 1 dX3_readTerm_6 rfl rfl rfl ?_
      refine r_sipush (pc2 := 10) (v := 900) dX3_readTerm_7 (by decide) rfl ?_
      refine r_icmp_ge (tgt := 42) (pc2 := 13) dX3_readTerm_10 (by decide) rfl (fun b10 => ?_) (fun b10 => ?_)
      · skip
        exact r_vret rfl dX3_readTerm_42 ⟨rfl, hx, hTx⟩
      · exact absurd (nI_le (a := 900) (by omega) (by omega)) b10
    | succ m ih =>
      intro i x h hm hx hI hq hT hP
      by_cases hlt : i < 900
      · refine x_cs (u := u) (e := e) (F := (pRep tp n 34 3002 A (m + 1))) (R := fun h x => Fr E mX3_readTerm d 6 [.ref 65, .int (nI i)] [] h (RLQ tp n u e (s + 1) h0 none x)) (b_rep (by decide) _) (fun x y g => Fr.nrm x y g) hT (fun we ae hT => ?_) (fun p L ex h26 hT => ?_)
        · obtain ⟨t, c, c65, hK, hC⟩ := id hT
          refine r_iload_n (pc2 := 7) 1 dX3_readTerm_6 rfl rfl rfl ?_
          refine r_sipush (pc2 := 10) (v := 900) dX3_readTerm_7 (by decide) rfl ?_
          refine r_icmp_ge (tgt := 42) (pc2 := 13) dX3_readTerm_10 (by decide) rfl (fun b10 => ?_) (fun b10 => ?_)
          · exact absurd b10 (nI_ge (b := 900) hlt (by decide))
          · skip
            refine r_aload_n (pc2 := 14) 0 dX3_readTerm_13 rfl rfl rfl rfl ?_
            refine r_bipush (pc2 := 16) (v := 42) dX3_readTerm_14 (by decide) rfl ?_
            refine r_callV1 (pc2 := 19) (As := [.int 42]) (st := []) kX3_92 rfl rfl dX3_readTerm_16 c65 (by decide) rfl rfl (Nat.le_of_ble_eq_true rfl) (by omega) (X_signE (k := 4) (by decide) (by decide) ht (by omega) hP hT) rfl (fun h2 hq16 => ?_)
            obtain rfl := hq16.symm
            refine r_if_eq (tgt := 42) (pc2 := 22) dX3_readTerm_19 (by decide) rfl (fun b19 => ?_) (fun b19 => ?_)
            · skip
              exact r_vret rfl dX3_readTerm_42 ⟨rfl, hx, hT⟩
            · exact absurd b19 (by decide)
        · subst ex
          obtain ⟨t, c, c65, hK, hC⟩ := id hT
          by_cases hk : lxK tp n p = 34
          · have i2 : IV n 0 (p + 1) (bnd (bnd (pNx tp n p L) A) (pCo 3002)) := (((show IV n 0 p (.ok (p, L)) from ⟨Nat.le_refl _, hI.2.1, hI.2.2⟩).nx (by rw [hk]; decide)).b gA).co
            have eL : pRep tp n 34 3002 A (m + 1) p L = bnd (bnd (bnd (pNx tp n p L) A) (pCo 3002)) (pRep tp n 34 3002 A m) := by rw [pRep_s, if_pos hk]
            rw [eL]
            refine r_iload_n (pc2 := 7) 1 dX3_readTerm_6 rfl rfl rfl ?_
            refine r_sipush (pc2 := 10) (v := 900) dX3_readTerm_7 (by decide) rfl ?_
            refine r_icmp_ge (tgt := 42) (pc2 := 13) dX3_readTerm_10 (by decide) rfl (fun b10 => ?_) (fun b10 => ?_)
            · exact absurd b10 (nI_ge (b := 900) hlt (by decide))
            · skip
              refine r_aload_n (pc2 := 14) 0 dX3_readTerm_13 rfl rfl rfl rfl ?_
              refine r_bipush (pc2 := 16) (v := 42) dX3_readTerm_14 (by decide) rfl ?_
              refine r_callV1 (pc2 := 19) (As := [.int 42]) (st := []) kX3_92 rfl rfl dX3_readTerm_16 c65 (by decide) rfl rfl (Nat.le_of_ble_eq_true rfl) (by omega) (X_signY (k := 4) (j := 34) (by decide) (by decide) rfl hk h26 ht (by omega) hP hT) rfl (fun h2 hq16 => ?_)
              obtain rfl := hq16.symm
              refine r_if_eq (tgt := 42) (pc2 := 22) dX3_readTerm_19 (by decide) rfl (fun b19 => ?_) (fun b19 => ?_)
              · exact absurd b19 (by decide)
              · skip
                refine r_aload_n (pc2 := 23) 0 dX3_readTerm_22 rfl rfl rfl rfl ?_
                refine r_callV0 (pc2 := 26) (As := []) (st := []) kX3_54 rfl rfl dX3_readTerm_23 c65 (by decide) rfl rfl (Nat.le_of_ble_eq_true rfl) (by omega) (X_adv (p := p) (L := L) h26 (by rw [hk]; decide) ht (by omega) hP hT) rfl (fun h hq23 => ?_)
                obtain ⟨hxc, hT⟩ := hq23
                have hx := hx.trans hxc (by decide)
                have hP := hP.ex hxc (by decide)
                obtain ⟨t, c, c65, hK, hC⟩ := id hT
                refine r_aload_n (pc2 := 27) 0 dX3_readTerm_26 rfl rfl rfl rfl ?_
                refine r_callV0 (pc2 := 30) (As := []) (st := []) kX3_233 rfl rfl dX3_readTerm_27 c65 (by decide) rfl rfl (Nat.le_of_ble_eq_true rfl) (by omega) (hA _ (pNx tp n p L) (hI.nx (by rw [hk]; decide)).w1 hT hP) rfl (fun h hq27 => ?_)
                obtain ⟨hxc, hT⟩ := hq27
                have hx := hx.trans hxc (by decide)
                have hP := hP.ex hxc (by decide)
                obtain ⟨t, c, c65, hK, hC⟩ := id hT
                refine r_aload_n (pc2 := 31) 0 dX3_readTerm_30 rfl rfl rfl rfl ?_
                refine r_bipush (pc2 := 33) (v := -13) dX3_readTerm_31 (by decide) rfl ?_
                refine r_callV0 (pc2 := 36) (As := [.int (-13)]) (st := []) kX3_230 rfl rfl dX3_readTerm_33 c65 (by decide) rfl rfl (Nat.le_of_ble_eq_true rfl) (by omega) (X_emit (x := bnd (pNx tp n p L) A) (co := 3002) (fun p2 L2 z => by have := ((hI.nx (tp := tp) (by rw [hk]; decide)).b gA).len ht.1 p2 L2 z; omega) (by decide) hT) rfl (fun h hq33 => ?_)
                obtain ⟨hxc, hT⟩ := hq33
                have hx := hx.trans hxc (by decide)
                have hP := hP.ex hxc (by decide)
                obtain ⟨t, c, c65, hK, hC⟩ := id hT
                obtain ⟨xi, e36⟩ : ∃ z : Int32, z = (nI i) + (1) := ⟨_, rfl⟩
                refine r_iinc (pc2 := 39) (ls2 := [.ref 65, .int xi]) (v := xi) 1 dX3_readTerm_36 rfl (by rw [e36]; rfl) rfl rfl rfl ?_
                refine r_goto (pc2 := 6) dX3_readTerm_39 (by decide) ?_
                rw [show xi = nI (i + 1) from e36.trans (nI_1 _)]
                exact ih (i + 1) (bnd (bnd (pNx tp n p L) A) (pCo 3002)) h (by omega) hx i2.w0 (fun p2 L2 z => by rw [z] at i2; have := i2.1; have := hq p L rfl; omega) hT hP
          · have eL : pRep tp n 34 3002 A (m + 1) p L = .ok (p, L) := by rw [pRep_s, if_neg hk]
            rw [eL]
            refine r_iload_n (pc2 := 7) 1 dX3_readTerm_6 rfl rfl rfl ?_
            refine r_sipush (pc2 := 10) (v := 900) dX3_readTerm_7 (by decide) rfl ?_
            refine r_icmp_ge (tgt := 42) (pc2 := 13) dX3_readTerm_10 (by decide) rfl (fun b10 => ?_) (fun b10 => ?_)
            · exact absurd b10 (nI_ge (b := 900) hlt (by decide))
            · skip
              refine r_aload_n (pc2 := 14) 0 dX3_readTerm_13 rfl rfl rfl rfl ?_
              refine r_bipush (pc2 := 16) (v := 42) dX3_readTerm_14 (by decide) rfl ?_
              refine r_callV1 (pc2 := 19) (As := [.int 42]) (st := []) kX3_92 rfl rfl dX3_readTerm_16 c65 (by decide) rfl rfl (Nat.le_of_ble_eq_true rfl) (by omega) (X_signN (k := 4) (j := 34) (by decide) (by decide) rfl hk h26 ht (by omega) hP hT) rfl (fun h2 hq16 => ?_)
              obtain rfl := hq16.symm
              refine r_if_eq (tgt := 42) (pc2 := 22) dX3_readTerm_19 (by decide) rfl (fun b19 => ?_) (fun b19 => ?_)
              · skip
                exact r_vret rfl dX3_readTerm_42 ⟨rfl, hx, hT⟩
              · exact absurd b19 (by decide)
      · obtain ⟨t, c, c65, hK, hC⟩ := id hT
        have hTx : RLw tp n u e (s + 1) (bnd x (pRep tp n 34 3002 A (m + 1))) h := by
          match x, hI, hq, hT with
          | .error g, _, _, hT => exact hT
          | .ok (p, L), hI, hq, hT =>
            show RLw tp n u e (s + 1) ((pRep tp n 34 3002 A (m + 1)) p L) h
            rw [rep_end (by decide) (by have := hq p L rfl; omega)]
            exact hT
        refine r_iload_n (pc2 := 7) 1 dX3_readTerm_6 rfl rfl rfl ?_
        refine r_sipush (pc2 := 10) (v := 900) dX3_readTerm_7 (by decide) rfl ?_
        refine r_icmp_ge (tgt := 42) (pc2 := 13) dX3_readTerm_10 (by decide) rfl (fun b10 => ?_) (fun b10 => ?_)
        · skip
          exact r_vret rfl dX3_readTerm_42 ⟨rfl, hx, hTx⟩
        · exact absurd (nI_le (a := 900) (by omega) (by omega)) b10
  refine Cn.go (ls := [.ref 65, .float 0]) (by decide +kernel) rfl (Nat.le_of_ble_eq_true rfl) ?_
  refine r_aload_n (pc2 := 1) 0 dX3_readTerm_0 rfl rfl rfl rfl ?_
  refine r_callV0 (pc2 := 4) (As := []) (st := []) kX3_233 rfl rfl dX3_readTerm_1 c65 (by decide) rfl rfl (Nat.le_of_ble_eq_true rfl) (by omega) (hA _ x hI hT hP) rfl (fun h hq1 => ?_)
  obtain ⟨hxc, hT⟩ := hq1
  have hx := hx.trans hxc (by decide)
  have hP := hP.ex hxc (by decide)
  obtain ⟨t, c, c65, hK, hC⟩ := id hT
  have hT4 := hT
  refine r_iconst (pc2 := 5) (v := 0) dX3_readTerm_4 (by decide) rfl ?_
  refine r_cast (nI 0) (rfl) ?_
  refine r_istore_n (pc2 := 6) (ls2 := [.ref 65, .int (nI 0)]) 1 dX3_readTerm_5 rfl (by decide) rfl rfl rfl ?_
  exact loop 901 0 (bnd x A) h rfl hx (hI.b gA) (fun _ _ _ => Nat.zero_le _) hT hP
set_option maxRecDepth 20000 in
set_option maxHeartbeats 1000000 in
theorem K_both {E : EnvT} {d : Nat} {tp : Nat → Nat} {n : Nat} {u : RLT} {e : Nat} {A : PF} (ht : TOk tp n) (hd : 6 ≤ d) (gA : Good n A) (hA : CR E tp n u mX3_readUnit (d - 1) e A) : CR E tp n u mX3_readBoth d e (pBoth tp n A) := by
  intro s h0 x hI hT hP
  have hn9 := ht.1
  have hx : Ex [65, 67] h0 h0 := Ex.rf
  obtain ⟨t, c, c65, hK, hC⟩ := id hT
  have eF : bnd x (pBoth tp n A) = bnd (bnd x A) (pRep tp n 20 3007 A 901) := by cases x <;> rfl
  rw [eF]
  have loop : ∀ (m i : Nat) (x : PX (List Nat)) (h : Hp), i + m = 901 → Ex [65, 67] h0 h → IV n 0 0 x → (∀ p L, x = .ok (p, L) → i ≤ p) → RLw tp n u e (s + 1) x h → TPo tp h → Fr E mX3_readBoth d 6 [.ref 65, .int (nI i)] [] h (RLQ tp n u e (s + 1) h0 none (bnd x (pRep tp n 20 3007 A m))) := by
    intro m
    induction m with
    | zero =>
      intro i x h hm hx hI hq hT hP
      obtain ⟨t, c, c65, hK, hC⟩ := id hT
      have hTx : RLw tp n u e (s + 1) (bnd x (pRep tp n 20 3007 A 0)) h := by
        match x, hI, hq, hT with
        | .error g, _, _, hT => exact hT
        | .ok (p, L), hI, hq, hT => exact hT
      refine r_iload_n (pc2 := 7) 1 dX3_readBoth_6 rfl rfl rfl ?_
      refine r_sipush (pc2 := 10) (v := 900) dX3_readBoth_7 (by decide) rfl ?_
      refine r_icmp_ge (tgt := 43) (pc2 := 13) dX3_readBoth_10 (by decide) rfl (fun b10 => ?_) (fun b10 => ?_)
      · skip
        exact r_vret rfl dX3_readBoth_43 ⟨rfl, hx, hTx⟩
      · exact absurd (nI_le (a := 900) (by omega) (by omega)) b10
    | succ m ih =>
      intro i x h hm hx hI hq hT hP
      by_cases hlt : i < 900
      · refine x_cs (u := u) (e := e) (F := (pRep tp n 20 3007 A (m + 1))) (R := fun h x => Fr E mX3_readBoth d 6 [.ref 65, .int (nI i)] [] h (RLQ tp n u e (s + 1) h0 none x)) (b_rep (by decide) _) (fun x y g => Fr.nrm x y g) hT (fun we ae hT => ?_) (fun p L ex h26 hT => ?_)
        · obtain ⟨t, c, c65, hK, hC⟩ := id hT
          refine r_iload_n (pc2 := 7) 1 dX3_readBoth_6 rfl rfl rfl ?_
          refine r_sipush (pc2 := 10) (v := 900) dX3_readBoth_7 (by decide) rfl ?_
          refine r_icmp_ge (tgt := 43) (pc2 := 13) dX3_readBoth_10 (by decide) rfl (fun b10 => ?_) (fun b10 => ?_)
          · exact absurd b10 (nI_ge (b := 900) hlt (by decide))
          · skip
            refine r_aload_n (pc2 := 14) 0 dX3_readBoth_13 rfl rfl rfl rfl ?_
            refine r_ldcwS (pc2 := 17) 14 (by decide) rfl rfl dX3_readBoth_14 rfl ?_
            refine r_callV1 (pc2 := 20) (As := [.ref 14]) (st := []) kX3_88 rfl rfl dX3_readBoth_17 c65 (by decide) rfl rfl (Nat.le_of_ble_eq_true rfl) (by omega) (X_wordE (w := 14) (by decide) ht (by omega) hP hT) rfl (fun h2 hq17 => ?_)
            obtain rfl := hq17.symm
            refine r_if_eq (tgt := 43) (pc2 := 23) dX3_readBoth_20 (by decide) rfl (fun b20 => ?_) (fun b20 => ?_)
            · skip
              exact r_vret rfl dX3_readBoth_43 ⟨rfl, hx, hT⟩
            · exact absurd b20 (by decide)
        · subst ex
          obtain ⟨t, c, c65, hK, hC⟩ := id hT
          by_cases hk : lxK tp n p = 20
          · have i2 : IV n 0 (p + 1) (bnd (bnd (pNx tp n p L) A) (pCo 3007)) := (((show IV n 0 p (.ok (p, L)) from ⟨Nat.le_refl _, hI.2.1, hI.2.2⟩).nx (by rw [hk]; decide)).b gA).co
            have eL : pRep tp n 20 3007 A (m + 1) p L = bnd (bnd (bnd (pNx tp n p L) A) (pCo 3007)) (pRep tp n 20 3007 A m) := by rw [pRep_s, if_pos hk]
            rw [eL]
            refine r_iload_n (pc2 := 7) 1 dX3_readBoth_6 rfl rfl rfl ?_
            refine r_sipush (pc2 := 10) (v := 900) dX3_readBoth_7 (by decide) rfl ?_
            refine r_icmp_ge (tgt := 43) (pc2 := 13) dX3_readBoth_10 (by decide) rfl (fun b10 => ?_) (fun b10 => ?_)
            · exact absurd b10 (nI_ge (b := 900) hlt (by decide))
            · skip
              refine r_aload_n (pc2 := 14) 0 dX3_readBoth_13 rfl rfl rfl rfl ?_
              refine r_ldcwS (pc2 := 17) 14 (by decide) rfl rfl dX3_readBoth_14 rfl ?_
              refine r_callV1 (pc2 := 20) (As := [.ref 14]) (st := []) kX3_88 rfl rfl dX3_readBoth_17 c65 (by decide) rfl rfl (Nat.le_of_ble_eq_true rfl) (by omega) (X_wordY (w := 14) (k := 20) (by decide) rfl hk h26 ht (by omega) hP hT) rfl (fun h2 hq17 => ?_)
              obtain rfl := hq17.symm
              refine r_if_eq (tgt := 43) (pc2 := 23) dX3_readBoth_20 (by decide) rfl (fun b20 => ?_) (fun b20 => ?_)
              · exact absurd b20 (by decide)
              · skip
                refine r_aload_n (pc2 := 24) 0 dX3_readBoth_23 rfl rfl rfl rfl ?_
                refine r_callV0 (pc2 := 27) (As := []) (st := []) kX3_54 rfl rfl dX3_readBoth_24 c65 (by decide) rfl rfl (Nat.le_of_ble_eq_true rfl) (by omega) (X_adv (p := p) (L := L) h26 (by rw [hk]; decide) ht (by omega) hP hT) rfl (fun h hq24 => ?_)
                obtain ⟨hxc, hT⟩ := hq24
                have hx := hx.trans hxc (by decide)
                have hP := hP.ex hxc (by decide)
                obtain ⟨t, c, c65, hK, hC⟩ := id hT
                refine r_aload_n (pc2 := 28) 0 dX3_readBoth_27 rfl rfl rfl rfl ?_
                refine r_callV0 (pc2 := 31) (As := []) (st := []) kX3_267 rfl rfl dX3_readBoth_28 c65 (by decide) rfl rfl (Nat.le_of_ble_eq_true rfl) (by omega) (hA _ (pNx tp n p L) (hI.nx (by rw [hk]; decide)).w1 hT hP) rfl (fun h hq28 => ?_)
                obtain ⟨hxc, hT⟩ := hq28
                have hx := hx.trans hxc (by decide)
                have hP := hP.ex hxc (by decide)
                obtain ⟨t, c, c65, hK, hC⟩ := id hT
                refine r_aload_n (pc2 := 32) 0 dX3_readBoth_31 rfl rfl rfl rfl ?_
                refine r_bipush (pc2 := 34) (v := -18) dX3_readBoth_32 (by decide) rfl ?_
                refine r_callV0 (pc2 := 37) (As := [.int (-18)]) (st := []) kX3_230 rfl rfl dX3_readBoth_34 c65 (by decide) rfl rfl (Nat.le_of_ble_eq_true rfl) (by omega) (X_emit (x := bnd (pNx tp n p L) A) (co := 3007) (fun p2 L2 z => by have := ((hI.nx (tp := tp) (by rw [hk]; decide)).b gA).len ht.1 p2 L2 z; omega) (by decide) hT) rfl (fun h hq34 => ?_)
                obtain ⟨hxc, hT⟩ := hq34
                have hx := hx.trans hxc (by decide)
                have hP := hP.ex hxc (by decide)
                obtain ⟨t, c, c65, hK, hC⟩ := id hT
                obtain ⟨xi, e37⟩ : ∃ z : Int32, z = (nI i) + (1) := ⟨_, rfl⟩
                refine r_iinc (pc2 := 40) (ls2 := [.ref 65, .int xi]) (v := xi) 1 dX3_readBoth_37 rfl (by rw [e37]; rfl) rfl rfl rfl ?_
                refine r_goto (pc2 := 6) dX3_readBoth_40 (by decide) ?_
                rw [show xi = nI (i + 1) from e37.trans (nI_1 _)]
                exact ih (i + 1) (bnd (bnd (pNx tp n p L) A) (pCo 3007)) h (by omega) hx i2.w0 (fun p2 L2 z => by rw [z] at i2; have := i2.1; have := hq p L rfl; omega) hT hP
          · have eL : pRep tp n 20 3007 A (m + 1) p L = .ok (p, L) := by rw [pRep_s, if_neg hk]
            rw [eL]
            refine r_iload_n (pc2 := 7) 1 dX3_readBoth_6 rfl rfl rfl ?_
            refine r_sipush (pc2 := 10) (v := 900) dX3_readBoth_7 (by decide) rfl ?_
            refine r_icmp_ge (tgt := 43) (pc2 := 13) dX3_readBoth_10 (by decide) rfl (fun b10 => ?_) (fun b10 => ?_)
            · exact absurd b10 (nI_ge (b := 900) hlt (by decide))
            · skip
              refine r_aload_n (pc2 := 14) 0 dX3_readBoth_13 rfl rfl rfl rfl ?_
              refine r_ldcwS (pc2 := 17) 14 (by decide) rfl rfl dX3_readBoth_14 rfl ?_
              refine r_callV1 (pc2 := 20) (As := [.ref 14]) (st := []) kX3_88 rfl rfl dX3_readBoth_17 c65 (by decide) rfl rfl (Nat.le_of_ble_eq_true rfl) (by omega) (X_wordN (w := 14) (k := 20) (by decide) rfl hk h26 ht (by omega) hP hT) rfl (fun h2 hq17 => ?_)
              obtain rfl := hq17.symm
              refine r_if_eq (tgt := 43) (pc2 := 23) dX3_readBoth_20 (by decide) rfl (fun b20 => ?_) (fun b20 => ?_)
              · skip
                exact r_vret rfl dX3_readBoth_43 ⟨rfl, hx, hT⟩
              · exact absurd b20 (by decide)
      · obtain ⟨t, c, c65, hK, hC⟩ := id hT
        have hTx : RLw tp n u e (s + 1) (bnd x (pRep tp n 20 3007 A (m + 1))) h := by
          match x, hI, hq, hT with
          | .error g, _, _, hT => exact hT
          | .ok (p, L), hI, hq, hT =>
            show RLw tp n u e (s + 1) ((pRep tp n 20 3007 A (m + 1)) p L) h
            rw [rep_end (by decide) (by have := hq p L rfl; omega)]
            exact hT
        refine r_iload_n (pc2 := 7) 1 dX3_readBoth_6 rfl rfl rfl ?_
        refine r_sipush (pc2 := 10) (v := 900) dX3_readBoth_7 (by decide) rfl ?_
        refine r_icmp_ge (tgt := 43) (pc2 := 13) dX3_readBoth_10 (by decide) rfl (fun b10 => ?_) (fun b10 => ?_)
        · skip
          exact r_vret rfl dX3_readBoth_43 ⟨rfl, hx, hTx⟩
        · exact absurd (nI_le (a := 900) (by omega) (by omega)) b10
  refine Cn.go (ls := [.ref 65, .float 0]) (by decide +kernel) rfl (Nat.le_of_ble_eq_true rfl) ?_
  refine r_aload_n (pc2 := 1) 0 dX3_readBoth_0 rfl rfl rfl rfl ?_
  refine r_callV0 (pc2 := 4) (As := []) (st := []) kX3_267 rfl rfl dX3_readBoth_1 c65 (by decide) rfl rfl (Nat.le_of_ble_eq_true rfl) (by omega) (hA _ x hI hT hP) rfl (fun h hq1 => ?_)
  obtain ⟨hxc, hT⟩ := hq1
  have hx := hx.trans hxc (by decide)
  have hP := hP.ex hxc (by decide)
  obtain ⟨t, c, c65, hK, hC⟩ := id hT
  have hT4 := hT
  refine r_iconst (pc2 := 5) (v := 0) dX3_readBoth_4 (by decide) rfl ?_
  refine r_cast (nI 0) (rfl) ?_
  refine r_istore_n (pc2 := 6) (ls2 := [.ref 65, .int (nI 0)]) 1 dX3_readBoth_5 rfl (by decide) rfl rfl rfl ?_
  exact loop 901 0 (bnd x A) h rfl hx (hI.b gA) (fun _ _ _ => Nat.zero_le _) hT hP
set_option maxRecDepth 20000 in
set_option maxHeartbeats 1000000 in
theorem K_truth0 {E : EnvT} {d : Nat} {tp : Nat → Nat} {n : Nat} {u : RLT} {e : Nat} {A : PF} (ht : TOk tp n) (hd : 6 ≤ d) (gA : Good n A) (hA : CR E tp n u mX3_readBoth (d - 1) e A) : CR E tp n u mX3_readTruth d e (fun p L => bnd (A p L) (pRep tp n 21 3008 A 901)) := by
  intro s h0 x hI hT hP
  have hn9 := ht.1
  have hx : Ex [65, 67] h0 h0 := Ex.rf
  obtain ⟨t, c, c65, hK, hC⟩ := id hT
  have eF : bnd x (fun p L => bnd (A p L) (pRep tp n 21 3008 A 901)) = bnd (bnd x A) (pRep tp n 21 3008 A 901) := by cases x <;> rfl
  rw [eF]
  have loop : ∀ (m i : Nat) (x : PX (List Nat)) (h : Hp), i + m = 901 → Ex [65, 67] h0 h → IV n 0 0 x → (∀ p L, x = .ok (p, L) → i ≤ p) → RLw tp n u e (s + 1) x h → TPo tp h → Fr E mX3_readTruth d 6 [.ref 65, .int (nI i)] [] h (RLQ tp n u e (s + 1) h0 none (bnd x (pRep tp n 21 3008 A m))) := by
    intro m
    induction m with
    | zero =>
      intro i x h hm hx hI hq hT hP
      obtain ⟨t, c, c65, hK, hC⟩ := id hT
      have hTx : RLw tp n u e (s + 1) (bnd x (pRep tp n 21 3008 A 0)) h := by
        match x, hI, hq, hT with
        | .error g, _, _, hT => exact hT
        | .ok (p, L), hI, hq, hT => exact hT
      refine r_iload_n (pc2 := 7) 1 dX3_readTruth_6 rfl rfl rfl ?_
      refine r_sipush (pc2 := 10) (v := 900) dX3_readTruth_7 (by decide) rfl ?_
      refine r_icmp_ge (tgt := 43) (pc2 := 13) dX3_readTruth_10 (by decide) rfl (fun b10 => ?_) (fun b10 => ?_)
      · skip
        exact r_vret rfl dX3_readTruth_43 ⟨rfl, hx, hTx⟩
      · exact absurd (nI_le (a := 900) (by omega) (by omega)) b10
    | succ m ih =>
      intro i x h hm hx hI hq hT hP
      by_cases hlt : i < 900
      · refine x_cs (u := u) (e := e) (F := (pRep tp n 21 3008 A (m + 1))) (R := fun h x => Fr E mX3_readTruth d 6 [.ref 65, .int (nI i)] [] h (RLQ tp n u e (s + 1) h0 none x)) (b_rep (by decide) _) (fun x y g => Fr.nrm x y g) hT (fun we ae hT => ?_) (fun p L ex h26 hT => ?_)
        · obtain ⟨t, c, c65, hK, hC⟩ := id hT
          refine r_iload_n (pc2 := 7) 1 dX3_readTruth_6 rfl rfl rfl ?_
          refine r_sipush (pc2 := 10) (v := 900) dX3_readTruth_7 (by decide) rfl ?_
          refine r_icmp_ge (tgt := 43) (pc2 := 13) dX3_readTruth_10 (by decide) rfl (fun b10 => ?_) (fun b10 => ?_)
          · exact absurd b10 (nI_ge (b := 900) hlt (by decide))
          · skip
            refine r_aload_n (pc2 := 14) 0 dX3_readTruth_13 rfl rfl rfl rfl ?_
            refine r_ldcwS (pc2 := 17) 15 (by decide) rfl rfl dX3_readTruth_14 rfl ?_
            refine r_callV1 (pc2 := 20) (As := [.ref 15]) (st := []) kX3_88 rfl rfl dX3_readTruth_17 c65 (by decide) rfl rfl (Nat.le_of_ble_eq_true rfl) (by omega) (X_wordE (w := 15) (by decide) ht (by omega) hP hT) rfl (fun h2 hq17 => ?_)
            obtain rfl := hq17.symm
            refine r_if_eq (tgt := 43) (pc2 := 23) dX3_readTruth_20 (by decide) rfl (fun b20 => ?_) (fun b20 => ?_)
            · skip
              exact r_vret rfl dX3_readTruth_43 ⟨rfl, hx, hT⟩
            · exact absurd b20 (by decide)
        · subst ex
          obtain ⟨t, c, c65, hK, hC⟩ := id hT
          by_cases hk : lxK tp n p = 21
          · have i2 : IV n 0 (p + 1) (bnd (bnd (pNx tp n p L) A) (pCo 3008)) := (((show IV n 0 p (.ok (p, L)) from ⟨Nat.le_refl _, hI.2.1, hI.2.2⟩).nx (by rw [hk]; decide)).b gA).co
            have eL : pRep tp n 21 3008 A (m + 1) p L = bnd (bnd (bnd (pNx tp n p L) A) (pCo 3008)) (pRep tp n 21 3008 A m) := by rw [pRep_s, if_pos hk]
            rw [eL]
            refine r_iload_n (pc2 := 7) 1 dX3_readTruth_6 rfl rfl rfl ?_
            refine r_sipush (pc2 := 10) (v := 900) dX3_readTruth_7 (by decide) rfl ?_
            refine r_icmp_ge (tgt := 43) (pc2 := 13) dX3_readTruth_10 (by decide) rfl (fun b10 => ?_) (fun b10 => ?_)
            · exact absurd b10 (nI_ge (b := 900) hlt (by decide))
            · skip
              refine r_aload_n (pc2 := 14) 0 dX3_readTruth_13 rfl rfl rfl rfl ?_
              refine r_ldcwS (pc2 := 17) 15 (by decide) rfl rfl dX3_readTruth_14 rfl ?_
              refine r_callV1 (pc2 := 20) (As := [.ref 15]) (st := []) kX3_88 rfl rfl dX3_readTruth_17 c65 (by decide) rfl rfl (Nat.le_of_ble_eq_true rfl) (by omega) (X_wordY (w := 15) (k := 21) (by decide) rfl hk h26 ht (by omega) hP hT) rfl (fun h2 hq17 => ?_)
              obtain rfl := hq17.symm
              refine r_if_eq (tgt := 43) (pc2 := 23) dX3_readTruth_20 (by decide) rfl (fun b20 => ?_) (fun b20 => ?_)
              · exact absurd b20 (by decide)
              · skip
                refine r_aload_n (pc2 := 24) 0 dX3_readTruth_23 rfl rfl rfl rfl ?_
                refine r_callV0 (pc2 := 27) (As := []) (st := []) kX3_54 rfl rfl dX3_readTruth_24 c65 (by decide) rfl rfl (Nat.le_of_ble_eq_true rfl) (by omega) (X_adv (p := p) (L := L) h26 (by rw [hk]; decide) ht (by omega) hP hT) rfl (fun h hq24 => ?_)
                obtain ⟨hxc, hT⟩ := hq24
                have hx := hx.trans hxc (by decide)
                have hP := hP.ex hxc (by decide)
                obtain ⟨t, c, c65, hK, hC⟩ := id hT
                refine r_aload_n (pc2 := 28) 0 dX3_readTruth_27 rfl rfl rfl rfl ?_
                refine r_callV0 (pc2 := 31) (As := []) (st := []) kX3_262 rfl rfl dX3_readTruth_28 c65 (by decide) rfl rfl (Nat.le_of_ble_eq_true rfl) (by omega) (hA _ (pNx tp n p L) (hI.nx (by rw [hk]; decide)).w1 hT hP) rfl (fun h hq28 => ?_)
                obtain ⟨hxc, hT⟩ := hq28
                have hx := hx.trans hxc (by decide)
                have hP := hP.ex hxc (by decide)
                obtain ⟨t, c, c65, hK, hC⟩ := id hT
                refine r_aload_n (pc2 := 32) 0 dX3_readTruth_31 rfl rfl rfl rfl ?_
                refine r_bipush (pc2 := 34) (v := -19) dX3_readTruth_32 (by decide) rfl ?_
                refine r_callV0 (pc2 := 37) (As := [.int (-19)]) (st := []) kX3_230 rfl rfl dX3_readTruth_34 c65 (by decide) rfl rfl (Nat.le_of_ble_eq_true rfl) (by omega) (X_emit (x := bnd (pNx tp n p L) A) (co := 3008) (fun p2 L2 z => by have := ((hI.nx (tp := tp) (by rw [hk]; decide)).b gA).len ht.1 p2 L2 z; omega) (by decide) hT) rfl (fun h hq34 => ?_)
                obtain ⟨hxc, hT⟩ := hq34
                have hx := hx.trans hxc (by decide)
                have hP := hP.ex hxc (by decide)
                obtain ⟨t, c, c65, hK, hC⟩ := id hT
                obtain ⟨xi, e37⟩ : ∃ z : Int32, z = (nI i) + (1) := ⟨_, rfl⟩
                refine r_iinc (pc2 := 40) (ls2 := [.ref 65, .int xi]) (v := xi) 1 dX3_readTruth_37 rfl (by rw [e37]; rfl) rfl rfl rfl ?_
                refine r_goto (pc2 := 6) dX3_readTruth_40 (by decide) ?_
                rw [show xi = nI (i + 1) from e37.trans (nI_1 _)]
                exact ih (i + 1) (bnd (bnd (pNx tp n p L) A) (pCo 3008)) h (by omega) hx i2.w0 (fun p2 L2 z => by rw [z] at i2; have := i2.1; have := hq p L rfl; omega) hT hP
          · have eL : pRep tp n 21 3008 A (m + 1) p L = .ok (p, L) := by rw [pRep_s, if_neg hk]
            rw [eL]
            refine r_iload_n (pc2 := 7) 1 dX3_readTruth_6 rfl rfl rfl ?_
            refine r_sipush (pc2 := 10) (v := 900) dX3_readTruth_7 (by decide) rfl ?_
            refine r_icmp_ge (tgt := 43) (pc2 := 13) dX3_readTruth_10 (by decide) rfl (fun b10 => ?_) (fun b10 => ?_)
            · exact absurd b10 (nI_ge (b := 900) hlt (by decide))
            · skip
              refine r_aload_n (pc2 := 14) 0 dX3_readTruth_13 rfl rfl rfl rfl ?_
              refine r_ldcwS (pc2 := 17) 15 (by decide) rfl rfl dX3_readTruth_14 rfl ?_
              refine r_callV1 (pc2 := 20) (As := [.ref 15]) (st := []) kX3_88 rfl rfl dX3_readTruth_17 c65 (by decide) rfl rfl (Nat.le_of_ble_eq_true rfl) (by omega) (X_wordN (w := 15) (k := 21) (by decide) rfl hk h26 ht (by omega) hP hT) rfl (fun h2 hq17 => ?_)
              obtain rfl := hq17.symm
              refine r_if_eq (tgt := 43) (pc2 := 23) dX3_readTruth_20 (by decide) rfl (fun b20 => ?_) (fun b20 => ?_)
              · skip
                exact r_vret rfl dX3_readTruth_43 ⟨rfl, hx, hT⟩
              · exact absurd b20 (by decide)
      · obtain ⟨t, c, c65, hK, hC⟩ := id hT
        have hTx : RLw tp n u e (s + 1) (bnd x (pRep tp n 21 3008 A (m + 1))) h := by
          match x, hI, hq, hT with
          | .error g, _, _, hT => exact hT
          | .ok (p, L), hI, hq, hT =>
            show RLw tp n u e (s + 1) ((pRep tp n 21 3008 A (m + 1)) p L) h
            rw [rep_end (by decide) (by have := hq p L rfl; omega)]
            exact hT
        refine r_iload_n (pc2 := 7) 1 dX3_readTruth_6 rfl rfl rfl ?_
        refine r_sipush (pc2 := 10) (v := 900) dX3_readTruth_7 (by decide) rfl ?_
        refine r_icmp_ge (tgt := 43) (pc2 := 13) dX3_readTruth_10 (by decide) rfl (fun b10 => ?_) (fun b10 => ?_)
        · skip
          exact r_vret rfl dX3_readTruth_43 ⟨rfl, hx, hTx⟩
        · exact absurd (nI_le (a := 900) (by omega) (by omega)) b10
  refine Cn.go (ls := [.ref 65, .float 0]) (by decide +kernel) rfl (Nat.le_of_ble_eq_true rfl) ?_
  refine r_aload_n (pc2 := 1) 0 dX3_readTruth_0 rfl rfl rfl rfl ?_
  refine r_callV0 (pc2 := 4) (As := []) (st := []) kX3_262 rfl rfl dX3_readTruth_1 c65 (by decide) rfl rfl (Nat.le_of_ble_eq_true rfl) (by omega) (hA _ x hI hT hP) rfl (fun h hq1 => ?_)
  obtain ⟨hxc, hT⟩ := hq1
  have hx := hx.trans hxc (by decide)
  have hP := hP.ex hxc (by decide)
  obtain ⟨t, c, c65, hK, hC⟩ := id hT
  have hT4 := hT
  refine r_iconst (pc2 := 5) (v := 0) dX3_readTruth_4 (by decide) rfl ?_
  refine r_cast (nI 0) (rfl) ?_
  refine r_istore_n (pc2 := 6) (ls2 := [.ref 65, .int (nI 0)]) 1 dX3_readTruth_5 rfl (by decide) rfl rfl rfl ?_
  exact loop 901 0 (bnd x A) h rfl hx (hI.b gA) (fun _ _ _ => Nat.zero_le _) hT hP
