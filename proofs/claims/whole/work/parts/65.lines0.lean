/-! lines of a text -/
abbrev FR : Type := Nat → Nat
abbrev rI (a : FR) : Nat → Nat := a
abbrev PL : Type := Nat → FR → PX FR
def pTk {α : Type} (tp : Nat → Nat) (n lo : Nat) (H : α → Nat) (p : Nat) (L : α) : PX α := if lxK tp n p = 24 then (if lo ≤ lxN tp n p ∧ lxN tp n p < H L then pNx tp n p L else pFl tp n 3 p) else pFl tp n 2 p
def pSet (tp : Nat → Nat) (n lo : Nat) (H : FR → Nat) (i : Nat) : PL := fun p fr => if lxK tp n p = 24 then (if lo ≤ lxN tp n p ∧ lxN tp n p < H fr then pNx tp n p (va_up fr i (lxN tp n p)) else pFl tp n 3 p) else pFl tp n 2 p
def pUp (g : FR → FR) : PL := fun p fr => .ok (p, g fr)
def pEnds (tp : Nat → Nat) (n : Nat) : PL := fun p fr => bnd (pEat tp n 30 p fr) (pUp (fun fr => va_up fr 0 (fr 0 + 1)))
def pFl5 (tp : Nat → Nat) (n g : Nat) : PL := fun p fr => bnd (pNx tp n p fr) (pSet tp n 0 (fun fr => fr 1 + 1) (22 + g))
def pFl6 (tp : Nat → Nat) (n g : Nat) : PL := fun p fr => bnd (pNx tp n p fr) (pSet tp n 0 (fun _ => 10) (18 + g))
def pFlags (tp : Nat → Nat) (n g : Nat) : Nat → PL
  | 0 => fun p fr => .ok (p, fr)
  | m + 1 => fun p fr => if lxK tp n p = 5 then bnd (pFl5 tp n g p fr) (pFlags tp n g m) else if lxK tp n p = 6 then bnd (pFl6 tp n g p fr) (pFlags tp n g m) else .ok (p, fr)
def pGoer (tp : Nat → Nat) (n : Nat) : PL := fun p fr => if fr 3 = 4 then pFl tp n 4 p else bnd (bnd (bnd (bnd (pNx tp n p fr) (pEat tp n 4)) (pSet tp n 0 (fun _ => 10) (14 + fr 3))) (pFlags tp n (fr 3) 901)) (pUp (fun f => va_up f 3 (f 3 + 1)))
def pPeople (tp : Nat → Nat) (n : Nat) : PL := fun p fr => if fr 5 = 1 then pFl tp n 2 p else bnd (bnd (pNx tp n p fr) (pSet tp n 0 (fun _ => 9) 4)) (pUp (fun f => va_up f 5 1))
def pHint2 (tp : Nat → Nat) (n i a : Nat) : PL := fun p fr => if lxK tp n p = 24 ∧ lxN tp n p = a then pFl tp n 3 p else bnd (pTk tp n 0 (fun fr => fr 4) p fr) (fun q fr => .ok (q, hintN fr a (lxN tp n p) i))
def pHint (tp : Nat → Nat) (n i : Nat) : PL := fun p fr => bnd (bnd (pNx tp n p fr) (pTk tp n 0 (fun fr => fr 4))) (pHint2 tp n i (lxN tp n (lxE tp n p)))
def pCart (tp : Nat → Nat) (n : Nat) : PL := fun p fr => bnd (bnd (bnd (pNx tp n p fr) (pSet tp n 0 (fun _ => 11) 6)) (pEat tp n 10)) (pSet tp n 0 (fun _ => 10) 7)
def lawSet (rd : Nat) (fr : FR) (L : List Nat) : FR := va_up (va_up (va_up (frL fr (fr 276) L) (8 + rd) 1) (10 + rd) (fr 276)) (12 + rd) L.length
def pLaw2 (tp : Nat → Nat) (n rd : Nat) : PL := fun p fr => match (lvl tp n rd 6).1 p [] with
  | .ok (q, L) => .ok (q, lawSet rd fr L)
  | .error e => .error e
def pLaw (tp : Nat → Nat) (n rd : Nat) : PL := fun p fr => bnd (bnd (pNx tp n p fr) (pEat tp n 31)) (pLaw2 tp n rd)
def pLine (tp : Nat → Nat) (n : Nat) : PL := fun p fr =>
  if lxK tp n p = 3 then pGoer tp n p fr else if lxK tp n p = 7 then pPeople tp n p fr else if lxK tp n p = 8 then pHint tp n 1 p fr else if lxK tp n p = 22 then pHint tp n 0 p fr
  else if lxK tp n p = 9 then pCart tp n p fr else if lxK tp n p = 11 then bnd (pNx tp n p fr) (pSet tp n 0 (fun _ => 10) 27) else if lxK tp n p = 10 then pLaw tp n 0 p fr else if lxK tp n p = 12 then pLaw tp n 1 p fr else pFl tp n 2 p
def pLines (tp : Nat → Nat) (n : Nat) : Nat → PL
  | 0 => fun p fr => .ok (p, fr)
  | m + 1 => fun p fr => if lxK tp n p = 25 then .ok (p, fr) else bnd (bnd (pLine tp n p fr) (pEnds tp n)) (pLines tp n m)
def plainF : FR := fun k => if k = 1 then 1 else if k = 26 then 9 else 0
def pHead (tp : Nat → Nat) (n : Nat) (f0 : FR) : PX FR := bnd (bnd (bnd (bnd (bnd (bnd (bnd (.ok (0, f0)) (pEat tp n 0)) (pSet tp n 1 (fun _ => 7) 1)) (pEat tp n 1)) (pSet tp n 0 (fun fr => fr 1) 2)) (pEat tp n 2)) (pSet tp n 1 (fun _ => 10) 26)) (pEnds tp n)
def pStreet (tp : Nat → Nat) (n : Nat) (f0 : FR) : PX FR := bnd (pHead tp n f0) (pLines tp n 901)
theorem pFlags_s (tp : Nat → Nat) (n g m p : Nat) (fr : FR) : pFlags tp n g (m + 1) p fr = if lxK tp n p = 5 then bnd (pFl5 tp n g p fr) (pFlags tp n g m) else if lxK tp n p = 6 then bnd (pFl6 tp n g p fr) (pFlags tp n g m) else .ok (p, fr) := rfl
theorem pLines_s (tp : Nat → Nat) (n m p : Nat) (fr : FR) : pLines tp n (m + 1) p fr = if lxK tp n p = 25 then .ok (p, fr) else bnd (bnd (pLine tp n p fr) (pEnds tp n)) (pLines tp n m) := rfl
/-! what holds of the row while it is read -/
def WF1 (fr : FR) : Prop := fr 1 ≤ 6 ∧ fr 3 ≤ 4 ∧ fr 4 ≤ 8 ∧ fr 5 ≤ 1 ∧ (∀ p, p < 8 → fr (29 + p) < 256) ∧ ∀ p, p < 8 → fr (37 + p) < 256
def WI (n q : Nat) (x : PX FR) : Prop := match x with
  | .ok (p, fr) => q ≤ p ∧ p ≤ n ∧ fr 276 ≤ p ∧ WF1 fr
  | .error (w, a) => 1 ≤ w ∧ w ≤ 4 ∧ a ≤ n
theorem WF1.up {fr : FR} {i y : Nat} (h : WF1 fr) (hi : i < 29 ∨ 45 ≤ i) (h1 : i = 1 → y ≤ 6) (h3 : i = 3 → y ≤ 4) (h4 : i = 4 → y ≤ 8) (h5 : i = 5 → y ≤ 1) : WF1 (va_up fr i y) := by
  obtain ⟨a1, a3, a4, a5, a6, a7⟩ := h
  have one : ∀ k m, fr k ≤ m → (i = k → y ≤ m) → va_up fr i y k ≤ m := fun k m q r => by
    by_cases e : k = i
    · rw [e, va_up_self]; exact r e.symm
    · rw [va_up_ne _ _ e]; exact q
  refine ⟨one 1 6 a1 h1, one 3 4 a3 h3, one 4 8 a4 h4, one 5 1 a5 h5, fun p hp => ?_, fun p hp => ?_⟩
  · rw [va_up_ne _ _ (by omega)]; exact a6 p hp
  · rw [va_up_ne _ _ (by omega)]; exact a7 p hp
theorem WI.mono {n q q2 : Nat} {x : PX FR} (h : WI n q x) (hq : q2 ≤ q) : WI n q2 x := by
  match x, h with
  | .ok (p, L), h => exact ⟨Nat.le_trans hq h.1, h.2⟩
  | .error (w, a), h => exact h
theorem WI.w0 {n q : Nat} {x : PX FR} (h : WI n q x) : WI n 0 x := h.mono (Nat.zero_le _)
def GoodL (n : Nat) (F : PL) : Prop := ∀ q p fr, WI n q (.ok (p, fr)) → WI n q (F p fr)
theorem WI.b {n q : Nat} {x : PX FR} {F : PL} (h : WI n q x) (hF : GoodL n F) : WI n q (bnd x F) := by
  match x, h with
  | .ok (p, L), h => exact hF q p L h
  | .error (w, a), h => exact h
theorem WI.nx {tp : Nat → Nat} {n q p : Nat} {fr : FR} (h : WI n q (.ok (p, fr))) (hk : lxK tp n p ≠ 25) : WI n (q + 1) (pNx tp n p fr) := by
  obtain ⟨h1, h2, h3, h4⟩ := h
  have a1 := lxE_gt hk
  have a2 := lxS_le tp n p
  exact ⟨by omega, lxE_n h2, by omega, h4⟩
theorem WI.nx0 {tp : Nat → Nat} {n q p : Nat} {fr : FR} (h : WI n q (.ok (p, fr))) : WI n q (pNx tp n p fr) := by
  obtain ⟨h1, h2, h3, h4⟩ := h
  have a1 := lxE_le (tp := tp) (n := n) (p := p)
  exact ⟨by omega, lxE_n h2, by omega, h4⟩
theorem WI.fl {tp : Nat → Nat} {n q p f : Nat} {L : FR} (h : WI n q (.ok (p, L))) (h1 : 1 ≤ f) (h2 : f ≤ 4) : WI n q (pFl tp n f p) := by
  refine ⟨?_, ?_, lxS_n h.2.1⟩ <;> split <;> omega
theorem l_eat {tp : Nat → Nat} {n k : Nat} : GoodL n (pEat tp n k) := by
  intro q p L h
  unfold pEat
  split
  · exact h.nx0
  · exact h.fl (by decide) (by decide)
theorem l_set {tp : Nat → Nat} {n lo i M : Nat} {H : FR → Nat} (hi : i < 29 ∨ (45 ≤ i ∧ i ≠ 276)) (hM : ∀ fr, WF1 fr → H fr ≤ M + 1) (h1 : i = 1 → M ≤ 6) (h3 : i ≠ 3) (h4 : i = 4 → M ≤ 8) (h5 : i ≠ 5) : GoodL n (pSet tp n lo H i) := by
  intro q p L h
  unfold pSet
  split
  · split
    · rename_i g
      have hm := hM L h.2.2.2
      have := h.nx0 (tp := tp)
      refine ⟨this.1, this.2.1, ?_, WF1.up this.2.2.2 (by omega) (fun e => by have := h1 e; omega) (fun e => absurd e h3) (fun e => by have := h4 e; omega) (fun e => absurd e h5)⟩
      rw [va_up_ne _ _ (by omega)]; exact this.2.2.1
    · exact h.fl (by decide) (by decide)
  · exact h.fl (by decide) (by decide)
theorem l_tk {tp : Nat → Nat} {n lo : Nat} {H : FR → Nat} : GoodL n (pTk tp n lo H) := by
  intro q p L h
  unfold pTk
  split
  · split
    · exact h.nx0
    · exact h.fl (by decide) (by decide)
  · exact h.fl (by decide) (by decide)
theorem l_ends {tp : Nat → Nat} {n : Nat} : GoodL n (pEnds tp n) := by
  intro q p L h
  have h1 : WI n q (pEat tp n 30 p L) := l_eat q p L h
  refine h1.b (fun q p L h => ?_)
  refine ⟨h.1, h.2.1, ?_, WF1.up h.2.2.2 (by decide) (fun e => absurd e (by decide)) (fun e => absurd e (by decide)) (fun e => absurd e (by decide)) (fun e => absurd e (by decide))⟩
  show va_up L 0 (L 0 + 1) 276 ≤ p
  rw [va_up_ne _ _ (by decide)]; exact h.2.2.1
theorem WF1.ten {M : Nat} : ∀ fr, WF1 fr → (fun _ : FR => M + 1) fr ≤ M + 1 := fun _ _ => Nat.le_refl _
theorem l_fl5 {tp : Nat → Nat} {n g q p : Nat} {fr : FR} (hg : g < 4) (h : WI n q (.ok (p, fr))) (hk : lxK tp n p ≠ 25) : WI n (q + 1) (pFl5 tp n g p fr) := (h.nx hk).b (l_set (M := 6) (by omega) (fun fr w => by have := w.1; show fr 1 + 1 ≤ 7; omega) (by omega) (by omega) (by omega) (by omega))
theorem l_fl6 {tp : Nat → Nat} {n g q p : Nat} {fr : FR} (hg : g < 4) (h : WI n q (.ok (p, fr))) (hk : lxK tp n p ≠ 25) : WI n (q + 1) (pFl6 tp n g p fr) := (h.nx hk).b (l_set (M := 9) (by omega) WF1.ten (by omega) (by omega) (by omega) (by omega))
theorem l_flags {tp : Nat → Nat} {n g : Nat} (hg : g < 4) : ∀ m, GoodL n (pFlags tp n g m) := by
  intro m
  induction m with
  | zero => intro q p L h; exact h
  | succ m ih =>
    intro q p L h
    unfold pFlags
    split
    · rename_i e; exact ((l_fl5 hg h (by rw [e]; decide)).mono (Nat.le_succ _)).b ih
    · split
      · rename_i e; exact ((l_fl6 hg h (by rw [e]; decide)).mono (Nat.le_succ _)).b ih
      · exact h
theorem scan_all {q : Nat → Bool} {tp : Nat → Nat} {n : Nat} : ∀ f p j, p ≤ j → j < scan q tp n f p → q (tp j) = true := by
  intro f
  induction f with
  | zero => intro p j h1 h2; exact absurd h2 (by unfold scan; omega)
  | succ f ih =>
    intro p j h1 h2
    unfold scan at h2
    split at h2
    · rename_i g
      by_cases e : j = p
      · rw [e]; exact g.2
      · exact ih (p + 1) j (by omega) h2
    · omega
theorem lxN_lt (tp : Nat → Nat) (n p : Nat) : lxN tp n p < 1000 := by
  unfold lxN tkN
  refine (dVal_lt tp _ _ (fun j hj => ?_)).1
  have := scan_all (q := isDg) (tp := tp) (n := n) (n - lxS tp n p) (lxS tp n p) (lxS tp n p + j) (by omega) (by unfold lxD at hj; omega)
  unfold isDg at this
  simp at this
  exact this.2
theorem rng_i {a b : Int32} {lo H N : Nat} (ha : a = nI lo) (hb : b = nI H - 1) (hlo : lo ≤ 10) (hH : H ≤ 1000) (hN : N < 1000) : (a.toInt64 ≤ (nI N).toInt64 ∧ (nI N).toInt64 ≤ b.toInt64) ↔ lo ≤ N ∧ N < H := by
  rw [i2l_le, i2l_le, ha, hb, nI_leI (by omega) (by omega)]
  match H, hH with
  | 0, _ => exact ⟨fun z => absurd z.2 (fun y => absurd (Int32.lt_of_le_of_lt y (show nI 0 - 1 < 0 by decide)) (nI_pos (by omega))), fun z => absurd z.2 (Nat.not_lt_zero _)⟩
  | k + 1, hk => rw [nI_pred, nI_leI (by omega) (by omega)]; exact ⟨fun z => ⟨z.1, Nat.lt_succ_of_le z.2⟩, fun z => ⟨z.1, Nat.le_of_lt_succ z.2⟩⟩
set_option maxRecDepth 20000 in
set_option maxHeartbeats 1000000 in
theorem G_takes {E : EnvT} {d : Nat} {h0 : Hp} {α : Type} {tp : Nat → Nat} {n : Nat} {rep : α → Nat → Nat} {v0 : Nat → Int32} {x : PX α} {a b : Int32} {lo : Nat} {H : α → Nat} (hab : ∀ p L, x = .ok (p, L) → a = nI lo ∧ b = nI (H L) - 1 ∧ H L ≤ 1000) (hlo : lo ≤ 10) (ht : TOk tp n) (hd : 7 ≤ d) (hT : RT tp n rep v0 x h0) : Cn E mX10_takes d [.ref 117, .int a, .int b] h0 (fun r h2 => ∃ w, r = some w ∧ ∃ z : Int32, w = .int z ∧ Ex [117, 121] h0 h2 ∧ (∀ p L, x = .ok (p, L) → lxK tp n p = 24 → lo ≤ lxN tp n p → lxN tp n p < H L → z = nI (lxN tp n p)) ∧ RT tp n rep v0 (bnd x (pTk tp n lo H)) h2) := by
  have hx : Ex [117, 121] h0 h0 := Ex.rf
  have hTo := hT
  obtain ⟨v, g, c117, c120, c121, hN, hR⟩ := hTo
  match x, hab, hT, hR with
  | .error (we, ae), hab, hT, hR =>
    show Cn E mX10_takes d [.ref 117, .int a, .int b] h0 (fun r h2 => ∃ w, r = some w ∧ ∃ z : Int32, w = .int z ∧ Ex [117, 121] h0 h2 ∧ (∀ p L, (.error (we, ae) : PX α) = .ok (p, L) → lxK tp n p = 24 → lo ≤ lxN tp n p → lxN tp n p < H L → z = nI (lxN tp n p)) ∧ RT tp n rep v0 (.error (we, ae) : PX α) h2)
    refine Cn.go (ls := [.ref 117, .int a, .int b, .float 0]) (by decide +kernel) rfl (Nat.le_of_ble_eq_true rfl) ?_
    refine r_aload_n (pc2 := 1) 0 dX10_takes_0 rfl rfl rfl rfl ?_
    refine r_bipush (pc2 := 3) (v := 24) dX10_takes_1 (by decide) rfl ?_
    refine r_callV1 (pc2 := 6) (As := [.int 24]) (st := []) kX10_142 rfl rfl dX10_takes_3 c117 (by decide) rfl rfl (Nat.le_of_ble_eq_true rfl) (by omega) ((G_is (k := 24) (by decide) hT).mono fun r h2 q => ⟨q.1.trans (by rw [if_neg (isB_e)]), q.2⟩) rfl (fun h2 hq3 => ?_)
    subst hq3
    refine r_if_ne (tgt := 17) (pc2 := 9) dX10_takes_6 (by decide) rfl (fun b6 => ?_) (fun b6 => ?_)
    · exact absurd b6 (by decide)
    · skip
      refine r_aload_n (pc2 := 10) 0 dX10_takes_9 rfl rfl rfl rfl ?_
      refine r_iconst (pc2 := 11) (v := 2) dX10_takes_10 (by decide) rfl ?_
      refine r_callV0 (pc2 := 14) (As := [.int 2]) (st := []) kX10_148 rfl rfl dX10_takes_11 c117 (by decide) rfl rfl (Nat.le_of_ble_eq_true rfl) (by omega) (G_fails (f := 2) (by decide) (by decide) hT) rfl (fun h hq11 => ?_)
      obtain ⟨hxc, hT⟩ := hq11
      have hx := hx.trans hxc (by decide)
      have hTo := hT
      obtain ⟨v, g, c117, c120, c121, hN, hR⟩ := hTo
      have hw2 : ¬ v 11 = 0 := fun z => nI_w0 hR.1.1 hR.1.2.1 (hR.2.1.symm.trans z)
      refine r_goto (pc2 := 37) dX10_takes_14 (by decide) ?_
      refine r_aload_n (pc2 := 38) 0 dX10_takes_37 rfl rfl rfl rfl ?_
      refine r_getf (pc2 := 41) (v := .int (v 10)) fX10_131 dX10_takes_38 c117 (by decide) rfl rfl ?_
      refine r_topi (fun x41 e41 => ?_)
      refine r_istore_n (pc2 := 42) (ls2 := [.ref 117, .int a, .int b, .int x41]) 3 dX10_takes_41 rfl (by decide) rfl rfl rfl ?_
      refine r_aload_n (pc2 := 43) 0 dX10_takes_42 rfl rfl rfl rfl ?_
      refine r_getf (pc2 := 46) (v := .int (v 11)) fX10_136 dX10_takes_43 c117 (by decide) rfl rfl ?_
      refine r_if_ne (tgt := 53) (pc2 := 49) dX10_takes_46 (by decide) rfl (fun b46 => ?_) (fun b46 => ?_)
      · skip
        refine r_iload_n (pc2 := 54) 3 dX10_takes_53 rfl rfl rfl ?_
        exact r_iret rfl dX10_takes_54 ⟨_, rfl, x41, rfl, hx, (fun p2 L2 z => by cases z), hT⟩
      · exact absurd b46 hw2
  | .ok (p, L), hab, hT, hR =>
    obtain ⟨ha, hb, hH⟩ := hab p L rfl
    by_cases hk : lxK tp n p = 24
    · by_cases hr : lo ≤ lxN tp n p ∧ lxN tp n p < H L
      · have eG : bnd (.ok (p, L) : PX α) (pTk tp n lo H) = pNx tp n p L := by show pTk tp n lo H p L = _; unfold pTk; rw [if_pos hk, if_pos hr]
        rw [eG]
        refine Cn.go (ls := [.ref 117, .int a, .int b, .float 0]) (by decide +kernel) rfl (Nat.le_of_ble_eq_true rfl) ?_
        refine r_aload_n (pc2 := 1) 0 dX10_takes_0 rfl rfl rfl rfl ?_
        refine r_bipush (pc2 := 3) (v := 24) dX10_takes_1 (by decide) rfl ?_
        refine r_callV1 (pc2 := 6) (As := [.int 24]) (st := []) kX10_142 rfl rfl dX10_takes_3 c117 (by decide) rfl rfl (Nat.le_of_ble_eq_true rfl) (by omega) ((G_is (k := 24) (by decide) hT).mono fun r h2 q => ⟨q.1.trans (by rw [if_pos (isB_y hk)]), q.2⟩) rfl (fun h2 hq3 => ?_)
        subst hq3
        refine r_if_ne (tgt := 17) (pc2 := 9) dX10_takes_6 (by decide) rfl (fun b6 => ?_) (fun b6 => ?_)
        · skip
          refine r_aload_n (pc2 := 18) 0 dX10_takes_17 rfl rfl rfl rfl ?_
          refine r_getf (pc2 := 21) (v := .int (v 10)) fX10_131 dX10_takes_18 c117 (by decide) rfl rfl ?_
          refine r_cast (nI (lxN tp n p)) (hR.2.1.2.2.2.2.2 hk) ?_
          refine r_i2l (pc2 := 22) dX10_takes_21 rfl ?_
          refine r_iload_n (pc2 := 23) 1 dX10_takes_22 rfl rfl rfl ?_
          refine r_i2l (pc2 := 24) dX10_takes_23 rfl ?_
          refine r_iload_n (pc2 := 25) 2 dX10_takes_24 rfl rfl rfl ?_
          refine r_i2l (pc2 := 26) dX10_takes_25 rfl ?_
          refine r_callS1 (pc2 := 29) (As := [.long (Int32.toInt64 (nI (lxN tp n p))), .long (Int32.toInt64 a), .long (Int32.toInt64 b)]) (st := []) kX10_152 dX10_takes_26 rfl rfl (Nat.le_of_ble_eq_true rfl) (by omega) ((c_within _ _ _).mono fun r h2 q => ⟨q.1.trans (by rw [if_pos ((rng_i ha hb hlo hH (lxN_lt tp n p)).mpr hr)]), q.2⟩) rfl (fun h2 hq26 => ?_)
          subst hq26
          refine r_if_ne (tgt := 37) (pc2 := 32) dX10_takes_29 (by decide) rfl (fun b29 => ?_) (fun b29 => ?_)
          · skip
            refine r_aload_n (pc2 := 38) 0 dX10_takes_37 rfl rfl rfl rfl ?_
            refine r_getf (pc2 := 41) (v := .int (v 10)) fX10_131 dX10_takes_38 c117 (by decide) rfl rfl ?_
            refine r_cast (nI (lxN tp n p)) (hR.2.1.2.2.2.2.2 hk) ?_
            refine r_istore_n (pc2 := 42) (ls2 := [.ref 117, .int a, .int b, .int (nI (lxN tp n p))]) 3 dX10_takes_41 rfl (by decide) rfl rfl rfl ?_
            refine r_aload_n (pc2 := 43) 0 dX10_takes_42 rfl rfl rfl rfl ?_
            refine r_getf (pc2 := 46) (v := .int (v 11)) fX10_136 dX10_takes_43 c117 (by decide) rfl rfl ?_
            refine r_if_ne (tgt := 53) (pc2 := 49) dX10_takes_46 (by decide) rfl (fun b46 => ?_) (fun b46 => ?_)
            · exact absurd hR.2.1.2.1 b46
            · skip
              refine r_aload_n (pc2 := 50) 0 dX10_takes_49 rfl rfl rfl rfl ?_
              refine r_callV0 (pc2 := 53) (As := []) (st := []) kX10_145 rfl rfl dX10_takes_50 c117 (by decide) rfl rfl (Nat.le_of_ble_eq_true rfl) (by omega) (G_next ht (by omega) (p := p) (L := L) hT) rfl (fun h hq50 => ?_)
              obtain ⟨hxc, hT⟩ := hq50
              have hx := hx.trans hxc (by decide)
              have hTo := hT
              obtain ⟨v, g, c117, c120, c121, hN, hR⟩ := hTo
              refine r_iload_n (pc2 := 54) 3 dX10_takes_53 rfl rfl rfl ?_
              exact r_iret rfl dX10_takes_54 ⟨_, rfl, nI (lxN tp n p), rfl, hx, (fun p2 L2 z q r1 r2 => by cases z; rfl), hT⟩
          · exact absurd b29 (by decide)
        · exact absurd b6 (by decide)
      · have eG : bnd (.ok (p, L) : PX α) (pTk tp n lo H) = pFl tp n 3 p := by show pTk tp n lo H p L = _; unfold pTk; rw [if_pos hk, if_neg hr]
        rw [eG]
        refine Cn.go (ls := [.ref 117, .int a, .int b, .float 0]) (by decide +kernel) rfl (Nat.le_of_ble_eq_true rfl) ?_
        refine r_aload_n (pc2 := 1) 0 dX10_takes_0 rfl rfl rfl rfl ?_
        refine r_bipush (pc2 := 3) (v := 24) dX10_takes_1 (by decide) rfl ?_
        refine r_callV1 (pc2 := 6) (As := [.int 24]) (st := []) kX10_142 rfl rfl dX10_takes_3 c117 (by decide) rfl rfl (Nat.le_of_ble_eq_true rfl) (by omega) ((G_is (k := 24) (by decide) hT).mono fun r h2 q => ⟨q.1.trans (by rw [if_pos (isB_y hk)]), q.2⟩) rfl (fun h2 hq3 => ?_)
        subst hq3
        refine r_if_ne (tgt := 17) (pc2 := 9) dX10_takes_6 (by decide) rfl (fun b6 => ?_) (fun b6 => ?_)
        · skip
          refine r_aload_n (pc2 := 18) 0 dX10_takes_17 rfl rfl rfl rfl ?_
          refine r_getf (pc2 := 21) (v := .int (v 10)) fX10_131 dX10_takes_18 c117 (by decide) rfl rfl ?_
          refine r_cast (nI (lxN tp n p)) (hR.2.1.2.2.2.2.2 hk) ?_
          refine r_i2l (pc2 := 22) dX10_takes_21 rfl ?_
          refine r_iload_n (pc2 := 23) 1 dX10_takes_22 rfl rfl rfl ?_
          refine r_i2l (pc2 := 24) dX10_takes_23 rfl ?_
          refine r_iload_n (pc2 := 25) 2 dX10_takes_24 rfl rfl rfl ?_
          refine r_i2l (pc2 := 26) dX10_takes_25 rfl ?_
          refine r_callS1 (pc2 := 29) (As := [.long (Int32.toInt64 (nI (lxN tp n p))), .long (Int32.toInt64 a), .long (Int32.toInt64 b)]) (st := []) kX10_152 dX10_takes_26 rfl rfl (Nat.le_of_ble_eq_true rfl) (by omega) ((c_within _ _ _).mono fun r h2 q => ⟨q.1.trans (by rw [if_neg (fun z => hr ((rng_i ha hb hlo hH (lxN_lt tp n p)).mp z))]), q.2⟩) rfl (fun h2 hq26 => ?_)
          subst hq26
          refine r_if_ne (tgt := 37) (pc2 := 32) dX10_takes_29 (by decide) rfl (fun b29 => ?_) (fun b29 => ?_)
          · exact absurd b29 (by decide)
          · skip
            refine r_aload_n (pc2 := 33) 0 dX10_takes_32 rfl rfl rfl rfl ?_
            refine r_iconst (pc2 := 34) (v := 3) dX10_takes_33 (by decide) rfl ?_
            refine r_callV0 (pc2 := 37) (As := [.int 3]) (st := []) kX10_148 rfl rfl dX10_takes_34 c117 (by decide) rfl rfl (Nat.le_of_ble_eq_true rfl) (by omega) (G_fails (x := .ok (p, L)) (f := 3) (by decide) (by decide) hT) rfl (fun h hq34 => ?_)
            obtain ⟨hxc, hT⟩ := hq34
            have hx := hx.trans hxc (by decide)
            have hTo := hT
            obtain ⟨v, g, c117, c120, c121, hN, hR⟩ := hTo
            have hw2 : ¬ v 11 = 0 := fun z => nI_w0 hR.1.1 hR.1.2.1 (hR.2.1.symm.trans z)
            refine r_aload_n (pc2 := 38) 0 dX10_takes_37 rfl rfl rfl rfl ?_
            refine r_getf (pc2 := 41) (v := .int (v 10)) fX10_131 dX10_takes_38 c117 (by decide) rfl rfl ?_
            refine r_topi (fun x41 e41 => ?_)
            refine r_istore_n (pc2 := 42) (ls2 := [.ref 117, .int a, .int b, .int x41]) 3 dX10_takes_41 rfl (by decide) rfl rfl rfl ?_
            refine r_aload_n (pc2 := 43) 0 dX10_takes_42 rfl rfl rfl rfl ?_
            refine r_getf (pc2 := 46) (v := .int (v 11)) fX10_136 dX10_takes_43 c117 (by decide) rfl rfl ?_
            refine r_if_ne (tgt := 53) (pc2 := 49) dX10_takes_46 (by decide) rfl (fun b46 => ?_) (fun b46 => ?_)
            · skip
              refine r_iload_n (pc2 := 54) 3 dX10_takes_53 rfl rfl rfl ?_
              exact r_iret rfl dX10_takes_54 ⟨_, rfl, x41, rfl, hx, (fun p2 L2 z q r1 r2 => by cases z; exact absurd ⟨r1, r2⟩ hr), hT⟩
            · exact absurd b46 hw2
        · exact absurd b6 (by decide)
    · have eG : bnd (.ok (p, L) : PX α) (pTk tp n lo H) = pFl tp n 2 p := by show pTk tp n lo H p L = _; unfold pTk; rw [if_neg hk]
      rw [eG]
      refine Cn.go (ls := [.ref 117, .int a, .int b, .float 0]) (by decide +kernel) rfl (Nat.le_of_ble_eq_true rfl) ?_
      refine r_aload_n (pc2 := 1) 0 dX10_takes_0 rfl rfl rfl rfl ?_
      refine r_bipush (pc2 := 3) (v := 24) dX10_takes_1 (by decide) rfl ?_
      refine r_callV1 (pc2 := 6) (As := [.int 24]) (st := []) kX10_142 rfl rfl dX10_takes_3 c117 (by decide) rfl rfl (Nat.le_of_ble_eq_true rfl) (by omega) ((G_is (k := 24) (by decide) hT).mono fun r h2 q => ⟨q.1.trans (by rw [if_neg (isB_n hk)]), q.2⟩) rfl (fun h2 hq3 => ?_)
      subst hq3
      refine r_if_ne (tgt := 17) (pc2 := 9) dX10_takes_6 (by decide) rfl (fun b6 => ?_) (fun b6 => ?_)
      · exact absurd b6 (by decide)
      · skip
        refine r_aload_n (pc2 := 10) 0 dX10_takes_9 rfl rfl rfl rfl ?_
        refine r_iconst (pc2 := 11) (v := 2) dX10_takes_10 (by decide) rfl ?_
        refine r_callV0 (pc2 := 14) (As := [.int 2]) (st := []) kX10_148 rfl rfl dX10_takes_11 c117 (by decide) rfl rfl (Nat.le_of_ble_eq_true rfl) (by omega) (G_fails (x := .ok (p, L)) (f := 2) (by decide) (by decide) hT) rfl (fun h hq11 => ?_)
        obtain ⟨hxc, hT⟩ := hq11
        have hx := hx.trans hxc (by decide)
        have hTo := hT
        obtain ⟨v, g, c117, c120, c121, hN, hR⟩ := hTo
        have hw2 : ¬ v 11 = 0 := fun z => nI_w0 hR.1.1 hR.1.2.1 (hR.2.1.symm.trans z)
        refine r_goto (pc2 := 37) dX10_takes_14 (by decide) ?_
        refine r_aload_n (pc2 := 38) 0 dX10_takes_37 rfl rfl rfl rfl ?_
        refine r_getf (pc2 := 41) (v := .int (v 10)) fX10_131 dX10_takes_38 c117 (by decide) rfl rfl ?_
        refine r_topi (fun x41 e41 => ?_)
        refine r_istore_n (pc2 := 42) (ls2 := [.ref 117, .int a, .int b, .int x41]) 3 dX10_takes_41 rfl (by decide) rfl rfl rfl ?_
        refine r_aload_n (pc2 := 43) 0 dX10_takes_42 rfl rfl rfl rfl ?_
        refine r_getf (pc2 := 46) (v := .int (v 11)) fX10_136 dX10_takes_43 c117 (by decide) rfl rfl ?_
        refine r_if_ne (tgt := 53) (pc2 := 49) dX10_takes_46 (by decide) rfl (fun b46 => ?_) (fun b46 => ?_)
        · skip
          refine r_iload_n (pc2 := 54) 3 dX10_takes_53 rfl rfl rfl ?_
          exact r_iret rfl dX10_takes_54 ⟨_, rfl, x41, rfl, hx, (fun p2 L2 z q => by cases z; exact absurd q hk), hT⟩
        · exact absurd b46 hw2
theorem RV_set {tp : Nat → Nat} {n lo i : Nat} {H : FR → Nat} {x : PX FR} {v g : Nat → Int32} {z : Int32} (hR : RV tp n rI (bnd x (pTk tp n lo H)) v g) (hz : ∀ p L, x = .ok (p, L) → lxK tp n p = 24 → lo ≤ lxN tp n p → lxN tp n p < H L → z = nI (lxN tp n p)) : RV tp n rI (bnd x (pSet tp n lo H i)) v (upd g i z) := by
  match x, hR, hz with
  | .error (w, a), hR, hz => exact hR
  | .ok (p, fr), hR, hz =>
    have hR2 : RV tp n rI (pTk tp n lo H p fr) v g := hR
    show RV tp n rI (pSet tp n lo H i p fr) v (upd g i z)
    unfold pTk at hR2
    unfold pSet
    by_cases hk : lxK tp n p = 24
    · rw [if_pos hk] at hR2 ⊢
      by_cases hr : lo ≤ lxN tp n p ∧ lxN tp n p < H fr
      · rw [if_pos hr] at hR2 ⊢
        refine ⟨hR2.1, hR2.2.1, ?_⟩
        rw [hR2.2.2, hz p fr rfl hk hr.1 hr.2]
        exact upd_nA fr i _
      · rw [if_neg hr] at hR2 ⊢; exact hR2
    · rw [if_neg hk] at hR2 ⊢; exact hR2
theorem RV_inc {tp : Nat → Nat} {n i : Nat} {x : PX FR} {v g : Nat → Int32} (hR : RV tp n rI x v g) : RV tp n rI (bnd x (pUp (fun fr => va_up fr i (fr i + 1)))) v (upd g i (g i + 1)) := by
  match x, hR with
  | .error (w, a), hR => exact hR
  | .ok (p, fr), hR =>
    refine ⟨hR.1, hR.2.1, ?_⟩
    rw [hR.2.2]
    show upd (nA fr) i (nI (fr i) + 1) = nA (va_up fr i (fr i + 1))
    rw [nI_1]
    exact upd_nA fr i _
set_option maxRecDepth 20000 in
set_option maxHeartbeats 1000000 in
theorem C_ends {E : EnvT} {d : Nat} {h0 : Hp} {tp : Nat → Nat} {n : Nat} {v0 : Nat → Int32} {x : PX FR} (ht : TOk tp n) (hd : 8 ≤ d) (hT : RT tp n rI v0 x h0) : Cn E mX10_ends d [.ref 117] h0 (RQ tp n rI v0 h0 none (bnd x (pEnds tp n))) := by
  have hx : Ex [117, 121] h0 h0 := Ex.rf
  have hTo := hT
  obtain ⟨v, g, c117, c120, c121, hN, hR⟩ := hTo
  have eF : bnd x (pEnds tp n) = (bnd (bnd x (pEat tp n 30)) (pUp (fun fr => va_up fr 0 (fr 0 + 1)))) := by cases x <;> rfl
  rw [eF]
  have k14 : ∀ h : Hp, Ex [117, 121] h0 h → RT tp n rI v0 (bnd x (pEat tp n 30)) h → Fr E mX10_ends d 14 [.ref 117] [] h (RQ tp n rI v0 h0 none (bnd (bnd x (pEat tp n 30)) (pUp (fun fr => va_up fr 0 (fr 0 + 1))))) := by
    intro h hx hT
    have hTo := hT
    obtain ⟨v, g, c117, c120, c121, hN, hR⟩ := hTo
    refine r_aload_n (pc2 := 15) 0 dX10_ends_14 rfl rfl rfl rfl ?_
    refine r_getf (pc2 := 18) (v := .ref 121) fX10_24 dX10_ends_15 c117 (by decide) rfl rfl ?_
    refine r_iconst (pc2 := 19) (v := 0) dX10_ends_18 (by decide) rfl ?_
    refine r_dup2 (pc2 := 20) dX10_ends_19 rfl rfl rfl ?_
    refine r_ialdN (pc2 := 21) 0 dX10_ends_20 c121 (by decide) rfl (by decide) (by decide) rfl ?_
    refine r_iconst (pc2 := 22) (v := 1) dX10_ends_21 (by decide) rfl ?_
    refine r_iadd (pc2 := 23) dX10_ends_22 rfl ?_
    refine r_topi (fun y23 ey23 => ?_)
    refine r_iastN (pc2 := 24) 0 dX10_ends_23 c121 (by decide) rfl (by decide) (by decide) rfl (fun h z23 o23 c121 => ?_)
    have c117 := (o23 117 (by decide)).trans c117
    have c120 := (o23 120 (by decide)).trans c120
    have hx := hx.step (a := 121) (by decide) z23 o23
    exact r_vret rfl dX10_ends_24 ⟨rfl, hx, v, _, c117, c120, c121, hN, (by rw [ey23]; exact RV_inc hR)⟩
  refine Cn.go (ls := [.ref 117]) (by decide +kernel) rfl (Nat.le_of_ble_eq_true rfl) ?_
  refine r_aload_n (pc2 := 1) 0 dX10_ends_0 rfl rfl rfl rfl ?_
  refine r_bipush (pc2 := 3) (v := 30) dX10_ends_1 (by decide) rfl ?_
  refine r_callV1 (pc2 := 6) (As := [.int 30]) (st := []) kX10_171 rfl rfl dX10_ends_3 c117 (by decide) rfl rfl (Nat.le_of_ble_eq_true rfl) (by omega) (G_eats (x := x) (k := 30) (by decide) ht (by omega) hT) rfl (fun h hq3 => ?_)
  obtain ⟨hxc, hT⟩ := hq3
  have hx := hx.trans hxc (by decide)
  have hTo := hT
  obtain ⟨v, g, c117, c120, c121, hN, hR⟩ := hTo
  refine r_if_ne (tgt := 14) (pc2 := 9) dX10_ends_6 (by decide) rfl (fun b6 => ?_) (fun b6 => ?_)
  · skip
    exact k14 _ hx (by rw [pEat_t (iteB1 b6)]; rw [if_pos (iteB1 b6)] at hT; exact hT)
  · skip
    rw [if_neg (iteB0 b6)] at hT
    refine r_aload_n (pc2 := 10) 0 dX10_ends_9 rfl rfl rfl rfl ?_
    refine r_iconst (pc2 := 11) (v := 2) dX10_ends_10 (by decide) rfl ?_
    refine r_callV0 (pc2 := 14) (As := [.int 2]) (st := []) kX10_148 rfl rfl dX10_ends_11 c117 (by decide) rfl rfl (Nat.le_of_ble_eq_true rfl) (by omega) (G_fails (x := x) (f := 2) (by decide) (by decide) hT) rfl (fun h hq11 => ?_)
    obtain ⟨hxc, hT⟩ := hq11
    have hx := hx.trans hxc (by decide)
    have hTo := hT
    obtain ⟨v, g, c117, c120, c121, hN, hR⟩ := hTo
    exact k14 _ hx (by rw [pEat_f (iteB0 b6)]; exact hT)
set_option maxRecDepth 20000 in
set_option maxHeartbeats 1000000 in
theorem C_flag5 {E : EnvT} {d : Nat} {h0 : Hp} {tp : Nat → Nat} {n : Nat} {v0 : Nat → Int32} {p g0 : Nat} {fr : FR} (ht : TOk tp n) (hd : 8 ≤ d) (hg : g0 < 4) (h1 : fr 1 ≤ 6) (hk : lxK tp n p = 5) (hT : RT tp n rI v0 (.ok (p, fr)) h0) : Cn E mX10_readFlag d [.ref 117, .int (nI g0)] h0 (RQ tp n rI v0 h0 (some (.int (if okB (pFl5 tp n g0 p fr) = true then (1 : Int32) else 0))) (pFl5 tp n g0 p fr)) := by
  have hx : Ex [117, 121] h0 h0 := Ex.rf
  have hTo := hT
  obtain ⟨v, g, c117, c120, c121, hN, hR⟩ := hTo
  have k61 : ∀ h : Hp, Ex [117, 121] h0 h → RT tp n rI v0 (pFl5 tp n g0 p fr) h → Fr E mX10_readFlag d 61 [.ref 117, .int (nI g0)] [] h (RQ tp n rI v0 h0 (some (.int (if okB (pFl5 tp n g0 p fr) = true then (1 : Int32) else 0))) (pFl5 tp n g0 p fr)) := by
    intro h hx hT
    have hTo := hT
    obtain ⟨v, g, c117, c120, c121, hN, hR⟩ := hTo
    refine r_aload_n (pc2 := 62) 0 dX10_readFlag_61 rfl rfl rfl rfl ?_
    refine r_getf (pc2 := 65) (v := .int (v 11)) fX10_136 dX10_readFlag_62 c117 (by decide) rfl rfl ?_
    refine r_if_ne (tgt := 72) (pc2 := 68) dX10_readFlag_65 (by decide) rfl (fun b65 => ?_) (fun b65 => ?_)
    · skip
      refine r_iconst (pc2 := 73) (v := 0) dX10_readFlag_72 (by decide) rfl ?_
      exact r_zret (ty := .boolean) rfl (by decide) dX10_readFlag_73 ⟨by cases hX : (pFl5 tp n g0 p fr) with | ok y => (first | rfl | exact absurd (by rw [hX] at hR; exact hR.2.1.2.1) b65) | error y => (first | rfl | exact absurd b65 (by rw [hX] at hR; exact (fun z => nI_w0 hR.1.1 hR.1.2.1 (hR.2.1.symm.trans z)))), hx, hT⟩
    · skip
      refine r_iconst (pc2 := 69) (v := 1) dX10_readFlag_68 (by decide) rfl ?_
      refine r_goto (pc2 := 73) dX10_readFlag_69 (by decide) ?_
      exact r_zret (ty := .boolean) rfl (by decide) dX10_readFlag_73 ⟨by cases hX : (pFl5 tp n g0 p fr) with | ok y => (first | rfl | exact absurd (by rw [hX] at hR; exact hR.2.1.2.1) b65) | error y => (first | rfl | exact absurd b65 (by rw [hX] at hR; exact (fun z => nI_w0 hR.1.1 hR.1.2.1 (hR.2.1.symm.trans z)))), hx, hT⟩
  refine Cn.go (ls := [.ref 117, .int (nI g0)]) (by decide +kernel) rfl (Nat.le_of_ble_eq_true rfl) ?_
  refine r_aload_n (pc2 := 1) 0 dX10_readFlag_0 rfl rfl rfl rfl ?_
  refine r_iconst (pc2 := 2) (v := 5) dX10_readFlag_1 (by decide) rfl ?_
  refine r_callV1 (pc2 := 5) (As := [.int 5]) (st := []) kX10_171 rfl rfl dX10_readFlag_2 c117 (by decide) rfl rfl (Nat.le_of_ble_eq_true rfl) (by omega) ((G_eats (x := .ok (p, fr)) (k := 5) (by decide) ht (by omega) hT).mono fun r h2 q => RQ.cast (r1 := some (.int 1)) (y := pNx tp n p fr) q (by rw [if_pos (isB_y hk)]) (if_pos (isB_y hk))) rfl (fun h hq2 => ?_)
  obtain ⟨hxc, hT⟩ := hq2
  have hx := hx.trans hxc (by decide)
  have hTo := hT
  obtain ⟨v, g, c117, c120, c121, hN, hR⟩ := hTo
  refine r_if_eq (tgt := 31) (pc2 := 8) dX10_readFlag_5 (by decide) rfl (fun b5 => ?_) (fun b5 => ?_)
  · exact absurd b5 (by decide)
  · skip
    refine r_aload_n (pc2 := 9) 0 dX10_readFlag_8 rfl rfl rfl rfl ?_
    refine r_getf (pc2 := 12) (v := .ref 121) fX10_24 dX10_readFlag_9 c117 (by decide) rfl rfl ?_
    refine r_bipush (pc2 := 14) (v := 22) dX10_readFlag_12 (by decide) rfl ?_
    refine r_iload_n (pc2 := 15) 1 dX10_readFlag_14 rfl rfl rfl ?_
    refine r_iadd (pc2 := 16) dX10_readFlag_15 rfl ?_
    refine r_cast (nI (22 + g0)) (nI_add 22 _) ?_
    refine r_aload_n (pc2 := 17) 0 dX10_readFlag_16 rfl rfl rfl rfl ?_
    refine r_iconst (pc2 := 18) (v := 0) dX10_readFlag_17 (by decide) rfl ?_
    refine r_aload_n (pc2 := 19) 0 dX10_readFlag_18 rfl rfl rfl rfl ?_
    refine r_getf (pc2 := 22) (v := .ref 121) fX10_24 dX10_readFlag_19 c117 (by decide) rfl rfl ?_
    refine r_iconst (pc2 := 23) (v := 1) dX10_readFlag_22 (by decide) rfl ?_
    refine r_ialdN (pc2 := 24) 1 dX10_readFlag_23 c121 (by decide) rfl (by decide) (by decide) rfl ?_
    refine r_callV2 (pc2 := 27) (As := [.int 0, .int (g 1)]) (st := [.int (nI (22 + g0)), .ref 121]) kX10_192 rfl rfl dX10_readFlag_24 c117 (by decide) rfl rfl (Nat.le_of_ble_eq_true rfl) (by omega) (G_takes (x := (pNx tp n p fr)) (lo := 0) (H := (fun fr => fr 1 + 1)) (fun p2 L2 z => by cases z; exact ⟨rfl, by rw [hR.2.2]; exact (nI_pred _).symm, by show fr 1 + 1 ≤ 1000; omega⟩) (by decide) ht (by omega) hT) rfl (fun v24 h hq24 => ?_)
    obtain ⟨z24, rfl, hxc, hz24, hT⟩ := hq24
    have hx := hx.trans hxc (by decide)
    have hTo := hT
    obtain ⟨v, g, c117, c120, c121, hN, hR⟩ := hTo
    refine r_iastN (pc2 := 28) (22 + g0) dX10_readFlag_27 c121 (by decide) rfl (by omega) (by decide) rfl (fun h z27 o27 c121 => ?_)
    have c117 := (o27 117 (by decide)).trans c117
    have c120 := (o27 120 (by decide)).trans c120
    have hx := hx.step (a := 121) (by decide) z27 o27
    refine r_goto (pc2 := 61) dX10_readFlag_28 (by decide) ?_
    exact k61 _ hx ⟨v, _, c117, c120, c121, hN, RV_set hR hz24⟩
set_option maxRecDepth 20000 in
set_option maxHeartbeats 1000000 in
theorem C_flag6 {E : EnvT} {d : Nat} {h0 : Hp} {tp : Nat → Nat} {n : Nat} {v0 : Nat → Int32} {p g0 : Nat} {fr : FR} (ht : TOk tp n) (hd : 8 ≤ d) (hg : g0 < 4) (h1 : fr 1 ≤ 6) (n5 : lxK tp n p ≠ 5) (hk : lxK tp n p = 6) (hT : RT tp n rI v0 (.ok (p, fr)) h0) : Cn E mX10_readFlag d [.ref 117, .int (nI g0)] h0 (RQ tp n rI v0 h0 (some (.int (if okB (pFl6 tp n g0 p fr) = true then (1 : Int32) else 0))) (pFl6 tp n g0 p fr)) := by
  have hx : Ex [117, 121] h0 h0 := Ex.rf
  have hTo := hT
  obtain ⟨v, g, c117, c120, c121, hN, hR⟩ := hTo
  have k61 : ∀ h : Hp, Ex [117, 121] h0 h → RT tp n rI v0 (pFl6 tp n g0 p fr) h → Fr E mX10_readFlag d 61 [.ref 117, .int (nI g0)] [] h (RQ tp n rI v0 h0 (some (.int (if okB (pFl6 tp n g0 p fr) = true then (1 : Int32) else 0))) (pFl6 tp n g0 p fr)) := by
    intro h hx hT
    have hTo := hT
    obtain ⟨v, g, c117, c120, c121, hN, hR⟩ := hTo
    refine r_aload_n (pc2 := 62) 0 dX10_readFlag_61 rfl rfl rfl rfl ?_
    refine r_getf (pc2 := 65) (v := .int (v 11)) fX10_136 dX10_readFlag_62 c117 (by decide) rfl rfl ?_
    refine r_if_ne (tgt := 72) (pc2 := 68) dX10_readFlag_65 (by decide) rfl (fun b65 => ?_) (fun b65 => ?_)
    · skip
      refine r_iconst (pc2 := 73) (v := 0) dX10_readFlag_72 (by decide) rfl ?_
      exact r_zret (ty := .boolean) rfl (by decide) dX10_readFlag_73 ⟨by cases hX : (pFl6 tp n g0 p fr) with | ok y => (first | rfl | exact absurd (by rw [hX] at hR; exact hR.2.1.2.1) b65) | error y => (first | rfl | exact absurd b65 (by rw [hX] at hR; exact (fun z => nI_w0 hR.1.1 hR.1.2.1 (hR.2.1.symm.trans z)))), hx, hT⟩
    · skip
      refine r_iconst (pc2 := 69) (v := 1) dX10_readFlag_68 (by decide) rfl ?_
      refine r_goto (pc2 := 73) dX10_readFlag_69 (by decide) ?_
      exact r_zret (ty := .boolean) rfl (by decide) dX10_readFlag_73 ⟨by cases hX : (pFl6 tp n g0 p fr) with | ok y => (first | rfl | exact absurd (by rw [hX] at hR; exact hR.2.1.2.1) b65) | error y => (first | rfl | exact absurd b65 (by rw [hX] at hR; exact (fun z => nI_w0 hR.1.1 hR.1.2.1 (hR.2.1.symm.trans z)))), hx, hT⟩
  refine Cn.go (ls := [.ref 117, .int (nI g0)]) (by decide +kernel) rfl (Nat.le_of_ble_eq_true rfl) ?_
  refine r_aload_n (pc2 := 1) 0 dX10_readFlag_0 rfl rfl rfl rfl ?_
  refine r_iconst (pc2 := 2) (v := 5) dX10_readFlag_1 (by decide) rfl ?_
  refine r_callV1 (pc2 := 5) (As := [.int 5]) (st := []) kX10_171 rfl rfl dX10_readFlag_2 c117 (by decide) rfl rfl (Nat.le_of_ble_eq_true rfl) (by omega) ((G_eats (x := (.ok (p, fr))) (k := 5) (by decide) ht (by omega) hT).mono fun r h2 q => RQ.cast (r1 := some (.int 0)) (y := (.ok (p, fr))) q (by rw [if_neg (isB_n n5)]) (if_neg (isB_n n5))) rfl (fun h hq2 => ?_)
  obtain ⟨hxc, hT⟩ := hq2
  have hx := hx.trans hxc (by decide)
  have hTo := hT
  obtain ⟨v, g, c117, c120, c121, hN, hR⟩ := hTo
  refine r_if_eq (tgt := 31) (pc2 := 8) dX10_readFlag_5 (by decide) rfl (fun b5 => ?_) (fun b5 => ?_)
  · skip
    refine r_aload_n (pc2 := 32) 0 dX10_readFlag_31 rfl rfl rfl rfl ?_
    refine r_bipush (pc2 := 34) (v := 6) dX10_readFlag_32 (by decide) rfl ?_
    refine r_callV1 (pc2 := 37) (As := [.int 6]) (st := []) kX10_171 rfl rfl dX10_readFlag_34 c117 (by decide) rfl rfl (Nat.le_of_ble_eq_true rfl) (by omega) ((G_eats (x := .ok (p, fr)) (k := 6) (by decide) ht (by omega) hT).mono fun r h2 q => RQ.cast (r1 := some (.int 1)) (y := pNx tp n p fr) q (by rw [if_pos (isB_y hk)]) (if_pos (isB_y hk))) rfl (fun h hq34 => ?_)
    obtain ⟨hxc, hT⟩ := hq34
    have hx := hx.trans hxc (by decide)
    have hTo := hT
    obtain ⟨v, g, c117, c120, c121, hN, hR⟩ := hTo
    refine r_if_eq (tgt := 59) (pc2 := 40) dX10_readFlag_37 (by decide) rfl (fun b37 => ?_) (fun b37 => ?_)
    · exact absurd b37 (by decide)
    · skip
      refine r_aload_n (pc2 := 41) 0 dX10_readFlag_40 rfl rfl rfl rfl ?_
      refine r_getf (pc2 := 44) (v := .ref 121) fX10_24 dX10_readFlag_41 c117 (by decide) rfl rfl ?_
      refine r_bipush (pc2 := 46) (v := 18) dX10_readFlag_44 (by decide) rfl ?_
      refine r_iload_n (pc2 := 47) 1 dX10_readFlag_46 rfl rfl rfl ?_
      refine r_iadd (pc2 := 48) dX10_readFlag_47 rfl ?_
      refine r_cast (nI (18 + g0)) (nI_add 18 _) ?_
      refine r_aload_n (pc2 := 49) 0 dX10_readFlag_48 rfl rfl rfl rfl ?_
      refine r_iconst (pc2 := 50) (v := 0) dX10_readFlag_49 (by decide) rfl ?_
      refine r_bipush (pc2 := 52) (v := 9) dX10_readFlag_50 (by decide) rfl ?_
      refine r_callV2 (pc2 := 55) (As := [.int 0, .int 9]) (st := [.int (nI (18 + g0)), .ref 121]) kX10_192 rfl rfl dX10_readFlag_52 c117 (by decide) rfl rfl (Nat.le_of_ble_eq_true rfl) (by omega) (G_takes (x := (pNx tp n p fr)) (lo := 0) (H := (fun _ => 10)) (fun p2 L2 z => ⟨rfl, by decide, (show (10 : Nat) ≤ 1000 by decide)⟩) (by decide) ht (by omega) hT) rfl (fun v52 h hq52 => ?_)
      obtain ⟨z52, rfl, hxc, hz52, hT⟩ := hq52
      have hx := hx.trans hxc (by decide)
      have hTo := hT
      obtain ⟨v, g, c117, c120, c121, hN, hR⟩ := hTo
      refine r_iastN (pc2 := 56) (18 + g0) dX10_readFlag_55 c121 (by decide) rfl (by omega) (by decide) rfl (fun h z55 o55 c121 => ?_)
      have c117 := (o55 117 (by decide)).trans c117
      have c120 := (o55 120 (by decide)).trans c120
      have hx := hx.step (a := 121) (by decide) z55 o55
      refine r_goto (pc2 := 61) dX10_readFlag_56 (by decide) ?_
      exact k61 _ hx ⟨v, _, c117, c120, c121, hN, RV_set hR hz52⟩
  · exact absurd b5 (by decide)
set_option maxRecDepth 20000 in
set_option maxHeartbeats 1000000 in
theorem C_flag0 {E : EnvT} {d : Nat} {h0 : Hp} {tp : Nat → Nat} {n : Nat} {v0 : Nat → Int32} {p g0 : Nat} {fr : FR} (ht : TOk tp n) (hd : 8 ≤ d) (n5 : lxK tp n p ≠ 5) (n6 : lxK tp n p ≠ 6) (hT : RT tp n rI v0 (.ok (p, fr)) h0) : Cn E mX10_readFlag d [.ref 117, .int (nI g0)] h0 (RQ tp n rI v0 h0 (some (.int 0)) (.ok (p, fr))) := by
  have hx : Ex [117, 121] h0 h0 := Ex.rf
  have hTo := hT
  obtain ⟨v, g, c117, c120, c121, hN, hR⟩ := hTo
  refine Cn.go (ls := [.ref 117, .int (nI g0)]) (by decide +kernel) rfl (Nat.le_of_ble_eq_true rfl) ?_
  refine r_aload_n (pc2 := 1) 0 dX10_readFlag_0 rfl rfl rfl rfl ?_
  refine r_iconst (pc2 := 2) (v := 5) dX10_readFlag_1 (by decide) rfl ?_
  refine r_callV1 (pc2 := 5) (As := [.int 5]) (st := []) kX10_171 rfl rfl dX10_readFlag_2 c117 (by decide) rfl rfl (Nat.le_of_ble_eq_true rfl) (by omega) ((G_eats (x := (.ok (p, fr))) (k := 5) (by decide) ht (by omega) hT).mono fun r h2 q => RQ.cast (r1 := some (.int 0)) (y := (.ok (p, fr))) q (by rw [if_neg (isB_n n5)]) (if_neg (isB_n n5))) rfl (fun h hq2 => ?_)
  obtain ⟨hxc, hT⟩ := hq2
  have hx := hx.trans hxc (by decide)
  have hTo := hT
  obtain ⟨v, g, c117, c120, c121, hN, hR⟩ := hTo
  refine r_if_eq (tgt := 31) (pc2 := 8) dX10_readFlag_5 (by decide) rfl (fun b5 => ?_) (fun b5 => ?_)
  · skip
    refine r_aload_n (pc2 := 32) 0 dX10_readFlag_31 rfl rfl rfl rfl ?_
    refine r_bipush (pc2 := 34) (v := 6) dX10_readFlag_32 (by decide) rfl ?_
    refine r_callV1 (pc2 := 37) (As := [.int 6]) (st := []) kX10_171 rfl rfl dX10_readFlag_34 c117 (by decide) rfl rfl (Nat.le_of_ble_eq_true rfl) (by omega) ((G_eats (x := (.ok (p, fr))) (k := 6) (by decide) ht (by omega) hT).mono fun r h2 q => RQ.cast (r1 := some (.int 0)) (y := (.ok (p, fr))) q (by rw [if_neg (isB_n n6)]) (if_neg (isB_n n6))) rfl (fun h hq34 => ?_)
    obtain ⟨hxc, hT⟩ := hq34
    have hx := hx.trans hxc (by decide)
    have hTo := hT
    obtain ⟨v, g, c117, c120, c121, hN, hR⟩ := hTo
    refine r_if_eq (tgt := 59) (pc2 := 40) dX10_readFlag_37 (by decide) rfl (fun b37 => ?_) (fun b37 => ?_)
    · skip
      refine r_iconst (pc2 := 60) (v := 0) dX10_readFlag_59 (by decide) rfl ?_
      exact r_zret (ty := .boolean) rfl (by decide) dX10_readFlag_60 ⟨rfl, hx, hT⟩
    · exact absurd b37 (by decide)
  · exact absurd b5 (by decide)
