/-! ways to bind -/
abbrev mbP (a : Nat → Nat) (p q : Nat) : Prop := (a (37 + p)).testBit q = false ∧ clrB (a (29 + p)) q = 0 ∧ clrB (a (29 + q)) p = 0
def wq (a : Nat → Nat) (F : (Nat → Int32) → List (Nat → Int32)) (b : Nat → Int32) (p : Nat) : Nat → Nat → List (Nat → Int32)
  | 0, _ => []
  | j + 1, q => (if b q = -1 ∧ mbP a p q then F (upd (upd b p (nI q)) q (nI p)) else []) ++ wq a F b p j (q + 1)
/-- the ways, in their order, from p on -/
def wl (a : Nat → Nat) : Nat → Nat → Nat → (Nat → Int32) → List (Nat → Int32)
  | 0, _, _, b => [b]
  | m + 1, p, l, b => if b p ≠ -1 then wl a m (p + 1) l b else wq a (fun b2 => wl a m (p + 1) l b2) b p m (p + 1) ++ (if l ≠ 0 ∧ a (29 + p) = 0 then wl a m (p + 1) 0 (upd b p (nI p)) else [])
abbrev WT : Type := Nat × Nat × (Nat → Int32) × (Nat → Int32)
def wayS (o q : Int32) (b : Nat → Int32) (t : WT) : WT := (t.1 + 1, t.2.1 + (if o ≠ -1 ∧ b o.toNatClampNeg = q then 1 else 0), (if t.1 = 0 then fillN t.2.2.1 0 8 b else t.2.2.1), fillN t.2.2.2 0 8 (fun p => if t.1 = 0 then b p else if t.2.2.2 p = b p then b p else -1))
def FW (o q : Int32) (L : List (Nat → Int32)) (t : WT) : WT := L.foldl (fun t b => wayS o q b t) t
theorem FW_app (o q : Int32) (L M : List (Nat → Int32)) (t : WT) : FW o q (L ++ M) t = FW o q M (FW o q L t) := List.foldl_append
theorem FW_n (o q : Int32) : ∀ (L : List (Nat → Int32)) (t : WT), (FW o q L t).1 = t.1 + L.length
  | [], t => rfl
  | x :: L, t => by
    show (FW o q L (wayS o q x t)).1 = _
    rw [FW_n o q L]; show t.1 + 1 + L.length = t.1 + (L.length + 1); omega
def wv (v : Nat → Int32) (x y : Int32) : Nat → Int32 := upd (upd v 31 x) 32 y
theorem wv_31 (v : Nat → Int32) (x y z : Int32) : upd (wv v x y) 31 z = wv v z y := by
  funext j; unfold wv upd
  by_cases h : j = 31 <;> by_cases g : j = 32 <;> simp [h, g]
theorem wv_32 (v : Nat → Int32) (x y z : Int32) : upd (wv v x y) 32 z = wv v x z := by
  funext j; unfold wv upd
  by_cases g : j = 32 <;> simp [g]
def PBq (h0 : Hp) (v b : Nat → Int32) (t : WT) : Option Value → Hp → Prop := fun r h2 => r = none ∧ Ex [117, 131, 132, 133] h0 h2 ∧ h2.1 117 = some (mO (wv v (nI t.1) (nI t.2.1))) ∧ h2.1 131 = some (aI 8 b) ∧ h2.1 132 = some (aI 8 t.2.2.1) ∧ h2.1 133 = some (aI 8 t.2.2.2)
theorem updR {b : Nat → Int32} {p q : Nat} {x y : Int32} (hp : b p = -1) (hq : b q = -1) : upd (upd (upd (upd b p x) q y) p (-1)) q (-1) = b := by
  funext j; unfold upd
  by_cases h : j = q
  · rw [if_pos h, h, hq]
  · rw [if_neg h]
    by_cases g : j = p
    · rw [if_pos g, g, hp]
    · rw [if_neg g, if_neg h, if_neg g]
theorem updR1 {b : Nat → Int32} {p : Nat} {x : Int32} (hp : b p = -1) : upd (upd b p x) p (-1) = b := by
  funext j; unfold upd
  by_cases g : j = p
  · rw [if_pos g, g, hp]
  · rw [if_neg g, if_neg g]
theorem fillN_u {f : Nat → Int32} {k : Nat} {g : Nat → Int32} {y : Int32} (h : y = g k) : upd (fillN f 0 k g) k y = fillN f 0 (k + 1) g := by rw [h, upd_up, fillN_s0]
theorem fillN_k {f : Nat → Int32} {k : Nat} {g : Nat → Int32} (h : f k = g k) : fillN f 0 (k + 1) g = fillN f 0 k g := by
  funext j; unfold fillN
  by_cases e : j = k
  · subst e
    rw [if_pos ⟨Nat.zero_le _, by omega⟩, if_neg (by omega)]; exact h.symm
  · by_cases z : j < k
    · rw [if_pos ⟨Nat.zero_le _, by omega⟩, if_pos ⟨Nat.zero_le _, by omega⟩]
    · rw [if_neg (by omega), if_neg (by omega)]
theorem bitN {x q : Nat} (hx : x < 256) (hq : q < 8) : ((nI x).toInt64 >>> ((nI q).toInt64 &&& 63)) &&& 1 = 1 ↔ x.testBit q = true := isInB x (by omega) q (by omega)
set_option maxRecDepth 20000 in
set_option maxHeartbeats 1000000 in
theorem c_mayBind {E : EnvT} {d : Nat} {h0 : Hp} {v : Nat → Int32} {a : Nat → Nat} {p q : Nat} (c117 : h0.1 117 = some (mO v)) (c118 : h0.1 118 = some (aI 3531 (nA a))) (hp : p < 8) (hq : q < 8) (hb : ∀ p, p < 8 → a (29 + p) < 256) (hu : ∀ p, p < 8 → a (37 + p) < 256) (hd : 1 ≤ d) : Cn E mX10_mayBind d [.ref 117, .int (nI p), .int (nI q)] h0 (fun r h2 => r = some (.int (if mbP a p q then (1 : Int32) else 0)) ∧ h2 = h0) := by
  refine Cn.go (ls := [.ref 117, .int (nI p), .int (nI q)]) (by decide +kernel) rfl (Nat.le_of_ble_eq_true rfl) ?_
  refine r_aload_n (pc2 := 1) 0 dX10_mayBind_0 rfl rfl rfl rfl ?_
  refine r_getf (pc2 := 4) (v := .ref 118) fX10_13 dX10_mayBind_1 c117 (by decide) rfl rfl ?_
  refine r_bipush (pc2 := 6) (v := 37) dX10_mayBind_4 (by decide) rfl ?_
  refine r_iload_n (pc2 := 7) 1 dX10_mayBind_6 rfl rfl rfl ?_
  refine r_iadd (pc2 := 8) dX10_mayBind_7 rfl ?_
  refine r_cast (nI (37 + p)) (nI_add 37 p) ?_
  refine r_ialdA (pc2 := 9) (37 + p) dX10_mayBind_8 c118 (by decide) rfl (by omega) (by decide) rfl ?_
  refine r_i2l (pc2 := 10) dX10_mayBind_9 rfl ?_
  refine r_iload_n (pc2 := 11) 2 dX10_mayBind_10 rfl rfl rfl ?_
  refine r_callS1 (pc2 := 14) (As := [.long (Int32.toInt64 (nI (a (37 + p)))), .int (nI q)]) (st := []) kX10_245 dX10_mayBind_11 rfl rfl (Nat.le_of_ble_eq_true rfl) (by omega) (c_isIn (Int32.toInt64 (nI (a (37 + p)))) (nI q)) rfl (fun h2 hq11 => ?_)
  subst hq11
  refine r_if_ne (tgt := 57) (pc2 := 17) dX10_mayBind_14 (by decide) rfl (fun b14 => ?_) (fun b14 => ?_)
  · have hno : ¬ mbP a p q := fun z => b14 (if_neg (fun y => Bool.eq_false_iff.mp z.1 ((bitN (hu p hp) hq).mp y)))
    refine r_iconst (pc2 := 58) (v := 0) dX10_mayBind_57 (by decide) rfl ?_
    exact r_zret (ty := .boolean) rfl (by decide) dX10_mayBind_58 ⟨by rw [if_neg hno], rfl⟩
  · skip
    refine r_aload_n (pc2 := 18) 0 dX10_mayBind_17 rfl rfl rfl rfl ?_
    refine r_getf (pc2 := 21) (v := .ref 118) fX10_13 dX10_mayBind_18 c117 (by decide) rfl rfl ?_
    refine r_bipush (pc2 := 23) (v := 29) dX10_mayBind_21 (by decide) rfl ?_
    refine r_iload_n (pc2 := 24) 1 dX10_mayBind_23 rfl rfl rfl ?_
    refine r_iadd (pc2 := 25) dX10_mayBind_24 rfl ?_
    refine r_cast (nI (29 + p)) (nI_add 29 p) ?_
    refine r_ialdA (pc2 := 26) (29 + p) dX10_mayBind_25 c118 (by decide) rfl (by omega) (by decide) rfl ?_
    refine r_iconst (pc2 := 27) (v := 1) dX10_mayBind_26 (by decide) rfl ?_
    refine r_iload_n (pc2 := 28) 2 dX10_mayBind_27 rfl rfl rfl ?_
    refine r_ishl (pc2 := 29) dX10_mayBind_28 rfl ?_
    refine r_cast (nI (2 ^ q)) (shl1 q (by omega)) ?_
    refine r_iconst (pc2 := 30) (v := -1) dX10_mayBind_29 (by decide) rfl ?_
    refine r_ixor (pc2 := 31) dX10_mayBind_30 rfl ?_
    refine r_iand (pc2 := 32) dX10_mayBind_31 rfl ?_
    refine r_cast (nI (clrB (a (29 + p)) q)) (clr_nI _ (hb p hp) _ hq) ?_
    refine r_if_ne (tgt := 57) (pc2 := 35) dX10_mayBind_32 (by decide) rfl (fun b32 => ?_) (fun b32 => ?_)
    · have hno : ¬ mbP a p q := fun z => b32 (by rw [z.2.1]; rfl)
      refine r_iconst (pc2 := 58) (v := 0) dX10_mayBind_57 (by decide) rfl ?_
      exact r_zret (ty := .boolean) rfl (by decide) dX10_mayBind_58 ⟨by rw [if_neg hno], rfl⟩
    · skip
      refine r_aload_n (pc2 := 36) 0 dX10_mayBind_35 rfl rfl rfl rfl ?_
      refine r_getf (pc2 := 39) (v := .ref 118) fX10_13 dX10_mayBind_36 c117 (by decide) rfl rfl ?_
      refine r_bipush (pc2 := 41) (v := 29) dX10_mayBind_39 (by decide) rfl ?_
      refine r_iload_n (pc2 := 42) 2 dX10_mayBind_41 rfl rfl rfl ?_
      refine r_iadd (pc2 := 43) dX10_mayBind_42 rfl ?_
      refine r_cast (nI (29 + q)) (nI_add 29 q) ?_
      refine r_ialdA (pc2 := 44) (29 + q) dX10_mayBind_43 c118 (by decide) rfl (by omega) (by decide) rfl ?_
      refine r_iconst (pc2 := 45) (v := 1) dX10_mayBind_44 (by decide) rfl ?_
      refine r_iload_n (pc2 := 46) 1 dX10_mayBind_45 rfl rfl rfl ?_
      refine r_ishl (pc2 := 47) dX10_mayBind_46 rfl ?_
      refine r_cast (nI (2 ^ p)) (shl1 p (by omega)) ?_
      refine r_iconst (pc2 := 48) (v := -1) dX10_mayBind_47 (by decide) rfl ?_
      refine r_ixor (pc2 := 49) dX10_mayBind_48 rfl ?_
      refine r_iand (pc2 := 50) dX10_mayBind_49 rfl ?_
      refine r_cast (nI (clrB (a (29 + q)) p)) (clr_nI _ (hb q hq) _ hp) ?_
      refine r_if_ne (tgt := 57) (pc2 := 53) dX10_mayBind_50 (by decide) rfl (fun b50 => ?_) (fun b50 => ?_)
      · have hno : ¬ mbP a p q := fun z => b50 (by rw [z.2.2]; rfl)
        refine r_iconst (pc2 := 58) (v := 0) dX10_mayBind_57 (by decide) rfl ?_
        exact r_zret (ty := .boolean) rfl (by decide) dX10_mayBind_58 ⟨by rw [if_neg hno], rfl⟩
      · skip
        refine r_iconst (pc2 := 54) (v := 1) dX10_mayBind_53 (by decide) rfl ?_
        refine r_goto (pc2 := 58) dX10_mayBind_54 (by decide) ?_
        exact r_zret (ty := .boolean) rfl (by decide) dX10_mayBind_58 ⟨by rw [if_pos (show mbP a p q from ⟨Bool.eq_false_iff.mpr (fun z => if1 ((bitN (hu p hp) hq).mpr z) b14), nI_z0 (Nat.lt_trans (clrB_lt _ _ (hb p hp)) (by decide)) b32, nI_z0 (Nat.lt_trans (clrB_lt _ _ (hb q hq)) (by decide)) b50⟩)], rfl⟩
set_option maxRecDepth 20000 in
set_option maxHeartbeats 1000000 in
theorem c_isWay {E : EnvT} {d : Nat} {h0 : Hp} {v b f s : Nat → Int32} {n w : Nat} {o q : Int32} (k117 : h0.1 117 = some (mO (wv v (nI n) (nI w)))) (k131 : h0.1 131 = some (aI 8 b)) (k132 : h0.1 132 = some (aI 8 f)) (k133 : h0.1 133 = some (aI 8 s)) (ho3 : v 33 = o) (hq4 : v 34 = q) (hor : o = -1 ∨ ∃ k, k < 8 ∧ o = nI k) (hn : n + 1 < 2 ^ 31) : Cn E mX10_isWay d [.ref 117] h0 (PBq h0 v b (wayS o q b (n, w, f, s))) := by
  have c117 := k117
  have c131 := k131
  have c132 := k132
  have c133 := k133
  have hx : Ex [117, 131, 132, 133] h0 h0 := Ex.rf
  by_cases hz : n = 0
  · have e : wayS o q b (n, w, f, s) = (n + 1, w + (if o ≠ -1 ∧ b o.toNatClampNeg = q then 1 else 0), fillN f 0 8 b, fillN s 0 8 b) := by
      unfold wayS
      simp only [hz, if_true]
    rw [e]
    have tail : ∀ (h1 : Hp), Ex [117, 131, 132, 133] h0 h1 → h1.1 117 = some (mO (wv v (nI (n + 1)) (nI w))) → h1.1 131 = some (aI 8 b) → h1.1 132 = some (aI 8 (fillN f 0 8 b)) → h1.1 133 = some (aI 8 (fillN s 0 8 b)) → Fr E mX10_isWay d 81 [.ref 117, .int (nI 8)] [.ref 117] h1 (PBq h0 v b (n + 1, w + (if o ≠ -1 ∧ b o.toNatClampNeg = q then 1 else 0), fillN f 0 8 b, fillN s 0 8 b)) := by
      intro h hx c117 c131 c132 c133
      by_cases ho : o = -1
      · have hc : ¬ (o ≠ -1 ∧ b o.toNatClampNeg = q) := fun z => z.1 ho
        refine r_getf (pc2 := 84) (v := .int (v 33)) fX10_374 dX10_isWay_81 c117 (by decide) rfl rfl ?_
        refine r_cast (o) (ho3) ?_
        refine r_iconst (pc2 := 85) (v := -1) dX10_isWay_84 (by decide) rfl ?_
        refine r_icmp_eq (tgt := 114) (pc2 := 88) dX10_isWay_85 (by decide) rfl (fun b85 => ?_) (fun b85 => ?_)
        · skip
          exact r_vret rfl dX10_isWay_114 ⟨rfl, hx, by rw [c117, if_neg hc]; rfl, c131, c132, c133⟩
        · exact absurd ho b85
      · obtain ⟨kk, hkk, hok⟩ := hor.resolve_left ho
        have eo : o.toNatClampNeg = kk := by rw [hok]; exact nI_clamp (by omega)
        by_cases hbq : b kk = q
        · have hc : o ≠ -1 ∧ b o.toNatClampNeg = q := ⟨ho, by rw [eo]; exact hbq⟩
          refine r_getf (pc2 := 84) (v := .int (v 33)) fX10_374 dX10_isWay_81 c117 (by decide) rfl rfl ?_
          refine r_cast (o) (ho3) ?_
          refine r_iconst (pc2 := 85) (v := -1) dX10_isWay_84 (by decide) rfl ?_
          refine r_icmp_eq (tgt := 114) (pc2 := 88) dX10_isWay_85 (by decide) rfl (fun b85 => ?_) (fun b85 => ?_)
          · exact absurd b85 ho
          · skip
            refine r_aload_n (pc2 := 89) 0 dX10_isWay_88 rfl rfl rfl rfl ?_
            refine r_getf (pc2 := 92) (v := .ref 131) fX10_60 dX10_isWay_89 c117 (by decide) rfl rfl ?_
            refine r_aload_n (pc2 := 93) 0 dX10_isWay_92 rfl rfl rfl rfl ?_
            refine r_getf (pc2 := 96) (v := .int (v 33)) fX10_374 dX10_isWay_93 c117 (by decide) rfl rfl ?_
            refine r_cast (nI kk) (ho3.trans hok) ?_
            refine r_ialdN (pc2 := 97) kk dX10_isWay_96 c131 (by decide) rfl (by omega) (by decide) rfl ?_
            refine r_aload_n (pc2 := 98) 0 dX10_isWay_97 rfl rfl rfl rfl ?_
            refine r_getf (pc2 := 101) (v := .int (v 34)) fX10_377 dX10_isWay_98 c117 (by decide) rfl rfl ?_
            refine r_cast (q) (hq4) ?_
            refine r_icmp_ne (tgt := 114) (pc2 := 104) dX10_isWay_101 (by decide) rfl (fun b101 => ?_) (fun b101 => ?_)
            · exact absurd hbq b101
            · skip
              refine r_aload_n (pc2 := 105) 0 dX10_isWay_104 rfl rfl rfl rfl ?_
              refine r_dup (pc2 := 106) dX10_isWay_105 rfl rfl ?_
              refine r_getf (pc2 := 109) (v := .int (nI w)) fX10_380 dX10_isWay_106 c117 (by decide) rfl rfl ?_
              refine r_iconst (pc2 := 110) (v := 1) dX10_isWay_109 (by decide) rfl ?_
              refine r_iadd (pc2 := 111) dX10_isWay_110 rfl ?_
              refine r_cast (nI (w + 1)) (nI_1 _) ?_
              refine r_putfX (pc2 := 114) (moL (upd (wv v (nI (n + 1)) (nI w)) 32 (nI (w + 1)))) fX10_380 dX10_isWay_111 c117 (by decide) (Nat.le_of_ble_eq_true rfl) rfl rfl rfl (fun h z111 o111 c117 => ?_)
              have c131 := (o111 131 (by decide)).trans c131
              have c132 := (o111 132 (by decide)).trans c132
              have c133 := (o111 133 (by decide)).trans c133
              have hx := hx.step (a := 117) (by decide) z111 o111
              exact r_vret rfl dX10_isWay_114 ⟨rfl, hx, by rw [c117, wv_32, if_pos hc], c131, c132, c133⟩
        · have hc : ¬ (o ≠ -1 ∧ b o.toNatClampNeg = q) := fun z => hbq (by rw [← eo]; exact z.2)
          refine r_getf (pc2 := 84) (v := .int (v 33)) fX10_374 dX10_isWay_81 c117 (by decide) rfl rfl ?_
          refine r_cast (o) (ho3) ?_
          refine r_iconst (pc2 := 85) (v := -1) dX10_isWay_84 (by decide) rfl ?_
          refine r_icmp_eq (tgt := 114) (pc2 := 88) dX10_isWay_85 (by decide) rfl (fun b85 => ?_) (fun b85 => ?_)
          · exact absurd b85 ho
          · skip
            refine r_aload_n (pc2 := 89) 0 dX10_isWay_88 rfl rfl rfl rfl ?_
            refine r_getf (pc2 := 92) (v := .ref 131) fX10_60 dX10_isWay_89 c117 (by decide) rfl rfl ?_
            refine r_aload_n (pc2 := 93) 0 dX10_isWay_92 rfl rfl rfl rfl ?_
            refine r_getf (pc2 := 96) (v := .int (v 33)) fX10_374 dX10_isWay_93 c117 (by decide) rfl rfl ?_
            refine r_cast (nI kk) (ho3.trans hok) ?_
            refine r_ialdN (pc2 := 97) kk dX10_isWay_96 c131 (by decide) rfl (by omega) (by decide) rfl ?_
            refine r_aload_n (pc2 := 98) 0 dX10_isWay_97 rfl rfl rfl rfl ?_
            refine r_getf (pc2 := 101) (v := .int (v 34)) fX10_377 dX10_isWay_98 c117 (by decide) rfl rfl ?_
            refine r_cast (q) (hq4) ?_
            refine r_icmp_ne (tgt := 114) (pc2 := 104) dX10_isWay_101 (by decide) rfl (fun b101 => ?_) (fun b101 => ?_)
            · skip
              exact r_vret rfl dX10_isWay_114 ⟨rfl, hx, by rw [c117, if_neg hc]; rfl, c131, c132, c133⟩
            · exact absurd b101 hbq
    have loop : ∀ (m k : Nat) (h1 : Hp), k + m = 8 → Ex [117, 131, 132, 133] h0 h1 → h1.1 117 = some (mO (wv v (nI n) (nI w))) → h1.1 131 = some (aI 8 b) → h1.1 132 = some (aI 8 (fillN f 0 k b)) → h1.1 133 = some (aI 8 (fillN s 0 k b)) → Fr E mX10_isWay d 2 [.ref 117, .int (nI k)] [] h1 (PBq h0 v b (n + 1, w + (if o ≠ -1 ∧ b o.toNatClampNeg = q then 1 else 0), fillN f 0 8 b, fillN s 0 8 b)) := by
      intro m
      induction m with
      | zero =>
        intro k h hk hx c117 c131 c132 c133
        obtain rfl : k = 8 := by omega
        refine r_iload_n (pc2 := 3) 1 dX10_isWay_2 rfl rfl rfl ?_
        refine r_bipush (pc2 := 5) (v := 8) dX10_isWay_3 (by decide) rfl ?_
        refine r_icmp_ge (tgt := 70) (pc2 := 8) dX10_isWay_5 (by decide) rfl (fun b5 => ?_) (fun b5 => ?_)
        · skip
          refine r_aload_n (pc2 := 71) 0 dX10_isWay_70 rfl rfl rfl rfl ?_
          refine r_dup (pc2 := 72) dX10_isWay_71 rfl rfl ?_
          refine r_getf (pc2 := 75) (v := .int (nI n)) fX10_371 dX10_isWay_72 c117 (by decide) rfl rfl ?_
          refine r_iconst (pc2 := 76) (v := 1) dX10_isWay_75 (by decide) rfl ?_
          refine r_iadd (pc2 := 77) dX10_isWay_76 rfl ?_
          refine r_cast (nI (n + 1)) (nI_1 _) ?_
          refine r_putfX (pc2 := 80) (moL (upd (wv v (nI n) (nI w)) 31 (nI (n + 1)))) fX10_371 dX10_isWay_77 c117 (by decide) (Nat.le_of_ble_eq_true rfl) rfl rfl rfl (fun h z77 o77 c117 => ?_)
          have c131 := (o77 131 (by decide)).trans c131
          have c132 := (o77 132 (by decide)).trans c132
          have c133 := (o77 133 (by decide)).trans c133
          have hx := hx.step (a := 117) (by decide) z77 o77
          rw [wv_31] at c117
          refine r_aload_n (pc2 := 81) 0 dX10_isWay_80 rfl rfl rfl rfl ?_
          have c117 : h.1 117 = some (mO (wv v (nI (n + 1)) (nI w))) := c117
          exact tail h hx c117 c131 c132 c133
        · exact absurd (nI_le (a := 8) (b := 8) (Nat.le_refl _) (by decide)) b5
      | succ m ih =>
        intro k h hk hx c117 c131 c132 c133
        have hlt : k < 8 := by omega
        refine r_iload_n (pc2 := 3) 1 dX10_isWay_2 rfl rfl rfl ?_
        refine r_bipush (pc2 := 5) (v := 8) dX10_isWay_3 (by decide) rfl ?_
        refine r_icmp_ge (tgt := 70) (pc2 := 8) dX10_isWay_5 (by decide) rfl (fun b5 => ?_) (fun b5 => ?_)
        · exact absurd b5 (nI_ge (b := 8) hlt (by decide))
        · skip
          refine r_aload_n (pc2 := 9) 0 dX10_isWay_8 rfl rfl rfl rfl ?_
          refine r_getf (pc2 := 12) (v := .int (nI n)) fX10_371 dX10_isWay_9 c117 (by decide) rfl rfl ?_
          refine r_if_ne (tgt := 42) (pc2 := 15) dX10_isWay_12 (by decide) rfl (fun b12 => ?_) (fun b12 => ?_)
          · exact absurd (by rw [hz]; rfl) b12
          · skip
            refine r_aload_n (pc2 := 16) 0 dX10_isWay_15 rfl rfl rfl rfl ?_
            refine r_getf (pc2 := 19) (v := .ref 132) fX10_63 dX10_isWay_16 c117 (by decide) rfl rfl ?_
            refine r_iload_n (pc2 := 20) 1 dX10_isWay_19 rfl rfl rfl ?_
            refine r_aload_n (pc2 := 21) 0 dX10_isWay_20 rfl rfl rfl rfl ?_
            refine r_getf (pc2 := 24) (v := .ref 131) fX10_60 dX10_isWay_21 c117 (by decide) rfl rfl ?_
            refine r_iload_n (pc2 := 25) 1 dX10_isWay_24 rfl rfl rfl ?_
            refine r_ialdN (pc2 := 26) k dX10_isWay_25 c131 (by decide) rfl (by omega) (by decide) rfl ?_
            refine r_topi (fun y26 ey26 => ?_)
            refine r_iastN (pc2 := 27) k dX10_isWay_26 c132 (by decide) rfl (by omega) (by decide) rfl (fun h z26 o26 c132 => ?_)
            have c117 := (o26 117 (by decide)).trans c117
            have c131 := (o26 131 (by decide)).trans c131
            have c133 := (o26 133 (by decide)).trans c133
            have hx := hx.step (a := 132) (by decide) z26 o26
            refine r_aload_n (pc2 := 28) 0 dX10_isWay_27 rfl rfl rfl rfl ?_
            refine r_getf (pc2 := 31) (v := .ref 133) fX10_66 dX10_isWay_28 c117 (by decide) rfl rfl ?_
            refine r_iload_n (pc2 := 32) 1 dX10_isWay_31 rfl rfl rfl ?_
            refine r_aload_n (pc2 := 33) 0 dX10_isWay_32 rfl rfl rfl rfl ?_
            refine r_getf (pc2 := 36) (v := .ref 131) fX10_60 dX10_isWay_33 c117 (by decide) rfl rfl ?_
            refine r_iload_n (pc2 := 37) 1 dX10_isWay_36 rfl rfl rfl ?_
            refine r_ialdN (pc2 := 38) k dX10_isWay_37 c131 (by decide) rfl (by omega) (by decide) rfl ?_
            refine r_topi (fun y38 ey38 => ?_)
            refine r_iastN (pc2 := 39) k dX10_isWay_38 c133 (by decide) rfl (by omega) (by decide) rfl (fun h z38 o38 c133 => ?_)
            have c117 := (o38 117 (by decide)).trans c117
            have c131 := (o38 131 (by decide)).trans c131
            have c132 := (o38 132 (by decide)).trans c132
            have hx := hx.step (a := 133) (by decide) z38 o38
            refine r_goto (pc2 := 64) dX10_isWay_39 (by decide) ?_
            obtain ⟨x64, e64⟩ : ∃ z : Int32, z = (nI k) + (1) := ⟨_, rfl⟩
            refine r_iinc (pc2 := 67) (ls2 := [.ref 117, .int x64]) (v := x64) 1 dX10_isWay_64 rfl (by rw [e64]; rfl) rfl rfl rfl ?_
            refine r_goto (pc2 := 2) dX10_isWay_67 (by decide) ?_
            rw [e64, nI_1]
            rw [fillN_u ey26] at c132
            rw [fillN_u ey38] at c133
            exact ih (k + 1) h (by omega) hx c117 c131 c132 c133
    refine Cn.go (ls := [.ref 117, .float 0]) (by decide +kernel) rfl (Nat.le_of_ble_eq_true rfl) ?_
    refine r_iconst (pc2 := 1) (v := 0) dX10_isWay_0 (by decide) rfl ?_
    refine r_istore_n (pc2 := 2) (ls2 := [.ref 117, .int 0]) 1 dX10_isWay_1 rfl (by decide) rfl rfl rfl ?_
    rw [← fillN_0 f 0 b] at c132
    rw [← fillN_0 s 0 b] at c133
    exact loop 8 0 _ (by omega) hx c117 c131 c132 c133
  · have e : wayS o q b (n, w, f, s) = (n + 1, w + (if o ≠ -1 ∧ b o.toNatClampNeg = q then 1 else 0), f, fillN s 0 8 (fun p => if s p = b p then b p else -1)) := by
      unfold wayS
      simp only [hz, if_false]
    rw [e]
    have tail : ∀ (h1 : Hp), Ex [117, 131, 132, 133] h0 h1 → h1.1 117 = some (mO (wv v (nI (n + 1)) (nI w))) → h1.1 131 = some (aI 8 b) → h1.1 132 = some (aI 8 f) → h1.1 133 = some (aI 8 (fillN s 0 8 (fun p => if s p = b p then b p else -1))) → Fr E mX10_isWay d 81 [.ref 117, .int (nI 8)] [.ref 117] h1 (PBq h0 v b (n + 1, w + (if o ≠ -1 ∧ b o.toNatClampNeg = q then 1 else 0), f, fillN s 0 8 (fun p => if s p = b p then b p else -1))) := by
      intro h hx c117 c131 c132 c133
      by_cases ho : o = -1
      · have hc : ¬ (o ≠ -1 ∧ b o.toNatClampNeg = q) := fun z => z.1 ho
        refine r_getf (pc2 := 84) (v := .int (v 33)) fX10_374 dX10_isWay_81 c117 (by decide) rfl rfl ?_
        refine r_cast (o) (ho3) ?_
        refine r_iconst (pc2 := 85) (v := -1) dX10_isWay_84 (by decide) rfl ?_
        refine r_icmp_eq (tgt := 114) (pc2 := 88) dX10_isWay_85 (by decide) rfl (fun b85 => ?_) (fun b85 => ?_)
        · skip
          exact r_vret rfl dX10_isWay_114 ⟨rfl, hx, by rw [c117, if_neg hc]; rfl, c131, c132, c133⟩
        · exact absurd ho b85
      · obtain ⟨kk, hkk, hok⟩ := hor.resolve_left ho
        have eo : o.toNatClampNeg = kk := by rw [hok]; exact nI_clamp (by omega)
        by_cases hbq : b kk = q
        · have hc : o ≠ -1 ∧ b o.toNatClampNeg = q := ⟨ho, by rw [eo]; exact hbq⟩
          refine r_getf (pc2 := 84) (v := .int (v 33)) fX10_374 dX10_isWay_81 c117 (by decide) rfl rfl ?_
          refine r_cast (o) (ho3) ?_
          refine r_iconst (pc2 := 85) (v := -1) dX10_isWay_84 (by decide) rfl ?_
          refine r_icmp_eq (tgt := 114) (pc2 := 88) dX10_isWay_85 (by decide) rfl (fun b85 => ?_) (fun b85 => ?_)
          · exact absurd b85 ho
          · skip
            refine r_aload_n (pc2 := 89) 0 dX10_isWay_88 rfl rfl rfl rfl ?_
            refine r_getf (pc2 := 92) (v := .ref 131) fX10_60 dX10_isWay_89 c117 (by decide) rfl rfl ?_
            refine r_aload_n (pc2 := 93) 0 dX10_isWay_92 rfl rfl rfl rfl ?_
            refine r_getf (pc2 := 96) (v := .int (v 33)) fX10_374 dX10_isWay_93 c117 (by decide) rfl rfl ?_
            refine r_cast (nI kk) (ho3.trans hok) ?_
            refine r_ialdN (pc2 := 97) kk dX10_isWay_96 c131 (by decide) rfl (by omega) (by decide) rfl ?_
            refine r_aload_n (pc2 := 98) 0 dX10_isWay_97 rfl rfl rfl rfl ?_
            refine r_getf (pc2 := 101) (v := .int (v 34)) fX10_377 dX10_isWay_98 c117 (by decide) rfl rfl ?_
            refine r_cast (q) (hq4) ?_
            refine r_icmp_ne (tgt := 114) (pc2 := 104) dX10_isWay_101 (by decide) rfl (fun b101 => ?_) (fun b101 => ?_)
            · exact absurd hbq b101
            · skip
              refine r_aload_n (pc2 := 105) 0 dX10_isWay_104 rfl rfl rfl rfl ?_
              refine r_dup (pc2 := 106) dX10_isWay_105 rfl rfl ?_
              refine r_getf (pc2 := 109) (v := .int (nI w)) fX10_380 dX10_isWay_106 c117 (by decide) rfl rfl ?_
              refine r_iconst (pc2 := 110) (v := 1) dX10_isWay_109 (by decide) rfl ?_
              refine r_iadd (pc2 := 111) dX10_isWay_110 rfl ?_
              refine r_cast (nI (w + 1)) (nI_1 _) ?_
              refine r_putfX (pc2 := 114) (moL (upd (wv v (nI (n + 1)) (nI w)) 32 (nI (w + 1)))) fX10_380 dX10_isWay_111 c117 (by decide) (Nat.le_of_ble_eq_true rfl) rfl rfl rfl (fun h z111 o111 c117 => ?_)
              have c131 := (o111 131 (by decide)).trans c131
              have c132 := (o111 132 (by decide)).trans c132
              have c133 := (o111 133 (by decide)).trans c133
              have hx := hx.step (a := 117) (by decide) z111 o111
              exact r_vret rfl dX10_isWay_114 ⟨rfl, hx, by rw [c117, wv_32, if_pos hc], c131, c132, c133⟩
        · have hc : ¬ (o ≠ -1 ∧ b o.toNatClampNeg = q) := fun z => hbq (by rw [← eo]; exact z.2)
          refine r_getf (pc2 := 84) (v := .int (v 33)) fX10_374 dX10_isWay_81 c117 (by decide) rfl rfl ?_
          refine r_cast (o) (ho3) ?_
          refine r_iconst (pc2 := 85) (v := -1) dX10_isWay_84 (by decide) rfl ?_
          refine r_icmp_eq (tgt := 114) (pc2 := 88) dX10_isWay_85 (by decide) rfl (fun b85 => ?_) (fun b85 => ?_)
          · exact absurd b85 ho
          · skip
            refine r_aload_n (pc2 := 89) 0 dX10_isWay_88 rfl rfl rfl rfl ?_
            refine r_getf (pc2 := 92) (v := .ref 131) fX10_60 dX10_isWay_89 c117 (by decide) rfl rfl ?_
            refine r_aload_n (pc2 := 93) 0 dX10_isWay_92 rfl rfl rfl rfl ?_
            refine r_getf (pc2 := 96) (v := .int (v 33)) fX10_374 dX10_isWay_93 c117 (by decide) rfl rfl ?_
            refine r_cast (nI kk) (ho3.trans hok) ?_
            refine r_ialdN (pc2 := 97) kk dX10_isWay_96 c131 (by decide) rfl (by omega) (by decide) rfl ?_
            refine r_aload_n (pc2 := 98) 0 dX10_isWay_97 rfl rfl rfl rfl ?_
            refine r_getf (pc2 := 101) (v := .int (v 34)) fX10_377 dX10_isWay_98 c117 (by decide) rfl rfl ?_
            refine r_cast (q) (hq4) ?_
            refine r_icmp_ne (tgt := 114) (pc2 := 104) dX10_isWay_101 (by decide) rfl (fun b101 => ?_) (fun b101 => ?_)
            · skip
              exact r_vret rfl dX10_isWay_114 ⟨rfl, hx, by rw [c117, if_neg hc]; rfl, c131, c132, c133⟩
            · exact absurd b101 hbq
    have loop : ∀ (m k : Nat) (h1 : Hp), k + m = 8 → Ex [117, 131, 132, 133] h0 h1 → h1.1 117 = some (mO (wv v (nI n) (nI w))) → h1.1 131 = some (aI 8 b) → h1.1 132 = some (aI 8 f) → h1.1 133 = some (aI 8 (fillN s 0 k (fun p => if s p = b p then b p else -1))) → Fr E mX10_isWay d 2 [.ref 117, .int (nI k)] [] h1 (PBq h0 v b (n + 1, w + (if o ≠ -1 ∧ b o.toNatClampNeg = q then 1 else 0), f, fillN s 0 8 (fun p => if s p = b p then b p else -1))) := by
      intro m
      induction m with
      | zero =>
        intro k h hk hx c117 c131 c132 c133
        obtain rfl : k = 8 := by omega
        refine r_iload_n (pc2 := 3) 1 dX10_isWay_2 rfl rfl rfl ?_
        refine r_bipush (pc2 := 5) (v := 8) dX10_isWay_3 (by decide) rfl ?_
        refine r_icmp_ge (tgt := 70) (pc2 := 8) dX10_isWay_5 (by decide) rfl (fun b5 => ?_) (fun b5 => ?_)
        · skip
          refine r_aload_n (pc2 := 71) 0 dX10_isWay_70 rfl rfl rfl rfl ?_
          refine r_dup (pc2 := 72) dX10_isWay_71 rfl rfl ?_
          refine r_getf (pc2 := 75) (v := .int (nI n)) fX10_371 dX10_isWay_72 c117 (by decide) rfl rfl ?_
          refine r_iconst (pc2 := 76) (v := 1) dX10_isWay_75 (by decide) rfl ?_
          refine r_iadd (pc2 := 77) dX10_isWay_76 rfl ?_
          refine r_cast (nI (n + 1)) (nI_1 _) ?_
          refine r_putfX (pc2 := 80) (moL (upd (wv v (nI n) (nI w)) 31 (nI (n + 1)))) fX10_371 dX10_isWay_77 c117 (by decide) (Nat.le_of_ble_eq_true rfl) rfl rfl rfl (fun h z77 o77 c117 => ?_)
          have c131 := (o77 131 (by decide)).trans c131
          have c132 := (o77 132 (by decide)).trans c132
          have c133 := (o77 133 (by decide)).trans c133
          have hx := hx.step (a := 117) (by decide) z77 o77
          rw [wv_31] at c117
          refine r_aload_n (pc2 := 81) 0 dX10_isWay_80 rfl rfl rfl rfl ?_
          have c117 : h.1 117 = some (mO (wv v (nI (n + 1)) (nI w))) := c117
          exact tail h hx c117 c131 c132 c133
        · exact absurd (nI_le (a := 8) (b := 8) (Nat.le_refl _) (by decide)) b5
      | succ m ih =>
        intro k h hk hx c117 c131 c132 c133
        have hlt : k < 8 := by omega
        by_cases hsb : s k = b k
        · skip
          refine r_iload_n (pc2 := 3) 1 dX10_isWay_2 rfl rfl rfl ?_
          refine r_bipush (pc2 := 5) (v := 8) dX10_isWay_3 (by decide) rfl ?_
          refine r_icmp_ge (tgt := 70) (pc2 := 8) dX10_isWay_5 (by decide) rfl (fun b5 => ?_) (fun b5 => ?_)
          · exact absurd b5 (nI_ge (b := 8) hlt (by decide))
          · skip
            refine r_aload_n (pc2 := 9) 0 dX10_isWay_8 rfl rfl rfl rfl ?_
            refine r_getf (pc2 := 12) (v := .int (nI n)) fX10_371 dX10_isWay_9 c117 (by decide) rfl rfl ?_
            refine r_if_ne (tgt := 42) (pc2 := 15) dX10_isWay_12 (by decide) rfl (fun b12 => ?_) (fun b12 => ?_)
            · skip
              refine r_aload_n (pc2 := 43) 0 dX10_isWay_42 rfl rfl rfl rfl ?_
              refine r_getf (pc2 := 46) (v := .ref 133) fX10_66 dX10_isWay_43 c117 (by decide) rfl rfl ?_
              refine r_iload_n (pc2 := 47) 1 dX10_isWay_46 rfl rfl rfl ?_
              refine r_ialdN (pc2 := 48) k dX10_isWay_47 c133 (by decide) rfl (by omega) (by decide) rfl ?_
              refine r_cast (s k) (fillN_out (by omega)) ?_
              refine r_aload_n (pc2 := 49) 0 dX10_isWay_48 rfl rfl rfl rfl ?_
              refine r_getf (pc2 := 52) (v := .ref 131) fX10_60 dX10_isWay_49 c117 (by decide) rfl rfl ?_
              refine r_iload_n (pc2 := 53) 1 dX10_isWay_52 rfl rfl rfl ?_
              refine r_ialdN (pc2 := 54) k dX10_isWay_53 c131 (by decide) rfl (by omega) (by decide) rfl ?_
              refine r_icmp_eq (tgt := 64) (pc2 := 57) dX10_isWay_54 (by decide) rfl (fun b54 => ?_) (fun b54 => ?_)
              · skip
                obtain ⟨x64, e64⟩ : ∃ z : Int32, z = (nI k) + (1) := ⟨_, rfl⟩
                refine r_iinc (pc2 := 67) (ls2 := [.ref 117, .int x64]) (v := x64) 1 dX10_isWay_64 rfl (by rw [e64]; rfl) rfl rfl rfl ?_
                refine r_goto (pc2 := 2) dX10_isWay_67 (by decide) ?_
                rw [e64, nI_1]
                rw [← fillN_k (g := (fun p => if s p = b p then b p else -1)) (show s k = (if s k = b k then b k else -1) by rw [if_pos hsb]; exact hsb)] at c133
                exact ih (k + 1) h (by omega) hx c117 c131 c132 c133
              · exact absurd hsb b54
            · exact absurd b12 (nI_ne0 (by omega) (by omega))
        · skip
          refine r_iload_n (pc2 := 3) 1 dX10_isWay_2 rfl rfl rfl ?_
          refine r_bipush (pc2 := 5) (v := 8) dX10_isWay_3 (by decide) rfl ?_
          refine r_icmp_ge (tgt := 70) (pc2 := 8) dX10_isWay_5 (by decide) rfl (fun b5 => ?_) (fun b5 => ?_)
          · exact absurd b5 (nI_ge (b := 8) hlt (by decide))
          · skip
            refine r_aload_n (pc2 := 9) 0 dX10_isWay_8 rfl rfl rfl rfl ?_
            refine r_getf (pc2 := 12) (v := .int (nI n)) fX10_371 dX10_isWay_9 c117 (by decide) rfl rfl ?_
            refine r_if_ne (tgt := 42) (pc2 := 15) dX10_isWay_12 (by decide) rfl (fun b12 => ?_) (fun b12 => ?_)
            · skip
              refine r_aload_n (pc2 := 43) 0 dX10_isWay_42 rfl rfl rfl rfl ?_
              refine r_getf (pc2 := 46) (v := .ref 133) fX10_66 dX10_isWay_43 c117 (by decide) rfl rfl ?_
              refine r_iload_n (pc2 := 47) 1 dX10_isWay_46 rfl rfl rfl ?_
              refine r_ialdN (pc2 := 48) k dX10_isWay_47 c133 (by decide) rfl (by omega) (by decide) rfl ?_
              refine r_cast (s k) (fillN_out (by omega)) ?_
              refine r_aload_n (pc2 := 49) 0 dX10_isWay_48 rfl rfl rfl rfl ?_
              refine r_getf (pc2 := 52) (v := .ref 131) fX10_60 dX10_isWay_49 c117 (by decide) rfl rfl ?_
              refine r_iload_n (pc2 := 53) 1 dX10_isWay_52 rfl rfl rfl ?_
              refine r_ialdN (pc2 := 54) k dX10_isWay_53 c131 (by decide) rfl (by omega) (by decide) rfl ?_
              refine r_icmp_eq (tgt := 64) (pc2 := 57) dX10_isWay_54 (by decide) rfl (fun b54 => ?_) (fun b54 => ?_)
              · exact absurd b54 hsb
              · skip
                refine r_aload_n (pc2 := 58) 0 dX10_isWay_57 rfl rfl rfl rfl ?_
                refine r_getf (pc2 := 61) (v := .ref 133) fX10_66 dX10_isWay_58 c117 (by decide) rfl rfl ?_
                refine r_iload_n (pc2 := 62) 1 dX10_isWay_61 rfl rfl rfl ?_
                refine r_iconst (pc2 := 63) (v := -1) dX10_isWay_62 (by decide) rfl ?_
                refine r_iastN (pc2 := 64) k dX10_isWay_63 c133 (by decide) rfl (by omega) (by decide) rfl (fun h z63 o63 c133 => ?_)
                have c117 := (o63 117 (by decide)).trans c117
                have c131 := (o63 131 (by decide)).trans c131
                have c132 := (o63 132 (by decide)).trans c132
                have hx := hx.step (a := 133) (by decide) z63 o63
                obtain ⟨x64, e64⟩ : ∃ z : Int32, z = (nI k) + (1) := ⟨_, rfl⟩
                refine r_iinc (pc2 := 67) (ls2 := [.ref 117, .int x64]) (v := x64) 1 dX10_isWay_64 rfl (by rw [e64]; rfl) rfl rfl rfl ?_
                refine r_goto (pc2 := 2) dX10_isWay_67 (by decide) ?_
                rw [e64, nI_1]
                rw [fillN_u (g := (fun p => if s p = b p then b p else -1)) (if_neg hsb).symm] at c133
                exact ih (k + 1) h (by omega) hx c117 c131 c132 c133
            · exact absurd b12 (nI_ne0 (by omega) (by omega))
    refine Cn.go (ls := [.ref 117, .float 0]) (by decide +kernel) rfl (Nat.le_of_ble_eq_true rfl) ?_
    refine r_iconst (pc2 := 1) (v := 0) dX10_isWay_0 (by decide) rfl ?_
    refine r_istore_n (pc2 := 2) (ls2 := [.ref 117, .int 0]) 1 dX10_isWay_1 rfl (by decide) rfl rfl rfl ?_
    rw [← fillN_0 s 0 (fun p => if s p = b p then b p else -1)] at c133
    exact loop 8 0 _ (by omega) hx c117 c131 c132 c133
