/-! the class's reader: what is passed -/
def flY (tp : Nat → Nat) (n f : Nat) (y : PY) : PY := match y with
  | .ok p => .error (f, lxS tp n p)
  | .error e => .error e
def eatY (tp : Nat → Nat) (n k : Nat) (y : PY) : PY := if isY tp n y k = true then advY tp n y else flY tp n 2 y
def tkY (tp : Nat → Nat) (n lo H : Nat) (y : PY) : PY := match y with
  | .ok p => if lxK tp n p = 24 then (if lo ≤ lxN tp n p ∧ lxN tp n p < H then nrp tp n (lxE tp n p) else .error (3, lxS tp n p)) else .error (2, lxS tp n p)
  | .error e => .error e
def tkV (tp : Nat → Nat) (n lo H : Nat) (y : PY) : Nat := match y with
  | .ok p => if lxK tp n p = 24 ∧ lo ≤ lxN tp n p ∧ lxN tp n p < H then lxN tp n p else 0
  | .error _ => 0
theorem rng32 {N H : Nat} (hH : H ≤ 1000) (hN : N < 1000) : nI N ≤ nI H - 1 ↔ N < H := by
  cases H with
  | zero =>
    constructor
    · intro z
      have z := Int32.le_iff_toInt_le.mp z
      rw [nI_toInt (by omega)] at z
      have e : (nI 0 - 1).toInt = -1 := by decide
      omega
    · intro z; omega
  | succ H =>
    rw [pm1 (by omega)]
    constructor
    · intro z
      have z := Int32.le_iff_toInt_le.mp z
      rw [nI_toInt (by omega), nI_toInt (by omega)] at z
      omega
    · intro z; exact nI_le (by omega) (by omega)
theorem ck2 {tp : Nat → Nat} {n p : Nat} (ht : TOk tp n) (h26 : lxK tp n p ≠ 26) : ckK tp n p = 2 ↔ lxK tp n p = 24 := by
  rcases tk_cases ht h26 with z | z | z | z
  · omega
  · have := kF_le (wordL tp (lxS tp n p) (lxE tp n p)) 23 0 (by decide)
    omega
  · omega
  · omega
theorem ck_le {tp : Nat → Nat} {n p : Nat} : ckK tp n p ≤ 4 := by
  unfold ckK
  split
  · decide
  · exact kO9_le _
theorem c_refuse {E : EnvT} {d : Nat} {h0 : Hp} {n : Nat} {ta ne inz pt cl : Int32} {tv : Value} {tp : Nat → Nat} {t : TkT} {y : PY} {f : Nat} {w9 : Int32} (h1 : 1 ≤ f) (h2 : f ≤ 4) (ew : w9 = nI f) (ht : TOk tp n) (c65 : h0.1 65 = some (.inr (3, rdL n ta ne inz pt cl tv t))) (hT : TK tp n y t) : Cn E mX3_refuse d [.ref 65, .int w9] h0 (fun r h2 => r = none ∧ Ex [65] h0 h2 ∧ ∃ t2, h2.1 65 = some (.inr (3, rdL n ta ne inz pt cl tv t2)) ∧ TK tp n (flY tp n f y) t2) := by
  have hn9 := ht.1
  match y, hT with
  | .ok p, hT =>
    obtain ⟨hp, h26, rfl⟩ := hT
    refine (c_refuse0 c65).mono (fun r h2 z => ⟨z.1, z.2.1, _, z.2.2, ?_⟩)
    exact ⟨lxS tp n p, lxE tp n p, ⟨by omega, by omega⟩, by have := lxS_n (tp := tp) hp; omega, by have := lxE_n (tp := tp) hp; omega, by rw [ew]⟩
  | .error (w, a), hT =>
    obtain ⟨s, e, g1, g2, g3, rfl⟩ := hT
    exact (c_refuse1 c65 (nI_w0 g1.1 g1.2)).mono (fun r h2 z => ⟨z.1, z.2.1, _, z.2.2, ⟨s, e, g1, g2, g3, rfl⟩⟩)
set_option maxRecDepth 20000 in
set_option maxHeartbeats 1000000 in
theorem c_numberHere {E : EnvT} {d : Nat} {h0 : Hp} {n : Nat} {ta ne inz pt cl : Int32} {tv : Value} {tp : Nat → Nat} {p : Nat} (c65 : h0.1 65 = some (.inr (3, rdL n ta ne inz pt cl tv (0, -1, nI (ckK tp n p), nI (lxS tp n p), nI (lxE tp n p))))) (hp : p ≤ n) (hk : lxK tp n p = 24) (hP : TPo tp h0) (ht : TOk tp n) (hd : 1 ≤ d) : Cn E mX3_numberHere d [.ref 65] h0 (fun r h2 => r = some (.int (nI (lxN tp n p))) ∧ h2 = h0) := by
  have hn9 := ht.1
  have hEn : lxE tp n p ≤ n := lxE_n hp
  have hgt : lxS tp n p < lxE tp n p := lxE_gt (by rw [hk]; decide)
  have hz : lxE tp n p = lxD tp n (lxS tp n p) ∧ lxE tp n p - lxS tp n p ≤ 3 := by
    rcases tk_cases ht (by rw [hk]; decide) with z | z | z | z
    · omega
    · have := kF_le (wordL tp (lxS tp n p) (lxE tp n p)) 23 0 (by decide)
      omega
    · exact ⟨z.2.2.2.2.1, z.2.2.2.2.2⟩
    · omega
  have hN : lxN tp n p = dVal tp (lxS tp n p) (lxE tp n p - lxS tp n p) := by rw [hz.1]; rfl
  have hdg : ∀ k, k < lxE tp n p - lxS tp n p → 48 ≤ tp (lxS tp n p + k) ∧ tp (lxS tp n p + k) ≤ 57 := fun k hk => by
    have := scan_all (q := isDg) (tp := tp) (n := n) (n - lxS tp n p) (lxS tp n p) (lxS tp n p + k) (by omega) (by have := hz.1; unfold lxD at this; omega)
    exact dg_rng _ (ht.2 _ (by omega)) this
  have loop : ∀ m9 k, k + m9 = lxE tp n p - lxS tp n p → Fr E mX3_numberHere d 7 [.ref 65, .int (nI (dVal tp (lxS tp n p) k)), .int (nI (lxS tp n p + k))] [] h0 (fun r h2 => r = some (.int (nI (lxN tp n p))) ∧ h2 = h0) := by
    intro m9
    induction m9 with
    | zero =>
      intro k hk
      refine r_iload_n (pc2 := 8) 2 dX3_numberHere_7 rfl rfl rfl ?_
      refine r_aload_n (pc2 := 9) 0 dX3_numberHere_8 rfl rfl rfl rfl ?_
      refine r_getf (pc2 := 12) (v := .int (nI (lxE tp n p))) fX3_47 dX3_numberHere_9 c65 (by decide) rfl rfl ?_
      refine r_icmp_ge (tgt := 45) (pc2 := 15) dX3_numberHere_12 (by decide) rfl (fun b12 => ?_) (fun b12 => ?_)
      · skip
        refine r_iload_n (pc2 := 46) 1 dX3_numberHere_45 rfl rfl rfl ?_
        exact r_iret rfl dX3_numberHere_46 ⟨by rw [hN, show lxE tp n p - lxS tp n p = k by omega], rfl⟩
      · exact absurd (nI_le (by omega) (by omega)) b12
    | succ m9 ih =>
      intro k hk
      have hlt : k < lxE tp n p - lxS tp n p := by omega
      have hr := hdg k hlt
      have hstep : dVal tp (lxS tp n p) k * 10 + tp (lxS tp n p + k) - 48 = dVal tp (lxS tp n p) (k + 1) := by
        rw [dVal, if_pos (by omega)]
        omega
      refine r_iload_n (pc2 := 8) 2 dX3_numberHere_7 rfl rfl rfl ?_
      refine r_aload_n (pc2 := 9) 0 dX3_numberHere_8 rfl rfl rfl rfl ?_
      refine r_getf (pc2 := 12) (v := .int (nI (lxE tp n p))) fX3_47 dX3_numberHere_9 c65 (by decide) rfl rfl ?_
      refine r_icmp_ge (tgt := 45) (pc2 := 15) dX3_numberHere_12 (by decide) rfl (fun b12 => ?_) (fun b12 => ?_)
      · exact absurd b12 (nI_ge (by omega) (by omega))
      · skip
        refine r_iload_n (pc2 := 16) 2 dX3_numberHere_15 rfl rfl rfl ?_
        refine r_aload_n (pc2 := 17) 0 dX3_numberHere_16 rfl rfl rfl rfl ?_
        refine r_getf (pc2 := 20) (v := .int (nI (lxS tp n p))) fX3_66 dX3_numberHere_17 c65 (by decide) rfl rfl ?_
        refine r_iconst (pc2 := 21) (v := 3) dX3_numberHere_20 (by decide) rfl ?_
        refine r_iadd (pc2 := 22) dX3_numberHere_21 rfl ?_
        refine r_cast (nI (lxS tp n p + 3)) (nI_add _ 3) ?_
        refine r_icmp_ge (tgt := 45) (pc2 := 25) dX3_numberHere_22 (by decide) rfl (fun b22 => ?_) (fun b22 => ?_)
        · exact absurd b22 (nI_ge (by omega) (by omega))
        · skip
          refine r_iload_n (pc2 := 26) 1 dX3_numberHere_25 rfl rfl rfl ?_
          refine r_bipush (pc2 := 28) (v := 10) dX3_numberHere_26 (by decide) rfl ?_
          refine r_imul (pc2 := 29) dX3_numberHere_28 rfl ?_
          refine r_cast (nI (dVal tp (lxS tp n p) k * 10)) (pk_mul _ 10) ?_
          refine r_aload_n (pc2 := 30) 0 dX3_numberHere_29 rfl rfl rfl rfl ?_
          refine r_iload_n (pc2 := 31) 2 dX3_numberHere_30 rfl rfl rfl ?_
          refine r_callV1 (pc2 := 34) (As := [.int (nI (lxS tp n p + k))]) (st := [.int (nI (dVal tp (lxS tp n p) k * 10))]) kX3_69 rfl rfl dX3_numberHere_31 c65 (by decide) rfl rfl (Nat.le_of_ble_eq_true rfl) (by omega) (c_byteAt (t := (0, -1, nI (ckK tp n p), nI (lxS tp n p), nI (lxE tp n p))) (tp := tp) (j := lxS tp n p + k) c65 hP ht.1 (by omega)) rfl (fun h2 hq31 => ?_)
          obtain rfl := hq31.symm
          refine r_cast (nI (tp (lxS tp n p + k))) ((if_pos (by omega)).trans (sb_nI _ (by omega))) ?_
          refine r_iadd (pc2 := 35) dX3_numberHere_34 rfl ?_
          refine r_cast (nI (dVal tp (lxS tp n p) k * 10 + tp (lxS tp n p + k))) (nI_add _ _) ?_
          refine r_bipush (pc2 := 37) (v := 48) dX3_numberHere_35 (by decide) rfl ?_
          refine r_isub (pc2 := 38) dX3_numberHere_37 rfl ?_
          refine r_cast (nI (dVal tp (lxS tp n p) (k + 1))) ((pk_sub (b := 48) (by omega)).trans (congrArg nI hstep)) ?_
          refine r_istore_n (pc2 := 39) (ls2 := [.ref 65, .int (nI (dVal tp (lxS tp n p) (k + 1))), .int (nI (lxS tp n p + k))]) 1 dX3_numberHere_38 rfl (by decide) rfl rfl rfl ?_
          obtain ⟨xi, e39⟩ : ∃ z : Int32, z = (nI (lxS tp n p + k)) + (1) := ⟨_, rfl⟩
          refine r_iinc (pc2 := 42) (ls2 := [.ref 65, .int (nI (dVal tp (lxS tp n p) (k + 1))), .int xi]) (v := xi) 2 dX3_numberHere_39 rfl (by rw [e39]; rfl) rfl rfl rfl ?_
          refine r_goto (pc2 := 7) dX3_numberHere_42 (by decide) ?_
          rw [show xi = nI (lxS tp n p + (k + 1)) from e39.trans (nI_1 _)]
          exact ih (k + 1) (by omega)
  refine Cn.go (ls := [.ref 65, .float 0, .float 0]) (by decide +kernel) rfl (Nat.le_of_ble_eq_true rfl) ?_
  refine r_iconst (pc2 := 1) (v := 0) dX3_numberHere_0 (by decide) rfl ?_
  refine r_cast (nI (dVal tp (lxS tp n p) 0)) (rfl) ?_
  refine r_istore_n (pc2 := 2) (ls2 := [.ref 65, .int (nI (dVal tp (lxS tp n p) 0)), .float 0]) 1 dX3_numberHere_1 rfl (by decide) rfl rfl rfl ?_
  refine r_aload_n (pc2 := 3) 0 dX3_numberHere_2 rfl rfl rfl rfl ?_
  refine r_getf (pc2 := 6) (v := .int (nI (lxS tp n p))) fX3_66 dX3_numberHere_3 c65 (by decide) rfl rfl ?_
  refine r_cast (nI (lxS tp n p + 0)) (rfl) ?_
  refine r_istore_n (pc2 := 7) (ls2 := [.ref 65, .int (nI (dVal tp (lxS tp n p) 0)), .int (nI (lxS tp n p + 0))]) 2 dX3_numberHere_6 rfl (by decide) rfl rfl rfl ?_
  exact loop (lxE tp n p - lxS tp n p) 0 (by omega)
set_option maxRecDepth 20000 in
set_option maxHeartbeats 1000000 in
theorem c_passWord {E : EnvT} {d : Nat} {h0 : Hp} {n : Nat} {ta ne inz pt cl : Int32} {tv : Value} {tp : Nat → Nat} {t : TkT} {y : PY} {x : Nat} (hx9 : x < 23) (c65 : h0.1 65 = some (.inr (3, rdL n ta ne inz pt cl tv t))) (hT : TK tp n y t) (hP : TPo tp h0) (ht : TOk tp n) (hd : 5 ≤ d) : Cn E mX3_passWord d [.ref 65, .ref x] h0 (fun r h2 => r = none ∧ Ex [65] h0 h2 ∧ ∃ t2, h2.1 65 = some (.inr (3, rdL n ta ne inz pt cl tv t2)) ∧ TK tp n (eatY tp n (kx x) y) t2) := by
  have hx : Ex [65] h0 h0 := Ex.rf
  by_cases hy : isY tp n y (kx x) = true
  · skip
    refine Cn.go (ls := [.ref 65, .ref x]) (by decide +kernel) rfl (Nat.le_of_ble_eq_true rfl) ?_
    refine r_aload_n (pc2 := 1) 0 dX3_passWord_0 rfl rfl rfl rfl ?_
    refine r_aload_n (pc2 := 2) 1 dX3_passWord_1 rfl rfl rfl rfl ?_
    refine r_callV1 (pc2 := 5) (As := [.ref x]) (st := []) kX3_88 rfl rfl dX3_passWord_2 c65 (by decide) rfl rfl (Nat.le_of_ble_eq_true rfl) (by omega) (c_isWord (x := x) (t := t) (y := y) (by omega) c65 hT hP ht (by omega)) rfl (fun h2 hq2 => ?_)
    obtain rfl := hq2.symm
    refine r_cast (1) (if_pos hy) ?_
    refine r_if_eq (tgt := 15) (pc2 := 8) dX3_passWord_5 (by decide) rfl (fun b5 => ?_) (fun b5 => ?_)
    · exact absurd b5 (by decide)
    · skip
      refine r_aload_n (pc2 := 9) 0 dX3_passWord_8 rfl rfl rfl rfl ?_
      refine r_callV0 (pc2 := 12) (As := []) (st := []) kX3_54 rfl rfl dX3_passWord_9 c65 (by decide) rfl rfl (Nat.le_of_ble_eq_true rfl) (by omega) (c_advance (t := t) (y := y) c65 hT hP ht (by omega)) rfl (fun h hq9 => ?_)
      obtain ⟨hxa, t2, c65, hT2⟩ := hq9
      have hx := hx.trans hxa (by simp)
      have hP := hP.ex hxa (by decide)
      refine r_goto (pc2 := 20) dX3_passWord_12 (by decide) ?_
      exact r_vret rfl dX3_passWord_20 ⟨rfl, hx, t2, c65, by unfold eatY; rw [if_pos hy]; exact hT2⟩
  · skip
    refine Cn.go (ls := [.ref 65, .ref x]) (by decide +kernel) rfl (Nat.le_of_ble_eq_true rfl) ?_
    refine r_aload_n (pc2 := 1) 0 dX3_passWord_0 rfl rfl rfl rfl ?_
    refine r_aload_n (pc2 := 2) 1 dX3_passWord_1 rfl rfl rfl rfl ?_
    refine r_callV1 (pc2 := 5) (As := [.ref x]) (st := []) kX3_88 rfl rfl dX3_passWord_2 c65 (by decide) rfl rfl (Nat.le_of_ble_eq_true rfl) (by omega) (c_isWord (x := x) (t := t) (y := y) (by omega) c65 hT hP ht (by omega)) rfl (fun h2 hq2 => ?_)
    obtain rfl := hq2.symm
    refine r_cast (0) (if_neg hy) ?_
    refine r_if_eq (tgt := 15) (pc2 := 8) dX3_passWord_5 (by decide) rfl (fun b5 => ?_) (fun b5 => ?_)
    · skip
      refine r_aload_n (pc2 := 16) 0 dX3_passWord_15 rfl rfl rfl rfl ?_
      refine r_iconst (pc2 := 17) (v := 2) dX3_passWord_16 (by decide) rfl ?_
      refine r_callV0 (pc2 := 20) (As := [.int 2]) (st := []) kX3_76 rfl rfl dX3_passWord_17 c65 (by decide) rfl rfl (Nat.le_of_ble_eq_true rfl) (by omega) (c_refuse (f := 2) (t := t) (y := y) (by decide) (by decide) rfl ht c65 hT) rfl (fun h hq17 => ?_)
      obtain ⟨hxa, t2, c65, hT2⟩ := hq17
      have hx := hx.trans hxa (by simp)
      have hP := hP.ex hxa (by decide)
      exact r_vret rfl dX3_passWord_20 ⟨rfl, hx, t2, c65, by unfold eatY; rw [if_neg hy]; exact hT2⟩
    · exact absurd b5 (by decide)
set_option maxRecDepth 20000 in
set_option maxHeartbeats 1000000 in
theorem c_passSign {E : EnvT} {d : Nat} {h0 : Hp} {n : Nat} {ta ne inz pt cl : Int32} {tv : Value} {tp : Nat → Nat} {t : TkT} {y : PY} {k : Nat} {cv : Int32} (hk : k < 12) (ec : cv = nI (sg k)) (c65 : h0.1 65 = some (.inr (3, rdL n ta ne inz pt cl tv t))) (hT : TK tp n y t) (hP : TPo tp h0) (ht : TOk tp n) (hd : 5 ≤ d) : Cn E mX3_passSign d [.ref 65, .int cv] h0 (fun r h2 => r = none ∧ Ex [65] h0 h2 ∧ ∃ t2, h2.1 65 = some (.inr (3, rdL n ta ne inz pt cl tv t2)) ∧ TK tp n (eatY tp n (30 + k) y) t2) := by
  subst ec
  have hx : Ex [65] h0 h0 := Ex.rf
  by_cases hy : isY tp n y (30 + k) = true
  · skip
    refine Cn.go (ls := [.ref 65, .int (nI (sg k))]) (by decide +kernel) rfl (Nat.le_of_ble_eq_true rfl) ?_
    refine r_aload_n (pc2 := 1) 0 dX3_passSign_0 rfl rfl rfl rfl ?_
    refine r_iload_n (pc2 := 2) 1 dX3_passSign_1 rfl rfl rfl ?_
    refine r_callV1 (pc2 := 5) (As := [.int (nI (sg k))]) (st := []) kX3_92 rfl rfl dX3_passSign_2 c65 (by decide) rfl rfl (Nat.le_of_ble_eq_true rfl) (by omega) (c_isSign (k := k) (t := t) (y := y) hk rfl c65 hT hP ht (by omega)) rfl (fun h2 hq2 => ?_)
    obtain rfl := hq2.symm
    refine r_cast (1) (if_pos hy) ?_
    refine r_if_eq (tgt := 15) (pc2 := 8) dX3_passSign_5 (by decide) rfl (fun b5 => ?_) (fun b5 => ?_)
    · exact absurd b5 (by decide)
    · skip
      refine r_aload_n (pc2 := 9) 0 dX3_passSign_8 rfl rfl rfl rfl ?_
      refine r_callV0 (pc2 := 12) (As := []) (st := []) kX3_54 rfl rfl dX3_passSign_9 c65 (by decide) rfl rfl (Nat.le_of_ble_eq_true rfl) (by omega) (c_advance (t := t) (y := y) c65 hT hP ht (by omega)) rfl (fun h hq9 => ?_)
      obtain ⟨hxa, t2, c65, hT2⟩ := hq9
      have hx := hx.trans hxa (by simp)
      have hP := hP.ex hxa (by decide)
      refine r_goto (pc2 := 20) dX3_passSign_12 (by decide) ?_
      exact r_vret rfl dX3_passSign_20 ⟨rfl, hx, t2, c65, by unfold eatY; rw [if_pos hy]; exact hT2⟩
  · skip
    refine Cn.go (ls := [.ref 65, .int (nI (sg k))]) (by decide +kernel) rfl (Nat.le_of_ble_eq_true rfl) ?_
    refine r_aload_n (pc2 := 1) 0 dX3_passSign_0 rfl rfl rfl rfl ?_
    refine r_iload_n (pc2 := 2) 1 dX3_passSign_1 rfl rfl rfl ?_
    refine r_callV1 (pc2 := 5) (As := [.int (nI (sg k))]) (st := []) kX3_92 rfl rfl dX3_passSign_2 c65 (by decide) rfl rfl (Nat.le_of_ble_eq_true rfl) (by omega) (c_isSign (k := k) (t := t) (y := y) hk rfl c65 hT hP ht (by omega)) rfl (fun h2 hq2 => ?_)
    obtain rfl := hq2.symm
    refine r_cast (0) (if_neg hy) ?_
    refine r_if_eq (tgt := 15) (pc2 := 8) dX3_passSign_5 (by decide) rfl (fun b5 => ?_) (fun b5 => ?_)
    · skip
      refine r_aload_n (pc2 := 16) 0 dX3_passSign_15 rfl rfl rfl rfl ?_
      refine r_iconst (pc2 := 17) (v := 2) dX3_passSign_16 (by decide) rfl ?_
      refine r_callV0 (pc2 := 20) (As := [.int 2]) (st := []) kX3_76 rfl rfl dX3_passSign_17 c65 (by decide) rfl rfl (Nat.le_of_ble_eq_true rfl) (by omega) (c_refuse (f := 2) (t := t) (y := y) (by decide) (by decide) rfl ht c65 hT) rfl (fun h hq17 => ?_)
      obtain ⟨hxa, t2, c65, hT2⟩ := hq17
      have hx := hx.trans hxa (by simp)
      have hP := hP.ex hxa (by decide)
      exact r_vret rfl dX3_passSign_20 ⟨rfl, hx, t2, c65, by unfold eatY; rw [if_neg hy]; exact hT2⟩
    · exact absurd b5 (by decide)
set_option maxRecDepth 20000 in
set_option maxHeartbeats 1000000 in
theorem c_passNumber {E : EnvT} {d : Nat} {h0 : Hp} {n : Nat} {ta ne inz pt cl : Int32} {tv : Value} {tp : Nat → Nat} {t : TkT} {y : PY} {a b : Int32} {lo H : Nat} (hab : ∀ p, y = .ok p → a = nI lo ∧ b = nI H - 1) (hlo : lo ≤ 10) (hH : H ≤ 1000) (c65 : h0.1 65 = some (.inr (3, rdL n ta ne inz pt cl tv t))) (hT : TK tp n y t) (hP : TPo tp h0) (ht : TOk tp n) (hd : 3 ≤ d) : Cn E mX3_passNumber d [.ref 65, .int a, .int b] h0 (fun r h2 => r = some (.int (nI (tkV tp n lo H y))) ∧ Ex [65] h0 h2 ∧ ∃ t2, h2.1 65 = some (.inr (3, rdL n ta ne inz pt cl tv t2)) ∧ TK tp n (tkY tp n lo H y) t2) := by
  have hx : Ex [65] h0 h0 := Ex.rf
  have hT9 := hT
  match y, hT, hT9 with
  | .error (w, a9), hT, hT9 =>
    obtain ⟨s, e, h1, h2, h3, rfl⟩ := hT
    refine Cn.go (ls := [.ref 65, .int a, .int b, .float 0]) (by decide +kernel) rfl (Nat.le_of_ble_eq_true rfl) ?_
    refine r_aload_n (pc2 := 1) 0 dX3_passNumber_0 rfl rfl rfl rfl ?_
    refine r_getf (pc2 := 4) (v := .int 0) fX3_60 dX3_passNumber_1 c65 (by decide) rfl rfl ?_
    refine r_iconst (pc2 := 5) (v := 2) dX3_passNumber_4 (by decide) rfl ?_
    refine r_icmp_eq (tgt := 15) (pc2 := 8) dX3_passNumber_5 (by decide) rfl (fun b5 => ?_) (fun b5 => ?_)
    · exact absurd b5 (by decide)
    · skip
      refine r_aload_n (pc2 := 9) 0 dX3_passNumber_8 rfl rfl rfl rfl ?_
      refine r_iconst (pc2 := 10) (v := 2) dX3_passNumber_9 (by decide) rfl ?_
      refine r_callV0 (pc2 := 13) (As := [.int 2]) (st := []) kX3_76 rfl rfl dX3_passNumber_10 c65 (by decide) rfl rfl (Nat.le_of_ble_eq_true rfl) (by omega) (c_refuse (f := 2) (t := (nI w, nI a9, 0, nI s, nI e)) (y := (.error (w, a9))) (by decide) (by decide) rfl ht c65 hT9) rfl (fun h hq10 => ?_)
      obtain ⟨hxa, t2, c65, hT2⟩ := hq10
      have hx := hx.trans hxa (by simp)
      have hP := hP.ex hxa (by decide)
      refine r_iconst (pc2 := 14) (v := 0) dX3_passNumber_13 (by decide) rfl ?_
      exact r_iret rfl dX3_passNumber_14 ⟨rfl, hx, t2, c65, hT2⟩
  | .ok p, hT, hT9 =>
    obtain ⟨hp, h26, rfl⟩ := hT
    obtain ⟨rfl, rfl⟩ := hab p rfl
    by_cases hk : lxK tp n p = 24
    · by_cases hr : lo ≤ lxN tp n p ∧ lxN tp n p < H
      · skip
        refine Cn.go (ls := [.ref 65, .int (nI lo), .int (nI H - 1), .float 0]) (by decide +kernel) rfl (Nat.le_of_ble_eq_true rfl) ?_
        refine r_aload_n (pc2 := 1) 0 dX3_passNumber_0 rfl rfl rfl rfl ?_
        refine r_getf (pc2 := 4) (v := .int (nI (ckK tp n p))) fX3_60 dX3_passNumber_1 c65 (by decide) rfl rfl ?_
        refine r_iconst (pc2 := 5) (v := 2) dX3_passNumber_4 (by decide) rfl ?_
        refine r_icmp_eq (tgt := 15) (pc2 := 8) dX3_passNumber_5 (by decide) rfl (fun b5 => ?_) (fun b5 => ?_)
        · skip
          refine r_aload_n (pc2 := 16) 0 dX3_passNumber_15 rfl rfl rfl rfl ?_
          refine r_callV1 (pc2 := 19) (As := []) (st := []) kX3_96 rfl rfl dX3_passNumber_16 c65 (by decide) rfl rfl (Nat.le_of_ble_eq_true rfl) (by omega) (c_numberHere c65 hp hk hP ht (by omega)) rfl (fun h2 hq16 => ?_)
          obtain rfl := hq16.symm
          refine r_istore_n (pc2 := 20) (ls2 := [.ref 65, .int (nI lo), .int (nI H - 1), .int (nI (lxN tp n p))]) 3 dX3_passNumber_19 rfl (by decide) rfl rfl rfl ?_
          refine r_iload_n (pc2 := 21) 3 dX3_passNumber_20 rfl rfl rfl ?_
          refine r_iload_n (pc2 := 22) 1 dX3_passNumber_21 rfl rfl rfl ?_
          refine r_icmp_lt (tgt := 30) (pc2 := 25) dX3_passNumber_22 (by decide) rfl (fun b22 => ?_) (fun b22 => ?_)
          · exact absurd b22 (Int32.not_lt.mpr (nI_le hr.1 (by have := lxN_lt tp n p; omega)))
          · skip
            refine r_iload_n (pc2 := 26) 3 dX3_passNumber_25 rfl rfl rfl ?_
            refine r_iload_n (pc2 := 27) 2 dX3_passNumber_26 rfl rfl rfl ?_
            refine r_icmp_le (tgt := 37) (pc2 := 30) dX3_passNumber_27 (by decide) rfl (fun b27 => ?_) (fun b27 => ?_)
            · skip
              refine r_aload_n (pc2 := 38) 0 dX3_passNumber_37 rfl rfl rfl rfl ?_
              refine r_callV0 (pc2 := 41) (As := []) (st := []) kX3_54 rfl rfl dX3_passNumber_38 c65 (by decide) rfl rfl (Nat.le_of_ble_eq_true rfl) (by omega) (c_advance (t := (0, -1, nI (ckK tp n p), nI (lxS tp n p), nI (lxE tp n p))) (y := (.ok p)) c65 hT9 hP ht (by omega)) rfl (fun h hq38 => ?_)
              obtain ⟨hxa, t2, c65, hT2⟩ := hq38
              have hx := hx.trans hxa (by simp)
              have hP := hP.ex hxa (by decide)
              refine r_iload_n (pc2 := 42) 3 dX3_passNumber_41 rfl rfl rfl ?_
              exact r_iret rfl dX3_passNumber_42 ⟨by show _ = some (Value.int (nI (if _ then _ else _))); rw [if_pos ⟨hk, hr⟩], hx, t2, c65, by show TK tp n (if _ then (if _ then _ else _) else _) t2; rw [if_pos hk, if_pos hr]; exact hT2⟩
            · exact absurd ((rng32 hH (lxN_lt tp n p)).mpr hr.2) b27
        · exact absurd ((congrArg nI ((ck2 ht h26).mpr hk)).trans rfl) b5
      · skip
        refine Cn.go (ls := [.ref 65, .int (nI lo), .int (nI H - 1), .float 0]) (by decide +kernel) rfl (Nat.le_of_ble_eq_true rfl) ?_
        refine r_aload_n (pc2 := 1) 0 dX3_passNumber_0 rfl rfl rfl rfl ?_
        refine r_getf (pc2 := 4) (v := .int (nI (ckK tp n p))) fX3_60 dX3_passNumber_1 c65 (by decide) rfl rfl ?_
        refine r_iconst (pc2 := 5) (v := 2) dX3_passNumber_4 (by decide) rfl ?_
        refine r_icmp_eq (tgt := 15) (pc2 := 8) dX3_passNumber_5 (by decide) rfl (fun b5 => ?_) (fun b5 => ?_)
        · skip
          refine r_aload_n (pc2 := 16) 0 dX3_passNumber_15 rfl rfl rfl rfl ?_
          refine r_callV1 (pc2 := 19) (As := []) (st := []) kX3_96 rfl rfl dX3_passNumber_16 c65 (by decide) rfl rfl (Nat.le_of_ble_eq_true rfl) (by omega) (c_numberHere c65 hp hk hP ht (by omega)) rfl (fun h2 hq16 => ?_)
          obtain rfl := hq16.symm
          refine r_istore_n (pc2 := 20) (ls2 := [.ref 65, .int (nI lo), .int (nI H - 1), .int (nI (lxN tp n p))]) 3 dX3_passNumber_19 rfl (by decide) rfl rfl rfl ?_
          refine r_iload_n (pc2 := 21) 3 dX3_passNumber_20 rfl rfl rfl ?_
          refine r_iload_n (pc2 := 22) 1 dX3_passNumber_21 rfl rfl rfl ?_
          refine r_icmp_lt (tgt := 30) (pc2 := 25) dX3_passNumber_22 (by decide) rfl (fun b22 => ?_) (fun b22 => ?_)
          · skip
            refine r_aload_n (pc2 := 31) 0 dX3_passNumber_30 rfl rfl rfl rfl ?_
            refine r_iconst (pc2 := 32) (v := 3) dX3_passNumber_31 (by decide) rfl ?_
            refine r_callV0 (pc2 := 35) (As := [.int 3]) (st := []) kX3_76 rfl rfl dX3_passNumber_32 c65 (by decide) rfl rfl (Nat.le_of_ble_eq_true rfl) (by omega) (c_refuse (f := 3) (t := (0, -1, nI (ckK tp n p), nI (lxS tp n p), nI (lxE tp n p))) (y := (.ok p)) (by decide) (by decide) rfl ht c65 hT9) rfl (fun h hq32 => ?_)
            obtain ⟨hxa, t2, c65, hT2⟩ := hq32
            have hx := hx.trans hxa (by simp)
            have hP := hP.ex hxa (by decide)
            refine r_iconst (pc2 := 36) (v := 0) dX3_passNumber_35 (by decide) rfl ?_
            exact r_iret rfl dX3_passNumber_36 ⟨by show _ = some (Value.int (nI (if _ then _ else _))); rw [if_neg (fun z => hr z.2)]; rfl, hx, t2, c65, by show TK tp n (if _ then (if _ then _ else _) else _) t2; rw [if_pos hk, if_neg hr]; exact hT2⟩
          · skip
            refine r_iload_n (pc2 := 26) 3 dX3_passNumber_25 rfl rfl rfl ?_
            refine r_iload_n (pc2 := 27) 2 dX3_passNumber_26 rfl rfl rfl ?_
            refine r_icmp_le (tgt := 37) (pc2 := 30) dX3_passNumber_27 (by decide) rfl (fun b27 => ?_) (fun b27 => ?_)
            · exact absurd ⟨Nat.le_of_not_lt (fun z => b22 (nI_lt z (by omega))), (rng32 hH (lxN_lt tp n p)).mp b27⟩ hr
            · skip
              refine r_aload_n (pc2 := 31) 0 dX3_passNumber_30 rfl rfl rfl rfl ?_
              refine r_iconst (pc2 := 32) (v := 3) dX3_passNumber_31 (by decide) rfl ?_
              refine r_callV0 (pc2 := 35) (As := [.int 3]) (st := []) kX3_76 rfl rfl dX3_passNumber_32 c65 (by decide) rfl rfl (Nat.le_of_ble_eq_true rfl) (by omega) (c_refuse (f := 3) (t := (0, -1, nI (ckK tp n p), nI (lxS tp n p), nI (lxE tp n p))) (y := (.ok p)) (by decide) (by decide) rfl ht c65 hT9) rfl (fun h hq32 => ?_)
              obtain ⟨hxa, t2, c65, hT2⟩ := hq32
              have hx := hx.trans hxa (by simp)
              have hP := hP.ex hxa (by decide)
              refine r_iconst (pc2 := 36) (v := 0) dX3_passNumber_35 (by decide) rfl ?_
              exact r_iret rfl dX3_passNumber_36 ⟨by show _ = some (Value.int (nI (if _ then _ else _))); rw [if_neg (fun z => hr z.2)]; rfl, hx, t2, c65, by show TK tp n (if _ then (if _ then _ else _) else _) t2; rw [if_pos hk, if_neg hr]; exact hT2⟩
        · exact absurd ((congrArg nI ((ck2 ht h26).mpr hk)).trans rfl) b5
    · skip
      refine Cn.go (ls := [.ref 65, .int (nI lo), .int (nI H - 1), .float 0]) (by decide +kernel) rfl (Nat.le_of_ble_eq_true rfl) ?_
      refine r_aload_n (pc2 := 1) 0 dX3_passNumber_0 rfl rfl rfl rfl ?_
      refine r_getf (pc2 := 4) (v := .int (nI (ckK tp n p))) fX3_60 dX3_passNumber_1 c65 (by decide) rfl rfl ?_
      refine r_iconst (pc2 := 5) (v := 2) dX3_passNumber_4 (by decide) rfl ?_
      refine r_icmp_eq (tgt := 15) (pc2 := 8) dX3_passNumber_5 (by decide) rfl (fun b5 => ?_) (fun b5 => ?_)
      · exact absurd ((ck2 ht h26).mp ((nI_eq (a := ckK tp n p) (b := 2) (by have := ck_le (tp := tp) (n := n) (p := p); omega) (by decide)).mp b5)) hk
      · skip
        refine r_aload_n (pc2 := 9) 0 dX3_passNumber_8 rfl rfl rfl rfl ?_
        refine r_iconst (pc2 := 10) (v := 2) dX3_passNumber_9 (by decide) rfl ?_
        refine r_callV0 (pc2 := 13) (As := [.int 2]) (st := []) kX3_76 rfl rfl dX3_passNumber_10 c65 (by decide) rfl rfl (Nat.le_of_ble_eq_true rfl) (by omega) (c_refuse (f := 2) (t := (0, -1, nI (ckK tp n p), nI (lxS tp n p), nI (lxE tp n p))) (y := (.ok p)) (by decide) (by decide) rfl ht c65 hT9) rfl (fun h hq10 => ?_)
        obtain ⟨hxa, t2, c65, hT2⟩ := hq10
        have hx := hx.trans hxa (by simp)
        have hP := hP.ex hxa (by decide)
        refine r_iconst (pc2 := 14) (v := 0) dX3_passNumber_13 (by decide) rfl ?_
        exact r_iret rfl dX3_passNumber_14 ⟨by show _ = some (Value.int (nI (if _ then _ else _))); rw [if_neg (fun z => hk z.1)]; rfl, hx, t2, c65, by show TK tp n (if _ then _ else _) t2; rw [if_neg hk]; exact hT2⟩
set_option maxRecDepth 20000 in
set_option maxHeartbeats 1000000 in
theorem c_passWordNumber {E : EnvT} {d : Nat} {h0 : Hp} {n : Nat} {ta ne inz pt cl : Int32} {tv : Value} {tp : Nat → Nat} {t : TkT} {y : PY} {a b : Int32} {lo H x : Nat} (hx9 : x < 23) (hab : ∀ p, eatY tp n (kx x) y = .ok p → a = nI lo ∧ b = nI H - 1) (hlo : lo ≤ 10) (hH : H ≤ 1000) (c65 : h0.1 65 = some (.inr (3, rdL n ta ne inz pt cl tv t))) (hT : TK tp n y t) (hP : TPo tp h0) (ht : TOk tp n) (hd : 6 ≤ d) : Cn E mX3_passWordNumber d [.ref 65, .ref x, .int a, .int b] h0 (fun r h2 => r = some (.int (nI (tkV tp n lo H (eatY tp n (kx x) y)))) ∧ Ex [65] h0 h2 ∧ ∃ t2, h2.1 65 = some (.inr (3, rdL n ta ne inz pt cl tv t2)) ∧ TK tp n (tkY tp n lo H (eatY tp n (kx x) y)) t2) := by
  have hx : Ex [65] h0 h0 := Ex.rf
  refine Cn.go (ls := [.ref 65, .ref x, .int a, .int b]) (by decide +kernel) rfl (Nat.le_of_ble_eq_true rfl) ?_
  refine r_aload_n (pc2 := 1) 0 dX3_passWordNumber_0 rfl rfl rfl rfl ?_
  refine r_aload_n (pc2 := 2) 1 dX3_passWordNumber_1 rfl rfl rfl rfl ?_
  refine r_callV0 (pc2 := 5) (As := [.ref x]) (st := []) kX3_99 rfl rfl dX3_passWordNumber_2 c65 (by decide) rfl rfl (Nat.le_of_ble_eq_true rfl) (by omega) (c_passWord (t := t) (y := y) (x := x) hx9 c65 hT hP ht (by omega)) rfl (fun h hq2 => ?_)
  obtain ⟨hxb, t2, c65, hT2⟩ := hq2
  have hx := hx.trans hxb (by simp)
  have hP := hP.ex hxb (by decide)
  refine r_aload_n (pc2 := 6) 0 dX3_passWordNumber_5 rfl rfl rfl rfl ?_
  refine r_iload_n (pc2 := 7) 2 dX3_passWordNumber_6 rfl rfl rfl ?_
  refine r_iload_n (pc2 := 8) 3 dX3_passWordNumber_7 rfl rfl rfl ?_
  refine r_callV1 (pc2 := 11) (As := [.int a, .int b]) (st := []) kX3_103 rfl rfl dX3_passWordNumber_8 c65 (by decide) rfl rfl (Nat.le_of_ble_eq_true rfl) (by omega) (c_passNumber (t := t2) (lo := lo) (H := H) (y := eatY tp n (kx x) y) hab hlo hH c65 hT2 hP ht (by omega)) rfl (fun h hq8 => ?_)
  obtain ⟨hxb, t3, c65, hT3⟩ := hq8
  have hx := hx.trans hxb (by simp)
  exact r_iret rfl dX3_passWordNumber_11 ⟨rfl, hx, t3, c65, hT3⟩
