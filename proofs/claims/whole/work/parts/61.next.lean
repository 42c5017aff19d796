/-! next -/
def NV (v w : Nat → Int32) : Prop := ∀ k, k ≠ 6 → k ≠ 7 → k ≠ 9 → k ≠ 10 → w k = v k
def PA (tp : Nat → Nat) (n : Nat) (v : Nat → Int32) (p : Nat) : Prop := v 8 = nI n ∧ v 11 = 0 ∧ v 6 = nI (lxS tp n p) ∧ v 7 = nI (lxE tp n p) ∧ v 9 = nI (lxK tp n p) ∧ (lxK tp n p = 24 → v 10 = nI (lxN tp n p))
def NXq (tp : Nat → Nat) (n p : Nat) (v : Nat → Int32) (h0 : Hp) : Option Value → Hp → Prop := fun r h2 => r = none ∧ Ex [117] h0 h2 ∧ ∃ v2, h2.1 117 = some (mO v2) ∧ NV v v2 ∧ PA tp n v2 p
theorem NXq_mk {tp : Nat → Nat} {n p : Nat} {v w : Nat → Int32} {h0 h2 : Hp} (c : h2.1 117 = some (mO w)) (hx : Ex [117] h0 h2) (hv : NV v w) (h8 : v 8 = nI n) (h11 : v 11 = 0) (h6 : w 6 = nI (lxS tp n p)) (h7 : w 7 = nI (lxE tp n p)) (h9 : w 9 = nI (lxK tp n p)) (h10 : lxK tp n p = 24 → w 10 = nI (lxN tp n p)) : NXq tp n p v h0 none h2 :=
  ⟨rfl, hx, w, c, hv, (hv 8 (by decide) (by decide) (by decide) (by decide)).trans h8, (hv 11 (by decide) (by decide) (by decide) (by decide)).trans h11, h6, h7, h9, h10⟩
theorem see_in {tp : Nat → Nat} {n k : Nat} (h : k < n) : seeI tp n k = nI (tp k) := if_pos h
theorem rng_iff {tp : Nat → Nat} {n k lo hi : Nat} (ht : k < n → tp k < 256) (hlo : 0 < lo) (hhi : hi < 256) (hlo2 : lo < 256) : (nI lo ≤ seeI tp n k ∧ seeI tp n k ≤ nI hi) ↔ k < n ∧ (lo ≤ tp k ∧ tp k ≤ hi) := by
  by_cases h : k < n
  · have := ht h
    rw [see_in h, nI_leI (by omega) (by omega), nI_leI (by omega) (by omega)]
    exact ⟨fun z => ⟨h, z⟩, fun z => z.2⟩
  · rw [seeI, if_neg h]
    refine ⟨fun z => ?_, fun z => absurd z.1 h⟩
    have h1 := Int32.le_iff_toInt_le.mp z.1
    rw [nI_toInt (by omega), show (-1 : Int32).toInt = -1 by decide] at h1
    omega
theorem sm_iff {tp : Nat → Nat} {n k : Nat} (ht : k < n → tp k < 256) : ((97 : Int32) ≤ seeI tp n k ∧ seeI tp n k ≤ 122) ↔ k < n ∧ isSm (tp k) = true := by
  have := rng_iff (lo := 97) (hi := 122) ht (by decide) (by decide) (by decide)
  unfold isSm
  rw [Bool.and_eq_true, decide_eq_true_iff, decide_eq_true_iff]
  exact this
theorem dg_iff {tp : Nat → Nat} {n k : Nat} (ht : k < n → tp k < 256) : ((48 : Int32) ≤ seeI tp n k ∧ seeI tp n k ≤ 57) ↔ k < n ∧ isDg (tp k) = true := by
  have := rng_iff (lo := 48) (hi := 57) ht (by decide) (by decide) (by decide)
  unfold isDg
  rw [Bool.and_eq_true, decide_eq_true_iff, decide_eq_true_iff]
  exact this
theorem see_lit {tp : Nat → Nat} {n k c : Nat} (ht : k < n → tp k < 256) (hc : c < 256) : seeI tp n k = nI c ↔ k < n ∧ tp k = c := by
  by_cases h : k < n
  · have := ht h
    rw [see_in h, nI_eq (by omega) (by omega)]
    exact ⟨fun z => ⟨h, z⟩, fun z => z.2⟩
  · rw [seeI, if_neg h]
    exact ⟨fun z => absurd z.symm (nI_nm1 (by omega)), fun z => absurd z.1 h⟩
theorem dVal_lt (tp : Nat → Nat) (q : Nat) : ∀ k, (∀ j, j < k → tp (q + j) ≤ 57) → dVal tp q k < 1000 ∧ (k ≤ 3 → dVal tp q k < 10 ^ k)
  | 0, _ => ⟨by show 0 < 1000; decide, fun _ => by show 0 < 1; decide⟩
  | k + 1, h => by
    have ih := dVal_lt tp q k (fun j hj => h j (by omega))
    have hk := h k (by omega)
    unfold dVal
    by_cases c : k < 3
    · rw [if_pos c]
      have h2 := ih.2 (by omega)
      have e : 10 ^ (k + 1) = 10 * 10 ^ k := by rw [Nat.pow_succ, Nat.mul_comm]
      have : 10 * dVal tp q k + (tp (q + k) - 48) < 10 ^ (k + 1) := by rw [e]; omega
      refine ⟨Nat.lt_of_lt_of_le this (Nat.pow_le_pow_right (n := 10) (i := k + 1) (j := 3) (by decide) (by omega)), fun _ => this⟩
    · rw [if_neg c]; exact ⟨ih.1, fun z => by omega⟩
theorem kF_24 (w : List Nat) : ∀ m i, i + m ≤ 23 → kF w m i ≠ 24
  | 0, i, _ => by show 23 ≠ 24; decide
  | m + 1, i, h => by
    unfold kF
    split
    · omega
    · exact kF_24 w m (i + 1) (by omega)
theorem sgF_24 (c : Nat) : ∀ k, sgF c k ≠ 24
  | 0 => by show 26 ≠ 24; decide
  | k + 1 => by
    unfold sgF
    split
    · omega
    · exact sgF_24 c k
set_option maxRecDepth 20000 in
set_option maxHeartbeats 1000000 in
theorem c_next {E : EnvT} {d : Nat} {h0 : Hp} {v : Nat → Int32} {tp : Nat → Nat} {n p : Nat} (c117 : h0.1 117 = some (mO v)) (c120 : h0.1 120 = some (aI 900 (nA tp))) (h7 : v 7 = nI p) (h8 : v 8 = nI n) (h11 : v 11 = 0) (hpn : p ≤ n) (hn9 : n ≤ 900) (htp : ∀ k, k < 900 → tp k < 256) (hd : 6 ≤ d) : Cn E mX10_next d [.ref 117] h0 (NXq tp n p v h0) := by
  have hx : Ex [117] h0 h0 := Ex.rf
  have x47 : ∀ (w : Nat → Int32) (h1 : Hp), w 6 = nI (lxS tp n p) → (∀ k, k ≠ 6 → w k = v k) → Ex [117] h0 h1 → h1.1 117 = some (mO w) → h1.1 120 = some (aI 900 (nA tp)) → ∀ u1 : Value, Fr E mX10_next d 47 [.ref 117, u1] [] h1 (NXq tp n p v h0) := by
    intro w h h6 hv hx c117 c120 u1
    obtain ⟨q, eq⟩ : ∃ q, q = lxS tp n p := ⟨_, rfl⟩
    have hEq : lxE tp n p = tkE tp n q := by rw [eq]; rfl
    have hKq : lxK tp n p = tkK tp n q := by rw [eq]; rfl
    have hNq : lxN tp n p = tkN tp n q := by rw [eq]; rfl
    have hqn : q ≤ n := by rw [eq]; exact scan_n _ _ _ _ _ hpn
    have nxmk : ∀ {w : Nat → Int32} {h2 : Hp}, h2.1 117 = some (mO w) → Ex [117] h0 h2 → NV v w → v 8 = nI n → v 11 = 0 → w 6 = nI q → w 7 = nI (tkE tp n q) → w 9 = nI (tkK tp n q) → (tkK tp n q = 24 → w 10 = nI (tkN tp n q)) → NXq tp n p v h0 none h2 := fun c a b e f g i j k => NXq_mk c a b e f (g.trans (congrArg nI eq)) (i.trans (congrArg nI hEq.symm)) (j.trans (congrArg nI hKq.symm)) (fun z => (k (hKq.symm.trans z)).trans (congrArg nI hNq.symm))
    rw [← eq] at h6
    have h8w := (hv 8 (by decide)).trans h8
    have htq : q < n → tp q < 256 := fun z => htp q (by omega)
    by_cases hq : q < n
    · by_cases hs : isSm (tp q) = true
      · have hE : tkE tp n q = lxW tp n q := by unfold tkE; rw [if_neg (by omega), if_pos hs]
        have hK : tkK tp n q = kF (wordL tp q (lxW tp n q)) 23 0 := by unfold tkK; rw [if_neg (by omega), if_pos hs]
        have hK24 : tkK tp n q ≠ 24 := by rw [hK]; exact kF_24 _ _ _ (by omega)
        have lpW : ∀ (m e : Nat) (w : Nat → Int32) (h1 : Hp), e + m = n → q ≤ e → scan isSm tp n (n - e) e = lxW tp n q → w 6 = nI q → w 7 = nI e → (∀ k, k ≠ 6 → k ≠ 7 → w k = v k) → Ex [117] h0 h1 → h1.1 117 = some (mO w) → h1.1 120 = some (aI 900 (nA tp)) → Fr E mX10_next d 89 [.ref 117, u1] [] h1 (NXq tp n p v h0) := by
          intro m
          induction m with
          | zero =>
            intro e w h hem hqe hsc h6 h7 hv hx c117 c120
            have h8w := (hv 8 (by decide) (by decide)).trans h8
            have hte : e < n → tp e < 256 := fun z => htp e (by omega)
            have hno : ¬ (e < n ∧ isSm (tp e) = true) := fun z => by omega
            have hee : lxW tp n q = e := by rw [← hsc, scan_out hno]
            refine r_aload_n (pc2 := 90) 0 dX10_next_89 rfl rfl rfl rfl ?_
            refine r_aload_n (pc2 := 91) 0 dX10_next_90 rfl rfl rfl rfl ?_
            refine r_getf (pc2 := 94) (v := .int (w 7)) fX10_111 dX10_next_91 c117 (by decide) rfl rfl ?_
            refine r_cast (nI e) (h7) ?_
            refine r_callV1 (pc2 := 97) (As := [.int (nI e)]) (st := []) kX10_114 rfl rfl dX10_next_94 c117 (by decide) rfl rfl (Nat.le_of_ble_eq_true rfl) (by omega) (c_see (k := e) c117 c120 h8w hn9 (by omega)) rfl (fun h2 hq94 => ?_)
            subst hq94
            refine r_callS1 (pc2 := 100) (As := [.int (seeI tp n e)]) (st := []) kX10_121 dX10_next_97 rfl rfl (Nat.le_of_ble_eq_true rfl) (by omega) (c_isSmall (seeI tp n e)) rfl (fun h2 hq97 => ?_)
            subst hq97
            refine r_if_eq (tgt := 116) (pc2 := 103) dX10_next_100 (by decide) rfl (fun b100 => ?_) (fun b100 => ?_)
            · skip
              refine r_aload_n (pc2 := 117) 0 dX10_next_116 rfl rfl rfl rfl ?_
              refine r_aload_n (pc2 := 118) 0 dX10_next_117 rfl rfl rfl rfl ?_
              refine r_callV1 (pc2 := 121) (As := []) (st := [.ref 117]) kX10_125 rfl rfl dX10_next_118 c117 (by decide) rfl rfl (Nat.le_of_ble_eq_true rfl) (by omega) (c_keyAt (q := q) (e := e) c117 c120 h6 h7 (by omega) (by omega) htp (by omega)) rfl (fun h2 hq118 => ?_)
              subst hq118
              refine r_putfX (pc2 := 124) (moL (upd w 9 (nI (kF (wordL tp q e) 23 0)))) fX10_118 dX10_next_121 c117 (by decide) (Nat.le_of_ble_eq_true rfl) rfl rfl rfl (fun h z121 o121 c117 => ?_)
              have c120 := (o121 120 (by decide)).trans c120
              have hx := hx.step (a := 117) (by decide) z121 o121
              refine r_goto (pc2 := 294) dX10_next_124 (by decide) ?_
              exact r_vret rfl dX10_next_294 (nxmk c117 hx (fun k a b c _ => (if_neg c).trans (hv k a b)) h8 h11 h6 (h7.trans (congrArg nI (hE.trans hee).symm)) (congrArg nI (show _ = tkK tp n q by rw [hK, hee])) (fun z => absurd z (hK24)))
            · exact absurd (if0 (fun z => hno ((sm_iff hte).mp z))) b100
          | succ m ih =>
            intro e w h hem hqe hsc h6 h7 hv hx c117 c120
            have h8w := (hv 8 (by decide) (by decide)).trans h8
            have hte : e < n → tp e < 256 := fun z => htp e (by omega)
            have hlt : e < n := by omega
            by_cases hs : isSm (tp e) = true
            · skip
              refine r_aload_n (pc2 := 90) 0 dX10_next_89 rfl rfl rfl rfl ?_
              refine r_aload_n (pc2 := 91) 0 dX10_next_90 rfl rfl rfl rfl ?_
              refine r_getf (pc2 := 94) (v := .int (w 7)) fX10_111 dX10_next_91 c117 (by decide) rfl rfl ?_
              refine r_cast (nI e) (h7) ?_
              refine r_callV1 (pc2 := 97) (As := [.int (nI e)]) (st := []) kX10_114 rfl rfl dX10_next_94 c117 (by decide) rfl rfl (Nat.le_of_ble_eq_true rfl) (by omega) (c_see (k := e) c117 c120 h8w hn9 (by omega)) rfl (fun h2 hq94 => ?_)
              subst hq94
              refine r_callS1 (pc2 := 100) (As := [.int (seeI tp n e)]) (st := []) kX10_121 dX10_next_97 rfl rfl (Nat.le_of_ble_eq_true rfl) (by omega) (c_isSmall (seeI tp n e)) rfl (fun h2 hq97 => ?_)
              subst hq97
              refine r_if_eq (tgt := 116) (pc2 := 103) dX10_next_100 (by decide) rfl (fun b100 => ?_) (fun b100 => ?_)
              · exact absurd b100 (if1 ((sm_iff hte).mpr ⟨hlt, hs⟩))
              · skip
                refine r_aload_n (pc2 := 104) 0 dX10_next_103 rfl rfl rfl rfl ?_
                refine r_dup (pc2 := 105) dX10_next_104 rfl rfl ?_
                refine r_getf (pc2 := 108) (v := .int (w 7)) fX10_111 dX10_next_105 c117 (by decide) rfl rfl ?_
                refine r_cast (nI e) (h7) ?_
                refine r_iconst (pc2 := 109) (v := 1) dX10_next_108 (by decide) rfl ?_
                refine r_iadd (pc2 := 110) dX10_next_109 rfl ?_
                refine r_cast (nI (e + 1)) (nI_1 _) ?_
                refine r_putfX (pc2 := 113) (moL (upd w 7 (nI (e + 1)))) fX10_111 dX10_next_110 c117 (by decide) (Nat.le_of_ble_eq_true rfl) rfl rfl rfl (fun h z110 o110 c117 => ?_)
                have c120 := (o110 120 (by decide)).trans c120
                have hx := hx.step (a := 117) (by decide) z110 o110
                refine r_goto (pc2 := 89) dX10_next_113 (by decide) ?_
                exact ih (e + 1) (upd w 7 (nI (e + 1))) _ (by omega) (by omega) (hsc.symm.trans (scan_in hlt hs)).symm h6 rfl (fun k a b => (if_neg b).trans (hv k a b)) hx c117 c120
            · have hno : ¬ (e < n ∧ isSm (tp e) = true) := fun z => hs z.2
              have hee : lxW tp n q = e := by rw [← hsc, scan_out hno]
              refine r_aload_n (pc2 := 90) 0 dX10_next_89 rfl rfl rfl rfl ?_
              refine r_aload_n (pc2 := 91) 0 dX10_next_90 rfl rfl rfl rfl ?_
              refine r_getf (pc2 := 94) (v := .int (w 7)) fX10_111 dX10_next_91 c117 (by decide) rfl rfl ?_
              refine r_cast (nI e) (h7) ?_
              refine r_callV1 (pc2 := 97) (As := [.int (nI e)]) (st := []) kX10_114 rfl rfl dX10_next_94 c117 (by decide) rfl rfl (Nat.le_of_ble_eq_true rfl) (by omega) (c_see (k := e) c117 c120 h8w hn9 (by omega)) rfl (fun h2 hq94 => ?_)
              subst hq94
              refine r_callS1 (pc2 := 100) (As := [.int (seeI tp n e)]) (st := []) kX10_121 dX10_next_97 rfl rfl (Nat.le_of_ble_eq_true rfl) (by omega) (c_isSmall (seeI tp n e)) rfl (fun h2 hq97 => ?_)
              subst hq97
              refine r_if_eq (tgt := 116) (pc2 := 103) dX10_next_100 (by decide) rfl (fun b100 => ?_) (fun b100 => ?_)
              · skip
                refine r_aload_n (pc2 := 117) 0 dX10_next_116 rfl rfl rfl rfl ?_
                refine r_aload_n (pc2 := 118) 0 dX10_next_117 rfl rfl rfl rfl ?_
                refine r_callV1 (pc2 := 121) (As := []) (st := [.ref 117]) kX10_125 rfl rfl dX10_next_118 c117 (by decide) rfl rfl (Nat.le_of_ble_eq_true rfl) (by omega) (c_keyAt (q := q) (e := e) c117 c120 h6 h7 (by omega) (by omega) htp (by omega)) rfl (fun h2 hq118 => ?_)
                subst hq118
                refine r_putfX (pc2 := 124) (moL (upd w 9 (nI (kF (wordL tp q e) 23 0)))) fX10_118 dX10_next_121 c117 (by decide) (Nat.le_of_ble_eq_true rfl) rfl rfl rfl (fun h z121 o121 c117 => ?_)
                have c120 := (o121 120 (by decide)).trans c120
                have hx := hx.step (a := 117) (by decide) z121 o121
                refine r_goto (pc2 := 294) dX10_next_124 (by decide) ?_
                exact r_vret rfl dX10_next_294 (nxmk c117 hx (fun k a b c _ => (if_neg c).trans (hv k a b)) h8 h11 h6 (h7.trans (congrArg nI (hE.trans hee).symm)) (congrArg nI (show _ = tkK tp n q by rw [hK, hee])) (fun z => absurd z (hK24)))
              · exact absurd (if0 (fun z => hno ((sm_iff hte).mp z))) b100
        refine r_aload_n (pc2 := 48) 0 dX10_next_47 rfl rfl rfl rfl ?_
        refine r_aload_n (pc2 := 49) 0 dX10_next_48 rfl rfl rfl rfl ?_
        refine r_getf (pc2 := 52) (v := .int (w 6)) fX10_108 dX10_next_49 c117 (by decide) rfl rfl ?_
        refine r_cast (nI q) (h6) ?_
        refine r_putfX (pc2 := 55) (moL (upd w 7 (nI q))) fX10_111 dX10_next_52 c117 (by decide) (Nat.le_of_ble_eq_true rfl) rfl rfl rfl (fun h z52 o52 c117 => ?_)
        have c120 := (o52 120 (by decide)).trans c120
        have hx := hx.step (a := 117) (by decide) z52 o52
        refine r_aload_n (pc2 := 56) 0 dX10_next_55 rfl rfl rfl rfl ?_
        refine r_getf (pc2 := 59) (v := .int ((upd w 7 (nI q)) 6)) fX10_108 dX10_next_56 c117 (by decide) rfl rfl ?_
        refine r_cast (nI q) (h6) ?_
        refine r_aload_n (pc2 := 60) 0 dX10_next_59 rfl rfl rfl rfl ?_
        refine r_getf (pc2 := 63) (v := .int ((upd w 7 (nI q)) 8)) fX10_93 dX10_next_60 c117 (by decide) rfl rfl ?_
        refine r_cast (nI n) (h8w) ?_
        refine r_icmp_lt (tgt := 75) (pc2 := 66) dX10_next_63 (by decide) rfl (fun b63 => ?_) (fun b63 => ?_)
        · skip
          refine r_aload_n (pc2 := 76) 0 dX10_next_75 rfl rfl rfl rfl ?_
          refine r_aload_n (pc2 := 77) 0 dX10_next_76 rfl rfl rfl rfl ?_
          refine r_getf (pc2 := 80) (v := .int ((upd w 7 (nI q)) 6)) fX10_108 dX10_next_77 c117 (by decide) rfl rfl ?_
          refine r_cast (nI q) (h6) ?_
          refine r_callV1 (pc2 := 83) (As := [.int (nI q)]) (st := []) kX10_114 rfl rfl dX10_next_80 c117 (by decide) rfl rfl (Nat.le_of_ble_eq_true rfl) (by omega) (c_see (k := q) c117 c120 h8w hn9 (by omega)) rfl (fun h2 hq80 => ?_)
          subst hq80
          refine r_callS1 (pc2 := 86) (As := [.int (seeI tp n q)]) (st := []) kX10_121 dX10_next_83 rfl rfl (Nat.le_of_ble_eq_true rfl) (by omega) (c_isSmall (seeI tp n q)) rfl (fun h2 hq83 => ?_)
          subst hq83
          refine r_if_eq (tgt := 127) (pc2 := 89) dX10_next_86 (by decide) rfl (fun b86 => ?_) (fun b86 => ?_)
          · exact absurd b86 (if1 ((sm_iff htq).mpr ⟨hq, hs⟩))
          · skip
            exact lpW (n - q) q (upd w 7 (nI q)) _ (by omega) (by omega) rfl h6 rfl (fun k a b => (if_neg b).trans (hv k a)) hx c117 c120
        · exact absurd (nI_lt hq (by omega)) b63
      · by_cases hg : isDg (tp q) = true
        · have hE : tkE tp n q = lxD tp n q := by unfold tkE; rw [if_neg (by omega), if_neg hs, if_pos hg]
          have hK : tkK tp n q = if 3 < lxD tp n q - q then 26 else 24 := by unfold tkK; rw [if_neg (by omega), if_neg hs, if_pos hg]
          have lpD : ∀ (m e : Nat) (w : Nat → Int32) (h1 : Hp), e + m = n → q ≤ e → scan isDg tp n (n - e) e = lxD tp n q → (∀ j, q ≤ j → j < e → tp j ≤ 57) → w 6 = nI q → w 7 = nI e → w 10 = nI (dVal tp q (e - q)) → NV v w → Ex [117] h0 h1 → h1.1 117 = some (mO w) → h1.1 120 = some (aI 900 (nA tp)) → Fr E mX10_next d 146 [.ref 117, u1] [] h1 (NXq tp n p v h0) := by
            intro m
            induction m with
            | zero =>
              intro e w h hem hqe hsc hdd h6 h7 h10 hv hx c117 c120
              have h8w := (hv 8 (by decide) (by decide) (by decide) (by decide)).trans h8
              have hte : e < n → tp e < 256 := fun z => htp e (by omega)
              have hno : ¬ (e < n ∧ isDg (tp e) = true) := fun z => by omega
              have hee : lxD tp n q = e := by rw [← hsc, scan_out hno]
              have nI_l3 : ¬ nI (e - q) ≤ 3 ↔ 3 < e - q := ⟨fun z => Nat.lt_of_not_le (fun y => z (nI_le (b := 3) y (by decide))), fun z => nI_ge (a := 3) z (by omega)⟩
              refine r_aload_n (pc2 := 147) 0 dX10_next_146 rfl rfl rfl rfl ?_
              refine r_aload_n (pc2 := 148) 0 dX10_next_147 rfl rfl rfl rfl ?_
              refine r_getf (pc2 := 151) (v := .int (w 7)) fX10_111 dX10_next_148 c117 (by decide) rfl rfl ?_
              refine r_cast (nI e) (h7) ?_
              refine r_callV1 (pc2 := 154) (As := [.int (nI e)]) (st := []) kX10_114 rfl rfl dX10_next_151 c117 (by decide) rfl rfl (Nat.le_of_ble_eq_true rfl) (by omega) (c_see (k := e) c117 c120 h8w hn9 (by omega)) rfl (fun h2 hq151 => ?_)
              subst hq151
              refine r_callS1 (pc2 := 157) (As := [.int (seeI tp n e)]) (st := []) kX10_128 dX10_next_154 rfl rfl (Nat.le_of_ble_eq_true rfl) (by omega) (c_isDigit (seeI tp n e)) rfl (fun h2 hq154 => ?_)
              subst hq154
              refine r_if_eq (tgt := 209) (pc2 := 160) dX10_next_157 (by decide) rfl (fun b157 => ?_) (fun b157 => ?_)
              · skip
                refine r_aload_n (pc2 := 210) 0 dX10_next_209 rfl rfl rfl rfl ?_
                refine r_aload_n (pc2 := 211) 0 dX10_next_210 rfl rfl rfl rfl ?_
                refine r_getf (pc2 := 214) (v := .int (w 7)) fX10_111 dX10_next_211 c117 (by decide) rfl rfl ?_
                refine r_cast (nI e) (h7) ?_
                refine r_aload_n (pc2 := 215) 0 dX10_next_214 rfl rfl rfl rfl ?_
                refine r_getf (pc2 := 218) (v := .int (w 6)) fX10_108 dX10_next_215 c117 (by decide) rfl rfl ?_
                refine r_cast (nI q) (h6) ?_
                refine r_isub (pc2 := 219) dX10_next_218 rfl ?_
                refine r_cast (nI (e - q)) (pk_sub hqe) ?_
                refine r_iconst (pc2 := 220) (v := 3) dX10_next_219 (by decide) rfl ?_
                refine r_icmp_le (tgt := 228) (pc2 := 223) dX10_next_220 (by decide) rfl (fun b220 => ?_) (fun b220 => ?_)
                · skip
                  refine r_bipush (pc2 := 230) (v := 24) dX10_next_228 (by decide) rfl ?_
                  refine r_putfX (pc2 := 233) (moL (upd w 9 24)) fX10_118 dX10_next_230 c117 (by decide) (Nat.le_of_ble_eq_true rfl) rfl rfl rfl (fun h z230 o230 c117 => ?_)
                  have c120 := (o230 120 (by decide)).trans c120
                  have hx := hx.step (a := 117) (by decide) z230 o230
                  refine r_goto (pc2 := 294) dX10_next_233 (by decide) ?_
                  exact r_vret rfl dX10_next_294 (nxmk c117 hx (fun k a b c e => (if_neg c).trans (hv k a b c e)) h8 h11 h6 (h7.trans (congrArg nI (hE.trans hee).symm)) (show (24 : Int32) = nI (tkK tp n q) by rw [hK, hee, if_neg (fun z => (nI_l3.mpr z) b220)]; rfl) (fun _ => h10.trans (congrArg nI (show _ = tkN tp n q by unfold tkN; rw [hee]))))
                · skip
                  refine r_bipush (pc2 := 225) (v := 26) dX10_next_223 (by decide) rfl ?_
                  refine r_goto (pc2 := 230) dX10_next_225 (by decide) ?_
                  refine r_putfX (pc2 := 233) (moL (upd w 9 26)) fX10_118 dX10_next_230 c117 (by decide) (Nat.le_of_ble_eq_true rfl) rfl rfl rfl (fun h z230 o230 c117 => ?_)
                  have c120 := (o230 120 (by decide)).trans c120
                  have hx := hx.step (a := 117) (by decide) z230 o230
                  refine r_goto (pc2 := 294) dX10_next_233 (by decide) ?_
                  exact r_vret rfl dX10_next_294 (nxmk c117 hx (fun k a b c e => (if_neg c).trans (hv k a b c e)) h8 h11 h6 (h7.trans (congrArg nI (hE.trans hee).symm)) (show (26 : Int32) = nI (tkK tp n q) by rw [hK, hee, if_pos (nI_l3.mp b220)]; rfl) (fun z => by rw [hK, hee, if_pos (nI_l3.mp b220)] at z; exact absurd z (by decide)))
              · exact absurd (if0 (fun z => hno ((dg_iff hte).mp z))) b157
            | succ m ih =>
              intro e w h hem hqe hsc hdd h6 h7 h10 hv hx c117 c120
              have h8w := (hv 8 (by decide) (by decide) (by decide) (by decide)).trans h8
              have hte : e < n → tp e < 256 := fun z => htp e (by omega)
              have hlt : e < n := by omega
              by_cases hs : isDg (tp e) = true
              · have hr : 48 ≤ tp e ∧ tp e ≤ 57 := by
                  unfold isDg at hs
                  rw [Bool.and_eq_true, decide_eq_true_iff, decide_eq_true_iff] at hs
                  exact hs
                have hdl := (dVal_lt tp q (e - q) (fun j hj => hdd (q + j) (by omega) (by omega))).1
                by_cases h3 : e - q < 3
                · skip
                  refine r_aload_n (pc2 := 147) 0 dX10_next_146 rfl rfl rfl rfl ?_
                  refine r_aload_n (pc2 := 148) 0 dX10_next_147 rfl rfl rfl rfl ?_
                  refine r_getf (pc2 := 151) (v := .int (w 7)) fX10_111 dX10_next_148 c117 (by decide) rfl rfl ?_
                  refine r_cast (nI e) (h7) ?_
                  refine r_callV1 (pc2 := 154) (As := [.int (nI e)]) (st := []) kX10_114 rfl rfl dX10_next_151 c117 (by decide) rfl rfl (Nat.le_of_ble_eq_true rfl) (by omega) (c_see (k := e) c117 c120 h8w hn9 (by omega)) rfl (fun h2 hq151 => ?_)
                  subst hq151
                  refine r_callS1 (pc2 := 157) (As := [.int (seeI tp n e)]) (st := []) kX10_128 dX10_next_154 rfl rfl (Nat.le_of_ble_eq_true rfl) (by omega) (c_isDigit (seeI tp n e)) rfl (fun h2 hq154 => ?_)
                  subst hq154
                  refine r_if_eq (tgt := 209) (pc2 := 160) dX10_next_157 (by decide) rfl (fun b157 => ?_) (fun b157 => ?_)
                  · exact absurd b157 (if1 ((dg_iff hte).mpr ⟨hlt, hs⟩))
                  · skip
                    refine r_aload_n (pc2 := 161) 0 dX10_next_160 rfl rfl rfl rfl ?_
                    refine r_getf (pc2 := 164) (v := .int (w 7)) fX10_111 dX10_next_161 c117 (by decide) rfl rfl ?_
                    refine r_cast (nI e) (h7) ?_
                    refine r_aload_n (pc2 := 165) 0 dX10_next_164 rfl rfl rfl rfl ?_
                    refine r_getf (pc2 := 168) (v := .int (w 6)) fX10_108 dX10_next_165 c117 (by decide) rfl rfl ?_
                    refine r_cast (nI q) (h6) ?_
                    refine r_isub (pc2 := 169) dX10_next_168 rfl ?_
                    refine r_cast (nI (e - q)) (pk_sub hqe) ?_
                    refine r_iconst (pc2 := 170) (v := 3) dX10_next_169 (by decide) rfl ?_
                    refine r_icmp_ge (tgt := 196) (pc2 := 173) dX10_next_170 (by decide) rfl (fun b170 => ?_) (fun b170 => ?_)
                    · exact absurd b170 (nI_ge (b := 3) h3 (by decide))
                    · skip
                      refine r_aload_n (pc2 := 174) 0 dX10_next_173 rfl rfl rfl rfl ?_
                      refine r_bipush (pc2 := 176) (v := 10) dX10_next_174 (by decide) rfl ?_
                      refine r_aload_n (pc2 := 177) 0 dX10_next_176 rfl rfl rfl rfl ?_
                      refine r_getf (pc2 := 180) (v := .int (w 10)) fX10_131 dX10_next_177 c117 (by decide) rfl rfl ?_
                      refine r_cast (nI (dVal tp q (e - q))) (h10) ?_
                      refine r_imul (pc2 := 181) dX10_next_180 rfl ?_
                      refine r_cast (nI (10 * (dVal tp q (e - q)))) (pk_mul 10 _) ?_
                      refine r_aload_n (pc2 := 182) 0 dX10_next_181 rfl rfl rfl rfl ?_
                      refine r_aload_n (pc2 := 183) 0 dX10_next_182 rfl rfl rfl rfl ?_
                      refine r_getf (pc2 := 186) (v := .int (w 7)) fX10_111 dX10_next_183 c117 (by decide) rfl rfl ?_
                      refine r_cast (nI e) (h7) ?_
                      refine r_callV1 (pc2 := 189) (As := [.int (nI e)]) (st := [.int (nI (10 * (dVal tp q (e - q)))), .ref 117]) kX10_114 rfl rfl dX10_next_186 c117 (by decide) rfl rfl (Nat.le_of_ble_eq_true rfl) (by omega) (c_see (k := e) c117 c120 h8w hn9 (by omega)) rfl (fun h2 hq186 => ?_)
                      subst hq186
                      refine r_cast (nI (tp e)) (see_in hlt) ?_
                      refine r_iadd (pc2 := 190) dX10_next_189 rfl ?_
                      refine r_cast (nI (10 * (dVal tp q (e - q)) + tp e)) (nI_add _ _) ?_
                      refine r_bipush (pc2 := 192) (v := 48) dX10_next_190 (by decide) rfl ?_
                      refine r_isub (pc2 := 193) dX10_next_192 rfl ?_
                      refine r_cast (nI (10 * (dVal tp q (e - q)) + (tp e - 48))) ((pk_sub (b := 48) (by omega)).trans (congrArg nI (by omega))) ?_
                      refine r_putfX (pc2 := 196) (moL (upd w 10 (nI (10 * (dVal tp q (e - q)) + (tp e - 48))))) fX10_131 dX10_next_193 c117 (by decide) (Nat.le_of_ble_eq_true rfl) rfl rfl rfl (fun h z193 o193 c117 => ?_)
                      have c120 := (o193 120 (by decide)).trans c120
                      have hx := hx.step (a := 117) (by decide) z193 o193
                      refine r_aload_n (pc2 := 197) 0 dX10_next_196 rfl rfl rfl rfl ?_
                      refine r_dup (pc2 := 198) dX10_next_197 rfl rfl ?_
                      refine r_getf (pc2 := 201) (v := .int ((upd w 10 (nI (10 * (dVal tp q (e - q)) + (tp e - 48)))) 7)) fX10_111 dX10_next_198 c117 (by decide) rfl rfl ?_
                      refine r_cast (nI e) (h7) ?_
                      refine r_iconst (pc2 := 202) (v := 1) dX10_next_201 (by decide) rfl ?_
                      refine r_iadd (pc2 := 203) dX10_next_202 rfl ?_
                      refine r_cast (nI (e + 1)) (nI_1 _) ?_
                      refine r_putfX (pc2 := 206) (moL (upd (upd w 10 (nI (10 * (dVal tp q (e - q)) + (tp e - 48)))) 7 (nI (e + 1)))) fX10_111 dX10_next_203 c117 (by decide) (Nat.le_of_ble_eq_true rfl) rfl rfl rfl (fun h z203 o203 c117 => ?_)
                      have c120 := (o203 120 (by decide)).trans c120
                      have hx := hx.step (a := 117) (by decide) z203 o203
                      refine r_goto (pc2 := 146) dX10_next_206 (by decide) ?_
                      exact ih (e + 1) (upd (upd w 10 (nI (10 * (dVal tp q (e - q)) + (tp e - 48)))) 7 (nI (e + 1))) _ (by omega) (by omega) (hsc.symm.trans (scan_in hlt hs)).symm (fun j a b => by by_cases z : j = e; rw [z]; omega; exact hdd j a (by omega)) h6 rfl (by rw [show e + 1 - q = (e - q) + 1 by omega, dVal, if_pos h3, show q + (e - q) = e by omega]; rfl) (fun k a b c e => (if_neg b).trans ((if_neg e).trans (hv k a b c e))) hx c117 c120
                · skip
                  refine r_aload_n (pc2 := 147) 0 dX10_next_146 rfl rfl rfl rfl ?_
                  refine r_aload_n (pc2 := 148) 0 dX10_next_147 rfl rfl rfl rfl ?_
                  refine r_getf (pc2 := 151) (v := .int (w 7)) fX10_111 dX10_next_148 c117 (by decide) rfl rfl ?_
                  refine r_cast (nI e) (h7) ?_
                  refine r_callV1 (pc2 := 154) (As := [.int (nI e)]) (st := []) kX10_114 rfl rfl dX10_next_151 c117 (by decide) rfl rfl (Nat.le_of_ble_eq_true rfl) (by omega) (c_see (k := e) c117 c120 h8w hn9 (by omega)) rfl (fun h2 hq151 => ?_)
                  subst hq151
                  refine r_callS1 (pc2 := 157) (As := [.int (seeI tp n e)]) (st := []) kX10_128 dX10_next_154 rfl rfl (Nat.le_of_ble_eq_true rfl) (by omega) (c_isDigit (seeI tp n e)) rfl (fun h2 hq154 => ?_)
                  subst hq154
                  refine r_if_eq (tgt := 209) (pc2 := 160) dX10_next_157 (by decide) rfl (fun b157 => ?_) (fun b157 => ?_)
                  · exact absurd b157 (if1 ((dg_iff hte).mpr ⟨hlt, hs⟩))
                  · skip
                    refine r_aload_n (pc2 := 161) 0 dX10_next_160 rfl rfl rfl rfl ?_
                    refine r_getf (pc2 := 164) (v := .int (w 7)) fX10_111 dX10_next_161 c117 (by decide) rfl rfl ?_
                    refine r_cast (nI e) (h7) ?_
                    refine r_aload_n (pc2 := 165) 0 dX10_next_164 rfl rfl rfl rfl ?_
                    refine r_getf (pc2 := 168) (v := .int (w 6)) fX10_108 dX10_next_165 c117 (by decide) rfl rfl ?_
                    refine r_cast (nI q) (h6) ?_
                    refine r_isub (pc2 := 169) dX10_next_168 rfl ?_
                    refine r_cast (nI (e - q)) (pk_sub hqe) ?_
                    refine r_iconst (pc2 := 170) (v := 3) dX10_next_169 (by decide) rfl ?_
                    refine r_icmp_ge (tgt := 196) (pc2 := 173) dX10_next_170 (by decide) rfl (fun b170 => ?_) (fun b170 => ?_)
                    · skip
                      refine r_aload_n (pc2 := 197) 0 dX10_next_196 rfl rfl rfl rfl ?_
                      refine r_dup (pc2 := 198) dX10_next_197 rfl rfl ?_
                      refine r_getf (pc2 := 201) (v := .int (w 7)) fX10_111 dX10_next_198 c117 (by decide) rfl rfl ?_
                      refine r_cast (nI e) (h7) ?_
                      refine r_iconst (pc2 := 202) (v := 1) dX10_next_201 (by decide) rfl ?_
                      refine r_iadd (pc2 := 203) dX10_next_202 rfl ?_
                      refine r_cast (nI (e + 1)) (nI_1 _) ?_
                      refine r_putfX (pc2 := 206) (moL (upd w 7 (nI (e + 1)))) fX10_111 dX10_next_203 c117 (by decide) (Nat.le_of_ble_eq_true rfl) rfl rfl rfl (fun h z203 o203 c117 => ?_)
                      have c120 := (o203 120 (by decide)).trans c120
                      have hx := hx.step (a := 117) (by decide) z203 o203
                      refine r_goto (pc2 := 146) dX10_next_206 (by decide) ?_
                      exact ih (e + 1) (upd w 7 (nI (e + 1))) _ (by omega) (by omega) (hsc.symm.trans (scan_in hlt hs)).symm (fun j a b => by by_cases z : j = e; rw [z]; omega; exact hdd j a (by omega)) h6 rfl (by rw [show e + 1 - q = (e - q) + 1 by omega, dVal, if_neg h3]; exact h10) (fun k a b c e => (if_neg b).trans (hv k a b c e)) hx c117 c120
                    · exact absurd (nI_le (a := 3) (by omega) (by omega)) b170
              · have hno : ¬ (e < n ∧ isDg (tp e) = true) := fun z => hs z.2
                have hee : lxD tp n q = e := by rw [← hsc, scan_out hno]
                have nI_l3 : ¬ nI (e - q) ≤ 3 ↔ 3 < e - q := ⟨fun z => Nat.lt_of_not_le (fun y => z (nI_le (b := 3) y (by decide))), fun z => nI_ge (a := 3) z (by omega)⟩
                refine r_aload_n (pc2 := 147) 0 dX10_next_146 rfl rfl rfl rfl ?_
                refine r_aload_n (pc2 := 148) 0 dX10_next_147 rfl rfl rfl rfl ?_
                refine r_getf (pc2 := 151) (v := .int (w 7)) fX10_111 dX10_next_148 c117 (by decide) rfl rfl ?_
                refine r_cast (nI e) (h7) ?_
                refine r_callV1 (pc2 := 154) (As := [.int (nI e)]) (st := []) kX10_114 rfl rfl dX10_next_151 c117 (by decide) rfl rfl (Nat.le_of_ble_eq_true rfl) (by omega) (c_see (k := e) c117 c120 h8w hn9 (by omega)) rfl (fun h2 hq151 => ?_)
                subst hq151
                refine r_callS1 (pc2 := 157) (As := [.int (seeI tp n e)]) (st := []) kX10_128 dX10_next_154 rfl rfl (Nat.le_of_ble_eq_true rfl) (by omega) (c_isDigit (seeI tp n e)) rfl (fun h2 hq154 => ?_)
                subst hq154
                refine r_if_eq (tgt := 209) (pc2 := 160) dX10_next_157 (by decide) rfl (fun b157 => ?_) (fun b157 => ?_)
                · skip
                  refine r_aload_n (pc2 := 210) 0 dX10_next_209 rfl rfl rfl rfl ?_
                  refine r_aload_n (pc2 := 211) 0 dX10_next_210 rfl rfl rfl rfl ?_
                  refine r_getf (pc2 := 214) (v := .int (w 7)) fX10_111 dX10_next_211 c117 (by decide) rfl rfl ?_
                  refine r_cast (nI e) (h7) ?_
                  refine r_aload_n (pc2 := 215) 0 dX10_next_214 rfl rfl rfl rfl ?_
                  refine r_getf (pc2 := 218) (v := .int (w 6)) fX10_108 dX10_next_215 c117 (by decide) rfl rfl ?_
                  refine r_cast (nI q) (h6) ?_
                  refine r_isub (pc2 := 219) dX10_next_218 rfl ?_
                  refine r_cast (nI (e - q)) (pk_sub hqe) ?_
                  refine r_iconst (pc2 := 220) (v := 3) dX10_next_219 (by decide) rfl ?_
                  refine r_icmp_le (tgt := 228) (pc2 := 223) dX10_next_220 (by decide) rfl (fun b220 => ?_) (fun b220 => ?_)
                  · skip
                    refine r_bipush (pc2 := 230) (v := 24) dX10_next_228 (by decide) rfl ?_
                    refine r_putfX (pc2 := 233) (moL (upd w 9 24)) fX10_118 dX10_next_230 c117 (by decide) (Nat.le_of_ble_eq_true rfl) rfl rfl rfl (fun h z230 o230 c117 => ?_)
                    have c120 := (o230 120 (by decide)).trans c120
                    have hx := hx.step (a := 117) (by decide) z230 o230
                    refine r_goto (pc2 := 294) dX10_next_233 (by decide) ?_
                    exact r_vret rfl dX10_next_294 (nxmk c117 hx (fun k a b c e => (if_neg c).trans (hv k a b c e)) h8 h11 h6 (h7.trans (congrArg nI (hE.trans hee).symm)) (show (24 : Int32) = nI (tkK tp n q) by rw [hK, hee, if_neg (fun z => (nI_l3.mpr z) b220)]; rfl) (fun _ => h10.trans (congrArg nI (show _ = tkN tp n q by unfold tkN; rw [hee]))))
                  · skip
                    refine r_bipush (pc2 := 225) (v := 26) dX10_next_223 (by decide) rfl ?_
                    refine r_goto (pc2 := 230) dX10_next_225 (by decide) ?_
                    refine r_putfX (pc2 := 233) (moL (upd w 9 26)) fX10_118 dX10_next_230 c117 (by decide) (Nat.le_of_ble_eq_true rfl) rfl rfl rfl (fun h z230 o230 c117 => ?_)
                    have c120 := (o230 120 (by decide)).trans c120
                    have hx := hx.step (a := 117) (by decide) z230 o230
                    refine r_goto (pc2 := 294) dX10_next_233 (by decide) ?_
                    exact r_vret rfl dX10_next_294 (nxmk c117 hx (fun k a b c e => (if_neg c).trans (hv k a b c e)) h8 h11 h6 (h7.trans (congrArg nI (hE.trans hee).symm)) (show (26 : Int32) = nI (tkK tp n q) by rw [hK, hee, if_pos (nI_l3.mp b220)]; rfl) (fun z => by rw [hK, hee, if_pos (nI_l3.mp b220)] at z; exact absurd z (by decide)))
                · exact absurd (if0 (fun z => hno ((dg_iff hte).mp z))) b157
          refine r_aload_n (pc2 := 48) 0 dX10_next_47 rfl rfl rfl rfl ?_
          refine r_aload_n (pc2 := 49) 0 dX10_next_48 rfl rfl rfl rfl ?_
          refine r_getf (pc2 := 52) (v := .int (w 6)) fX10_108 dX10_next_49 c117 (by decide) rfl rfl ?_
          refine r_cast (nI q) (h6) ?_
          refine r_putfX (pc2 := 55) (moL (upd w 7 (nI q))) fX10_111 dX10_next_52 c117 (by decide) (Nat.le_of_ble_eq_true rfl) rfl rfl rfl (fun h z52 o52 c117 => ?_)
          have c120 := (o52 120 (by decide)).trans c120
          have hx := hx.step (a := 117) (by decide) z52 o52
          refine r_aload_n (pc2 := 56) 0 dX10_next_55 rfl rfl rfl rfl ?_
          refine r_getf (pc2 := 59) (v := .int ((upd w 7 (nI q)) 6)) fX10_108 dX10_next_56 c117 (by decide) rfl rfl ?_
          refine r_cast (nI q) (h6) ?_
          refine r_aload_n (pc2 := 60) 0 dX10_next_59 rfl rfl rfl rfl ?_
          refine r_getf (pc2 := 63) (v := .int ((upd w 7 (nI q)) 8)) fX10_93 dX10_next_60 c117 (by decide) rfl rfl ?_
          refine r_cast (nI n) (h8w) ?_
          refine r_icmp_lt (tgt := 75) (pc2 := 66) dX10_next_63 (by decide) rfl (fun b63 => ?_) (fun b63 => ?_)
          · skip
            refine r_aload_n (pc2 := 76) 0 dX10_next_75 rfl rfl rfl rfl ?_
            refine r_aload_n (pc2 := 77) 0 dX10_next_76 rfl rfl rfl rfl ?_
            refine r_getf (pc2 := 80) (v := .int ((upd w 7 (nI q)) 6)) fX10_108 dX10_next_77 c117 (by decide) rfl rfl ?_
            refine r_cast (nI q) (h6) ?_
            refine r_callV1 (pc2 := 83) (As := [.int (nI q)]) (st := []) kX10_114 rfl rfl dX10_next_80 c117 (by decide) rfl rfl (Nat.le_of_ble_eq_true rfl) (by omega) (c_see (k := q) c117 c120 h8w hn9 (by omega)) rfl (fun h2 hq80 => ?_)
            subst hq80
            refine r_callS1 (pc2 := 86) (As := [.int (seeI tp n q)]) (st := []) kX10_121 dX10_next_83 rfl rfl (Nat.le_of_ble_eq_true rfl) (by omega) (c_isSmall (seeI tp n q)) rfl (fun h2 hq83 => ?_)
            subst hq83
            refine r_if_eq (tgt := 127) (pc2 := 89) dX10_next_86 (by decide) rfl (fun b86 => ?_) (fun b86 => ?_)
            · skip
              refine r_aload_n (pc2 := 128) 0 dX10_next_127 rfl rfl rfl rfl ?_
              refine r_aload_n (pc2 := 129) 0 dX10_next_128 rfl rfl rfl rfl ?_
              refine r_getf (pc2 := 132) (v := .int ((upd w 7 (nI q)) 6)) fX10_108 dX10_next_129 c117 (by decide) rfl rfl ?_
              refine r_cast (nI q) (h6) ?_
              refine r_callV1 (pc2 := 135) (As := [.int (nI q)]) (st := []) kX10_114 rfl rfl dX10_next_132 c117 (by decide) rfl rfl (Nat.le_of_ble_eq_true rfl) (by omega) (c_see (k := q) c117 c120 h8w hn9 (by omega)) rfl (fun h2 hq132 => ?_)
              subst hq132
              refine r_callS1 (pc2 := 138) (As := [.int (seeI tp n q)]) (st := []) kX10_128 dX10_next_135 rfl rfl (Nat.le_of_ble_eq_true rfl) (by omega) (c_isDigit (seeI tp n q)) rfl (fun h2 hq135 => ?_)
              subst hq135
              refine r_if_eq (tgt := 236) (pc2 := 141) dX10_next_138 (by decide) rfl (fun b138 => ?_) (fun b138 => ?_)
              · exact absurd b138 (if1 ((dg_iff htq).mpr ⟨hq, hg⟩))
              · skip
                refine r_aload_n (pc2 := 142) 0 dX10_next_141 rfl rfl rfl rfl ?_
                refine r_iconst (pc2 := 143) (v := 0) dX10_next_142 (by decide) rfl ?_
                refine r_putfX (pc2 := 146) (moL (upd (upd w 7 (nI q)) 10 0)) fX10_131 dX10_next_143 c117 (by decide) (Nat.le_of_ble_eq_true rfl) rfl rfl rfl (fun h z143 o143 c117 => ?_)
                have c120 := (o143 120 (by decide)).trans c120
                have hx := hx.step (a := 117) (by decide) z143 o143
                exact lpD (n - q) q (upd (upd w 7 (nI q)) 10 0) _ (by omega) (by omega) rfl (fun j a b => by omega) h6 rfl (by rw [Nat.sub_self]; rfl) (fun k a b _ e => (if_neg e).trans ((if_neg b).trans (hv k a))) hx c117 c120
            · exact absurd (if0 (fun z => hs ((sm_iff htq).mp z).2)) b86
          · exact absurd (nI_lt hq (by omega)) b63
        · have hE : tkE tp n q = q + 1 := by unfold tkE; rw [if_neg (by omega), if_neg hs, if_neg hg]
          have hK : tkK tp n q = sgF (tp q) 12 := by unfold tkK; rw [if_neg (by omega), if_neg hs, if_neg hg]
          have hK24 : tkK tp n q ≠ 24 := by rw [hK]; exact sgF_24 _ _
          have lpS : ∀ (m k : Nat) (w : Nat → Int32) (h1 : Hp), k + m = 12 → w 6 = nI q → w 7 = nI (q + 1) → w 9 = nI (sgF (tp q) k) → NV v w → Ex [117] h0 h1 → h1.1 117 = some (mO w) → h1.1 120 = some (aI 900 (nA tp)) → Fr E mX10_next d 254 [.ref 117, .int (nI k)] [] h1 (NXq tp n p v h0) := by
            intro m
            induction m with
            | zero =>
              intro k w h hkm h6 h7 h9 hv hx c117 c120
              obtain rfl : k = 12 := by omega
              refine r_iload_n (pc2 := 255) 1 dX10_next_254 rfl rfl rfl ?_
              refine r_ldcS (pc2 := 257) 24 (by decide) rfl rfl dX10_next_255 rfl ?_
              refine r_callX1 (pc2 := 260) (As := []) (st := [.int (nI 12)]) kX10_98 rfl (by decide) dX10_next_257 rfl rfl (Nat.le_of_ble_eq_true rfl) (by omega) (c_length (t := 24) (by decide) (by omega)) rfl (fun h2 hq257 => ?_)
              subst hq257
              refine r_icmp_ge (tgt := 294) (pc2 := 263) dX10_next_260 (by decide) rfl (fun b260 => ?_) (fun b260 => ?_)
              · skip
                exact r_vret rfl dX10_next_294 (nxmk c117 hx hv h8 h11 h6 (h7.trans (congrArg nI hE.symm)) (h9.trans (congrArg nI (show _ = tkK tp n q from hK.symm))) (fun z => absurd z hK24))
              · exact absurd (show nI 12 ≤ nI 12 from nI_le (Nat.le_refl _) (by decide)) b260
            | succ m ih =>
              intro k w h hkm h6 h7 h9 hv hx c117 c120
              have h8w := (hv 8 (by decide) (by decide) (by decide) (by decide)).trans h8
              have hk : k < 12 := by omega
              have hsk := (sg_x k hk).2
              have htq2 := htq hq
              by_cases heq : tp q = sg k
              · skip
                refine r_iload_n (pc2 := 255) 1 dX10_next_254 rfl rfl rfl ?_
                refine r_ldcS (pc2 := 257) 24 (by decide) rfl rfl dX10_next_255 rfl ?_
                refine r_callX1 (pc2 := 260) (As := []) (st := [.int (nI k)]) kX10_98 rfl (by decide) dX10_next_257 rfl rfl (Nat.le_of_ble_eq_true rfl) (by omega) (c_length (t := 24) (by decide) (by omega)) rfl (fun h2 hq257 => ?_)
                subst hq257
                refine r_icmp_ge (tgt := 294) (pc2 := 263) dX10_next_260 (by decide) rfl (fun b260 => ?_) (fun b260 => ?_)
                · exact absurd b260 (nI_ge (b := 12) hk (by decide))
                · skip
                  refine r_aload_n (pc2 := 264) 0 dX10_next_263 rfl rfl rfl rfl ?_
                  refine r_aload_n (pc2 := 265) 0 dX10_next_264 rfl rfl rfl rfl ?_
                  refine r_getf (pc2 := 268) (v := .int (w 6)) fX10_108 dX10_next_265 c117 (by decide) rfl rfl ?_
                  refine r_cast (nI q) (h6) ?_
                  refine r_callV1 (pc2 := 271) (As := [.int (nI q)]) (st := []) kX10_114 rfl rfl dX10_next_268 c117 (by decide) rfl rfl (Nat.le_of_ble_eq_true rfl) (by omega) (c_see (k := q) c117 c120 h8w hn9 (by omega)) rfl (fun h2 hq268 => ?_)
                  subst hq268
                  refine r_cast (nI (tp q)) (see_in hq) ?_
                  refine r_ldcS (pc2 := 273) 24 (by decide) rfl rfl dX10_next_271 rfl ?_
                  refine r_iload_n (pc2 := 274) 1 dX10_next_273 rfl rfl rfl ?_
                  refine r_callX1 (pc2 := 277) (As := [.int (nI k)]) (st := [.int (nI (tp q))]) kX10_104 rfl (by decide) dX10_next_274 rfl rfl (Nat.le_of_ble_eq_true rfl) (by omega) (c_charAt (t := 24) (j := k) (by decide) (show k < 12 by omega) (by omega)) rfl (fun h2 hq274 => ?_)
                  subst hq274
                  refine r_cast (nI (sg k)) ((sg_x k hk).1) ?_
                  refine r_icmp_ne (tgt := 288) (pc2 := 280) dX10_next_277 (by decide) rfl (fun b277 => ?_) (fun b277 => ?_)
                  · exact absurd (by rw [heq]) b277
                  · skip
                    refine r_aload_n (pc2 := 281) 0 dX10_next_280 rfl rfl rfl rfl ?_
                    refine r_bipush (pc2 := 283) (v := 30) dX10_next_281 (by decide) rfl ?_
                    refine r_iload_n (pc2 := 284) 1 dX10_next_283 rfl rfl rfl ?_
                    refine r_iadd (pc2 := 285) dX10_next_284 rfl ?_
                    refine r_cast (nI (30 + k)) (nI_add 30 k) ?_
                    refine r_putfX (pc2 := 288) (moL (upd w 9 (nI (30 + k)))) fX10_118 dX10_next_285 c117 (by decide) (Nat.le_of_ble_eq_true rfl) rfl rfl rfl (fun h z285 o285 c117 => ?_)
                    have c120 := (o285 120 (by decide)).trans c120
                    have hx := hx.step (a := 117) (by decide) z285 o285
                    obtain ⟨x288, e288⟩ : ∃ z : Int32, z = (nI k) + (1) := ⟨_, rfl⟩
                    refine r_iinc (pc2 := 291) (ls2 := [.ref 117, .int x288]) (v := x288) 1 dX10_next_288 rfl (by rw [e288]; rfl) rfl rfl rfl ?_
                    refine r_goto (pc2 := 254) dX10_next_291 (by decide) ?_
                    rw [e288, nI_1]
                    exact ih (k + 1) (upd w 9 (nI (30 + k))) _ (by omega) h6 h7 (by rw [sgF, if_pos heq]; rfl) (fun k2 a b c e => (if_neg c).trans (hv k2 a b c e)) hx c117 c120
              · skip
                refine r_iload_n (pc2 := 255) 1 dX10_next_254 rfl rfl rfl ?_
                refine r_ldcS (pc2 := 257) 24 (by decide) rfl rfl dX10_next_255 rfl ?_
                refine r_callX1 (pc2 := 260) (As := []) (st := [.int (nI k)]) kX10_98 rfl (by decide) dX10_next_257 rfl rfl (Nat.le_of_ble_eq_true rfl) (by omega) (c_length (t := 24) (by decide) (by omega)) rfl (fun h2 hq257 => ?_)
                subst hq257
                refine r_icmp_ge (tgt := 294) (pc2 := 263) dX10_next_260 (by decide) rfl (fun b260 => ?_) (fun b260 => ?_)
                · exact absurd b260 (nI_ge (b := 12) hk (by decide))
                · skip
                  refine r_aload_n (pc2 := 264) 0 dX10_next_263 rfl rfl rfl rfl ?_
                  refine r_aload_n (pc2 := 265) 0 dX10_next_264 rfl rfl rfl rfl ?_
                  refine r_getf (pc2 := 268) (v := .int (w 6)) fX10_108 dX10_next_265 c117 (by decide) rfl rfl ?_
                  refine r_cast (nI q) (h6) ?_
                  refine r_callV1 (pc2 := 271) (As := [.int (nI q)]) (st := []) kX10_114 rfl rfl dX10_next_268 c117 (by decide) rfl rfl (Nat.le_of_ble_eq_true rfl) (by omega) (c_see (k := q) c117 c120 h8w hn9 (by omega)) rfl (fun h2 hq268 => ?_)
                  subst hq268
                  refine r_cast (nI (tp q)) (see_in hq) ?_
                  refine r_ldcS (pc2 := 273) 24 (by decide) rfl rfl dX10_next_271 rfl ?_
                  refine r_iload_n (pc2 := 274) 1 dX10_next_273 rfl rfl rfl ?_
                  refine r_callX1 (pc2 := 277) (As := [.int (nI k)]) (st := [.int (nI (tp q))]) kX10_104 rfl (by decide) dX10_next_274 rfl rfl (Nat.le_of_ble_eq_true rfl) (by omega) (c_charAt (t := 24) (j := k) (by decide) (show k < 12 by omega) (by omega)) rfl (fun h2 hq274 => ?_)
                  subst hq274
                  refine r_cast (nI (sg k)) ((sg_x k hk).1) ?_
                  refine r_icmp_ne (tgt := 288) (pc2 := 280) dX10_next_277 (by decide) rfl (fun b277 => ?_) (fun b277 => ?_)
                  · skip
                    obtain ⟨x288, e288⟩ : ∃ z : Int32, z = (nI k) + (1) := ⟨_, rfl⟩
                    refine r_iinc (pc2 := 291) (ls2 := [.ref 117, .int x288]) (v := x288) 1 dX10_next_288 rfl (by rw [e288]; rfl) rfl rfl rfl ?_
                    refine r_goto (pc2 := 254) dX10_next_291 (by decide) ?_
                    rw [e288, nI_1]
                    exact ih (k + 1) w _ (by omega) h6 h7 (by rw [sgF, if_neg heq]; exact h9) hv hx c117 c120
                  · exact absurd ((nI_eq (by omega) (by omega)).mp b277) heq
          refine r_aload_n (pc2 := 48) 0 dX10_next_47 rfl rfl rfl rfl ?_
          refine r_aload_n (pc2 := 49) 0 dX10_next_48 rfl rfl rfl rfl ?_
          refine r_getf (pc2 := 52) (v := .int (w 6)) fX10_108 dX10_next_49 c117 (by decide) rfl rfl ?_
          refine r_cast (nI q) (h6) ?_
          refine r_putfX (pc2 := 55) (moL (upd w 7 (nI q))) fX10_111 dX10_next_52 c117 (by decide) (Nat.le_of_ble_eq_true rfl) rfl rfl rfl (fun h z52 o52 c117 => ?_)
          have c120 := (o52 120 (by decide)).trans c120
          have hx := hx.step (a := 117) (by decide) z52 o52
          refine r_aload_n (pc2 := 56) 0 dX10_next_55 rfl rfl rfl rfl ?_
          refine r_getf (pc2 := 59) (v := .int ((upd w 7 (nI q)) 6)) fX10_108 dX10_next_56 c117 (by decide) rfl rfl ?_
          refine r_cast (nI q) (h6) ?_
          refine r_aload_n (pc2 := 60) 0 dX10_next_59 rfl rfl rfl rfl ?_
          refine r_getf (pc2 := 63) (v := .int ((upd w 7 (nI q)) 8)) fX10_93 dX10_next_60 c117 (by decide) rfl rfl ?_
          refine r_cast (nI n) (h8w) ?_
          refine r_icmp_lt (tgt := 75) (pc2 := 66) dX10_next_63 (by decide) rfl (fun b63 => ?_) (fun b63 => ?_)
          · skip
            refine r_aload_n (pc2 := 76) 0 dX10_next_75 rfl rfl rfl rfl ?_
            refine r_aload_n (pc2 := 77) 0 dX10_next_76 rfl rfl rfl rfl ?_
            refine r_getf (pc2 := 80) (v := .int ((upd w 7 (nI q)) 6)) fX10_108 dX10_next_77 c117 (by decide) rfl rfl ?_
            refine r_cast (nI q) (h6) ?_
            refine r_callV1 (pc2 := 83) (As := [.int (nI q)]) (st := []) kX10_114 rfl rfl dX10_next_80 c117 (by decide) rfl rfl (Nat.le_of_ble_eq_true rfl) (by omega) (c_see (k := q) c117 c120 h8w hn9 (by omega)) rfl (fun h2 hq80 => ?_)
            subst hq80
            refine r_callS1 (pc2 := 86) (As := [.int (seeI tp n q)]) (st := []) kX10_121 dX10_next_83 rfl rfl (Nat.le_of_ble_eq_true rfl) (by omega) (c_isSmall (seeI tp n q)) rfl (fun h2 hq83 => ?_)
            subst hq83
            refine r_if_eq (tgt := 127) (pc2 := 89) dX10_next_86 (by decide) rfl (fun b86 => ?_) (fun b86 => ?_)
            · skip
              refine r_aload_n (pc2 := 128) 0 dX10_next_127 rfl rfl rfl rfl ?_
              refine r_aload_n (pc2 := 129) 0 dX10_next_128 rfl rfl rfl rfl ?_
              refine r_getf (pc2 := 132) (v := .int ((upd w 7 (nI q)) 6)) fX10_108 dX10_next_129 c117 (by decide) rfl rfl ?_
              refine r_cast (nI q) (h6) ?_
              refine r_callV1 (pc2 := 135) (As := [.int (nI q)]) (st := []) kX10_114 rfl rfl dX10_next_132 c117 (by decide) rfl rfl (Nat.le_of_ble_eq_true rfl) (by omega) (c_see (k := q) c117 c120 h8w hn9 (by omega)) rfl (fun h2 hq132 => ?_)
              subst hq132
              refine r_callS1 (pc2 := 138) (As := [.int (seeI tp n q)]) (st := []) kX10_128 dX10_next_135 rfl rfl (Nat.le_of_ble_eq_true rfl) (by omega) (c_isDigit (seeI tp n q)) rfl (fun h2 hq135 => ?_)
              subst hq135
              refine r_if_eq (tgt := 236) (pc2 := 141) dX10_next_138 (by decide) rfl (fun b138 => ?_) (fun b138 => ?_)
              · skip
                refine r_aload_n (pc2 := 237) 0 dX10_next_236 rfl rfl rfl rfl ?_
                refine r_dup (pc2 := 238) dX10_next_237 rfl rfl ?_
                refine r_getf (pc2 := 241) (v := .int (nI q)) fX10_111 dX10_next_238 c117 (by decide) rfl rfl ?_
                refine r_iconst (pc2 := 242) (v := 1) dX10_next_241 (by decide) rfl ?_
                refine r_iadd (pc2 := 243) dX10_next_242 rfl ?_
                refine r_cast (nI (q + 1)) (nI_1 _) ?_
                refine r_putfX (pc2 := 246) (moL (upd (upd w 7 (nI q)) 7 (nI (q + 1)))) fX10_111 dX10_next_243 c117 (by decide) (Nat.le_of_ble_eq_true rfl) rfl rfl rfl (fun h z243 o243 c117 => ?_)
                have c120 := (o243 120 (by decide)).trans c120
                have hx := hx.step (a := 117) (by decide) z243 o243
                refine r_aload_n (pc2 := 247) 0 dX10_next_246 rfl rfl rfl rfl ?_
                refine r_bipush (pc2 := 249) (v := 26) dX10_next_247 (by decide) rfl ?_
                refine r_putfX (pc2 := 252) (moL (upd (upd (upd w 7 (nI q)) 7 (nI (q + 1))) 9 26)) fX10_118 dX10_next_249 c117 (by decide) (Nat.le_of_ble_eq_true rfl) rfl rfl rfl (fun h z249 o249 c117 => ?_)
                have c120 := (o249 120 (by decide)).trans c120
                have hx := hx.step (a := 117) (by decide) z249 o249
                refine r_iconst (pc2 := 253) (v := 0) dX10_next_252 (by decide) rfl ?_
                refine r_istore_n (pc2 := 254) (ls2 := [.ref 117, .int 0]) 1 dX10_next_253 rfl (by decide) rfl rfl rfl ?_
                exact lpS 12 0 (upd (upd (upd w 7 (nI q)) 7 (nI (q + 1))) 9 26) _ (by omega) h6 rfl rfl (fun k a b c _ => (if_neg c).trans ((if_neg b).trans ((if_neg b).trans (hv k a)))) hx c117 c120
              · exact absurd (if0 (fun z => hg ((dg_iff htq).mp z).2)) b138
            · exact absurd (if0 (fun z => hs ((sm_iff htq).mp z).2)) b86
          · exact absurd (nI_lt hq (by omega)) b63
    · have hE : q = tkE tp n q := by unfold tkE; rw [if_pos (by omega)]
      have hK : tkK tp n q = 25 := by unfold tkK; rw [if_pos (by omega)]
      have hq : n ≤ q := by omega
      refine r_aload_n (pc2 := 48) 0 dX10_next_47 rfl rfl rfl rfl ?_
      refine r_aload_n (pc2 := 49) 0 dX10_next_48 rfl rfl rfl rfl ?_
      refine r_getf (pc2 := 52) (v := .int (w 6)) fX10_108 dX10_next_49 c117 (by decide) rfl rfl ?_
      refine r_cast (nI q) (h6) ?_
      refine r_putfX (pc2 := 55) (moL (upd w 7 (nI q))) fX10_111 dX10_next_52 c117 (by decide) (Nat.le_of_ble_eq_true rfl) rfl rfl rfl (fun h z52 o52 c117 => ?_)
      have c120 := (o52 120 (by decide)).trans c120
      have hx := hx.step (a := 117) (by decide) z52 o52
      refine r_aload_n (pc2 := 56) 0 dX10_next_55 rfl rfl rfl rfl ?_
      refine r_getf (pc2 := 59) (v := .int ((upd w 7 (nI q)) 6)) fX10_108 dX10_next_56 c117 (by decide) rfl rfl ?_
      refine r_cast (nI q) (h6) ?_
      refine r_aload_n (pc2 := 60) 0 dX10_next_59 rfl rfl rfl rfl ?_
      refine r_getf (pc2 := 63) (v := .int ((upd w 7 (nI q)) 8)) fX10_93 dX10_next_60 c117 (by decide) rfl rfl ?_
      refine r_cast (nI n) (h8w) ?_
      refine r_icmp_lt (tgt := 75) (pc2 := 66) dX10_next_63 (by decide) rfl (fun b63 => ?_) (fun b63 => ?_)
      · exact absurd b63 (Int32.not_lt.mpr (nI_le hq (by omega)))
      · skip
        refine r_aload_n (pc2 := 67) 0 dX10_next_66 rfl rfl rfl rfl ?_
        refine r_bipush (pc2 := 69) (v := 25) dX10_next_67 (by decide) rfl ?_
        refine r_putfX (pc2 := 72) (moL (upd (upd w 7 (nI q)) 9 25)) fX10_118 dX10_next_69 c117 (by decide) (Nat.le_of_ble_eq_true rfl) rfl rfl rfl (fun h z69 o69 c117 => ?_)
        have c120 := (o69 120 (by decide)).trans c120
        have hx := hx.step (a := 117) (by decide) z69 o69
        refine r_goto (pc2 := 294) dX10_next_72 (by decide) ?_
        exact r_vret rfl dX10_next_294 (nxmk c117 hx (fun k a b c _ => (if_neg c).trans ((if_neg b).trans (hv k a))) h8 h11 h6 (congrArg nI hE) (show (25 : Int32) = _ by rw [hK]; rfl) (fun z => by rw [hK] at z; exact absurd z (by decide)))
  have lp1 : ∀ (m q : Nat) (w : Nat → Int32) (h1 : Hp), q + m = n → scan isWh tp n (n - q) q = lxS tp n p → w 6 = nI q → (∀ k, k ≠ 6 → w k = v k) → Ex [117] h0 h1 → h1.1 117 = some (mO w) → h1.1 120 = some (aI 900 (nA tp)) → ∀ u1 : Value, Fr E mX10_next d 8 [.ref 117, u1] [] h1 (NXq tp n p v h0) := by
    intro m
    induction m with
    | zero =>
      intro q w h hqm hsc h6 hv hx c117 c120 u1
      have h8w := (hv 8 (by decide)).trans h8
      have htq : q < n → tp q < 256 := fun z => htp q (by omega)
      have hno : ¬ (q < n ∧ isWh (tp q) = true) := fun z => by omega
      refine r_aload_n (pc2 := 9) 0 dX10_next_8 rfl rfl rfl rfl ?_
      refine r_aload_n (pc2 := 10) 0 dX10_next_9 rfl rfl rfl rfl ?_
      refine r_getf (pc2 := 13) (v := .int (w 6)) fX10_108 dX10_next_10 c117 (by decide) rfl rfl ?_
      refine r_cast (nI q) (h6) ?_
      refine r_callV1 (pc2 := 16) (As := [.int (nI q)]) (st := []) kX10_114 rfl rfl dX10_next_13 c117 (by decide) rfl rfl (Nat.le_of_ble_eq_true rfl) (by omega) (c_see (k := q) c117 c120 h8w hn9 (by omega)) rfl (fun h2 hq13 => ?_)
      subst hq13
      refine r_bipush (pc2 := 18) (v := 10) dX10_next_16 (by decide) rfl ?_
      refine r_icmp_eq (tgt := 34) (pc2 := 21) dX10_next_18 (by decide) rfl (fun b18 => ?_) (fun b18 => ?_)
      · exact absurd ((see_lit (c := 10) htq (by decide)).mp b18) (fun z => hno ⟨z.1, by unfold isWh; rw [z.2]; rfl⟩)
      · skip
        refine r_aload_n (pc2 := 22) 0 dX10_next_21 rfl rfl rfl rfl ?_
        refine r_aload_n (pc2 := 23) 0 dX10_next_22 rfl rfl rfl rfl ?_
        refine r_getf (pc2 := 26) (v := .int (w 6)) fX10_108 dX10_next_23 c117 (by decide) rfl rfl ?_
        refine r_cast (nI q) (h6) ?_
        refine r_callV1 (pc2 := 29) (As := [.int (nI q)]) (st := []) kX10_114 rfl rfl dX10_next_26 c117 (by decide) rfl rfl (Nat.le_of_ble_eq_true rfl) (by omega) (c_see (k := q) c117 c120 h8w hn9 (by omega)) rfl (fun h2 hq26 => ?_)
        subst hq26
        refine r_bipush (pc2 := 31) (v := 32) dX10_next_29 (by decide) rfl ?_
        refine r_icmp_ne (tgt := 47) (pc2 := 34) dX10_next_31 (by decide) rfl (fun b31 => ?_) (fun b31 => ?_)
        · skip
          exact x47 w _ (by rw [h6, ← hsc, scan_out hno]) hv hx c117 c120 u1
        · exact absurd ((see_lit (c := 32) htq (by decide)).mp b31) (fun z => hno ⟨z.1, by unfold isWh; rw [z.2]; rfl⟩)
    | succ m ih =>
      intro q w h hqm hsc h6 hv hx c117 c120 u1
      have h8w := (hv 8 (by decide)).trans h8
      have htq : q < n → tp q < 256 := fun z => htp q (by omega)
      have hlt : q < n := by omega
      by_cases hwh : isWh (tp q) = true
      · have h12 : tp q = 10 ∨ tp q = 32 := by
          unfold isWh at hwh
          rw [Bool.or_eq_true, beq_iff_eq, beq_iff_eq] at hwh
          exact hwh
        rcases h12 with h10 | h32
        · skip
          refine r_aload_n (pc2 := 9) 0 dX10_next_8 rfl rfl rfl rfl ?_
          refine r_aload_n (pc2 := 10) 0 dX10_next_9 rfl rfl rfl rfl ?_
          refine r_getf (pc2 := 13) (v := .int (w 6)) fX10_108 dX10_next_10 c117 (by decide) rfl rfl ?_
          refine r_cast (nI q) (h6) ?_
          refine r_callV1 (pc2 := 16) (As := [.int (nI q)]) (st := []) kX10_114 rfl rfl dX10_next_13 c117 (by decide) rfl rfl (Nat.le_of_ble_eq_true rfl) (by omega) (c_see (k := q) c117 c120 h8w hn9 (by omega)) rfl (fun h2 hq13 => ?_)
          subst hq13
          refine r_bipush (pc2 := 18) (v := 10) dX10_next_16 (by decide) rfl ?_
          refine r_icmp_eq (tgt := 34) (pc2 := 21) dX10_next_18 (by decide) rfl (fun b18 => ?_) (fun b18 => ?_)
          · skip
            refine r_aload_n (pc2 := 35) 0 dX10_next_34 rfl rfl rfl rfl ?_
            refine r_dup (pc2 := 36) dX10_next_35 rfl rfl ?_
            refine r_getf (pc2 := 39) (v := .int (w 6)) fX10_108 dX10_next_36 c117 (by decide) rfl rfl ?_
            refine r_cast (nI q) (h6) ?_
            refine r_iconst (pc2 := 40) (v := 1) dX10_next_39 (by decide) rfl ?_
            refine r_iadd (pc2 := 41) dX10_next_40 rfl ?_
            refine r_cast (nI (q + 1)) (nI_1 _) ?_
            refine r_putfX (pc2 := 44) (moL (upd w 6 (nI (q + 1)))) fX10_108 dX10_next_41 c117 (by decide) (Nat.le_of_ble_eq_true rfl) rfl rfl rfl (fun h z41 o41 c117 => ?_)
            have c120 := (o41 120 (by decide)).trans c120
            have hx := hx.step (a := 117) (by decide) z41 o41
            refine r_goto (pc2 := 8) dX10_next_44 (by decide) ?_
            exact ih (q + 1) (upd w 6 (nI (q + 1))) _ (by omega) (hsc.symm.trans (scan_in hlt hwh)).symm rfl (fun k a => (if_neg a).trans (hv k a)) hx c117 c120 u1
          · exact absurd ((see_lit (c := 10) htq (by decide)).mpr ⟨hlt, h10⟩) b18
        · skip
          refine r_aload_n (pc2 := 9) 0 dX10_next_8 rfl rfl rfl rfl ?_
          refine r_aload_n (pc2 := 10) 0 dX10_next_9 rfl rfl rfl rfl ?_
          refine r_getf (pc2 := 13) (v := .int (w 6)) fX10_108 dX10_next_10 c117 (by decide) rfl rfl ?_
          refine r_cast (nI q) (h6) ?_
          refine r_callV1 (pc2 := 16) (As := [.int (nI q)]) (st := []) kX10_114 rfl rfl dX10_next_13 c117 (by decide) rfl rfl (Nat.le_of_ble_eq_true rfl) (by omega) (c_see (k := q) c117 c120 h8w hn9 (by omega)) rfl (fun h2 hq13 => ?_)
          subst hq13
          refine r_bipush (pc2 := 18) (v := 10) dX10_next_16 (by decide) rfl ?_
          refine r_icmp_eq (tgt := 34) (pc2 := 21) dX10_next_18 (by decide) rfl (fun b18 => ?_) (fun b18 => ?_)
          · exact absurd ((see_lit (c := 10) htq (by decide)).mp b18).2 (by omega)
          · skip
            refine r_aload_n (pc2 := 22) 0 dX10_next_21 rfl rfl rfl rfl ?_
            refine r_aload_n (pc2 := 23) 0 dX10_next_22 rfl rfl rfl rfl ?_
            refine r_getf (pc2 := 26) (v := .int (w 6)) fX10_108 dX10_next_23 c117 (by decide) rfl rfl ?_
            refine r_cast (nI q) (h6) ?_
            refine r_callV1 (pc2 := 29) (As := [.int (nI q)]) (st := []) kX10_114 rfl rfl dX10_next_26 c117 (by decide) rfl rfl (Nat.le_of_ble_eq_true rfl) (by omega) (c_see (k := q) c117 c120 h8w hn9 (by omega)) rfl (fun h2 hq26 => ?_)
            subst hq26
            refine r_bipush (pc2 := 31) (v := 32) dX10_next_29 (by decide) rfl ?_
            refine r_icmp_ne (tgt := 47) (pc2 := 34) dX10_next_31 (by decide) rfl (fun b31 => ?_) (fun b31 => ?_)
            · exact absurd ((see_lit (c := 32) htq (by decide)).mpr ⟨hlt, h32⟩) b31
            · skip
              refine r_aload_n (pc2 := 35) 0 dX10_next_34 rfl rfl rfl rfl ?_
              refine r_dup (pc2 := 36) dX10_next_35 rfl rfl ?_
              refine r_getf (pc2 := 39) (v := .int (w 6)) fX10_108 dX10_next_36 c117 (by decide) rfl rfl ?_
              refine r_cast (nI q) (h6) ?_
              refine r_iconst (pc2 := 40) (v := 1) dX10_next_39 (by decide) rfl ?_
              refine r_iadd (pc2 := 41) dX10_next_40 rfl ?_
              refine r_cast (nI (q + 1)) (nI_1 _) ?_
              refine r_putfX (pc2 := 44) (moL (upd w 6 (nI (q + 1)))) fX10_108 dX10_next_41 c117 (by decide) (Nat.le_of_ble_eq_true rfl) rfl rfl rfl (fun h z41 o41 c117 => ?_)
              have c120 := (o41 120 (by decide)).trans c120
              have hx := hx.step (a := 117) (by decide) z41 o41
              refine r_goto (pc2 := 8) dX10_next_44 (by decide) ?_
              exact ih (q + 1) (upd w 6 (nI (q + 1))) _ (by omega) (hsc.symm.trans (scan_in hlt hwh)).symm rfl (fun k a => (if_neg a).trans (hv k a)) hx c117 c120 u1
      · have hno : ¬ (q < n ∧ isWh (tp q) = true) := fun z => hwh z.2
        refine r_aload_n (pc2 := 9) 0 dX10_next_8 rfl rfl rfl rfl ?_
        refine r_aload_n (pc2 := 10) 0 dX10_next_9 rfl rfl rfl rfl ?_
        refine r_getf (pc2 := 13) (v := .int (w 6)) fX10_108 dX10_next_10 c117 (by decide) rfl rfl ?_
        refine r_cast (nI q) (h6) ?_
        refine r_callV1 (pc2 := 16) (As := [.int (nI q)]) (st := []) kX10_114 rfl rfl dX10_next_13 c117 (by decide) rfl rfl (Nat.le_of_ble_eq_true rfl) (by omega) (c_see (k := q) c117 c120 h8w hn9 (by omega)) rfl (fun h2 hq13 => ?_)
        subst hq13
        refine r_bipush (pc2 := 18) (v := 10) dX10_next_16 (by decide) rfl ?_
        refine r_icmp_eq (tgt := 34) (pc2 := 21) dX10_next_18 (by decide) rfl (fun b18 => ?_) (fun b18 => ?_)
        · exact absurd ((see_lit (c := 10) htq (by decide)).mp b18) (fun z => hno ⟨z.1, by unfold isWh; rw [z.2]; rfl⟩)
        · skip
          refine r_aload_n (pc2 := 22) 0 dX10_next_21 rfl rfl rfl rfl ?_
          refine r_aload_n (pc2 := 23) 0 dX10_next_22 rfl rfl rfl rfl ?_
          refine r_getf (pc2 := 26) (v := .int (w 6)) fX10_108 dX10_next_23 c117 (by decide) rfl rfl ?_
          refine r_cast (nI q) (h6) ?_
          refine r_callV1 (pc2 := 29) (As := [.int (nI q)]) (st := []) kX10_114 rfl rfl dX10_next_26 c117 (by decide) rfl rfl (Nat.le_of_ble_eq_true rfl) (by omega) (c_see (k := q) c117 c120 h8w hn9 (by omega)) rfl (fun h2 hq26 => ?_)
          subst hq26
          refine r_bipush (pc2 := 31) (v := 32) dX10_next_29 (by decide) rfl ?_
          refine r_icmp_ne (tgt := 47) (pc2 := 34) dX10_next_31 (by decide) rfl (fun b31 => ?_) (fun b31 => ?_)
          · skip
            exact x47 w _ (by rw [h6, ← hsc, scan_out hno]) hv hx c117 c120 u1
          · exact absurd ((see_lit (c := 32) htq (by decide)).mp b31) (fun z => hno ⟨z.1, by unfold isWh; rw [z.2]; rfl⟩)
  refine Cn.go (ls := [.ref 117, .float 0]) (by decide +kernel) rfl (Nat.le_of_ble_eq_true rfl) ?_
  refine r_aload_n (pc2 := 1) 0 dX10_next_0 rfl rfl rfl rfl ?_
  refine r_aload_n (pc2 := 2) 0 dX10_next_1 rfl rfl rfl rfl ?_
  refine r_getf (pc2 := 5) (v := .int (v 7)) fX10_111 dX10_next_2 c117 (by decide) rfl rfl ?_
  refine r_cast (nI p) (h7) ?_
  refine r_putfX (pc2 := 8) (moL (upd v 6 (nI p))) fX10_108 dX10_next_5 c117 (by decide) (Nat.le_of_ble_eq_true rfl) rfl rfl rfl (fun h z5 o5 c117 => ?_)
  have c120 := (o5 120 (by decide)).trans c120
  have hx := hx.step (a := 117) (by decide) z5 o5
  exact lp1 (n - p) p (upd v 6 (nI p)) _ (by omega) rfl rfl (fun k a => if_neg a) hx c117 c120 _
