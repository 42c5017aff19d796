/-! laysStands -/
theorem nd_inj {Q : List Nat} (h : Q.Nodup) {i j : Nat} (hi : i < Q.length) (hj : j < Q.length) (e : Q.getD i 0 = Q.getD j 0) : i = j := by
  have hp := List.pairwise_iff_getElem.mp h
  rw [gd_get hi, gd_get hj] at e
  rcases Nat.lt_trichotomy i j with c | c | c
  · exact absurd e (hp i j hi hj c)
  · exact c
  · exact absurd e.symm (hp j i hj hi c)
def LI (a : Nat → Nat) (Q : List Nat) (f kn g : Nat → Int32) (k c : Nat) : Prop := QS Q f kn ∧ (∀ s ∈ Q, Rch a s) ∧ (packS a ∈ Q ∧ Q.getD 0 0 = packS a) ∧ k ≤ Q.length ∧ ∀ i c', (i < k ∧ c' < 16) ∨ (i = k ∧ c' < c) → i < Q.length → (okS a (Q.getD i 0) c' → nxS a (Q.getD i 0) c' ∈ Q) ∧ g (16 * Q.getD i 0 + c') = nxI a (Q.getD i 0) c'
theorem LI.K {a : Nat → Nat} {Q : List Nat} {f kn g : Nat → Int32} {k : Nat} (h : LI a Q f kn g k 16) (hk : k < Q.length) : LI a Q f kn g (k + 1) 0 :=
  ⟨h.1, h.2.1, h.2.2.1, hk, fun i c' hi hl => h.2.2.2.2 i c' (by rcases hi with hi | hi <;> omega) hl⟩
theorem LI.gd {a : Nat → Nat} {Q Q2 : List Nat} {f kn g f2 kn2 : Nat → Int32} {k c : Nat} {x : Int32} (h : LI a Q f kn g k c) (hk : k < Q.length) (hc : c < 16) (hQ2 : QS Q2 f2 kn2) (hR : ∀ s ∈ Q2, Rch a s) (hs : ∀ s ∈ Q, s ∈ Q2) (hl : Q.length ≤ Q2.length) (hg : ∀ i, i < Q.length → Q2.getD i 0 = Q.getD i 0) (hx : x = nxI a (Q.getD k 0) c) (hm : okS a (Q.getD k 0) c → nxS a (Q.getD k 0) c ∈ Q2) : LI a Q2 f2 kn2 (upd g (16 * Q.getD k 0 + c) x) k (c + 1) := by
  refine ⟨hQ2, hR, ⟨hs _ h.2.2.1.1, (hg 0 (by omega)).trans h.2.2.1.2⟩, Nat.le_trans h.2.2.2.1 hl, fun i c' hi hil => ?_⟩
  have hik : i ≤ k := by rcases hi with hi | hi <;> omega
  have hiq : i < Q.length := by omega
  rw [hg i hiq]
  by_cases e : i = k ∧ c' = c
  · obtain ⟨rfl, rfl⟩ := e
    exact ⟨hm, by rw [upd, if_pos rfl]; exact hx⟩
  · have h2 := h.2.2.2.2 i c' (by rcases hi with hi | hi <;> omega) hiq
    refine ⟨fun z => hs _ (h2.1 z), ?_⟩
    rw [upd, if_neg ?_]
    · exact h2.2
    · intro z
      have hc' : c' < 16 := by rcases hi with hi | hi <;> omega
      have e1 : Q.getD i 0 = Q.getD k 0 := by omega
      exact e ⟨nd_inj h.1.1 hiq hk e1, by omega⟩
theorem LI.no {a : Nat → Nat} {Q : List Nat} {f kn g : Nat → Int32} {k c : Nat} (h : LI a Q f kn g k c) (hk : k < Q.length) (hc : c < 16) (ho : ¬ okS a (Q.getD k 0) c) : LI a Q f kn (upd g (16 * Q.getD k 0 + c) (-1)) k (c + 1) :=
  h.gd hk hc h.1 h.2.1 (fun _ z => z) (Nat.le_refl _) (fun _ _ => rfl) (by rw [nxI, if_neg ho]) (fun z => absurd z ho)
theorem LI.yes {a : Nat → Nat} {Q : List Nat} {f kn g f2 kn2 : Nat → Int32} {k c : Nat} (h : LI a Q f kn g k c) (hk : k < Q.length) (hc : c < 16) (ho : okS a (Q.getD k 0) c) (hQ2 : QS (addL Q (nxS a (Q.getD k 0) c)) f2 kn2) : LI a (addL Q (nxS a (Q.getD k 0) c)) f2 kn2 (upd g (16 * Q.getD k 0 + c) (nI (nxS a (Q.getD k 0) c))) k (c + 1) :=
  h.gd hk hc hQ2 (fun s hs => (mem_addL.mp hs).elim (h.2.1 s) (fun e => e ▸ (h.2.1 _ (getD_mem hk)).step hc ho)) (fun _ z => mem_addL.mpr (Or.inl z)) addL_len (fun _ z => addL_get z) (by rw [nxI, if_pos ho]) (fun _ => mem_addL.mpr (Or.inr rfl))
theorem LI.all {a : Nat → Nat} {Q : List Nat} {f kn g : Nat → Int32} {k : Nat} (hA : AIN a) (h : LI a Q f kn g k 0) (hk : ¬ k < Q.length) : (∀ s, s ∈ Q ↔ Rch a s) ∧ ∀ s ∈ Q, ∀ c, c < 16 → g (16 * s + c) = nxI a s c := by
  have hkl : k = Q.length := by have := h.2.2.2.1; omega
  have cl : ∀ s ∈ Q, ∀ c, c < 16 → (okS a s c → nxS a s c ∈ Q) ∧ g (16 * s + c) = nxI a s c := by
    intro s hs c hc
    obtain ⟨i, hi, rfl⟩ := mem_getD hs
    exact h.2.2.2.2 i c (Or.inl ⟨by omega, hc⟩) hi
  refine ⟨fun s => ⟨h.2.1 s, fun hr => ?_⟩, fun s hs c hc => (cl s hs c hc).2⟩
  obtain ⟨n, hn⟩ := hr
  induction n generalizing s with
  | zero => rw [show s = packS a from hn]; exact h.2.2.1.1
  | succ n ih =>
    obtain ⟨t, c, h1, hc, ho, rfl⟩ := hn
    exact (cl t (ih t h1) c hc).1 ho
/-- what laysStands leaves -/
def LST (h : Hp) (a : Nat → Nat) (v : Nat → Int32) (Q : List Nat) (g : Nat → Int32) : Prop := h.1 117 = some (mO (upd v 25 (nI Q.length))) ∧ (∃ f, h.1 125 = some (aI 40960 f) ∧ ∀ k, k < Q.length → f k = nI (Q.getD k 0)) ∧ h.1 126 = some (aI 655360 g) ∧ (∃ kn, h.1 128 = some (aZ 40960 kn)) ∧ (∃ f, h.1 122 = some (aI 900 f)) ∧ (∃ w, h.1 123 = some (aI 9 w)) ∧ Q.Nodup ∧ (∀ s, s ∈ Q ↔ Rch a s) ∧ (∀ s ∈ Q, ∀ c, c < 16 → g (16 * s + c) = nxI a s c) ∧ Q.getD 0 0 = packS a
theorem QS0 (f kn : Nat → Int32) : QS [] f (fillN kn 0 40960 (fun _ => 0)) := ⟨List.nodup_nil, fun s h => (by cases h), fun k h => absurd h (Nat.not_lt_zero _), fun s hs => by
  have := @fillN_in Int32 kn 0 40960 s (fun _ => 0) hs
  rw [Nat.zero_add] at this
  rw [this, if_neg (fun z => by cases z)]⟩
theorem nI_nm1 {n : Nat} (h : n < 2 ^ 31) : ¬ nI n = -1 := fun e => by
  have := congrArg Int32.toInt e
  rw [nI_toInt h] at this
  have e2 : (-1 : Int32).toInt = -1 := by decide
  rw [e2] at this; omega
set_option maxRecDepth 20000 in
set_option maxHeartbeats 1000000 in
theorem c_laysStands {E : EnvT} {d : Nat} {h0 : Hp} {v f kn g f2 w2 : Nat → Int32} {a : Nat → Nat} (c117 : h0.1 117 = some (mO v)) (c118 : h0.1 118 = some (aI 3531 (nA a))) (c122 : h0.1 122 = some (aI 900 f2)) (c123 : h0.1 123 = some (aI 9 w2)) (c125 : h0.1 125 = some (aI 40960 f)) (c126 : h0.1 126 = some (aI 655360 g)) (c128 : h0.1 128 = some (aZ 40960 kn)) (hA : AIN a) (hd : 4 ≤ d) : Cn E mX10_laysStands d [.ref 117] h0 (fun r h2 => r = none ∧ Ex [117, 122, 123, 125, 126, 128] h0 h2 ∧ ∃ Q g, LST h2 a v Q g) := by
  have hx : Ex [117, 122, 123, 125, 126, 128] h0 h0 := Ex.rf
  have loop : ∀ (m k : Nat) (Q : List Nat) (f kn g f2 w2 : Nat → Int32) (u2 u3 : Value) (h1 : Hp), k + m = 40961 → LI a Q f kn g k 0 → Ex [117, 122, 123, 125, 126, 128] h0 h1 → h1.1 117 = some (mO (upd v 25 (nI Q.length))) → h1.1 118 = some (aI 3531 (nA a)) → h1.1 122 = some (aI 900 f2) → h1.1 123 = some (aI 9 w2) → h1.1 125 = some (aI 40960 f) → h1.1 126 = some (aI 655360 g) → h1.1 128 = some (aZ 40960 kn) → Fr E mX10_laysStands d 36 [.ref 117, .int (nI k), u2, u3] [] h1 (fun r h2 => r = none ∧ Ex [117, 122, 123, 125, 126, 128] h0 h2 ∧ ∃ Q g, LST h2 a v Q g) := by
    intro m
    induction m with
    | zero =>
      intro k Q f kn g f2 w2 u2 u3 h hm hL
      have := hL.2.2.2.1
      have := hL.1.le
      omega
    | succ m ih0 =>
      intro k Q f kn g f2 w2 u2 u3 h hm hL hx c117 c118 c122 c123 c125 c126 c128
      have hle := hL.1.le
      by_cases hk : k < Q.length
      · have inner : ∀ (i c : Nat) (Q : List Nat) (f kn g f2 w2 : Nat → Int32) (u3 : Value) (h1 : Hp), c + i = 16 → LI a Q f kn g k c → k < Q.length → Ex [117, 122, 123, 125, 126, 128] h0 h1 → h1.1 117 = some (mO (upd v 25 (nI Q.length))) → h1.1 118 = some (aI 3531 (nA a)) → h1.1 122 = some (aI 900 f2) → h1.1 123 = some (aI 9 w2) → h1.1 125 = some (aI 40960 f) → h1.1 126 = some (aI 655360 g) → h1.1 128 = some (aZ 40960 kn) → Fr E mX10_laysStands d 46 [.ref 117, .int (nI k), .int (nI c), u3] [] h1 (fun r h2 => r = none ∧ Ex [117, 122, 123, 125, 126, 128] h0 h2 ∧ ∃ Q g, LST h2 a v Q g) := by
          intro i
          induction i with
          | zero =>
            intro c Q f kn g f2 w2 u3 h hci hL hk hx c117 c118 c122 c123 c125 c126 c128
            obtain rfl : c = 16 := by omega
            have hle := hL.1.le
            refine r_iload_n (pc2 := 47) 2 dX10_laysStands_46 rfl rfl rfl ?_
            refine r_bipush (pc2 := 49) (v := 16) dX10_laysStands_47 (by decide) rfl ?_
            refine r_icmp_ge (tgt := 124) (pc2 := 52) dX10_laysStands_49 (by decide) rfl (fun b49 => ?_) (fun b49 => ?_)
            · skip
              obtain ⟨x124, e124⟩ : ∃ z : Int32, z = (nI k) + (1) := ⟨_, rfl⟩
              refine r_iinc (pc2 := 127) (ls2 := [.ref 117, .int x124, .int (nI 16), u3]) (v := x124) 1 dX10_laysStands_124 rfl (by rw [e124]; rfl) rfl rfl rfl ?_
              refine r_goto (pc2 := 36) dX10_laysStands_127 (by decide) ?_
              rw [e124, nI_1]
              exact ih0 (k + 1) _ _ _ _ _ _ _ _ _ (by omega) (hL.K hk) hx c117 c118 c122 c123 c125 c126 c128
            · exact absurd (show nI 16 ≤ nI 16 from nI_le (Nat.le_refl _) (by decide)) b49
          | succ i ih =>
            intro c Q f kn g f2 w2 u3 h hci hL hk hx c117 c118 c122 c123 c125 c126 c128
            have hle := hL.1.le
            have hc : c < 16 := by omega
            have hsg := (hL.2.1 _ (getD_mem hk)).sg hA
            have hs4 := hsg.1
            by_cases ho : okS a (Q.getD k 0) c
            · have hc2 := ho.1
              have hdg := okS_dig hsg hA.G ho
              have hs4b := hs4
              have hs4 := (hsg.next hA.G hA.C ho).1
              refine r_iload_n (pc2 := 47) 2 dX10_laysStands_46 rfl rfl rfl ?_
              refine r_bipush (pc2 := 49) (v := 16) dX10_laysStands_47 (by decide) rfl ?_
              refine r_icmp_ge (tgt := 124) (pc2 := 52) dX10_laysStands_49 (by decide) rfl (fun b49 => ?_) (fun b49 => ?_)
              · exact absurd b49 (nI_ge (b := 16) hc (by decide))
              · skip
                refine r_aload_n (pc2 := 53) 0 dX10_laysStands_52 rfl rfl rfl rfl ?_
                refine r_aload_n (pc2 := 54) 0 dX10_laysStands_53 rfl rfl rfl rfl ?_
                refine r_getf (pc2 := 57) (v := .ref 125) fX10_40 dX10_laysStands_54 c117 (by decide) rfl rfl ?_
                refine r_iload_n (pc2 := 58) 1 dX10_laysStands_57 rfl rfl rfl ?_
                refine r_ialdN (pc2 := 59) k dX10_laysStands_58 c125 (by decide) rfl (by omega) (by decide) rfl ?_
                refine r_cast (nI (Q.getD k 0)) (hL.1.2.2.1 k hk) ?_
                refine r_iload_n (pc2 := 60) 2 dX10_laysStands_59 rfl rfl rfl ?_
                refine r_i2l (pc2 := 61) dX10_laysStands_60 rfl ?_
                refine r_castl (lN c) (nI_l (by omega)) ?_
                refine r_callV1 (pc2 := 64) (As := [.int (nI (Q.getD k 0)), .long (lN c)]) (st := []) kX10_269 rfl rfl dX10_laysStands_61 c117 (by decide) rfl rfl (Nat.le_of_ble_eq_true rfl) (by omega) (c_whyBy (st := (Q.getD k 0)) (sn := c) c117 c118 hA (by omega) hc2 (by omega)) rfl (fun h2 hq61 => ?_)
                subst hq61
                refine r_if_ne (tgt := 89) (pc2 := 67) dX10_laysStands_64 (by decide) rfl (fun b64 => ?_) (fun b64 => ?_)
                · exact absurd (by rw [ho.2]; rfl) b64
                · skip
                  refine r_aload_n (pc2 := 68) 0 dX10_laysStands_67 rfl rfl rfl rfl ?_
                  refine r_aload_n (pc2 := 69) 0 dX10_laysStands_68 rfl rfl rfl rfl ?_
                  refine r_getf (pc2 := 72) (v := .ref 125) fX10_40 dX10_laysStands_69 c117 (by decide) rfl rfl ?_
                  refine r_iload_n (pc2 := 73) 1 dX10_laysStands_72 rfl rfl rfl ?_
                  refine r_ialdN (pc2 := 74) k dX10_laysStands_73 c125 (by decide) rfl (by omega) (by decide) rfl ?_
                  refine r_cast (nI (Q.getD k 0)) (hL.1.2.2.1 k hk) ?_
                  refine r_iload_n (pc2 := 75) 2 dX10_laysStands_74 rfl rfl rfl ?_
                  refine r_iconst (pc2 := 76) (v := 0) dX10_laysStands_75 (by decide) rfl ?_
                  refine r_aload_n (pc2 := 77) 0 dX10_laysStands_76 rfl rfl rfl rfl ?_
                  refine r_getf (pc2 := 80) (v := .ref 118) fX10_13 dX10_laysStands_77 c117 (by decide) rfl rfl ?_
                  refine r_bipush (pc2 := 82) (v := 27) dX10_laysStands_80 (by decide) rfl ?_
                  refine r_ialdA (pc2 := 83) 27 dX10_laysStands_82 c118 (by decide) rfl (by decide) (by decide) rfl ?_
                  refine r_callV1 (pc2 := 86) (As := [.int (nI (Q.getD k 0)), .int (nI c), .int 0, .int (nI (a 27))]) (st := []) kX10_273 rfl rfl dX10_laysStands_83 c117 (by decide) rfl rfl (Nat.le_of_ble_eq_true rfl) (by omega) (c_hourTo (st := (Q.getD k 0)) (sn := c) (b := 0) (dr := a 27) c117 c118 c122 c123 (by omega) (by omega) (by omega) (by omega) hdg.1 hA.G hA.C hA.h2 hA.lo hA.w0 hA.w1 (by omega)) rfl (fun h hq83 => ?_)
                  obtain ⟨hx2, ⟨f2b, c122⟩, ⟨w2b, c123⟩⟩ := hq83
                  have c117 := hx2.get (by decide) c117
                  have c118 := hx2.get (by decide) c118
                  have c125 := hx2.get (by decide) c125
                  have c126 := hx2.get (by decide) c126
                  have c128 := hx2.get (by decide) c128
                  have hx := hx.trans hx2 (by decide)
                  refine r_goto (pc2 := 90) dX10_laysStands_86 (by decide) ?_
                  refine r_istore_n (pc2 := 91) (ls2 := [.ref 117, .int (nI k), .int (nI c), .int (nI (nxS a (Q.getD k 0) c))]) 3 dX10_laysStands_90 rfl (by decide) rfl rfl rfl ?_
                  refine r_aload_n (pc2 := 92) 0 dX10_laysStands_91 rfl rfl rfl rfl ?_
                  refine r_getf (pc2 := 95) (v := .ref 126) fX10_44 dX10_laysStands_92 c117 (by decide) rfl rfl ?_
                  refine r_bipush (pc2 := 97) (v := 16) dX10_laysStands_95 (by decide) rfl ?_
                  refine r_aload_n (pc2 := 98) 0 dX10_laysStands_97 rfl rfl rfl rfl ?_
                  refine r_getf (pc2 := 101) (v := .ref 125) fX10_40 dX10_laysStands_98 c117 (by decide) rfl rfl ?_
                  refine r_iload_n (pc2 := 102) 1 dX10_laysStands_101 rfl rfl rfl ?_
                  refine r_ialdN (pc2 := 103) k dX10_laysStands_102 c125 (by decide) rfl (by omega) (by decide) rfl ?_
                  refine r_cast (nI (Q.getD k 0)) (hL.1.2.2.1 k hk) ?_
                  refine r_imul (pc2 := 104) dX10_laysStands_103 rfl ?_
                  refine r_cast (nI (16 * (Q.getD k 0))) (pk_mul 16 _) ?_
                  refine r_iload_n (pc2 := 105) 2 dX10_laysStands_104 rfl rfl rfl ?_
                  refine r_iadd (pc2 := 106) dX10_laysStands_105 rfl ?_
                  refine r_cast (nI (16 * (Q.getD k 0) + c)) (nI_add _ _) ?_
                  refine r_iload_n (pc2 := 107) 3 dX10_laysStands_106 rfl rfl rfl ?_
                  refine r_iastN (pc2 := 108) (16 * (Q.getD k 0) + c) dX10_laysStands_107 c126 (by decide) rfl (by omega) (by decide) rfl (fun h z107 o107 c126 => ?_)
                  have c117 := (o107 117 (by decide)).trans c117
                  have c118 := (o107 118 (by decide)).trans c118
                  have c122 := (o107 122 (by decide)).trans c122
                  have c123 := (o107 123 (by decide)).trans c123
                  have c125 := (o107 125 (by decide)).trans c125
                  have c128 := (o107 128 (by decide)).trans c128
                  have hx := hx.step (a := 126) (by decide) z107 o107
                  refine r_iload_n (pc2 := 109) 3 dX10_laysStands_108 rfl rfl rfl ?_
                  refine r_iconst (pc2 := 110) (v := -1) dX10_laysStands_109 (by decide) rfl ?_
                  refine r_icmp_eq (tgt := 118) (pc2 := 113) dX10_laysStands_110 (by decide) rfl (fun b110 => ?_) (fun b110 => ?_)
                  · exact absurd b110 (nI_nm1 (by omega))
                  · skip
                    refine r_aload_n (pc2 := 114) 0 dX10_laysStands_113 rfl rfl rfl rfl ?_
                    refine r_iload_n (pc2 := 115) 3 dX10_laysStands_114 rfl rfl rfl ?_
                    refine r_callV0 (pc2 := 118) (As := [.int (nI (nxS a (Q.getD k 0) c))]) (st := []) kX10_347 rfl rfl dX10_laysStands_115 c117 (by decide) rfl rfl (Nat.le_of_ble_eq_true rfl) (by omega) (c_adds (Q := Q) (s := (nxS a (Q.getD k 0) c)) c117 c125 c128 hL.1 hs4) rfl (fun h hq115 => ?_)
                    obtain ⟨hxa, c117, f3, kn3, hQ3, c125, c128⟩ := hq115
                    have c118 := hxa.get (by decide) c118
                    have c122 := hxa.get (by decide) c122
                    have c123 := hxa.get (by decide) c123
                    have c126 := hxa.get (by decide) c126
                    have hx := hx.trans hxa (by decide)
                    obtain ⟨x118, e118⟩ : ∃ z : Int32, z = (nI c) + (1) := ⟨_, rfl⟩
                    refine r_iinc (pc2 := 121) (ls2 := [.ref 117, .int (nI k), .int x118, .int (nI (nxS a (Q.getD k 0) c))]) (v := x118) 2 dX10_laysStands_118 rfl (by rw [e118]; rfl) rfl rfl rfl ?_
                    refine r_goto (pc2 := 46) dX10_laysStands_121 (by decide) ?_
                    rw [e118, nI_1]
                    exact ih (c + 1) _ _ _ _ _ _ _ _ (by omega) (hL.yes hk hc ho hQ3) (Nat.lt_of_lt_of_le hk addL_len) hx c117 c118 c122 c123 c125 c126 c128
            · by_cases hc2 : c < 2 ^ (a 3)
              · skip
                refine r_iload_n (pc2 := 47) 2 dX10_laysStands_46 rfl rfl rfl ?_
                refine r_bipush (pc2 := 49) (v := 16) dX10_laysStands_47 (by decide) rfl ?_
                refine r_icmp_ge (tgt := 124) (pc2 := 52) dX10_laysStands_49 (by decide) rfl (fun b49 => ?_) (fun b49 => ?_)
                · exact absurd b49 (nI_ge (b := 16) hc (by decide))
                · skip
                  refine r_aload_n (pc2 := 53) 0 dX10_laysStands_52 rfl rfl rfl rfl ?_
                  refine r_aload_n (pc2 := 54) 0 dX10_laysStands_53 rfl rfl rfl rfl ?_
                  refine r_getf (pc2 := 57) (v := .ref 125) fX10_40 dX10_laysStands_54 c117 (by decide) rfl rfl ?_
                  refine r_iload_n (pc2 := 58) 1 dX10_laysStands_57 rfl rfl rfl ?_
                  refine r_ialdN (pc2 := 59) k dX10_laysStands_58 c125 (by decide) rfl (by omega) (by decide) rfl ?_
                  refine r_cast (nI (Q.getD k 0)) (hL.1.2.2.1 k hk) ?_
                  refine r_iload_n (pc2 := 60) 2 dX10_laysStands_59 rfl rfl rfl ?_
                  refine r_i2l (pc2 := 61) dX10_laysStands_60 rfl ?_
                  refine r_castl (lN c) (nI_l (by omega)) ?_
                  refine r_callV1 (pc2 := 64) (As := [.int (nI (Q.getD k 0)), .long (lN c)]) (st := []) kX10_269 rfl rfl dX10_laysStands_61 c117 (by decide) rfl rfl (Nat.le_of_ble_eq_true rfl) (by omega) (c_whyBy (st := (Q.getD k 0)) (sn := c) c117 c118 hA (by omega) hc2 (by omega)) rfl (fun h2 hq61 => ?_)
                  subst hq61
                  refine r_if_ne (tgt := 89) (pc2 := 67) dX10_laysStands_64 (by decide) rfl (fun b64 => ?_) (fun b64 => ?_)
                  · skip
                    refine r_iconst (pc2 := 90) (v := -1) dX10_laysStands_89 (by decide) rfl ?_
                    refine r_istore_n (pc2 := 91) (ls2 := [.ref 117, .int (nI k), .int (nI c), .int (-1)]) 3 dX10_laysStands_90 rfl (by decide) rfl rfl rfl ?_
                    refine r_aload_n (pc2 := 92) 0 dX10_laysStands_91 rfl rfl rfl rfl ?_
                    refine r_getf (pc2 := 95) (v := .ref 126) fX10_44 dX10_laysStands_92 c117 (by decide) rfl rfl ?_
                    refine r_bipush (pc2 := 97) (v := 16) dX10_laysStands_95 (by decide) rfl ?_
                    refine r_aload_n (pc2 := 98) 0 dX10_laysStands_97 rfl rfl rfl rfl ?_
                    refine r_getf (pc2 := 101) (v := .ref 125) fX10_40 dX10_laysStands_98 c117 (by decide) rfl rfl ?_
                    refine r_iload_n (pc2 := 102) 1 dX10_laysStands_101 rfl rfl rfl ?_
                    refine r_ialdN (pc2 := 103) k dX10_laysStands_102 c125 (by decide) rfl (by omega) (by decide) rfl ?_
                    refine r_cast (nI (Q.getD k 0)) (hL.1.2.2.1 k hk) ?_
                    refine r_imul (pc2 := 104) dX10_laysStands_103 rfl ?_
                    refine r_cast (nI (16 * (Q.getD k 0))) (pk_mul 16 _) ?_
                    refine r_iload_n (pc2 := 105) 2 dX10_laysStands_104 rfl rfl rfl ?_
                    refine r_iadd (pc2 := 106) dX10_laysStands_105 rfl ?_
                    refine r_cast (nI (16 * (Q.getD k 0) + c)) (nI_add _ _) ?_
                    refine r_iload_n (pc2 := 107) 3 dX10_laysStands_106 rfl rfl rfl ?_
                    refine r_iastN (pc2 := 108) (16 * (Q.getD k 0) + c) dX10_laysStands_107 c126 (by decide) rfl (by omega) (by decide) rfl (fun h z107 o107 c126 => ?_)
                    have c117 := (o107 117 (by decide)).trans c117
                    have c118 := (o107 118 (by decide)).trans c118
                    have c122 := (o107 122 (by decide)).trans c122
                    have c123 := (o107 123 (by decide)).trans c123
                    have c125 := (o107 125 (by decide)).trans c125
                    have c128 := (o107 128 (by decide)).trans c128
                    have hx := hx.step (a := 126) (by decide) z107 o107
                    refine r_iload_n (pc2 := 109) 3 dX10_laysStands_108 rfl rfl rfl ?_
                    refine r_iconst (pc2 := 110) (v := -1) dX10_laysStands_109 (by decide) rfl ?_
                    refine r_icmp_eq (tgt := 118) (pc2 := 113) dX10_laysStands_110 (by decide) rfl (fun b110 => ?_) (fun b110 => ?_)
                    · skip
                      obtain ⟨x118, e118⟩ : ∃ z : Int32, z = (nI c) + (1) := ⟨_, rfl⟩
                      refine r_iinc (pc2 := 121) (ls2 := [.ref 117, .int (nI k), .int x118, .int (-1)]) (v := x118) 2 dX10_laysStands_118 rfl (by rw [e118]; rfl) rfl rfl rfl ?_
                      refine r_goto (pc2 := 46) dX10_laysStands_121 (by decide) ?_
                      rw [e118, nI_1]
                      exact ih (c + 1) _ _ _ _ _ _ _ _ (by omega) (hL.no hk hc ho) hk hx c117 c118 c122 c123 c125 c126 c128
                    · exact absurd b110 (by decide)
                  · exact absurd (nI_z0 (Nat.lt_trans (why2_lt _ _ _) (by decide)) b64) (fun z => ho ⟨hc2, z⟩)
              · have hnv : ¬ vS (a 3) (lN c) := fun z => hc2 (by
                  obtain ⟨n, hn, e⟩ := vS_of hA.G z
                  have := congrArg Int64.toNatClampNeg e
                  have hp : 2 ^ (a 3) ≤ 2 ^ 4 := Nat.pow_le_pow_right (by decide) hA.G
                  rw [lN_clamp (by omega), lN_clamp (by omega)] at this
                  omega)
                refine r_iload_n (pc2 := 47) 2 dX10_laysStands_46 rfl rfl rfl ?_
                refine r_bipush (pc2 := 49) (v := 16) dX10_laysStands_47 (by decide) rfl ?_
                refine r_icmp_ge (tgt := 124) (pc2 := 52) dX10_laysStands_49 (by decide) rfl (fun b49 => ?_) (fun b49 => ?_)
                · exact absurd b49 (nI_ge (b := 16) hc (by decide))
                · skip
                  refine r_aload_n (pc2 := 53) 0 dX10_laysStands_52 rfl rfl rfl rfl ?_
                  refine r_aload_n (pc2 := 54) 0 dX10_laysStands_53 rfl rfl rfl rfl ?_
                  refine r_getf (pc2 := 57) (v := .ref 125) fX10_40 dX10_laysStands_54 c117 (by decide) rfl rfl ?_
                  refine r_iload_n (pc2 := 58) 1 dX10_laysStands_57 rfl rfl rfl ?_
                  refine r_ialdN (pc2 := 59) k dX10_laysStands_58 c125 (by decide) rfl (by omega) (by decide) rfl ?_
                  refine r_cast (nI (Q.getD k 0)) (hL.1.2.2.1 k hk) ?_
                  refine r_iload_n (pc2 := 60) 2 dX10_laysStands_59 rfl rfl rfl ?_
                  refine r_i2l (pc2 := 61) dX10_laysStands_60 rfl ?_
                  refine r_castl (lN c) (nI_l (by omega)) ?_
                  refine r_callV1 (pc2 := 64) (As := [.int (nI (Q.getD k 0)), .long (lN c)]) (st := []) kX10_269 rfl rfl dX10_laysStands_61 c117 (by decide) rfl rfl (Nat.le_of_ble_eq_true rfl) (by omega) (c_whyBy1 c117 c118 hA hnv (by omega)) rfl (fun h2 hq61 => ?_)
                  subst hq61
                  refine r_if_ne (tgt := 89) (pc2 := 67) dX10_laysStands_64 (by decide) rfl (fun b64 => ?_) (fun b64 => ?_)
                  · skip
                    refine r_iconst (pc2 := 90) (v := -1) dX10_laysStands_89 (by decide) rfl ?_
                    refine r_istore_n (pc2 := 91) (ls2 := [.ref 117, .int (nI k), .int (nI c), .int (-1)]) 3 dX10_laysStands_90 rfl (by decide) rfl rfl rfl ?_
                    refine r_aload_n (pc2 := 92) 0 dX10_laysStands_91 rfl rfl rfl rfl ?_
                    refine r_getf (pc2 := 95) (v := .ref 126) fX10_44 dX10_laysStands_92 c117 (by decide) rfl rfl ?_
                    refine r_bipush (pc2 := 97) (v := 16) dX10_laysStands_95 (by decide) rfl ?_
                    refine r_aload_n (pc2 := 98) 0 dX10_laysStands_97 rfl rfl rfl rfl ?_
                    refine r_getf (pc2 := 101) (v := .ref 125) fX10_40 dX10_laysStands_98 c117 (by decide) rfl rfl ?_
                    refine r_iload_n (pc2 := 102) 1 dX10_laysStands_101 rfl rfl rfl ?_
                    refine r_ialdN (pc2 := 103) k dX10_laysStands_102 c125 (by decide) rfl (by omega) (by decide) rfl ?_
                    refine r_cast (nI (Q.getD k 0)) (hL.1.2.2.1 k hk) ?_
                    refine r_imul (pc2 := 104) dX10_laysStands_103 rfl ?_
                    refine r_cast (nI (16 * (Q.getD k 0))) (pk_mul 16 _) ?_
                    refine r_iload_n (pc2 := 105) 2 dX10_laysStands_104 rfl rfl rfl ?_
                    refine r_iadd (pc2 := 106) dX10_laysStands_105 rfl ?_
                    refine r_cast (nI (16 * (Q.getD k 0) + c)) (nI_add _ _) ?_
                    refine r_iload_n (pc2 := 107) 3 dX10_laysStands_106 rfl rfl rfl ?_
                    refine r_iastN (pc2 := 108) (16 * (Q.getD k 0) + c) dX10_laysStands_107 c126 (by decide) rfl (by omega) (by decide) rfl (fun h z107 o107 c126 => ?_)
                    have c117 := (o107 117 (by decide)).trans c117
                    have c118 := (o107 118 (by decide)).trans c118
                    have c122 := (o107 122 (by decide)).trans c122
                    have c123 := (o107 123 (by decide)).trans c123
                    have c125 := (o107 125 (by decide)).trans c125
                    have c128 := (o107 128 (by decide)).trans c128
                    have hx := hx.step (a := 126) (by decide) z107 o107
                    refine r_iload_n (pc2 := 109) 3 dX10_laysStands_108 rfl rfl rfl ?_
                    refine r_iconst (pc2 := 110) (v := -1) dX10_laysStands_109 (by decide) rfl ?_
                    refine r_icmp_eq (tgt := 118) (pc2 := 113) dX10_laysStands_110 (by decide) rfl (fun b110 => ?_) (fun b110 => ?_)
                    · skip
                      obtain ⟨x118, e118⟩ : ∃ z : Int32, z = (nI c) + (1) := ⟨_, rfl⟩
                      refine r_iinc (pc2 := 121) (ls2 := [.ref 117, .int (nI k), .int x118, .int (-1)]) (v := x118) 2 dX10_laysStands_118 rfl (by rw [e118]; rfl) rfl rfl rfl ?_
                      refine r_goto (pc2 := 46) dX10_laysStands_121 (by decide) ?_
                      rw [e118, nI_1]
                      exact ih (c + 1) _ _ _ _ _ _ _ _ (by omega) (hL.no hk hc ho) hk hx c117 c118 c122 c123 c125 c126 c128
                    · exact absurd b110 (by decide)
                  · exact absurd b64 (by decide)
        refine r_iload_n (pc2 := 37) 1 dX10_laysStands_36 rfl rfl rfl ?_
        refine r_aload_n (pc2 := 38) 0 dX10_laysStands_37 rfl rfl rfl rfl ?_
        refine r_getf (pc2 := 41) (v := .int (nI Q.length)) fX10_344 dX10_laysStands_38 c117 (by decide) rfl rfl ?_
        refine r_icmp_ge (tgt := 130) (pc2 := 44) dX10_laysStands_41 (by decide) rfl (fun b41 => ?_) (fun b41 => ?_)
        · exact absurd b41 (nI_ge hk (by omega))
        · skip
          refine r_iconst (pc2 := 45) (v := 0) dX10_laysStands_44 (by decide) rfl ?_
          refine r_istore_n (pc2 := 46) (ls2 := [.ref 117, .int (nI k), .int 0, u3]) 2 dX10_laysStands_45 rfl (by decide) rfl rfl rfl ?_
          exact inner 16 0 _ _ _ _ _ _ _ _ (by omega) hL hk hx c117 c118 c122 c123 c125 c126 c128
      · skip
        refine r_iload_n (pc2 := 37) 1 dX10_laysStands_36 rfl rfl rfl ?_
        refine r_aload_n (pc2 := 38) 0 dX10_laysStands_37 rfl rfl rfl rfl ?_
        refine r_getf (pc2 := 41) (v := .int (nI Q.length)) fX10_344 dX10_laysStands_38 c117 (by decide) rfl rfl ?_
        refine r_icmp_ge (tgt := 130) (pc2 := 44) dX10_laysStands_41 (by decide) rfl (fun b41 => ?_) (fun b41 => ?_)
        · skip
          exact r_vret rfl dX10_laysStands_130 ⟨rfl, hx, Q, g, c117, ⟨_, c125, hL.1.2.2.1⟩, c126, ⟨_, c128⟩, ⟨_, c122⟩, ⟨_, c123⟩, hL.1.1, (hL.all hA hk).1, (hL.all hA hk).2, hL.2.2.1.2⟩
        · exact absurd (nI_le (by omega) (by omega)) b41
  have loop1 : ∀ (m k : Nat) (h1 : Hp), k + m = 40960 → Ex [117, 122, 123, 125, 126, 128] h0 h1 → h1.1 117 = some (mO v) → h1.1 118 = some (aI 3531 (nA a)) → h1.1 122 = some (aI 900 f2) → h1.1 123 = some (aI 9 w2) → h1.1 125 = some (aI 40960 f) → h1.1 126 = some (aI 655360 g) → h1.1 128 = some (aZ 40960 (fillN kn 0 k (fun _ => 0))) → Fr E mX10_laysStands d 2 [.ref 117, .int (nI k), .float 0, .float 0] [] h1 (fun r h2 => r = none ∧ Ex [117, 122, 123, 125, 126, 128] h0 h2 ∧ ∃ Q g, LST h2 a v Q g) := by
    intro m
    induction m with
    | zero =>
      intro k h hk hx c117 c118 c122 c123 c125 c126 c128
      obtain rfl : k = 40960 := by omega
      have hs4 := hA.plt
      refine r_iload_n (pc2 := 3) 1 dX10_laysStands_2 rfl rfl rfl ?_
      refine r_ldc (pc2 := 5) (v := 40960) qX10_39 dX10_laysStands_3 rfl ?_
      refine r_icmp_ge (tgt := 21) (pc2 := 8) dX10_laysStands_5 (by decide) rfl (fun b5 => ?_) (fun b5 => ?_)
      · skip
        refine r_aload_n (pc2 := 22) 0 dX10_laysStands_21 rfl rfl rfl rfl ?_
        refine r_iconst (pc2 := 23) (v := 0) dX10_laysStands_22 (by decide) rfl ?_
        refine r_putfX (pc2 := 26) (moL (upd v 25 0)) fX10_344 dX10_laysStands_23 c117 (by decide) (Nat.le_of_ble_eq_true rfl) rfl rfl rfl (fun h z23 o23 c117 => ?_)
        have c118 := (o23 118 (by decide)).trans c118
        have c122 := (o23 122 (by decide)).trans c122
        have c123 := (o23 123 (by decide)).trans c123
        have c125 := (o23 125 (by decide)).trans c125
        have c126 := (o23 126 (by decide)).trans c126
        have c128 := (o23 128 (by decide)).trans c128
        have hx := hx.step (a := 117) (by decide) z23 o23
        have c117 : h.1 117 = some (mO (upd v 25 (nI ([] : List Nat).length))) := c117
        refine r_aload_n (pc2 := 27) 0 dX10_laysStands_26 rfl rfl rfl rfl ?_
        refine r_aload_n (pc2 := 28) 0 dX10_laysStands_27 rfl rfl rfl rfl ?_
        refine r_callV1 (pc2 := 31) (As := []) (st := [.ref 117]) kX10_266 rfl rfl dX10_laysStands_28 c117 (by decide) rfl rfl (Nat.le_of_ble_eq_true rfl) (by omega) (c_standNow c117 c118 hA.G hA.c7 hA.dp) rfl (fun h2 hq28 => ?_)
        subst hq28
        refine r_callV0 (pc2 := 34) (As := [.int (nI (packS a))]) (st := []) kX10_347 rfl rfl dX10_laysStands_31 c117 (by decide) rfl rfl (Nat.le_of_ble_eq_true rfl) (by omega) (c_adds (Q := ([] : List Nat)) (s := (packS a)) c117 c125 c128 (QS0 f kn) hs4) rfl (fun h hq31 => ?_)
        obtain ⟨hxa, c117, f3, kn3, hQ3, c125, c128⟩ := hq31
        have c118 := hxa.get (by decide) c118
        have c122 := hxa.get (by decide) c122
        have c123 := hxa.get (by decide) c123
        have c126 := hxa.get (by decide) c126
        have hx := hx.trans hxa (by decide)
        refine r_iconst (pc2 := 35) (v := 0) dX10_laysStands_34 (by decide) rfl ?_
        refine r_istore_n (pc2 := 36) (ls2 := [.ref 117, .int 0, .float 0, .float 0]) 1 dX10_laysStands_35 rfl (by decide) rfl rfl rfl ?_
        exact loop 40961 0 (addL [] (packS a)) _ _ _ _ _ _ _ _ (by omega) ⟨hQ3, fun s hs => by rw [(mem_addL.mp hs).resolve_left (fun z => by cases z)]; exact Rch.now, ⟨mem_addL.mpr (Or.inr rfl), rfl⟩, Nat.zero_le _, fun i c hi => by omega⟩ hx c117 c118 c122 c123 c125 c126 c128
      · exact absurd (show nI 40960 ≤ nI 40960 from nI_le (Nat.le_refl _) (by decide)) b5
    | succ m ih =>
      intro k h hk hx c117 c118 c122 c123 c125 c126 c128
      have hlt : k < 40960 := by omega
      refine r_iload_n (pc2 := 3) 1 dX10_laysStands_2 rfl rfl rfl ?_
      refine r_ldc (pc2 := 5) (v := 40960) qX10_39 dX10_laysStands_3 rfl ?_
      refine r_icmp_ge (tgt := 21) (pc2 := 8) dX10_laysStands_5 (by decide) rfl (fun b5 => ?_) (fun b5 => ?_)
      · exact absurd b5 (nI_ge (b := 40960) hlt (by decide))
      · skip
        refine r_aload_n (pc2 := 9) 0 dX10_laysStands_8 rfl rfl rfl rfl ?_
        refine r_getf (pc2 := 12) (v := .ref 128) fX10_50 dX10_laysStands_9 c117 (by decide) rfl rfl ?_
        refine r_iload_n (pc2 := 13) 1 dX10_laysStands_12 rfl rfl rfl ?_
        refine r_iconst (pc2 := 14) (v := 0) dX10_laysStands_13 (by decide) rfl ?_
        refine r_zastN (pc2 := 15) k dX10_laysStands_14 c128 (by decide) rfl (by omega) (by decide) rfl (fun h z14 o14 c128 => ?_)
        have c117 := (o14 117 (by decide)).trans c117
        have c118 := (o14 118 (by decide)).trans c118
        have c122 := (o14 122 (by decide)).trans c122
        have c123 := (o14 123 (by decide)).trans c123
        have c125 := (o14 125 (by decide)).trans c125
        have c126 := (o14 126 (by decide)).trans c126
        have hx := hx.step (a := 128) (by decide) z14 o14
        obtain ⟨x15, e15⟩ : ∃ z : Int32, z = (nI k) + (1) := ⟨_, rfl⟩
        refine r_iinc (pc2 := 18) (ls2 := [.ref 117, .int x15, .float 0, .float 0]) (v := x15) 1 dX10_laysStands_15 rfl (by rw [e15]; rfl) rfl rfl rfl ?_
        refine r_goto (pc2 := 2) dX10_laysStands_18 (by decide) ?_
        rw [e15, nI_1]
        rw [fillN_u (g := fun _ => 0) (by decide)] at c128
        exact ih (k + 1) _ (by omega) hx c117 c118 c122 c123 c125 c126 c128
  refine Cn.go (ls := [.ref 117, .float 0, .float 0, .float 0]) (by decide +kernel) rfl (Nat.le_of_ble_eq_true rfl) ?_
  refine r_iconst (pc2 := 1) (v := 0) dX10_laysStands_0 (by decide) rfl ?_
  refine r_istore_n (pc2 := 2) (ls2 := [.ref 117, .int 0, .float 0, .float 0]) 1 dX10_laysStands_1 rfl (by decide) rfl rfl rfl ?_
  rw [← fillN_0 kn 0 (fun _ => 0)] at c128
  exact loop1 40960 0 _ (by omega) hx c117 c118 c122 c123 c125 c126 c128
