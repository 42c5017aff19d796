/-! laysFar -/
theorem addm1 (x : Int32) : x + (-1) = x - 1 := (Int32.sub_eq_add_neg x 1).symm
theorem FD_ex (a : Nat → Nat) (st s : Nat) : ∃ x, FD a st s x := by
  by_cases h : ∃ m, m < 268435456 ∧ pt a st m s
  · obtain ⟨m, hm, hp⟩ := h
    obtain ⟨c, h1, h2, h3⟩ := least_of (p := fun m => pt a st m s) m hp
    exact ⟨c, Or.inl ⟨by omega, h2, h3⟩⟩
  · exact ⟨_, Or.inr ⟨rfl, fun m hm hp => h ⟨m, hm, hp⟩⟩⟩
def PKI (a : Nat → Nat) (st : Nat) (Q : List Nat) (fx : Nat → Nat) (N mo j : Nat) : Prop := FJ a st Q fx ∧ (mo = 1 → sumQ fx Q < N) ∧ (mo = 0 → sumQ fx Q ≤ N ∧ ∀ i, j ≤ i → i < Q.length → ∀ c, c < 16 → fx (Q.getD i 0) = 0 ∨ fx (Q.getD i 0) ≤ fbN a fx (Q.getD i 0) c)
theorem ini_s {a : Nat → Nat} {st : Nat} {Q : List Nat} {fx : Nat → Nat} {k : Nat} (hnd : Q.Nodup) (hk : k < Q.length) (h : ∀ i, i < k → fx (Q.getD i 0) = if byB a st (Q.getD i 0) then 0 else 268435456) : ∀ i, i < k + 1 → va_up fx (Q.getD k 0) (if byB a st (Q.getD k 0) then 0 else 268435456) (Q.getD i 0) = if byB a st (Q.getD i 0) then 0 else 268435456 := by
  intro i hi
  by_cases e : i = k
  · subst e; rw [va_up, if_pos rfl]
  · rw [va_up, if_neg (fun z => e (nd_inj hnd (by omega) hk z))]; exact h i (by omega)
theorem ini_f {a : Nat → Nat} {st : Nat} {Q : List Nat} {fx : Nat → Nat} (h : ∀ i, i < Q.length → fx (Q.getD i 0) = if byB a st (Q.getD i 0) then 0 else 268435456) : FJ a st Q fx := by
  intro s hs
  obtain ⟨i, hi, rfl⟩ := mem_getD hs
  rw [h i hi]
  by_cases c : byB a st (Q.getD i 0)
  · rw [if_pos c]; exact ⟨by decide, fun _ => c, fun _ => c, fun _ => rfl⟩
  · rw [if_neg c]; exact ⟨Nat.le_refl _, fun z => absurd z (Nat.lt_irrefl _), fun z => absurd z (by decide), fun z => absurd z c⟩
theorem PKI_j {a : Nat → Nat} {st : Nat} {Q : List Nat} {fx : Nat → Nat} {N mo j : Nat} (h : PKI a st Q fx N mo (j + 1)) (hc : mo = 0 → ∀ c, c < 16 → fx (Q.getD j 0) = 0 ∨ fx (Q.getD j 0) ≤ fbN a fx (Q.getD j 0) c) : PKI a st Q fx N mo j :=
  ⟨h.1, h.2.1, fun z => ⟨(h.2.2 z).1, fun i hi hl c hc2 => by
    by_cases e : i = j
    · rw [e]; exact hc z c hc2
    · exact (h.2.2 z).2 i (by omega) hl c hc2⟩⟩
theorem PKI_s {a : Nat → Nat} {st : Nat} {Q : List Nat} {fx : Nat → Nat} {N mo j s c : Nat} (h : PKI a st Q fx N mo j) (hnd : Q.Nodup) (hcl : okS a s c → nxS a s c ∈ Q) (hc : c < 16) (hs0 : 0 < fx s) (hs : s ∈ Q) (hlt : fbN a fx s c < fx s) (hmo : mo ≤ 1) : PKI a st Q (va_up fx s (fbN a fx s c)) N 1 j := by
  refine ⟨h.1.set hcl hc hs0 hs hlt, fun _ => ?_, fun z => by cases z⟩
  have h1 := sumQ_lt hlt hnd hs
  have h2 : sumQ fx Q ≤ N := by
    rcases (show mo = 0 ∨ mo = 1 by omega) with z | z
    · exact (h.2.2 z).1
    · exact Nat.le_of_lt (h.2.1 z)
  omega
set_option maxRecDepth 20000 in
set_option maxHeartbeats 1000000 in
theorem c_laysFar {E : EnvT} {d : Nat} {h0 : Hp} {v f kn g f2 w2 : Nat → Int32} {a fx : Nat → Nat} {st x : Nat} (c117 : h0.1 117 = some (mO v)) (c118 : h0.1 118 = some (aI 3531 (nA a))) (c122 : h0.1 122 = some (aI 900 f2)) (c123 : h0.1 123 = some (aI 9 w2)) (c125 : h0.1 125 = some (aI 40960 f)) (c126 : h0.1 126 = some (aI 655360 g)) (c127 : h0.1 127 = some (aI 40960 (nA fx))) (c128 : h0.1 128 = some (aZ 40960 kn)) (hA : AIN a) (hst : st < 16) (hX : FD a st (packS a) x) (hd : 5 ≤ d) : Cn E mX10_laysFar d [.ref 117, .int (nI st)] h0 (fun r h2 => r = some (.int (nI x)) ∧ Ex [117, 122, 123, 125, 126, 127, 128] h0 h2 ∧ ∃ Q g fx, LST h2 a v Q g ∧ h2.1 127 = some (aI 40960 (nA fx)) ∧ ∀ s ∈ Q, FD a st s (fx s)) := by
  have hx : Ex [117, 122, 123, 125, 126, 127, 128] h0 h0 := Ex.rf
  refine Cn.go (ls := [.ref 117, .int (nI st), .float 0, .float 0, .float 0]) (by decide +kernel) rfl (Nat.le_of_ble_eq_true rfl) ?_
  refine r_aload_n (pc2 := 1) 0 dX10_laysFar_0 rfl rfl rfl rfl ?_
  refine r_callV0 (pc2 := 4) (As := []) (st := []) kX10_351 rfl rfl dX10_laysFar_1 c117 (by decide) rfl rfl (Nat.le_of_ble_eq_true rfl) (by omega) (c_laysStands c117 c118 c122 c123 c125 c126 c128 hA (by omega)) rfl (fun h hq1 => ?_)
  obtain ⟨hxl, Q, gb, c117, ⟨fb, c125, hfQ⟩, c126, ⟨knb, c128⟩, ⟨f2b, c122⟩, ⟨w2b, c123⟩, hnd, hmem, hgc, hq0⟩ := hq1
  have c118 := hxl.get (by decide) c118
  have c127 := hxl.get (by decide) c127
  have hx := hx.trans hxl (by decide)
  refine r_iconst (pc2 := 5) (v := 0) dX10_laysFar_4 (by decide) rfl ?_
  refine r_istore_n (pc2 := 6) (ls2 := [.ref 117, .int (nI st), .int 0, .float 0, .float 0]) 2 dX10_laysFar_5 rfl (by decide) rfl rfl rfl ?_
  obtain ⟨g, eg⟩ : ∃ z, z = gb := ⟨_, rfl⟩
  obtain ⟨f, ef⟩ : ∃ z, z = fb := ⟨_, rfl⟩
  obtain ⟨kn, ek⟩ : ∃ z, z = knb := ⟨_, rfl⟩
  obtain ⟨f2, e2⟩ : ∃ z, z = f2b := ⟨_, rfl⟩
  obtain ⟨w2, e3⟩ : ∃ z, z = w2b := ⟨_, rfl⟩
  rw [← eg] at c126 hgc
  rw [← ef] at c125 hfQ
  rw [← ek] at c128
  rw [← e2] at c122
  rw [← e3] at c123
  have hx0 := hx
  have hQ4 : ∀ s ∈ Q, s < 40960 := fun s hs => (((hmem s).mp hs).sg hA).1
  have hle : Q.length ≤ 40960 := nodup_le _ _ hnd hQ4
  have hcl : ∀ s ∈ Q, ∀ c, c < 16 → okS a s c → nxS a s c ∈ Q := fun s hs c hc ho => (hmem _).mpr (((hmem s).mp hs).step hc ho)
  have loop : ∀ (N : Nat) (fx : Nat → Nat) (u3 u4 : Value) (h1 : Hp), sumQ fx Q < N → FJ a st Q fx → Ex [117, 122, 123, 125, 126, 127, 128] h0 h1 → h1.1 117 = some (mO (upd v 25 (nI Q.length))) → h1.1 118 = some (aI 3531 (nA a)) → h1.1 122 = some (aI 900 f2) → h1.1 123 = some (aI 9 w2) → h1.1 125 = some (aI 40960 f) → h1.1 126 = some (aI 655360 g) → h1.1 127 = some (aI 40960 (nA fx)) → h1.1 128 = some (aZ 40960 kn) → Fr E mX10_laysFar d 54 [.ref 117, .int (nI st), .int 1, u3, u4] [] h1 (fun r h2 => r = some (.int (nI x)) ∧ Ex [117, 122, 123, 125, 126, 127, 128] h0 h2 ∧ ∃ Q g fx, LST h2 a v Q g ∧ h2.1 127 = some (aI 40960 (nA fx)) ∧ ∀ s ∈ Q, FD a st s (fx s)) := by
    intro N
    induction N with
    | zero => intro fx u3 u4 h hs; exact absurd hs (Nat.not_lt_zero _)
    | succ N ihN =>
      intro fx u3 u4 h hs hF hx c117 c118 c122 c123 c125 c126 c127 c128
      have pass : ∀ (j mo : Nat) (fx : Nat → Nat) (u4 : Value) (h1 : Hp), j ≤ Q.length → mo ≤ 1 → PKI a st Q fx N mo j → Ex [117, 122, 123, 125, 126, 127, 128] h0 h1 → h1.1 117 = some (mO (upd v 25 (nI Q.length))) → h1.1 118 = some (aI 3531 (nA a)) → h1.1 122 = some (aI 900 f2) → h1.1 123 = some (aI 9 w2) → h1.1 125 = some (aI 40960 f) → h1.1 126 = some (aI 655360 g) → h1.1 127 = some (aI 40960 (nA fx)) → h1.1 128 = some (aZ 40960 kn) → Fr E mX10_laysFar d 67 [.ref 117, .int (nI st), .int (nI mo), .int (nI j - 1), u4] [] h1 (fun r h2 => r = some (.int (nI x)) ∧ Ex [117, 122, 123, 125, 126, 127, 128] h0 h2 ∧ ∃ Q g fx, LST h2 a v Q g ∧ h2.1 127 = some (aI 40960 (nA fx)) ∧ ∀ s ∈ Q, FD a st s (fx s)) := by
        intro j
        induction j with
        | zero =>
          intro mo fx u4 h hj hmo hI hx c117 c118 c122 c123 c125 c126 c127 c128
          show Fr E mX10_laysFar d 67 [.ref 117, .int (nI st), .int (nI mo), .int (-1), u4] [] h (fun r h2 => r = some (.int (nI x)) ∧ Ex [117, 122, 123, 125, 126, 127, 128] h0 h2 ∧ ∃ Q g fx, LST h2 a v Q g ∧ h2.1 127 = some (aI 40960 (nA fx)) ∧ ∀ s ∈ Q, FD a st s (fx s))
          rcases (show mo = 0 ∨ mo = 1 by omega) with rfl | rfl
          · have hFD := hI.1.fix hcl (fun s hs c hc => by
              obtain ⟨i, hi, rfl⟩ := mem_getD hs
              exact (hI.2.2 rfl).2 i (Nat.zero_le _) hi c hc)
            refine r_iload_n (pc2 := 68) 3 dX10_laysFar_67 rfl rfl rfl ?_
            refine r_if_lt (tgt := 161) (pc2 := 71) dX10_laysFar_68 (by decide) rfl (fun b68 => ?_) (fun b68 => ?_)
            · skip
              refine r_goto (pc2 := 54) dX10_laysFar_161 (by decide) ?_
              refine r_iload_n (pc2 := 55) 2 dX10_laysFar_54 rfl rfl rfl ?_
              refine r_if_eq (tgt := 164) (pc2 := 58) dX10_laysFar_55 (by decide) rfl (fun b55 => ?_) (fun b55 => ?_)
              · skip
                refine r_aload_n (pc2 := 165) 0 dX10_laysFar_164 rfl rfl rfl rfl ?_
                refine r_getf (pc2 := 168) (v := .ref 127) fX10_47 dX10_laysFar_165 c117 (by decide) rfl rfl ?_
                refine r_aload_n (pc2 := 169) 0 dX10_laysFar_168 rfl rfl rfl rfl ?_
                refine r_callV1 (pc2 := 172) (As := []) (st := [.ref 127]) kX10_266 rfl rfl dX10_laysFar_169 c117 (by decide) rfl rfl (Nat.le_of_ble_eq_true rfl) (by omega) (c_standNow c117 c118 hA.G hA.c7 hA.dp) rfl (fun h2 hq169 => ?_)
                subst hq169
                refine r_ialdA (pc2 := 173) (packS a) dX10_laysFar_172 c127 (by decide) rfl (by have := hA.plt; omega) (by decide) rfl ?_
                exact r_iret rfl dX10_laysFar_173 ⟨by rw [(hFD _ ((hmem _).mpr Rch.now)).un hX], hx, Q, g, fx, ⟨c117, ⟨_, c125, hfQ⟩, c126, ⟨_, c128⟩, ⟨_, c122⟩, ⟨_, c123⟩, hnd, hmem, hgc, hq0⟩, c127, hFD⟩
              · exact absurd rfl b55
            · exact absurd (by decide) b68
          · skip
            refine r_iload_n (pc2 := 68) 3 dX10_laysFar_67 rfl rfl rfl ?_
            refine r_if_lt (tgt := 161) (pc2 := 71) dX10_laysFar_68 (by decide) rfl (fun b68 => ?_) (fun b68 => ?_)
            · skip
              refine r_goto (pc2 := 54) dX10_laysFar_161 (by decide) ?_
              exact ihN fx _ _ _ (by have := hI.2.1 rfl; omega) hI.1 hx c117 c118 c122 c123 c125 c126 c127 c128
            · exact absurd (by decide) b68
        | succ j ihj =>
          intro mo fx u4 h hj hmo hI hx c117 c118 c122 c123 c125 c126 c127 c128
          rw [nI_pred]
          have hj : j < Q.length := by omega
          have hsm := getD_mem hj
          have hs4 := hQ4 _ hsm
          have inner : ∀ (i c mo : Nat) (fx : Nat → Nat) (h1 : Hp), c + i = 16 → mo ≤ 1 → PKI a st Q fx N mo (j + 1) → (mo = 0 → ∀ c2, c2 < c → fx (Q.getD j 0) = 0 ∨ fx (Q.getD j 0) ≤ fbN a fx (Q.getD j 0) c2) → Ex [117, 122, 123, 125, 126, 127, 128] h0 h1 → h1.1 117 = some (mO (upd v 25 (nI Q.length))) → h1.1 118 = some (aI 3531 (nA a)) → h1.1 122 = some (aI 900 f2) → h1.1 123 = some (aI 9 w2) → h1.1 125 = some (aI 40960 f) → h1.1 126 = some (aI 655360 g) → h1.1 127 = some (aI 40960 (nA fx)) → h1.1 128 = some (aZ 40960 kn) → Fr E mX10_laysFar d 74 [.ref 117, .int (nI st), .int (nI mo), .int (nI j), .int (nI c)] [] h1 (fun r h2 => r = some (.int (nI x)) ∧ Ex [117, 122, 123, 125, 126, 127, 128] h0 h2 ∧ ∃ Q g fx, LST h2 a v Q g ∧ h2.1 127 = some (aI 40960 (nA fx)) ∧ ∀ s ∈ Q, FD a st s (fx s)) := by
            intro i
            induction i with
            | zero =>
              intro c mo fx h hci hmo hI hch hx c117 c118 c122 c123 c125 c126 c127 c128
              obtain rfl : c = 16 := by omega
              refine r_iload (pc2 := 76) 4 dX10_laysFar_74 rfl rfl ?_
              refine r_bipush (pc2 := 78) (v := 16) dX10_laysFar_76 (by decide) rfl ?_
              refine r_icmp_ge (tgt := 155) (pc2 := 81) dX10_laysFar_78 (by decide) rfl (fun b78 => ?_) (fun b78 => ?_)
              · skip
                obtain ⟨x155, e155⟩ : ∃ z : Int32, z = (nI j) + (-1) := ⟨_, rfl⟩
                refine r_iinc (pc2 := 158) (ls2 := [.ref 117, .int (nI st), .int (nI mo), .int x155, .int (nI 16)]) (v := x155) 3 dX10_laysFar_155 rfl (by rw [e155]; rfl) rfl rfl rfl ?_
                refine r_goto (pc2 := 67) dX10_laysFar_158 (by decide) ?_
                rw [e155, addm1]
                exact ihj mo fx _ _ (by omega) hmo (PKI_j hI hch) hx c117 c118 c122 c123 c125 c126 c127 c128
              · exact absurd (show nI 16 ≤ nI 16 from nI_le (Nat.le_refl _) (by decide)) b78
            | succ i ih =>
              intro c mo fx h hci hmo hI hch hx c117 c118 c122 c123 c125 c126 c127 c128
              have hc : c < 16 := by omega
              have hfj := hI.1 _ hsm
              have hnb : okS a (Q.getD j 0) c → nxS a (Q.getD j 0) c < 40960 ∧ fx (nxS a (Q.getD j 0) c) ≤ 268435456 := fun ho => ⟨hQ4 _ (hcl _ hsm c hc ho), (hI.1 _ (hcl _ hsm c hc ho)).1⟩
              have hfbl : fbN a fx (Q.getD j 0) c ≤ 268435456 := by
                unfold fbN
                split
                · rename_i ho; have := (hnb ho).2; split <;> omega
                · omega
              by_cases h0x : fx (Q.getD j 0) = 0
              · skip
                refine r_iload (pc2 := 76) 4 dX10_laysFar_74 rfl rfl ?_
                refine r_bipush (pc2 := 78) (v := 16) dX10_laysFar_76 (by decide) rfl ?_
                refine r_icmp_ge (tgt := 155) (pc2 := 81) dX10_laysFar_78 (by decide) rfl (fun b78 => ?_) (fun b78 => ?_)
                · exact absurd b78 (nI_ge (b := 16) hc (by decide))
                · skip
                  refine r_aload_n (pc2 := 82) 0 dX10_laysFar_81 rfl rfl rfl rfl ?_
                  refine r_getf (pc2 := 85) (v := .ref 127) fX10_47 dX10_laysFar_82 c117 (by decide) rfl rfl ?_
                  refine r_aload_n (pc2 := 86) 0 dX10_laysFar_85 rfl rfl rfl rfl ?_
                  refine r_getf (pc2 := 89) (v := .ref 125) fX10_40 dX10_laysFar_86 c117 (by decide) rfl rfl ?_
                  refine r_iload_n (pc2 := 90) 3 dX10_laysFar_89 rfl rfl rfl ?_
                  refine r_ialdN (pc2 := 91) j dX10_laysFar_90 c125 (by decide) rfl (by omega) (by decide) rfl ?_
                  refine r_cast (nI (Q.getD j 0)) (hfQ j hj) ?_
                  refine r_ialdA (pc2 := 92) (Q.getD j 0) dX10_laysFar_91 c127 (by decide) rfl (by omega) (by decide) rfl ?_
                  refine r_if_le (tgt := 155) (pc2 := 95) dX10_laysFar_92 (by decide) rfl (fun b92 => ?_) (fun b92 => ?_)
                  · skip
                    obtain ⟨x155, e155⟩ : ∃ z : Int32, z = (nI j) + (-1) := ⟨_, rfl⟩
                    refine r_iinc (pc2 := 158) (ls2 := [.ref 117, .int (nI st), .int (nI mo), .int x155, .int (nI c)]) (v := x155) 3 dX10_laysFar_155 rfl (by rw [e155]; rfl) rfl rfl rfl ?_
                    refine r_goto (pc2 := 67) dX10_laysFar_158 (by decide) ?_
                    rw [e155, addm1]
                    exact ihj mo fx _ _ (by omega) hmo (PKI_j hI (fun _ c hc => Or.inl h0x)) hx c117 c118 c122 c123 c125 c126 c127 c128
                  · exact absurd (by rw [h0x]; decide) b92
              · have hpos : 0 < fx (Q.getD j 0) := Nat.pos_of_ne_zero h0x
                by_cases hlt : fbN a fx (Q.getD j 0) c < fx (Q.getD j 0)
                · skip
                  refine r_iload (pc2 := 76) 4 dX10_laysFar_74 rfl rfl ?_
                  refine r_bipush (pc2 := 78) (v := 16) dX10_laysFar_76 (by decide) rfl ?_
                  refine r_icmp_ge (tgt := 155) (pc2 := 81) dX10_laysFar_78 (by decide) rfl (fun b78 => ?_) (fun b78 => ?_)
                  · exact absurd b78 (nI_ge (b := 16) hc (by decide))
                  · skip
                    refine r_aload_n (pc2 := 82) 0 dX10_laysFar_81 rfl rfl rfl rfl ?_
                    refine r_getf (pc2 := 85) (v := .ref 127) fX10_47 dX10_laysFar_82 c117 (by decide) rfl rfl ?_
                    refine r_aload_n (pc2 := 86) 0 dX10_laysFar_85 rfl rfl rfl rfl ?_
                    refine r_getf (pc2 := 89) (v := .ref 125) fX10_40 dX10_laysFar_86 c117 (by decide) rfl rfl ?_
                    refine r_iload_n (pc2 := 90) 3 dX10_laysFar_89 rfl rfl rfl ?_
                    refine r_ialdN (pc2 := 91) j dX10_laysFar_90 c125 (by decide) rfl (by omega) (by decide) rfl ?_
                    refine r_cast (nI (Q.getD j 0)) (hfQ j hj) ?_
                    refine r_ialdA (pc2 := 92) (Q.getD j 0) dX10_laysFar_91 c127 (by decide) rfl (by omega) (by decide) rfl ?_
                    refine r_if_le (tgt := 155) (pc2 := 95) dX10_laysFar_92 (by decide) rfl (fun b92 => ?_) (fun b92 => ?_)
                    · exact absurd b92 (nI_nle (by omega) (by omega))
                    · skip
                      refine r_aload_n (pc2 := 96) 0 dX10_laysFar_95 rfl rfl rfl rfl ?_
                      refine r_aload_n (pc2 := 97) 0 dX10_laysFar_96 rfl rfl rfl rfl ?_
                      refine r_getf (pc2 := 100) (v := .ref 125) fX10_40 dX10_laysFar_97 c117 (by decide) rfl rfl ?_
                      refine r_iload_n (pc2 := 101) 3 dX10_laysFar_100 rfl rfl rfl ?_
                      refine r_ialdN (pc2 := 102) j dX10_laysFar_101 c125 (by decide) rfl (by omega) (by decide) rfl ?_
                      refine r_cast (nI (Q.getD j 0)) (hfQ j hj) ?_
                      refine r_iload (pc2 := 104) 4 dX10_laysFar_102 rfl rfl ?_
                      refine r_callV1 (pc2 := 107) (As := [.int (nI (Q.getD j 0)), .int (nI c)]) (st := []) kX10_358 rfl rfl dX10_laysFar_104 c117 (by decide) rfl rfl (Nat.le_of_ble_eq_true rfl) (by omega) (c_farBy (s := Q.getD j 0) (c := c) c117 c126 c127 (hgc _ hsm c hc) hs4 hc hnb) rfl (fun h2 hq104 => ?_)
                      subst hq104
                      refine r_aload_n (pc2 := 108) 0 dX10_laysFar_107 rfl rfl rfl rfl ?_
                      refine r_getf (pc2 := 111) (v := .ref 127) fX10_47 dX10_laysFar_108 c117 (by decide) rfl rfl ?_
                      refine r_aload_n (pc2 := 112) 0 dX10_laysFar_111 rfl rfl rfl rfl ?_
                      refine r_getf (pc2 := 115) (v := .ref 125) fX10_40 dX10_laysFar_112 c117 (by decide) rfl rfl ?_
                      refine r_iload_n (pc2 := 116) 3 dX10_laysFar_115 rfl rfl rfl ?_
                      refine r_ialdN (pc2 := 117) j dX10_laysFar_116 c125 (by decide) rfl (by omega) (by decide) rfl ?_
                      refine r_cast (nI (Q.getD j 0)) (hfQ j hj) ?_
                      refine r_ialdA (pc2 := 118) (Q.getD j 0) dX10_laysFar_117 c127 (by decide) rfl (by omega) (by decide) rfl ?_
                      refine r_icmp_lt (tgt := 124) (pc2 := 121) dX10_laysFar_118 (by decide) rfl (fun b118 => ?_) (fun b118 => ?_)
                      · skip
                        refine r_aload_n (pc2 := 125) 0 dX10_laysFar_124 rfl rfl rfl rfl ?_
                        refine r_getf (pc2 := 128) (v := .ref 127) fX10_47 dX10_laysFar_125 c117 (by decide) rfl rfl ?_
                        refine r_aload_n (pc2 := 129) 0 dX10_laysFar_128 rfl rfl rfl rfl ?_
                        refine r_getf (pc2 := 132) (v := .ref 125) fX10_40 dX10_laysFar_129 c117 (by decide) rfl rfl ?_
                        refine r_iload_n (pc2 := 133) 3 dX10_laysFar_132 rfl rfl rfl ?_
                        refine r_ialdN (pc2 := 134) j dX10_laysFar_133 c125 (by decide) rfl (by omega) (by decide) rfl ?_
                        refine r_cast (nI (Q.getD j 0)) (hfQ j hj) ?_
                        refine r_aload_n (pc2 := 135) 0 dX10_laysFar_134 rfl rfl rfl rfl ?_
                        refine r_aload_n (pc2 := 136) 0 dX10_laysFar_135 rfl rfl rfl rfl ?_
                        refine r_getf (pc2 := 139) (v := .ref 125) fX10_40 dX10_laysFar_136 c117 (by decide) rfl rfl ?_
                        refine r_iload_n (pc2 := 140) 3 dX10_laysFar_139 rfl rfl rfl ?_
                        refine r_ialdN (pc2 := 141) j dX10_laysFar_140 c125 (by decide) rfl (by omega) (by decide) rfl ?_
                        refine r_cast (nI (Q.getD j 0)) (hfQ j hj) ?_
                        refine r_iload (pc2 := 143) 4 dX10_laysFar_141 rfl rfl ?_
                        refine r_callV1 (pc2 := 146) (As := [.int (nI (Q.getD j 0)), .int (nI c)]) (st := [.int (nI (Q.getD j 0)), .ref 127]) kX10_358 rfl rfl dX10_laysFar_143 c117 (by decide) rfl rfl (Nat.le_of_ble_eq_true rfl) (by omega) (c_farBy (s := Q.getD j 0) (c := c) c117 c126 c127 (hgc _ hsm c hc) hs4 hc hnb) rfl (fun h2 hq143 => ?_)
                        subst hq143
                        refine r_iastN (pc2 := 147) (Q.getD j 0) dX10_laysFar_146 c127 (by decide) rfl (by omega) (by decide) rfl (fun h z146 o146 c127 => ?_)
                        rw [upd_nA] at c127
                        have c117 := (o146 117 (by decide)).trans c117
                        have c118 := (o146 118 (by decide)).trans c118
                        have c122 := (o146 122 (by decide)).trans c122
                        have c123 := (o146 123 (by decide)).trans c123
                        have c125 := (o146 125 (by decide)).trans c125
                        have c126 := (o146 126 (by decide)).trans c126
                        have c128 := (o146 128 (by decide)).trans c128
                        have hx := hx.step (a := 127) (by decide) z146 o146
                        refine r_iconst (pc2 := 148) (v := 1) dX10_laysFar_147 (by decide) rfl ?_
                        refine r_istore_n (pc2 := 149) (ls2 := [.ref 117, .int (nI st), .int 1, .int (nI j), .int (nI c)]) 2 dX10_laysFar_148 rfl (by decide) rfl rfl rfl ?_
                        obtain ⟨x149, e149⟩ : ∃ z : Int32, z = (nI c) + (1) := ⟨_, rfl⟩
                        refine r_iinc (pc2 := 152) (ls2 := [.ref 117, .int (nI st), .int 1, .int (nI j), .int x149]) (v := x149) 4 dX10_laysFar_149 rfl (by rw [e149]; rfl) rfl rfl rfl ?_
                        refine r_goto (pc2 := 74) dX10_laysFar_152 (by decide) ?_
                        rw [e149, nI_1]
                        exact ih (c + 1) 1 (va_up fx (Q.getD j 0) (fbN a fx (Q.getD j 0) c)) _ (by omega) (Nat.le_refl _) (PKI_s hI hnd (fun z => hcl _ hsm c hc z) hc hpos hsm hlt hmo) (fun z => by cases z) hx c117 c118 c122 c123 c125 c126 c127 c128
                      · exact absurd (nI_lt hlt (by omega)) b118
                · skip
                  refine r_iload (pc2 := 76) 4 dX10_laysFar_74 rfl rfl ?_
                  refine r_bipush (pc2 := 78) (v := 16) dX10_laysFar_76 (by decide) rfl ?_
                  refine r_icmp_ge (tgt := 155) (pc2 := 81) dX10_laysFar_78 (by decide) rfl (fun b78 => ?_) (fun b78 => ?_)
                  · exact absurd b78 (nI_ge (b := 16) hc (by decide))
                  · skip
                    refine r_aload_n (pc2 := 82) 0 dX10_laysFar_81 rfl rfl rfl rfl ?_
                    refine r_getf (pc2 := 85) (v := .ref 127) fX10_47 dX10_laysFar_82 c117 (by decide) rfl rfl ?_
                    refine r_aload_n (pc2 := 86) 0 dX10_laysFar_85 rfl rfl rfl rfl ?_
                    refine r_getf (pc2 := 89) (v := .ref 125) fX10_40 dX10_laysFar_86 c117 (by decide) rfl rfl ?_
                    refine r_iload_n (pc2 := 90) 3 dX10_laysFar_89 rfl rfl rfl ?_
                    refine r_ialdN (pc2 := 91) j dX10_laysFar_90 c125 (by decide) rfl (by omega) (by decide) rfl ?_
                    refine r_cast (nI (Q.getD j 0)) (hfQ j hj) ?_
                    refine r_ialdA (pc2 := 92) (Q.getD j 0) dX10_laysFar_91 c127 (by decide) rfl (by omega) (by decide) rfl ?_
                    refine r_if_le (tgt := 155) (pc2 := 95) dX10_laysFar_92 (by decide) rfl (fun b92 => ?_) (fun b92 => ?_)
                    · exact absurd b92 (nI_nle (by omega) (by omega))
                    · skip
                      refine r_aload_n (pc2 := 96) 0 dX10_laysFar_95 rfl rfl rfl rfl ?_
                      refine r_aload_n (pc2 := 97) 0 dX10_laysFar_96 rfl rfl rfl rfl ?_
                      refine r_getf (pc2 := 100) (v := .ref 125) fX10_40 dX10_laysFar_97 c117 (by decide) rfl rfl ?_
                      refine r_iload_n (pc2 := 101) 3 dX10_laysFar_100 rfl rfl rfl ?_
                      refine r_ialdN (pc2 := 102) j dX10_laysFar_101 c125 (by decide) rfl (by omega) (by decide) rfl ?_
                      refine r_cast (nI (Q.getD j 0)) (hfQ j hj) ?_
                      refine r_iload (pc2 := 104) 4 dX10_laysFar_102 rfl rfl ?_
                      refine r_callV1 (pc2 := 107) (As := [.int (nI (Q.getD j 0)), .int (nI c)]) (st := []) kX10_358 rfl rfl dX10_laysFar_104 c117 (by decide) rfl rfl (Nat.le_of_ble_eq_true rfl) (by omega) (c_farBy (s := Q.getD j 0) (c := c) c117 c126 c127 (hgc _ hsm c hc) hs4 hc hnb) rfl (fun h2 hq104 => ?_)
                      subst hq104
                      refine r_aload_n (pc2 := 108) 0 dX10_laysFar_107 rfl rfl rfl rfl ?_
                      refine r_getf (pc2 := 111) (v := .ref 127) fX10_47 dX10_laysFar_108 c117 (by decide) rfl rfl ?_
                      refine r_aload_n (pc2 := 112) 0 dX10_laysFar_111 rfl rfl rfl rfl ?_
                      refine r_getf (pc2 := 115) (v := .ref 125) fX10_40 dX10_laysFar_112 c117 (by decide) rfl rfl ?_
                      refine r_iload_n (pc2 := 116) 3 dX10_laysFar_115 rfl rfl rfl ?_
                      refine r_ialdN (pc2 := 117) j dX10_laysFar_116 c125 (by decide) rfl (by omega) (by decide) rfl ?_
                      refine r_cast (nI (Q.getD j 0)) (hfQ j hj) ?_
                      refine r_ialdA (pc2 := 118) (Q.getD j 0) dX10_laysFar_117 c127 (by decide) rfl (by omega) (by decide) rfl ?_
                      refine r_icmp_lt (tgt := 124) (pc2 := 121) dX10_laysFar_118 (by decide) rfl (fun b118 => ?_) (fun b118 => ?_)
                      · exact absurd ((nI_ltI (by omega) (by omega)).mp b118) hlt
                      · skip
                        refine r_goto (pc2 := 149) dX10_laysFar_121 (by decide) ?_
                        obtain ⟨x149, e149⟩ : ∃ z : Int32, z = (nI c) + (1) := ⟨_, rfl⟩
                        refine r_iinc (pc2 := 152) (ls2 := [.ref 117, .int (nI st), .int (nI mo), .int (nI j), .int x149]) (v := x149) 4 dX10_laysFar_149 rfl (by rw [e149]; rfl) rfl rfl rfl ?_
                        refine r_goto (pc2 := 74) dX10_laysFar_152 (by decide) ?_
                        rw [e149, nI_1]
                        exact ih (c + 1) mo fx _ (by omega) hmo hI (fun z c2 hc2 => (Nat.lt_succ_iff_lt_or_eq.mp hc2).elim (hch z c2) (fun e => Or.inr (by rw [e]; omega))) hx c117 c118 c122 c123 c125 c126 c127 c128
          refine r_iload_n (pc2 := 68) 3 dX10_laysFar_67 rfl rfl rfl ?_
          refine r_if_lt (tgt := 161) (pc2 := 71) dX10_laysFar_68 (by decide) rfl (fun b68 => ?_) (fun b68 => ?_)
          · exact absurd b68 (nI_pos (by omega))
          · skip
            refine r_iconst (pc2 := 72) (v := 0) dX10_laysFar_71 (by decide) rfl ?_
            refine r_istore (pc2 := 74) (ls2 := [.ref 117, .int (nI st), .int (nI mo), .int (nI j), .int 0]) 4 dX10_laysFar_72 (by decide) rfl rfl rfl ?_
            exact inner 16 0 mo fx _ (by omega) hmo hI (fun _ c hc => by omega) hx c117 c118 c122 c123 c125 c126 c127 c128
      refine r_iload_n (pc2 := 55) 2 dX10_laysFar_54 rfl rfl rfl ?_
      refine r_if_eq (tgt := 164) (pc2 := 58) dX10_laysFar_55 (by decide) rfl (fun b55 => ?_) (fun b55 => ?_)
      · exact absurd b55 (by decide)
      · skip
        refine r_iconst (pc2 := 59) (v := 0) dX10_laysFar_58 (by decide) rfl ?_
        refine r_istore_n (pc2 := 60) (ls2 := [.ref 117, .int (nI st), .int 0, u3, u4]) 2 dX10_laysFar_59 rfl (by decide) rfl rfl rfl ?_
        refine r_aload_n (pc2 := 61) 0 dX10_laysFar_60 rfl rfl rfl rfl ?_
        refine r_getf (pc2 := 64) (v := .int (nI Q.length)) fX10_344 dX10_laysFar_61 c117 (by decide) rfl rfl ?_
        refine r_iconst (pc2 := 65) (v := 1) dX10_laysFar_64 (by decide) rfl ?_
        refine r_isub (pc2 := 66) dX10_laysFar_65 rfl ?_
        refine r_cast (nI Q.length - 1) (rfl) ?_
        refine r_topi (fun x66 e66 => ?_)
        refine r_istore_n (pc2 := 67) (ls2 := [.ref 117, .int (nI st), .int 0, .int x66, u4]) 3 dX10_laysFar_66 rfl (by decide) rfl rfl rfl ?_
        rw [e66]
        exact pass Q.length 0 fx _ _ (Nat.le_refl _) (by omega) ⟨hF, fun z => (by cases z), fun _ => ⟨by omega, fun i h1 h2 => by omega⟩⟩ hx c117 c118 c122 c123 c125 c126 c127 c128
  have init : ∀ (m k : Nat) (fx : Nat → Nat) (h1 : Hp), k + m = Q.length → (∀ i, i < k → fx (Q.getD i 0) = if byB a st (Q.getD i 0) then 0 else 268435456) → Ex [117, 122, 123, 125, 126, 127, 128] h0 h1 → h1.1 117 = some (mO (upd v 25 (nI Q.length))) → h1.1 118 = some (aI 3531 (nA a)) → h1.1 122 = some (aI 900 f2) → h1.1 123 = some (aI 9 w2) → h1.1 125 = some (aI 40960 f) → h1.1 126 = some (aI 655360 g) → h1.1 127 = some (aI 40960 (nA fx)) → h1.1 128 = some (aZ 40960 kn) → Fr E mX10_laysFar d 6 [.ref 117, .int (nI st), .int (nI k), .float 0, .float 0] [] h1 (fun r h2 => r = some (.int (nI x)) ∧ Ex [117, 122, 123, 125, 126, 127, 128] h0 h2 ∧ ∃ Q g fx, LST h2 a v Q g ∧ h2.1 127 = some (aI 40960 (nA fx)) ∧ ∀ s ∈ Q, FD a st s (fx s)) := by
    intro m
    induction m with
    | zero =>
      intro k fx h hk hi hx c117 c118 c122 c123 c125 c126 c127 c128
      obtain rfl : k = Q.length := by omega
      refine r_iload_n (pc2 := 7) 2 dX10_laysFar_6 rfl rfl rfl ?_
      refine r_aload_n (pc2 := 8) 0 dX10_laysFar_7 rfl rfl rfl rfl ?_
      refine r_getf (pc2 := 11) (v := .int (nI Q.length)) fX10_344 dX10_laysFar_8 c117 (by decide) rfl rfl ?_
      refine r_icmp_ge (tgt := 52) (pc2 := 14) dX10_laysFar_11 (by decide) rfl (fun b11 => ?_) (fun b11 => ?_)
      · skip
        refine r_iconst (pc2 := 53) (v := 1) dX10_laysFar_52 (by decide) rfl ?_
        refine r_istore_n (pc2 := 54) (ls2 := [.ref 117, .int (nI st), .int 1, .float 0, .float 0]) 2 dX10_laysFar_53 rfl (by decide) rfl rfl rfl ?_
        exact loop (sumQ fx Q + 1) fx _ _ _ (Nat.lt_succ_self _) (ini_f hi) hx c117 c118 c122 c123 c125 c126 c127 c128
      · exact absurd (nI_le (Nat.le_refl _) (by omega)) b11
    | succ m ih =>
      intro k fx h hk hi hx c117 c118 c122 c123 c125 c126 c127 c128
      have hlt : k < Q.length := by omega
      have hs4 := hQ4 _ (getD_mem hlt)
      by_cases hby : byB a st (Q.getD k 0)
      · skip
        refine r_iload_n (pc2 := 7) 2 dX10_laysFar_6 rfl rfl rfl ?_
        refine r_aload_n (pc2 := 8) 0 dX10_laysFar_7 rfl rfl rfl rfl ?_
        refine r_getf (pc2 := 11) (v := .int (nI Q.length)) fX10_344 dX10_laysFar_8 c117 (by decide) rfl rfl ?_
        refine r_icmp_ge (tgt := 52) (pc2 := 14) dX10_laysFar_11 (by decide) rfl (fun b11 => ?_) (fun b11 => ?_)
        · exact absurd b11 (nI_ge hlt (by omega))
        · skip
          refine r_aload_n (pc2 := 15) 0 dX10_laysFar_14 rfl rfl rfl rfl ?_
          refine r_getf (pc2 := 18) (v := .ref 127) fX10_47 dX10_laysFar_15 c117 (by decide) rfl rfl ?_
          refine r_aload_n (pc2 := 19) 0 dX10_laysFar_18 rfl rfl rfl rfl ?_
          refine r_getf (pc2 := 22) (v := .ref 125) fX10_40 dX10_laysFar_19 c117 (by decide) rfl rfl ?_
          refine r_iload_n (pc2 := 23) 2 dX10_laysFar_22 rfl rfl rfl ?_
          refine r_ialdN (pc2 := 24) k dX10_laysFar_23 c125 (by decide) rfl (by omega) (by decide) rfl ?_
          refine r_cast (nI (Q.getD k 0)) (hfQ k hlt) ?_
          refine r_aload_n (pc2 := 25) 0 dX10_laysFar_24 rfl rfl rfl rfl ?_
          refine r_aload_n (pc2 := 26) 0 dX10_laysFar_25 rfl rfl rfl rfl ?_
          refine r_getf (pc2 := 29) (v := .ref 125) fX10_40 dX10_laysFar_26 c117 (by decide) rfl rfl ?_
          refine r_iload_n (pc2 := 30) 2 dX10_laysFar_29 rfl rfl rfl ?_
          refine r_ialdN (pc2 := 31) k dX10_laysFar_30 c125 (by decide) rfl (by omega) (by decide) rfl ?_
          refine r_cast (nI (Q.getD k 0)) (hfQ k hlt) ?_
          refine r_iload_n (pc2 := 32) 1 dX10_laysFar_31 rfl rfl rfl ?_
          refine r_callV1 (pc2 := 35) (As := [.int (nI (Q.getD k 0)), .int (nI st)]) (st := [.int (nI (Q.getD k 0)), .ref 127]) kX10_354 rfl rfl dX10_laysFar_32 c117 (by decide) rfl rfl (Nat.le_of_ble_eq_true rfl) (by omega) (c_isBy (s := (Q.getD k 0)) (st := st) c117 c118 hA.G hA.C hs4 hst (by omega)) rfl (fun h2 hq32 => ?_)
          subst hq32
          refine r_if_eq (tgt := 42) (pc2 := 38) dX10_laysFar_35 (by decide) rfl (fun b35 => ?_) (fun b35 => ?_)
          · exact absurd b35 (if1 hby)
          · skip
            refine r_iconst (pc2 := 39) (v := 0) dX10_laysFar_38 (by decide) rfl ?_
            refine r_goto (pc2 := 45) dX10_laysFar_39 (by decide) ?_
            refine r_cast (nI (if byB a st (Q.getD k 0) then 0 else 268435456)) (by rw [if_pos hby]; rfl) ?_
            refine r_iastN (pc2 := 46) (Q.getD k 0) dX10_laysFar_45 c127 (by decide) rfl (by omega) (by decide) rfl (fun h z45 o45 c127 => ?_)
            rw [upd_nA] at c127
            have c117 := (o45 117 (by decide)).trans c117
            have c118 := (o45 118 (by decide)).trans c118
            have c122 := (o45 122 (by decide)).trans c122
            have c123 := (o45 123 (by decide)).trans c123
            have c125 := (o45 125 (by decide)).trans c125
            have c126 := (o45 126 (by decide)).trans c126
            have c128 := (o45 128 (by decide)).trans c128
            have hx := hx.step (a := 127) (by decide) z45 o45
            obtain ⟨x46, e46⟩ : ∃ z : Int32, z = (nI k) + (1) := ⟨_, rfl⟩
            refine r_iinc (pc2 := 49) (ls2 := [.ref 117, .int (nI st), .int x46, .float 0, .float 0]) (v := x46) 2 dX10_laysFar_46 rfl (by rw [e46]; rfl) rfl rfl rfl ?_
            refine r_goto (pc2 := 6) dX10_laysFar_49 (by decide) ?_
            rw [e46, nI_1]
            exact ih (k + 1) _ _ (by omega) (ini_s hnd hlt hi) hx c117 c118 c122 c123 c125 c126 c127 c128
      · skip
        refine r_iload_n (pc2 := 7) 2 dX10_laysFar_6 rfl rfl rfl ?_
        refine r_aload_n (pc2 := 8) 0 dX10_laysFar_7 rfl rfl rfl rfl ?_
        refine r_getf (pc2 := 11) (v := .int (nI Q.length)) fX10_344 dX10_laysFar_8 c117 (by decide) rfl rfl ?_
        refine r_icmp_ge (tgt := 52) (pc2 := 14) dX10_laysFar_11 (by decide) rfl (fun b11 => ?_) (fun b11 => ?_)
        · exact absurd b11 (nI_ge hlt (by omega))
        · skip
          refine r_aload_n (pc2 := 15) 0 dX10_laysFar_14 rfl rfl rfl rfl ?_
          refine r_getf (pc2 := 18) (v := .ref 127) fX10_47 dX10_laysFar_15 c117 (by decide) rfl rfl ?_
          refine r_aload_n (pc2 := 19) 0 dX10_laysFar_18 rfl rfl rfl rfl ?_
          refine r_getf (pc2 := 22) (v := .ref 125) fX10_40 dX10_laysFar_19 c117 (by decide) rfl rfl ?_
          refine r_iload_n (pc2 := 23) 2 dX10_laysFar_22 rfl rfl rfl ?_
          refine r_ialdN (pc2 := 24) k dX10_laysFar_23 c125 (by decide) rfl (by omega) (by decide) rfl ?_
          refine r_cast (nI (Q.getD k 0)) (hfQ k hlt) ?_
          refine r_aload_n (pc2 := 25) 0 dX10_laysFar_24 rfl rfl rfl rfl ?_
          refine r_aload_n (pc2 := 26) 0 dX10_laysFar_25 rfl rfl rfl rfl ?_
          refine r_getf (pc2 := 29) (v := .ref 125) fX10_40 dX10_laysFar_26 c117 (by decide) rfl rfl ?_
          refine r_iload_n (pc2 := 30) 2 dX10_laysFar_29 rfl rfl rfl ?_
          refine r_ialdN (pc2 := 31) k dX10_laysFar_30 c125 (by decide) rfl (by omega) (by decide) rfl ?_
          refine r_cast (nI (Q.getD k 0)) (hfQ k hlt) ?_
          refine r_iload_n (pc2 := 32) 1 dX10_laysFar_31 rfl rfl rfl ?_
          refine r_callV1 (pc2 := 35) (As := [.int (nI (Q.getD k 0)), .int (nI st)]) (st := [.int (nI (Q.getD k 0)), .ref 127]) kX10_354 rfl rfl dX10_laysFar_32 c117 (by decide) rfl rfl (Nat.le_of_ble_eq_true rfl) (by omega) (c_isBy (s := (Q.getD k 0)) (st := st) c117 c118 hA.G hA.C hs4 hst (by omega)) rfl (fun h2 hq32 => ?_)
          subst hq32
          refine r_if_eq (tgt := 42) (pc2 := 38) dX10_laysFar_35 (by decide) rfl (fun b35 => ?_) (fun b35 => ?_)
          · skip
            refine r_ldcw (pc2 := 45) (v := 268435456) qX10_350 dX10_laysFar_42 rfl ?_
            refine r_cast (nI (if byB a st (Q.getD k 0) then 0 else 268435456)) (by rw [if_neg hby]; rfl) ?_
            refine r_iastN (pc2 := 46) (Q.getD k 0) dX10_laysFar_45 c127 (by decide) rfl (by omega) (by decide) rfl (fun h z45 o45 c127 => ?_)
            rw [upd_nA] at c127
            have c117 := (o45 117 (by decide)).trans c117
            have c118 := (o45 118 (by decide)).trans c118
            have c122 := (o45 122 (by decide)).trans c122
            have c123 := (o45 123 (by decide)).trans c123
            have c125 := (o45 125 (by decide)).trans c125
            have c126 := (o45 126 (by decide)).trans c126
            have c128 := (o45 128 (by decide)).trans c128
            have hx := hx.step (a := 127) (by decide) z45 o45
            obtain ⟨x46, e46⟩ : ∃ z : Int32, z = (nI k) + (1) := ⟨_, rfl⟩
            refine r_iinc (pc2 := 49) (ls2 := [.ref 117, .int (nI st), .int x46, .float 0, .float 0]) (v := x46) 2 dX10_laysFar_46 rfl (by rw [e46]; rfl) rfl rfl rfl ?_
            refine r_goto (pc2 := 6) dX10_laysFar_49 (by decide) ?_
            rw [e46, nI_1]
            exact ih (k + 1) _ _ (by omega) (ini_s hnd hlt hi) hx c117 c118 c122 c123 c125 c126 c127 c128
          · exact absurd (if0 hby) b35
  exact init Q.length 0 fx _ (by omega) (fun i hi => by omega) hx c117 c118 c122 c123 c125 c126 c127 c128
