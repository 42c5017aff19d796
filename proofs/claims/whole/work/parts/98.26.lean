/-! the class: countRows, rows -/
theorem cB_z {a : FR} {t n s : Nat} (h : s / 4096 = 0) : cB a t n s = 0 := by
  cases n with
  | zero => show (if byB a t s then 1 else 0) = 0; rw [if_neg (fun z => z.1 h)]
  | succ n => exact sC_le0 16 (fun c _ => by rw [if_neg (fun o => okS_d o h)])
theorem sC_zero {f : Nat → Nat} {m : Nat} : ∀ n, (∀ e, m ≤ e → e < m + n → f e = 0) → sC f (m + n) = sC f m
  | 0, _ => rfl
  | n + 1, h => by
    show sC f (m + n) + f (m + n) = _
    rw [sC_zero n (fun e h1 h2 => h e h1 (by omega)), h (m + n) (by omega) (by omega)]
    rfl
theorem WKR.fin2 {T S : List Nat} {Z : Nat → Prop} {reg : Nat → FR} {s ns sg w1 w2 : Nat} {wk dt : Value} {h0 h1 h2 : Hp} {kd : Nat} {a b : FR} {r0 : Value} {q kd2 : Nat} {go gh : Int32} {Q : List Nat} {Kf : Nat → Nat} {fb : Nat → Int32} {k : Nat} {rt rh : Nat → Int64} (hR : WKR T Z s ns w1 w2 wk dt h0 kd a q kd2 h1) (hL1 : LQ Z h1 reg ns s sg (a 27) kd2 b) (hQ : GQ S kd2 h1 h2 kd2) (hS9 : ∀ y ∈ S, q ≤ y ∧ y ≤ q + 7) (hK : WKB a s q (nI (tws (packS a))) (nI (a 26)) go gh Q Kf fb k h2) (crt : h2.1 (q + 3) = some (aL 24010 rt)) (crh : h2.1 (q + 4) = some (aL 10 rh)) (hrt : ∀ x, x < 24010 → rt x = 0) (hL2 : LQ Z h2 reg ns s sg (a 27) kd2 b) (hA : AIN a) (hst : Stat a b) (hN : NW h0 s ns w1 w2 wk dt a) (hT : ∀ y ∈ T, 109 ≤ y ∧ y ≤ 116) (hn0 : 139 ≤ h0.2.1) (hk0 : kd = 0 ∨ 139 ≤ kd) : QWk T Z reg s ns sg w1 w2 wk dt h0 kd a b r0 (some r0) h2 :=
  (hR.step hQ (fun y m => Or.inl (hS9 y m)) hL1.dv.n hL1.dv.k0).fin hL2 GQ.rf hK crt crh hrt hL2 hA hst hN hT hn0 hk0
set_option maxRecDepth 20000 in
set_option maxHeartbeats 1000000 in
theorem c_countRows {E : EnvT} {d : Nat} {h0 : Hp} {Z : Nat → Prop} {reg : Nat → FR} {ns s sg kd : Nat} {a b : FR} {q : Nat} {t n : Nat} {T N : Int32} {lk fd go gh op pa : Int32} {nz sh ps : Nat → Int32} {rt rh : Nat → Int64} (cq : h0.1 q = some (.inr (8, wkL q s (nI (a 27)) (nI (tws (packS a))) (nI (a 26)) lk fd go gh op pa))) (crt : h0.1 (q + 3) = some (aL 24010 rt)) (crh : h0.1 (q + 4) = some (aL 10 rh)) (cnz : h0.1 (q + 5) = some (aI 16 nz)) (csh : h0.1 (q + 6) = some (aI 16 sh)) (cps : h0.1 (q + 7) = some (aI 16 ps)) (hz0 : nz 0 = 0 ∧ sh 0 = 0 ∧ ps 0 = 0) (hrt : ∀ y, y < 24010 → rt y = 0) (ht : t < 16) (hn8 : n ≤ 8) (eT : T = nI t) (eN : N = nI n) (hW : WQ Z kd q) (hq7 : q + 7 < h0.2.1) (hL : LQ Z h0 reg ns s sg (a 27) kd b) (hA : AIN a) (hst : Stat a b) (hd : 6 ≤ d) : Cn E mX8_countRows d [.ref q, .int T, .int N] h0 (fun r h2 => r = some (.long (lN (cB a t n (packS a)))) ∧ ∃ (rt2 rh2 : Nat → Int64) (nz2 sh2 ps2 : Nat → Int32) (op2 pa2 : Int32), h2.1 q = some (.inr (8, wkL q s (nI (a 27)) (nI (tws (packS a))) (nI (a 26)) lk fd go gh op2 pa2)) ∧ h2.1 (q + 3) = some (aL 24010 rt2) ∧ h2.1 (q + 4) = some (aL 10 rh2) ∧ h2.1 (q + 5) = some (aI 16 nz2) ∧ h2.1 (q + 6) = some (aI 16 sh2) ∧ h2.1 (q + 7) = some (aI 16 ps2) ∧ (nz2 0 = 0 ∧ sh2 0 = 0 ∧ ps2 0 = 0) ∧ (∀ y, y < 24010 → rt2 y = 0) ∧ LQ Z h2 reg ns s sg (a 27) kd b ∧ GQ [q, q + 3, q + 4, q + 5, q + 6, q + 7] kd h0 h2 kd) := by
  subst eT eN
  have hG := hA.G
  have hn0 := hL.dv.n
  have hk0 := hL.dv.k0
  have hq139 := hW.1
  have hqk := hW.2.1
  have hs64 := hL.dv.s64
  have hzs := hL.dv.zs
  have hqs := hW.2.2 s hL.2.2.2.2.2.2.2.2.1
  have st3 : a 3 = b 3 := hst 3 (by omega)
  have hp7 := pw7 (a 3) (by omega)
  have hsg := SG.now hA
  have hcl := cst_lt hsg hA.C
  have hd26 := hA.dp
  have htl := hsg.tl hA.C
  by_cases hdz : a 26 = 0
  · skip
    refine Cn.go (ls := [.ref q, .int (nI t), .int (nI n), .float 0, .float 0, .float 0]) (by decide +kernel) rfl (Nat.le_of_ble_eq_true rfl) ?_
    refine r_aload_n (pc2 := 1) 0 dX8_countRows_0 rfl rfl rfl rfl ?_
    refine r_getf (pc2 := 4) (v := .int (nI (a 26))) fX8_53 dX8_countRows_1 cq (by omega) rfl rfl ?_
    refine r_if_ne (tgt := 9) (pc2 := 7) dX8_countRows_4 (by decide) rfl (fun b4 => ?_) (fun b4 => ?_)
    · exact absurd (congrArg nI hdz) b4
    · skip
      refine r_lconst (pc2 := 8) (v := 0) dX8_countRows_7 (by decide) rfl ?_
      exact r_lret rfl dX8_countRows_8 ⟨by rw [cB_z (by rw [hA.pdep]; exact hdz)]; rfl, rt, rh, nz, sh, ps, op, pa, cq, crt, crh, cnz, csh, cps, hz0, hrt, hL, GQ.rf⟩
  · have loop2 : ∀ (m x : Nat) (h : Hp) (rt : Nat → Int64) (A : Nat) {rh : Nat → Int64} {nz sh ps : Nat → Int32} {op pa : Int32} {R : Nat → Nat}, x + m = 10 * 7 ^ (a 3) → 10 * (tws (packS a)) ≤ x → (∀ y, y < 24010 → x ≤ y → rt y = lN (R y)) → (∀ y, y < x → rt y = 0) → A = sC (fun y => R y * KB a t 0 y) x → SP a R (tws (packS a)) → fRK R (KB a t 0) = cB a t n (packS a) → fRK R K1 < 2 ^ 62 → GQ [q, q + 3, q + 4, q + 5, q + 6, q + 7] kd h0 h kd → LQ Z h reg ns s sg (a 27) kd b → h.1 q = some (.inr (8, wkL q s (nI (a 27)) (nI (tws (packS a))) (nI (a 26)) lk fd go gh op pa)) → h.1 (q + 3) = some (aL 24010 rt) → h.1 (q + 4) = some (aL 10 rh) → h.1 (q + 5) = some (aI 16 nz) → h.1 (q + 6) = some (aI 16 sh) → h.1 (q + 7) = some (aI 16 ps) → (nz 0 = 0 ∧ sh 0 = 0 ∧ ps 0 = 0) → Fr E mX8_countRows d 55 [.ref q, .int (nI t), .int (nI n), .long (lN A), .float 0, .int (nI x)] [] h (fun r h2 => r = some (.long (lN (cB a t n (packS a)))) ∧ ∃ (rt2 rh2 : Nat → Int64) (nz2 sh2 ps2 : Nat → Int32) (op2 pa2 : Int32), h2.1 q = some (.inr (8, wkL q s (nI (a 27)) (nI (tws (packS a))) (nI (a 26)) lk fd go gh op2 pa2)) ∧ h2.1 (q + 3) = some (aL 24010 rt2) ∧ h2.1 (q + 4) = some (aL 10 rh2) ∧ h2.1 (q + 5) = some (aI 16 nz2) ∧ h2.1 (q + 6) = some (aI 16 sh2) ∧ h2.1 (q + 7) = some (aI 16 ps2) ∧ (nz2 0 = 0 ∧ sh2 0 = 0 ∧ ps2 0 = 0) ∧ (∀ y, y < 24010 → rt2 y = 0) ∧ LQ Z h2 reg ns s sg (a 27) kd b ∧ GQ [q, q + 3, q + 4, q + 5, q + 6, q + 7] kd h0 h2 kd) := by
      intro m
      induction m with
      | zero =>
        intro x h rt A rh nz sh ps op pa R hx hx0 hr hlow hA2 hSP hT hB9 hQ hL cq crt crh cnz csh cps hz0
        have hx10 : x = 10 * 7 ^ (a 3) := by omega
        have hR0 : ∀ y, x ≤ y → y < 24010 → R y = 0 := fun y h1 h2 => by
          by_cases z : R y = 0
          · exact z
          · obtain ⟨s9, a1, a2, a3, a4⟩ := hSP y h2 z
            have := cst_d a1.dep
            have := tws_G a1 hA.C hA.G
            have := a1.dep
            omega
        have hall : ∀ y, y < 24010 → rt y = 0 := fun y hy => by
          rcases Nat.lt_or_ge y x with z | z
          · exact hlow y z
          · rw [hr y hy z, hR0 y z hy]; rfl
        have hend : sC (fun y => R y * KB a t 0 y) x = fRK R (KB a t 0) := by
          unfold fRK
          rw [show 24010 = x + (24010 - x) by omega]
          exact (sC_zero (24010 - x) (fun e h1 h2 => by rw [hR0 e h1 (by omega), Nat.zero_mul])).symm
        obtain ⟨lo, so9, sa, nl, sl, cs⟩ := hL.dv.cs
        refine r_iload (pc2 := 57) 5 dX8_countRows_55 rfl rfl ?_
        refine r_sWt (pc2 := 60) (Or.inr ⟨_, qX8_84⟩) dX8_countRows_57 rfl ?_
        refine r_aload_n (pc2 := 61) 0 dX8_countRows_60 rfl rfl rfl rfl ?_
        refine r_getf (pc2 := 64) (v := .ref s) fX8_48 dX8_countRows_61 cq (by omega) rfl rfl ?_
        refine r_getf (pc2 := 67) (v := .int (nI (b 3))) fX8_72 dX8_countRows_64 cs hs64 rfl rfl ?_
        refine r_wldN (pc2 := 68) (a 3) dX8_countRows_67 (by rw [st3]) (by omega) rfl ?_
        refine r_cast (nI (7 ^ (a 3))) (xW7b (a 3) (by omega)) ?_
        refine r_bipush (pc2 := 70) (v := 10) dX8_countRows_68 (by decide) rfl ?_
        refine r_imul (pc2 := 71) dX8_countRows_70 rfl ?_
        refine r_cast (nI (10 * 7 ^ (a 3))) ((pk_mul _ 10).trans (by rw [Nat.mul_comm])) ?_
        refine r_icmp_ge (tgt := 120) (pc2 := 74) dX8_countRows_71 (by decide) rfl (fun b71 => ?_) (fun b71 => ?_)
        · skip
          refine r_lload_n (pc2 := 121) 3 dX8_countRows_120 rfl rfl rfl ?_
          exact r_lret rfl dX8_countRows_121 ⟨by rw [← hT, hA2]; exact congrArg (fun z => some (Value.long (lN z))) hend, rt, rh, nz, sh, ps, op, pa, cq, crt, crh, cnz, csh, cps, hz0, hall, hL, hQ⟩
        · exact absurd (nI_le (by omega) (by omega)) b71
      | succ m ih2 =>
        intro x h rt A rh nz sh ps op pa R hx hx0 hr hlow hA2 hSP hT hB9 hQ hL cq crt crh cnz csh cps hz0
        have hlt : x < 10 * 7 ^ (a 3) := by omega
        obtain ⟨lo, so9, sa, nl, sl, cs⟩ := hL.dv.cs
        have hRl : R x < 2 ^ 62 := Nat.lt_of_le_of_lt (hSP.le (by omega)) hB9
        by_cases hz : R x = 0
        · skip
          refine r_iload (pc2 := 57) 5 dX8_countRows_55 rfl rfl ?_
          refine r_sWt (pc2 := 60) (Or.inr ⟨_, qX8_84⟩) dX8_countRows_57 rfl ?_
          refine r_aload_n (pc2 := 61) 0 dX8_countRows_60 rfl rfl rfl rfl ?_
          refine r_getf (pc2 := 64) (v := .ref s) fX8_48 dX8_countRows_61 cq (by omega) rfl rfl ?_
          refine r_getf (pc2 := 67) (v := .int (nI (b 3))) fX8_72 dX8_countRows_64 cs hs64 rfl rfl ?_
          refine r_wldN (pc2 := 68) (a 3) dX8_countRows_67 (by rw [st3]) (by omega) rfl ?_
          refine r_cast (nI (7 ^ (a 3))) (xW7b (a 3) (by omega)) ?_
          refine r_bipush (pc2 := 70) (v := 10) dX8_countRows_68 (by decide) rfl ?_
          refine r_imul (pc2 := 71) dX8_countRows_70 rfl ?_
          refine r_cast (nI (10 * 7 ^ (a 3))) ((pk_mul _ 10).trans (by rw [Nat.mul_comm])) ?_
          refine r_icmp_ge (tgt := 120) (pc2 := 74) dX8_countRows_71 (by decide) rfl (fun b71 => ?_) (fun b71 => ?_)
          · exact absurd b71 (nI_ge hlt (by omega))
          · skip
            refine r_aload_n (pc2 := 75) 0 dX8_countRows_74 rfl rfl rfl rfl ?_
            refine r_getf (pc2 := 78) (v := .ref (q + 3)) fX8_22 dX8_countRows_75 cq (by omega) rfl rfl ?_
            refine r_iload (pc2 := 80) 5 dX8_countRows_78 rfl rfl ?_
            refine r_laldN (pc2 := 81) x dX8_countRows_80 crt (by omega) rfl (by omega) (by decide) rfl ?_
            refine r_castl (lN (R x)) (hr x (by omega) (by omega)) ?_
            refine r_lconst (pc2 := 82) (v := 0) dX8_countRows_81 (by decide) rfl ?_
            refine r_lcmp (pc2 := 83) dX8_countRows_82 rfl ?_
            refine r_if_le (tgt := 106) (pc2 := 86) dX8_countRows_83 (by decide) rfl (fun b83 => ?_) (fun b83 => ?_)
            · skip
              refine r_aload_n (pc2 := 107) 0 dX8_countRows_106 rfl rfl rfl rfl ?_
              refine r_getf (pc2 := 110) (v := .ref (q + 3)) fX8_22 dX8_countRows_107 cq (by omega) rfl rfl ?_
              refine r_iload (pc2 := 112) 5 dX8_countRows_110 rfl rfl ?_
              refine r_lconst (pc2 := 113) (v := 0) dX8_countRows_112 (by decide) rfl ?_
              refine r_castl (lN 0) (rfl) ?_
              refine r_lastN (pc2 := 114) x dX8_countRows_113 crt (by omega) rfl (by omega) (by decide) rfl (fun h z113 o113 crt => ?_)
              have cq := (o113 q (by omega)).trans cq
              have crh := (o113 (q + 4) (by omega)).trans crh
              have cnz := (o113 (q + 5) (by omega)).trans cnz
              have csh := (o113 (q + 6) (by omega)).trans csh
              have cps := (o113 (q + 7) (by omega)).trans cps
              have cs := (o113 s (by omega)).trans cs
              have hxw : Ex [q + 3] _ h := ⟨z113, fun y hy => o113 y (by simpa using hy)⟩
              have hL := hL.ex hxw (hW.off (by simp))
              have hQ := hQ.wr hxw (by simp)
              obtain ⟨x114, e114⟩ : ∃ z : Int32, z = (nI x) + (1) := ⟨_, rfl⟩
              refine r_iinc (pc2 := 117) (ls2 := [.ref q, .int (nI t), .int (nI n), .long (lN A), .float 0, .int x114]) (v := x114) 5 dX8_countRows_114 rfl (by rw [e114]; rfl) rfl rfl rfl ?_
              refine r_goto (pc2 := 55) dX8_countRows_117 (by decide) ?_
              rw [e114, nI_1]
              exact ih2 (x + 1) h _ A (by omega) (by omega) (fun y hy h1 => (if_neg (by omega)).trans (hr y hy (by omega))) (fun y hy => by
                by_cases z : y = x
                · exact if_pos z
                · exact (if_neg z).trans (hlow y (by omega))) (by rw [hA2]; show _ = sC (fun y => R y * KB a t 0 y) x + R x * KB a t 0 x; rw [hz, Nat.zero_mul]; rfl) hSP hT hB9 hQ hL cq crt crh cnz csh cps hz0
            · exact absurd ((lgc_le _ _).mpr (by rw [hz]; decide)) b83
        · obtain ⟨x9, hs9, hz9, hcx, hwx⟩ := hSP x (by omega) hz
          have hkb : KB a t 0 x = if byB a t x9 then 1 else 0 := by unfold KB; rw [← hcx, dcd_cst hs9 hA.C]; rfl
          by_cases hby : byB a t x9
          · skip
            refine r_iload (pc2 := 57) 5 dX8_countRows_55 rfl rfl ?_
            refine r_sWt (pc2 := 60) (Or.inr ⟨_, qX8_84⟩) dX8_countRows_57 rfl ?_
            refine r_aload_n (pc2 := 61) 0 dX8_countRows_60 rfl rfl rfl rfl ?_
            refine r_getf (pc2 := 64) (v := .ref s) fX8_48 dX8_countRows_61 cq (by omega) rfl rfl ?_
            refine r_getf (pc2 := 67) (v := .int (nI (b 3))) fX8_72 dX8_countRows_64 cs hs64 rfl rfl ?_
            refine r_wldN (pc2 := 68) (a 3) dX8_countRows_67 (by rw [st3]) (by omega) rfl ?_
            refine r_cast (nI (7 ^ (a 3))) (xW7b (a 3) (by omega)) ?_
            refine r_bipush (pc2 := 70) (v := 10) dX8_countRows_68 (by decide) rfl ?_
            refine r_imul (pc2 := 71) dX8_countRows_70 rfl ?_
            refine r_cast (nI (10 * 7 ^ (a 3))) ((pk_mul _ 10).trans (by rw [Nat.mul_comm])) ?_
            refine r_icmp_ge (tgt := 120) (pc2 := 74) dX8_countRows_71 (by decide) rfl (fun b71 => ?_) (fun b71 => ?_)
            · exact absurd b71 (nI_ge hlt (by omega))
            · skip
              refine r_aload_n (pc2 := 75) 0 dX8_countRows_74 rfl rfl rfl rfl ?_
              refine r_getf (pc2 := 78) (v := .ref (q + 3)) fX8_22 dX8_countRows_75 cq (by omega) rfl rfl ?_
              refine r_iload (pc2 := 80) 5 dX8_countRows_78 rfl rfl ?_
              refine r_laldN (pc2 := 81) x dX8_countRows_80 crt (by omega) rfl (by omega) (by decide) rfl ?_
              refine r_castl (lN (R x)) (hr x (by omega) (by omega)) ?_
              refine r_lconst (pc2 := 82) (v := 0) dX8_countRows_81 (by decide) rfl ?_
              refine r_lcmp (pc2 := 83) dX8_countRows_82 rfl ?_
              refine r_if_le (tgt := 106) (pc2 := 86) dX8_countRows_83 (by decide) rfl (fun b83 => ?_) (fun b83 => ?_)
              · exact absurd ((pk_lLE (b := 0) (by omega) (by decide)).mp ((lgc_le _ _).mp b83)) (by omega)
              · skip
                refine r_aload_n (pc2 := 87) 0 dX8_countRows_86 rfl rfl rfl rfl ?_
                refine r_iload (pc2 := 89) 5 dX8_countRows_87 rfl rfl ?_
                refine r_iload_n (pc2 := 90) 1 dX8_countRows_89 rfl rfl rfl ?_
                refine r_callV1 (pc2 := 93) (As := [.int (nI x), .int (nI t)]) (st := []) kX8_108 rfl rfl dX8_countRows_90 cq (by omega) rfl rfl (Nat.le_of_ble_eq_true rfl) (by omega) ((c_isReached (x := x9) (t := t) cq hq139 hL.dv hA hst hs9 ht (by rw [hcx]) rfl (by omega)).mono fun r h2 z => ⟨z.1.trans (by rw [if_pos hby]), z.2⟩) rfl (fun h2 hq90 => ?_)
                obtain rfl := hq90.symm
                refine r_if_eq (tgt := 106) (pc2 := 96) dX8_countRows_93 (by decide) rfl (fun b93 => ?_) (fun b93 => ?_)
                · exact absurd b93 (by decide)
                · skip
                  refine r_lload_n (pc2 := 97) 3 dX8_countRows_96 rfl rfl rfl ?_
                  refine r_aload_n (pc2 := 98) 0 dX8_countRows_97 rfl rfl rfl rfl ?_
                  refine r_getf (pc2 := 101) (v := .ref (q + 3)) fX8_22 dX8_countRows_98 cq (by omega) rfl rfl ?_
                  refine r_iload (pc2 := 103) 5 dX8_countRows_101 rfl rfl ?_
                  refine r_laldN (pc2 := 104) x dX8_countRows_103 crt (by omega) rfl (by omega) (by decide) rfl ?_
                  refine r_castl (lN (R x)) (hr x (by omega) (by omega)) ?_
                  refine r_ladd (pc2 := 105) dX8_countRows_104 rfl ?_
                  refine r_castl (lN (A + R x)) (lN_add _ _) ?_
                  refine r_lstore_n (pc2 := 106) (ls2 := [.ref q, .int (nI t), .int (nI n), .long (lN (A + R x)), .float 0, .int (nI x)]) 3 dX8_countRows_105 rfl (by decide) rfl rfl rfl ?_
                  refine r_aload_n (pc2 := 107) 0 dX8_countRows_106 rfl rfl rfl rfl ?_
                  refine r_getf (pc2 := 110) (v := .ref (q + 3)) fX8_22 dX8_countRows_107 cq (by omega) rfl rfl ?_
                  refine r_iload (pc2 := 112) 5 dX8_countRows_110 rfl rfl ?_
                  refine r_lconst (pc2 := 113) (v := 0) dX8_countRows_112 (by decide) rfl ?_
                  refine r_castl (lN 0) (rfl) ?_
                  refine r_lastN (pc2 := 114) x dX8_countRows_113 crt (by omega) rfl (by omega) (by decide) rfl (fun h z113 o113 crt => ?_)
                  have cq := (o113 q (by omega)).trans cq
                  have crh := (o113 (q + 4) (by omega)).trans crh
                  have cnz := (o113 (q + 5) (by omega)).trans cnz
                  have csh := (o113 (q + 6) (by omega)).trans csh
                  have cps := (o113 (q + 7) (by omega)).trans cps
                  have cs := (o113 s (by omega)).trans cs
                  have hxw : Ex [q + 3] _ h := ⟨z113, fun y hy => o113 y (by simpa using hy)⟩
                  have hL := hL.ex hxw (hW.off (by simp))
                  have hQ := hQ.wr hxw (by simp)
                  obtain ⟨x114, e114⟩ : ∃ z : Int32, z = (nI x) + (1) := ⟨_, rfl⟩
                  refine r_iinc (pc2 := 117) (ls2 := [.ref q, .int (nI t), .int (nI n), .long (lN (A + R x)), .float 0, .int x114]) (v := x114) 5 dX8_countRows_114 rfl (by rw [e114]; rfl) rfl rfl rfl ?_
                  refine r_goto (pc2 := 55) dX8_countRows_117 (by decide) ?_
                  rw [e114, nI_1]
                  exact ih2 (x + 1) h _ (A + R x) (by omega) (by omega) (fun y hy h1 => (if_neg (by omega)).trans (hr y hy (by omega))) (fun y hy => by
                    by_cases z : y = x
                    · exact if_pos z
                    · exact (if_neg z).trans (hlow y (by omega))) (by rw [hA2]; show _ = sC (fun y => R y * KB a t 0 y) x + R x * KB a t 0 x; rw [hkb, if_pos hby, Nat.mul_one]) hSP hT hB9 hQ hL cq crt crh cnz csh cps hz0
          · skip
            refine r_iload (pc2 := 57) 5 dX8_countRows_55 rfl rfl ?_
            refine r_sWt (pc2 := 60) (Or.inr ⟨_, qX8_84⟩) dX8_countRows_57 rfl ?_
            refine r_aload_n (pc2 := 61) 0 dX8_countRows_60 rfl rfl rfl rfl ?_
            refine r_getf (pc2 := 64) (v := .ref s) fX8_48 dX8_countRows_61 cq (by omega) rfl rfl ?_
            refine r_getf (pc2 := 67) (v := .int (nI (b 3))) fX8_72 dX8_countRows_64 cs hs64 rfl rfl ?_
            refine r_wldN (pc2 := 68) (a 3) dX8_countRows_67 (by rw [st3]) (by omega) rfl ?_
            refine r_cast (nI (7 ^ (a 3))) (xW7b (a 3) (by omega)) ?_
            refine r_bipush (pc2 := 70) (v := 10) dX8_countRows_68 (by decide) rfl ?_
            refine r_imul (pc2 := 71) dX8_countRows_70 rfl ?_
            refine r_cast (nI (10 * 7 ^ (a 3))) ((pk_mul _ 10).trans (by rw [Nat.mul_comm])) ?_
            refine r_icmp_ge (tgt := 120) (pc2 := 74) dX8_countRows_71 (by decide) rfl (fun b71 => ?_) (fun b71 => ?_)
            · exact absurd b71 (nI_ge hlt (by omega))
            · skip
              refine r_aload_n (pc2 := 75) 0 dX8_countRows_74 rfl rfl rfl rfl ?_
              refine r_getf (pc2 := 78) (v := .ref (q + 3)) fX8_22 dX8_countRows_75 cq (by omega) rfl rfl ?_
              refine r_iload (pc2 := 80) 5 dX8_countRows_78 rfl rfl ?_
              refine r_laldN (pc2 := 81) x dX8_countRows_80 crt (by omega) rfl (by omega) (by decide) rfl ?_
              refine r_castl (lN (R x)) (hr x (by omega) (by omega)) ?_
              refine r_lconst (pc2 := 82) (v := 0) dX8_countRows_81 (by decide) rfl ?_
              refine r_lcmp (pc2 := 83) dX8_countRows_82 rfl ?_
              refine r_if_le (tgt := 106) (pc2 := 86) dX8_countRows_83 (by decide) rfl (fun b83 => ?_) (fun b83 => ?_)
              · exact absurd ((pk_lLE (b := 0) (by omega) (by decide)).mp ((lgc_le _ _).mp b83)) (by omega)
              · skip
                refine r_aload_n (pc2 := 87) 0 dX8_countRows_86 rfl rfl rfl rfl ?_
                refine r_iload (pc2 := 89) 5 dX8_countRows_87 rfl rfl ?_
                refine r_iload_n (pc2 := 90) 1 dX8_countRows_89 rfl rfl rfl ?_
                refine r_callV1 (pc2 := 93) (As := [.int (nI x), .int (nI t)]) (st := []) kX8_108 rfl rfl dX8_countRows_90 cq (by omega) rfl rfl (Nat.le_of_ble_eq_true rfl) (by omega) ((c_isReached (x := x9) (t := t) cq hq139 hL.dv hA hst hs9 ht (by rw [hcx]) rfl (by omega)).mono fun r h2 z => ⟨z.1.trans (by rw [if_neg hby]), z.2⟩) rfl (fun h2 hq90 => ?_)
                obtain rfl := hq90.symm
                refine r_if_eq (tgt := 106) (pc2 := 96) dX8_countRows_93 (by decide) rfl (fun b93 => ?_) (fun b93 => ?_)
                · skip
                  refine r_aload_n (pc2 := 107) 0 dX8_countRows_106 rfl rfl rfl rfl ?_
                  refine r_getf (pc2 := 110) (v := .ref (q + 3)) fX8_22 dX8_countRows_107 cq (by omega) rfl rfl ?_
                  refine r_iload (pc2 := 112) 5 dX8_countRows_110 rfl rfl ?_
                  refine r_lconst (pc2 := 113) (v := 0) dX8_countRows_112 (by decide) rfl ?_
                  refine r_castl (lN 0) (rfl) ?_
                  refine r_lastN (pc2 := 114) x dX8_countRows_113 crt (by omega) rfl (by omega) (by decide) rfl (fun h z113 o113 crt => ?_)
                  have cq := (o113 q (by omega)).trans cq
                  have crh := (o113 (q + 4) (by omega)).trans crh
                  have cnz := (o113 (q + 5) (by omega)).trans cnz
                  have csh := (o113 (q + 6) (by omega)).trans csh
                  have cps := (o113 (q + 7) (by omega)).trans cps
                  have cs := (o113 s (by omega)).trans cs
                  have hxw : Ex [q + 3] _ h := ⟨z113, fun y hy => o113 y (by simpa using hy)⟩
                  have hL := hL.ex hxw (hW.off (by simp))
                  have hQ := hQ.wr hxw (by simp)
                  obtain ⟨x114, e114⟩ : ∃ z : Int32, z = (nI x) + (1) := ⟨_, rfl⟩
                  refine r_iinc (pc2 := 117) (ls2 := [.ref q, .int (nI t), .int (nI n), .long (lN A), .float 0, .int x114]) (v := x114) 5 dX8_countRows_114 rfl (by rw [e114]; rfl) rfl rfl rfl ?_
                  refine r_goto (pc2 := 55) dX8_countRows_117 (by decide) ?_
                  rw [e114, nI_1]
                  exact ih2 (x + 1) h _ A (by omega) (by omega) (fun y hy h1 => (if_neg (by omega)).trans (hr y hy (by omega))) (fun y hy => by
                    by_cases z : y = x
                    · exact if_pos z
                    · exact (if_neg z).trans (hlow y (by omega))) (by rw [hA2]; show _ = sC (fun y => R y * KB a t 0 y) x + R x * KB a t 0 x; rw [hkb, if_neg hby, Nat.mul_zero]; rfl) hSP hT hB9 hQ hL cq crt crh cnz csh cps hz0
                · exact absurd b93 (by decide)
    have loop : ∀ (m i : Nat) (h : Hp) (R : Nat → Nat) (rt rh : Nat → Int64) (nz sh ps : Nat → Int32) (op pa : Int32) (u4 u5 : Value), i + m = n → (∀ y, y < 24010 → rt y = lN (R y)) → SP a R (tws (packS a)) → fRK R K1 ≤ 16 ^ i → (∀ j, fRK R (KB a t j) = cB a t (j + i) (packS a)) → GQ [q, q + 3, q + 4, q + 5, q + 6, q + 7] kd h0 h kd → LQ Z h reg ns s sg (a 27) kd b → h.1 q = some (.inr (8, wkL q s (nI (a 27)) (nI (tws (packS a))) (nI (a 26)) lk fd go gh op pa)) → h.1 (q + 3) = some (aL 24010 rt) → h.1 (q + 4) = some (aL 10 rh) → h.1 (q + 5) = some (aI 16 nz) → h.1 (q + 6) = some (aI 16 sh) → h.1 (q + 7) = some (aI 16 ps) → (nz 0 = 0 ∧ sh 0 = 0 ∧ ps 0 = 0) → Fr E mX8_countRows d 29 [.ref q, .int (nI t), .int (nI n), .int (nI i), u4, u5] [] h (fun r h2 => r = some (.long (lN (cB a t n (packS a)))) ∧ ∃ (rt2 rh2 : Nat → Int64) (nz2 sh2 ps2 : Nat → Int32) (op2 pa2 : Int32), h2.1 q = some (.inr (8, wkL q s (nI (a 27)) (nI (tws (packS a))) (nI (a 26)) lk fd go gh op2 pa2)) ∧ h2.1 (q + 3) = some (aL 24010 rt2) ∧ h2.1 (q + 4) = some (aL 10 rh2) ∧ h2.1 (q + 5) = some (aI 16 nz2) ∧ h2.1 (q + 6) = some (aI 16 sh2) ∧ h2.1 (q + 7) = some (aI 16 ps2) ∧ (nz2 0 = 0 ∧ sh2 0 = 0 ∧ ps2 0 = 0) ∧ (∀ y, y < 24010 → rt2 y = 0) ∧ LQ Z h2 reg ns s sg (a 27) kd b ∧ GQ [q, q + 3, q + 4, q + 5, q + 6, q + 7] kd h0 h2 kd) := by
      intro m
      induction m with
      | zero =>
        intro i h R rt rh nz sh ps op pa u4 u5 hi hr hSP hB9 hF hQ hL cq crt crh cnz csh cps hz0
        have hin : i = n := by omega
        subst hin
        have hF0 := hF 0
        rw [Nat.zero_add] at hF0
        refine r_iload_n (pc2 := 30) 3 dX8_countRows_29 rfl rfl rfl ?_
        refine r_iload_n (pc2 := 31) 2 dX8_countRows_30 rfl rfl rfl ?_
        refine r_icmp_ge (tgt := 44) (pc2 := 34) dX8_countRows_31 (by decide) rfl (fun b31 => ?_) (fun b31 => ?_)
        · skip
          refine r_lconst (pc2 := 45) (v := 0) dX8_countRows_44 (by decide) rfl ?_
          refine r_castl (lN 0) (rfl) ?_
          refine r_lstore_n (pc2 := 46) (ls2 := [.ref q, .int (nI t), .int (nI i), .long (lN 0), .float 0, u5]) 3 dX8_countRows_45 rfl (by decide) rfl rfl rfl ?_
          refine r_aload_n (pc2 := 47) 0 dX8_countRows_46 rfl rfl rfl rfl ?_
          refine r_getf (pc2 := 50) (v := .int (nI (tws (packS a)))) fX8_9 dX8_countRows_47 cq (by omega) rfl rfl ?_
          refine r_bipush (pc2 := 52) (v := 10) dX8_countRows_50 (by decide) rfl ?_
          refine r_imul (pc2 := 53) dX8_countRows_52 rfl ?_
          refine r_cast (nI (10 * (tws (packS a)))) ((pk_mul _ 10).trans (by rw [Nat.mul_comm])) ?_
          refine r_istore (pc2 := 55) (ls2 := [.ref q, .int (nI t), .int (nI i), .long (lN 0), .float 0, .int (nI (10 * (tws (packS a))))]) 5 dX8_countRows_53 (by decide) rfl rfl rfl ?_
          refine loop2 (10 * 7 ^ (a 3) - 10 * (tws (packS a))) (10 * (tws (packS a))) h rt 0 (by have := tws_G hsg hA.C hA.G; omega) (by omega) (fun y hy h1 => hr y hy) (fun y hy => ?_) ?_ hSP hF0 (Nat.lt_of_le_of_lt hB9 (by have := Nat.pow_le_pow_right (n := 16) (by decide) (show i ≤ 8 by omega); have : (16 : Nat) ^ 8 < 2 ^ 62 := (by decide); omega)) hQ hL cq crt crh cnz csh cps hz0
          · have z : R y = 0 := by
              by_cases z : R y = 0
              · exact z
              · obtain ⟨s9, a1, a2, a3, a4⟩ := hSP y (by omega) z
                have := cst_d a1.dep
                omega
            rw [hr y (by omega), z]; rfl
          · rw [sC_le0 (10 * (tws (packS a))) (fun y hy => by
              have z : R y = 0 := by
                by_cases z : R y = 0
                · exact z
                · obtain ⟨s9, a1, a2, a3, a4⟩ := hSP y (by omega) z
                  have := cst_d a1.dep
                  omega
              rw [z, Nat.zero_mul])]
        · exact absurd (nI_le (by omega) (by omega)) b31
      | succ m ih =>
        intro i h R rt rh nz sh ps op pa u4 u5 hi hr hSP hB9 hF hQ hL cq crt crh cnz csh cps hz0
        have hlt : i < n := by omega
        refine r_iload_n (pc2 := 30) 3 dX8_countRows_29 rfl rfl rfl ?_
        refine r_iload_n (pc2 := 31) 2 dX8_countRows_30 rfl rfl rfl ?_
        refine r_icmp_ge (tgt := 44) (pc2 := 34) dX8_countRows_31 (by decide) rfl (fun b31 => ?_) (fun b31 => ?_)
        · exact absurd b31 (nI_ge hlt (by omega))
        · skip
          refine r_aload_n (pc2 := 35) 0 dX8_countRows_34 rfl rfl rfl rfl ?_
          refine r_callV0 (pc2 := 38) (As := []) (st := []) kX8_129 rfl rfl dX8_countRows_35 cq (by omega) rfl rfl (Nat.le_of_ble_eq_true rfl) (by omega) (c_addHour (w0 := (tws (packS a))) cq crt crh cnz csh cps hz0 hr hSP (by have := tws_G hsg hA.C hA.G; omega) (by have := Nat.pow_le_pow_right (n := 16) (by decide) (show i ≤ 8 by omega); have : (16 : Nat) ^ 8 < 2 ^ 62 := (by decide); omega) hW (by have := hQ.2.1; omega) hL hA hst (by omega)) rfl (fun h hq35 => ?_)
          obtain ⟨R2, rt2, rh2, nz2, sh2, ps2, op2, pa2, cq, crt, crh, cnz, csh, cps, hz2, hr2, hSP2, hF2, hL, hQ2⟩ := hq35
          have hQ := hQ.trans hQ2 hn0
          obtain ⟨x38, e38⟩ : ∃ z : Int32, z = (nI i) + (1) := ⟨_, rfl⟩
          refine r_iinc (pc2 := 41) (ls2 := [.ref q, .int (nI t), .int (nI n), .int x38, u4, u5]) (v := x38) 3 dX8_countRows_38 rfl (by rw [e38]; rfl) rfl rfl rfl ?_
          refine r_goto (pc2 := 29) dX8_countRows_41 (by decide) ?_
          rw [e38, nI_1]
          exact ih (i + 1) h R2 rt2 rh2 nz2 sh2 ps2 op2 pa2 _ _ (by omega) hr2 hSP2 (by rw [hF2 K1 K1_z]; refine Nat.le_trans (fRK_1 a R) ?_; rw [Nat.pow_succ, Nat.mul_comm (16 ^ i)]; exact Nat.mul_le_mul_left _ hB9) (fun j => by rw [hF2 _ (KB_z a t j), fRK_hour hSP hA, hF (j + 1)]; exact congrArg (fun z => cB a t z (packS a)) (by omega)) hQ hL cq crt crh cnz csh cps hz2
    refine Cn.go (ls := [.ref q, .int (nI t), .int (nI n), .float 0, .float 0, .float 0]) (by decide +kernel) rfl (Nat.le_of_ble_eq_true rfl) ?_
    refine r_aload_n (pc2 := 1) 0 dX8_countRows_0 rfl rfl rfl rfl ?_
    refine r_getf (pc2 := 4) (v := .int (nI (a 26))) fX8_53 dX8_countRows_1 cq (by omega) rfl rfl ?_
    refine r_if_ne (tgt := 9) (pc2 := 7) dX8_countRows_4 (by decide) rfl (fun b4 => ?_) (fun b4 => ?_)
    · skip
      refine r_aload_n (pc2 := 10) 0 dX8_countRows_9 rfl rfl rfl rfl ?_
      refine r_getf (pc2 := 13) (v := .ref (q + 3)) fX8_22 dX8_countRows_10 cq (by omega) rfl rfl ?_
      refine r_aload_n (pc2 := 14) 0 dX8_countRows_13 rfl rfl rfl rfl ?_
      refine r_getf (pc2 := 17) (v := .int (nI (tws (packS a)))) fX8_9 dX8_countRows_14 cq (by omega) rfl rfl ?_
      refine r_bipush (pc2 := 19) (v := 10) dX8_countRows_17 (by decide) rfl ?_
      refine r_imul (pc2 := 20) dX8_countRows_19 rfl ?_
      refine r_cast (nI ((tws (packS a)) * 10)) (pk_mul _ 10) ?_
      refine r_aload_n (pc2 := 21) 0 dX8_countRows_20 rfl rfl rfl rfl ?_
      refine r_getf (pc2 := 24) (v := .int (nI (a 26))) fX8_53 dX8_countRows_21 cq (by omega) rfl rfl ?_
      refine r_iadd (pc2 := 25) dX8_countRows_24 rfl ?_
      refine r_cast (nI (cst (packS a))) (by rw [nI_add]; exact congrArg nI (by unfold cst; rw [hA.pdep]; omega)) ?_
      refine r_lconst (pc2 := 26) (v := 1) dX8_countRows_25 (by decide) rfl ?_
      refine r_lastN (pc2 := 27) (cst (packS a)) dX8_countRows_26 crt (by omega) rfl hcl (by decide) rfl (fun h z26 o26 crt => ?_)
      have cq := (o26 q (by omega)).trans cq
      have crh := (o26 (q + 4) (by omega)).trans crh
      have cnz := (o26 (q + 5) (by omega)).trans cnz
      have csh := (o26 (q + 6) (by omega)).trans csh
      have cps := (o26 (q + 7) (by omega)).trans cps
      have hQ := (GQ.rf (S := [q, q + 3, q + 4, q + 5, q + 6, q + 7]) (kd := kd) (h := h0))
      have hxw : Ex [q + 3] _ h := ⟨z26, fun y hy => o26 y (by simpa using hy)⟩
      have hL := hL.ex hxw (hW.off (by simp))
      have hQ := hQ.wr hxw (by simp)
      refine r_iconst (pc2 := 28) (v := 0) dX8_countRows_27 (by decide) rfl ?_
      refine r_cast (nI 0) (rfl) ?_
      refine r_istore_n (pc2 := 29) (ls2 := [.ref q, .int (nI t), .int (nI n), .int (nI 0), .float 0, .float 0]) 3 dX8_countRows_28 rfl (by decide) rfl rfl rfl ?_
      exact loop n 0 h (fun x => if x = (cst (packS a)) then 1 else 0) _ rh nz sh ps op pa (.float 0) (.float 0) (by omega) (fun y hy => by
        by_cases z : y = (cst (packS a))
        · show vp_updL rt (cst (packS a)) 1 y = lN (if y = (cst (packS a)) then 1 else 0)
          rw [if_pos z]; exact if_pos z
        · show vp_updL rt (cst (packS a)) 1 y = lN (if y = (cst (packS a)) then 1 else 0)
          rw [if_neg z]; exact (if_neg z).trans (hrt y hy)) (SP.one hsg (by rw [hA.pdep]; exact hdz)) (by rw [fRK_one hcl]; unfold K1; split <;> decide) (fun j => by rw [fRK_one hcl]; unfold KB; rw [dcd_cst hsg hA.C]; rfl) hQ hL cq crt crh cnz csh cps hz0
    · exact absurd (nI_z0 (by omega) b4) hdz
set_option maxRecDepth 20000 in
set_option maxHeartbeats 1000000 in
theorem cl_rows {E : EnvT} {d : Nat} {h0 : Hp} {ns s w1 w2 : Nat} {wk dt : Value} {Z : Nat → Prop} {reg : Nat → FR} {sg kd : Nat} {a b : FR} {y z : Int32} (hN : NW h0 s ns w1 w2 wk dt a) (hD : DV Z h0 reg ns s sg kd b) (hA : AIN a) (hst : Stat a b) (hMK : MKw Z h0 reg ns kd wk) (hkl : kd < h0.2.1) (hd : 8 ≤ d) : Cn E mX9_rows d [.ref 64, .int y, .int z] h0 (QWk [] Z reg s ns sg w1 w2 wk dt h0 kd a b (.long (rowsF a y z))) := by
  obtain ⟨c64, c76, _, _⟩ := id hN
  have hn0 := hD.n
  have hk0 := hD.k0
  have hs64 := hD.s64
  have hG9 := hD.G
  have hG := hA.G
  have hp16 := pw16 hA.G
  have st3 : a 3 = b 3 := hst 3 (by omega)
  obtain ⟨lo, so9, sa, nl, sl, cs⟩ := hD.cs
  by_cases hv1 : vS (a 3) y.toInt64
  · by_cases hz : inR 0 8 z
    · obtain ⟨t, ht1, ht16, rfl⟩ := vS_i hA.G hv1
      obtain ⟨i, _, hi8, rfl⟩ := inR_of (by decide) (by decide) hz
      refine Cn.go (ls := [.ref 64, .int (nI t), .int (nI i)]) (by decide +kernel) rfl (Nat.le_of_ble_eq_true rfl) ?_
      refine r_aload_n (pc2 := 1) 0 dX9_rows_0 rfl rfl rfl rfl ?_
      refine r_iload_n (pc2 := 2) 1 dX9_rows_1 rfl rfl rfl ?_
      refine r_i2l (pc2 := 3) dX9_rows_2 rfl ?_
      refine r_callV1 (pc2 := 6) (As := [.long (Int32.toInt64 (nI t))]) (st := []) kX9_144 rfl rfl dX9_rows_3 c64 (by decide) rfl rfl (Nat.le_of_ble_eq_true rfl) (by omega) ((c_isSetC c64 cs hs64 hG9).mono fun r h2 q => ⟨q.1.trans (by rw [← st3, if_pos hv1]), q.2⟩) rfl (fun h2 hq3 => ?_)
      obtain rfl := hq3.symm
      refine r_if_eq (tgt := 19) (pc2 := 9) dX9_rows_6 (by decide) rfl (fun b6 => ?_) (fun b6 => ?_)
      · exact absurd b6 (by decide)
      · skip
        refine r_iload_n (pc2 := 10) 2 dX9_rows_9 rfl rfl rfl ?_
        refine r_if_lt (tgt := 19) (pc2 := 13) dX9_rows_10 (by decide) rfl (fun b10 => ?_) (fun b10 => ?_)
        · exact absurd b10 (nI_pos (by omega))
        · skip
          refine r_iload_n (pc2 := 14) 2 dX9_rows_13 rfl rfl rfl ?_
          refine r_bipush (pc2 := 16) (v := 8) dX9_rows_14 (by decide) rfl ?_
          refine r_icmp_le (tgt := 23) (pc2 := 19) dX9_rows_16 (by decide) rfl (fun b16 => ?_) (fun b16 => ?_)
          · skip
            refine r_aload_n (pc2 := 24) 0 dX9_rows_23 rfl rfl rfl rfl ?_
            refine r_callV2 (pc2 := 27) (As := []) (st := []) kX9_248 rfl rfl dX9_rows_24 c64 (by decide) rfl rfl (Nat.le_of_ble_eq_true rfl) (by omega) (c_layWalks hN hD hA hst hMK hkl (by omega)) rfl (fun v24 h hq24 => ?_)
            obtain ⟨q, kd2, Q, Kf, fb, k, go, gh, rt, rh, rfl, hR, hK, crt, crh, hrt, hL⟩ := hq24
            obtain ⟨od, nz, sh, ps, op, pa, cq, cfb, cod, cnz, csh, cps, hz0, hB⟩ := id hK
            have hq139 := hR.1.1
            have hqk := hR.1.2.1
            have hq7 := hR.2.1
            refine r_iload_n (pc2 := 28) 1 dX9_rows_27 rfl rfl rfl ?_
            refine r_iload_n (pc2 := 29) 2 dX9_rows_28 rfl rfl rfl ?_
            refine r_callV1 (pc2 := 32) (As := [.int (nI t), .int (nI i)]) (st := []) kX9_260 rfl rfl dX9_rows_29 cq (by omega) rfl rfl (Nat.le_of_ble_eq_true rfl) (by omega) (c_countRows (t := t) (n := i) cq crt crh cnz csh cps hz0 hrt (by omega) (by omega) rfl rfl hR.1 hR.2.1 hL hA hst (by omega)) rfl (fun h hq29 => ?_)
            obtain ⟨rt2, rh2, nz2, sh2, ps2, op2, pa2, dq, drt, drh, dnz, dsh, dps, dz, hrt2, hL2, hQ2⟩ := hq29
            have hk2 := hL.dv.k0
            exact r_lret rfl dX9_rows_32 (by rw [show rowsF a (nI t) (nI i) = lN (cB a t i (packS a)) by unfold rowsF; rw [if_pos ⟨hv1, hz⟩, nI_clamp (by omega), nI_clamp (by omega)]]; exact hR.fin2 hL hQ2 (by simp) ⟨od, nz2, sh2, ps2, op2, pa2, dq, hQ2.get (by omega) (by simp) (by omega) cfb, hQ2.get (by omega) (by simp) (by omega) cod, dnz, dsh, dps, dz, hB⟩ drt drh hrt2 hL2 hA hst hN (by simp) hn0 hk0)
          · exact absurd (nI_le (b := 8) hi8 (by decide)) b16
    · have hv : ¬ rowC a y z := fun q => hz q.2
      refine Cn.go (ls := [.ref 64, .int y, .int z]) (by decide +kernel) rfl (Nat.le_of_ble_eq_true rfl) ?_
      refine r_aload_n (pc2 := 1) 0 dX9_rows_0 rfl rfl rfl rfl ?_
      refine r_iload_n (pc2 := 2) 1 dX9_rows_1 rfl rfl rfl ?_
      refine r_i2l (pc2 := 3) dX9_rows_2 rfl ?_
      refine r_callV1 (pc2 := 6) (As := [.long (Int32.toInt64 y)]) (st := []) kX9_144 rfl rfl dX9_rows_3 c64 (by decide) rfl rfl (Nat.le_of_ble_eq_true rfl) (by omega) ((c_isSetC c64 cs hs64 hG9).mono fun r h2 q => ⟨q.1.trans (by rw [← st3, if_pos hv1]), q.2⟩) rfl (fun h2 hq3 => ?_)
      obtain rfl := hq3.symm
      refine r_if_eq (tgt := 19) (pc2 := 9) dX9_rows_6 (by decide) rfl (fun b6 => ?_) (fun b6 => ?_)
      · exact absurd b6 (by decide)
      · skip
        refine r_iload_n (pc2 := 10) 2 dX9_rows_9 rfl rfl rfl ?_
        refine r_if_lt (tgt := 19) (pc2 := 13) dX9_rows_10 (by decide) rfl (fun b10 => ?_) (fun b10 => ?_)
        · skip
          refine r_ldc2 (pc2 := 22) (v := -3) qX9_258 dX9_rows_19 rfl ?_
          exact r_lret rfl dX9_rows_22 (by rw [show rowsF a y z = -3 by unfold rowsF; rw [if_neg hv]]; exact QWk.same hMK hD hN)
        · skip
          refine r_iload_n (pc2 := 14) 2 dX9_rows_13 rfl rfl rfl ?_
          refine r_bipush (pc2 := 16) (v := 8) dX9_rows_14 (by decide) rfl ?_
          refine r_icmp_le (tgt := 23) (pc2 := 19) dX9_rows_16 (by decide) rfl (fun b16 => ?_) (fun b16 => ?_)
          · exact absurd ((inR_iff (l := 0) (h := 8) (by decide) (by decide) z).mpr ⟨Int32.not_lt.mp b10, b16⟩) hz
          · skip
            refine r_ldc2 (pc2 := 22) (v := -3) qX9_258 dX9_rows_19 rfl ?_
            exact r_lret rfl dX9_rows_22 (by rw [show rowsF a y z = -3 by unfold rowsF; rw [if_neg hv]]; exact QWk.same hMK hD hN)
  · have hv : ¬ rowC a y z := fun q => hv1 q.1
    refine Cn.go (ls := [.ref 64, .int y, .int z]) (by decide +kernel) rfl (Nat.le_of_ble_eq_true rfl) ?_
    refine r_aload_n (pc2 := 1) 0 dX9_rows_0 rfl rfl rfl rfl ?_
    refine r_iload_n (pc2 := 2) 1 dX9_rows_1 rfl rfl rfl ?_
    refine r_i2l (pc2 := 3) dX9_rows_2 rfl ?_
    refine r_callV1 (pc2 := 6) (As := [.long (Int32.toInt64 y)]) (st := []) kX9_144 rfl rfl dX9_rows_3 c64 (by decide) rfl rfl (Nat.le_of_ble_eq_true rfl) (by omega) ((c_isSetC c64 cs hs64 hG9).mono fun r h2 q => ⟨q.1.trans (by rw [← st3, if_neg hv1]), q.2⟩) rfl (fun h2 hq3 => ?_)
    obtain rfl := hq3.symm
    refine r_if_eq (tgt := 19) (pc2 := 9) dX9_rows_6 (by decide) rfl (fun b6 => ?_) (fun b6 => ?_)
    · skip
      refine r_ldc2 (pc2 := 22) (v := -3) qX9_258 dX9_rows_19 rfl ?_
      exact r_lret rfl dX9_rows_22 (by rw [show rowsF a y z = -3 by unfold rowsF; rw [if_neg hv]]; exact QWk.same hMK hD hN)
    · exact absurd b6 (by decide)
