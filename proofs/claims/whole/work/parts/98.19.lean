/-! the class: walks: beginAt, layWalks -/
set_option maxRecDepth 20000 in
set_option maxHeartbeats 1000000 in
theorem c_beginAt {E : EnvT} {d : Nat} {h0 : Hp} {Z : Nat → Prop} {reg : Nat → FR} {ns s sg kd : Nat} {a b : FR} {q : Nat} {X D : Int32} (hK : WKP Z h0 reg ns q) (hW : WQ Z kd q) (hL : LQ Z h0 reg ns s sg (a 27) kd b) (hA : AIN a) (hst : Stat a b) (eX : X = (nI (tws (packS a)))) (eD : D = (nI (a 26))) (hd : 2 ≤ d) : Cn E mX8_beginAt d [.ref q, .int X, .int D] h0 (fun r h2 => r = none ∧ ∃ (Q : List Nat) (Kf : Nat → Nat) (fb : Nat → Int32) (k : Nat) (go gh : Int32) (rt rh : Nat → Int64), WKB a s q (nI (tws (packS a))) (nI (a 26)) go gh Q Kf fb k h2 ∧ h2.1 (q + 3) = some (aL 24010 rt) ∧ h2.1 (q + 4) = some (aL 10 rh) ∧ (∀ x, x < 24010 → rt x = 0) ∧ LQ Z h2 reg ns s sg (a 27) kd b ∧ GQ [q, q + 1, q + 2] kd h0 h2 kd) := by
  subst eX eD
  obtain ⟨hq7, ws, wd, wst, wsd, lk, fd, go, gh, op, pa, fb, od, nz, sh, ps, rt, rh, hws, cq, cfb, cod, crt, crh, cnz, csh, cps, hz0, hrt, hF⟩ := hK
  have hq139 := hW.1
  have hqk := hW.2.1
  have hs64 := hL.dv.s64
  have hC6 := hA.C
  have hsg := SG.now hA
  have hcl := cst_lt hsg hC6
  have hd26 := hA.dp
  have hdr := hA.dr
  have c82 := hL.1.1
  have hns := hL.2.2.2.2.2.2.1
  have hsgn := hL.2.2.2.2.2.1
  by_cases hne : ws = s ∧ wd = nI (a 27) ∧ wst = (nI (tws (packS a))) ∧ wsd = (nI (a 26))
  · obtain ⟨e1, rfl, rfl, rfl⟩ := hne
    have e1 := e1.symm
    subst e1
    rcases hF with ⟨f1, _, _⟩ | ⟨sgw, dw, x0, Q, Kf, k, f1, f2, f3, ⟨f4, f5⟩, ⟨f6, f7⟩, f8, ⟨rfl, rfl⟩, hB⟩
    · exact absurd f1 (nI_nm1 (by have := hsg.tl hC6; omega))
    · have hbk := hL.2.2.2.1
      have hreg := hL.2.2.2.2.1
      have e1 : sg = sgw := (f1.same hL.2.1 (by omega) (by omega)).symm
      subst e1
      have e2 : a 27 = dw := (nI_eq (by omega) (by omega)).mp f4
      rw [← hreg] at f8 hB
      have f8 : SG a x0 := by rw [SG_stat hst]; exact f8
      have e3 : packS a = x0 := by
        refine cst_inj hsg f8 hC6 ?_
        have g1 := (nI_eq (by have := hsg.tl hC6; omega) (by have := f8.tl hC6; omega)).mp f6
        have g2 := (nI_eq (by omega) (by have := f8.dep; omega)).mp f7
        unfold cst
        rw [g1, hA.pdep, g2]
      subst e3
      have hB : BF (SG a) (okS a) (nxS a) (packS a) Q Kf fb od k := by
        rw [SG_stat hst, okS_stat hst, nxS_stat hst hbk.1, e2]
        exact hB
      refine Cn.go (ls := [.ref q, .int (nI (tws (packS a))), .int (nI (a 26)), .float 0, .float 0]) (by decide +kernel) rfl (Nat.le_of_ble_eq_true rfl) ?_
      refine r_aload_n (pc2 := 1) 0 dX8_beginAt_0 rfl rfl rfl rfl ?_
      refine r_getf (pc2 := 4) (v := .ref s) fX8_48 dX8_beginAt_1 cq (by omega) rfl rfl ?_
      refine r_aload_n (pc2 := 5) 0 dX8_beginAt_4 rfl rfl rfl rfl ?_
      refine r_getf (pc2 := 8) (v := .ref 82) fX8_38 dX8_beginAt_5 cq (by omega) rfl rfl ?_
      refine r_getf (pc2 := 11) (v := .ref s) fX8_42 dX8_beginAt_8 c82 (by decide) rfl rfl ?_
      refine r_acmp_ne (tgt := 32) (pc2 := 14) dX8_beginAt_11 hs64 hs64 (by decide) rfl (fun b11 => ?_) (fun b11 => ?_)
      · exact absurd rfl b11
      · skip
        refine r_aload_n (pc2 := 15) 0 dX8_beginAt_14 rfl rfl rfl rfl ?_
        refine r_getf (pc2 := 18) (v := .int (nI (a 27))) fX8_49 dX8_beginAt_15 cq (by omega) rfl rfl ?_
        refine r_aload_n (pc2 := 19) 0 dX8_beginAt_18 rfl rfl rfl rfl ?_
        refine r_getf (pc2 := 22) (v := .ref 82) fX8_38 dX8_beginAt_19 cq (by omega) rfl rfl ?_
        refine r_getf (pc2 := 25) (v := .int (nI (a 27))) fX8_52 dX8_beginAt_22 c82 (by decide) rfl rfl ?_
        refine r_icmp_ne (tgt := 32) (pc2 := 28) dX8_beginAt_25 (by decide) rfl (fun b25 => ?_) (fun b25 => ?_)
        · exact absurd rfl b25
        · skip
          refine r_iconst (pc2 := 29) (v := 1) dX8_beginAt_28 (by decide) rfl ?_
          refine r_goto (pc2 := 33) dX8_beginAt_29 (by decide) ?_
          refine r_istore_n (pc2 := 34) (ls2 := [.ref q, .int (nI (tws (packS a))), .int (nI (a 26)), .int 1, .float 0]) 3 dX8_beginAt_33 rfl (by decide) rfl rfl rfl ?_
          refine r_iload_n (pc2 := 35) 3 dX8_beginAt_34 rfl rfl rfl ?_
          refine r_if_eq (tgt := 55) (pc2 := 38) dX8_beginAt_35 (by decide) rfl (fun b35 => ?_) (fun b35 => ?_)
          · exact absurd b35 (by decide)
          · skip
            refine r_aload_n (pc2 := 39) 0 dX8_beginAt_38 rfl rfl rfl rfl ?_
            refine r_getf (pc2 := 42) (v := .int (nI (tws (packS a)))) fX8_9 dX8_beginAt_39 cq (by omega) rfl rfl ?_
            refine r_iload_n (pc2 := 43) 1 dX8_beginAt_42 rfl rfl rfl ?_
            refine r_icmp_ne (tgt := 55) (pc2 := 46) dX8_beginAt_43 (by decide) rfl (fun b43 => ?_) (fun b43 => ?_)
            · exact absurd rfl b43
            · skip
              refine r_aload_n (pc2 := 47) 0 dX8_beginAt_46 rfl rfl rfl rfl ?_
              refine r_getf (pc2 := 50) (v := .int (nI (a 26))) fX8_53 dX8_beginAt_47 cq (by omega) rfl rfl ?_
              refine r_iload_n (pc2 := 51) 2 dX8_beginAt_50 rfl rfl rfl ?_
              refine r_icmp_ne (tgt := 55) (pc2 := 54) dX8_beginAt_51 (by decide) rfl (fun b51 => ?_) (fun b51 => ?_)
              · exact absurd rfl b51
              · skip
                exact r_vret rfl dX8_beginAt_54 ⟨rfl, Q, Kf, fb, k, go, gh, rt, rh, ⟨od, nz, sh, ps, op, pa, cq, cfb, cod, cnz, csh, cps, hz0, hB⟩, crt, crh, hrt, hL, GQ.rf⟩
  · have hgen : ∃ (n : Nat) (g : Nat → Nat), fd = nI n ∧ n ≤ 24010 ∧ (∀ i, i < n → od i = nI (g i) ∧ g i < 24010) ∧ ∀ x, x < 24010 → fb x ≠ 0 → ∃ j, j < n ∧ g j = x := by
      rcases hF with ⟨_, f1, f2⟩ | ⟨sgw, dw, x0, Q, Kf, k, f1, f2, f3, f45, f67, f8, ⟨_, f9⟩, hB⟩
      · exact ⟨0, fun _ => 0, f1, by omega, fun i hi => absurd hi (Nat.not_lt_zero _), fun x hx z => absurd (f2 x hx) z⟩
      · refine ⟨Q.length, fun i => cst (Q.getD i 0), f9, hB.1.len (cst_injA f3.1.1.2), fun i hi => ⟨hB.1.2.2.2.1 i hi, (hB.1.2.1 _ (getD_mem hi)).2⟩, fun x hx z => ?_⟩
        by_cases z2 : ∃ s9, s9 ∈ Q ∧ cst s9 = x
        · obtain ⟨s9, m9, e9⟩ := z2
          obtain ⟨j, j1, j2⟩ := mem_getD m9
          exact ⟨j, j1, by rw [← e9, ← j2]⟩
        · exact absurd ((hB.1.2.2.2.2.1 x hx).mpr (fun s9 m9 e9 => z2 ⟨s9, m9, e9⟩)) z
    obtain ⟨n, g, rfl, hn9, hgl, hgx⟩ := hgen
    have loop : ∀ (m i : Nat) (h : Hp) (fb : Nat → Int32) {u3 : Int32}, i + m = n → (∀ x, x < 24010 → fb x ≠ 0 → ∃ j, i ≤ j ∧ j < n ∧ g j = x) → GQ [q, q + 1, q + 2] kd h0 h kd → LQ Z h reg ns s sg (a 27) kd b → h.1 q = some (.inr (8, wkL q ws wd wst wsd lk (nI n) go gh op pa)) → h.1 (q + 1) = some (aI 24010 fb) → h.1 (q + 2) = some (aI 24010 od) → h.1 (q + 3) = some (aL 24010 rt) → h.1 (q + 4) = some (aL 10 rh) → h.1 (q + 5) = some (aI 16 nz) → h.1 (q + 6) = some (aI 16 sh) → h.1 (q + 7) = some (aI 16 ps) → h.1 82 = some (.inr (2, [.ref s, .int (nI (a 27)), .int (nI (stN sg (a 27))), .ref 87, kdV kd, .ref 88, .ref 89])) → Fr E mX8_beginAt d 58 [.ref q, .int (nI (tws (packS a))), .int (nI (a 26)), .int u3, .int (nI i)] [] h (fun r h2 => r = none ∧ ∃ (Q : List Nat) (Kf : Nat → Nat) (fb : Nat → Int32) (k : Nat) (go gh : Int32) (rt rh : Nat → Int64), WKB a s q (nI (tws (packS a))) (nI (a 26)) go gh Q Kf fb k h2 ∧ h2.1 (q + 3) = some (aL 24010 rt) ∧ h2.1 (q + 4) = some (aL 10 rh) ∧ (∀ x, x < 24010 → rt x = 0) ∧ LQ Z h2 reg ns s sg (a 27) kd b ∧ GQ [q, q + 1, q + 2] kd h0 h2 kd) := by
      intro m
      induction m with
      | zero =>
        intro i h fb u3 hi hfx hQ hL cq cfb cod crt crh cnz csh cps c82
        have hfz : ∀ x, x < 24010 → fb x = 0 := fun x hx => by
          by_cases z : fb x = 0
          · exact z
          · obtain ⟨j, j1, j2, _⟩ := hfx x hx z; omega
        refine r_iload (pc2 := 60) 4 dX8_beginAt_58 rfl rfl ?_
        refine r_aload_n (pc2 := 61) 0 dX8_beginAt_60 rfl rfl rfl rfl ?_
        refine r_getf (pc2 := 64) (v := .int (nI n)) fX8_56 dX8_beginAt_61 cq (by omega) rfl rfl ?_
        refine r_icmp_ge (tgt := 86) (pc2 := 67) dX8_beginAt_64 (by decide) rfl (fun b64 => ?_) (fun b64 => ?_)
        · skip
          refine r_aload_n (pc2 := 87) 0 dX8_beginAt_86 rfl rfl rfl rfl ?_
          refine r_aload_n (pc2 := 88) 0 dX8_beginAt_87 rfl rfl rfl rfl ?_
          refine r_getf (pc2 := 91) (v := .ref 82) fX8_38 dX8_beginAt_88 cq (by omega) rfl rfl ?_
          refine r_getf (pc2 := 94) (v := .ref s) fX8_42 dX8_beginAt_91 c82 (by decide) rfl rfl ?_
          refine r_putfX (pc2 := 97) [.ref 82, .ref s, .int wd, .int wst, .int wsd, .ref (q + 1), .ref (q + 2), .int lk, .int (nI n), .int go, .int gh, .ref (q + 3), .ref (q + 4), .ref (q + 5), .ref (q + 6), .ref (q + 7), .int op, .int pa] fX8_48 dX8_beginAt_94 cq (by omega) (Nat.le_of_ble_eq_true rfl) (okO hs64) rfl rfl (fun h z94 o94 cq => ?_)
          have cfb := (o94 (q + 1) (by omega)).trans cfb
          have cod := (o94 (q + 2) (by omega)).trans cod
          have crt := (o94 (q + 3) (by omega)).trans crt
          have crh := (o94 (q + 4) (by omega)).trans crh
          have cnz := (o94 (q + 5) (by omega)).trans cnz
          have csh := (o94 (q + 6) (by omega)).trans csh
          have cps := (o94 (q + 7) (by omega)).trans cps
          have c82 := (o94 82 (by omega)).trans c82
          have hxw : Ex [q] _ h := ⟨z94, fun y hy => o94 y (by simpa using hy)⟩
          have hL := hL.ex hxw (hW.off (by simp))
          have hQ := hQ.wr hxw (by simp)
          refine r_aload_n (pc2 := 98) 0 dX8_beginAt_97 rfl rfl rfl rfl ?_
          refine r_aload_n (pc2 := 99) 0 dX8_beginAt_98 rfl rfl rfl rfl ?_
          refine r_getf (pc2 := 102) (v := .ref 82) fX8_38 dX8_beginAt_99 cq (by omega) rfl rfl ?_
          refine r_getf (pc2 := 105) (v := .int (nI (a 27))) fX8_52 dX8_beginAt_102 c82 (by decide) rfl rfl ?_
          refine r_putfX (pc2 := 108) [.ref 82, .ref s, .int (nI (a 27)), .int wst, .int wsd, .ref (q + 1), .ref (q + 2), .int lk, .int (nI n), .int go, .int gh, .ref (q + 3), .ref (q + 4), .ref (q + 5), .ref (q + 6), .ref (q + 7), .int op, .int pa] fX8_49 dX8_beginAt_105 cq (by omega) (Nat.le_of_ble_eq_true rfl) rfl rfl rfl (fun h z105 o105 cq => ?_)
          have cfb := (o105 (q + 1) (by omega)).trans cfb
          have cod := (o105 (q + 2) (by omega)).trans cod
          have crt := (o105 (q + 3) (by omega)).trans crt
          have crh := (o105 (q + 4) (by omega)).trans crh
          have cnz := (o105 (q + 5) (by omega)).trans cnz
          have csh := (o105 (q + 6) (by omega)).trans csh
          have cps := (o105 (q + 7) (by omega)).trans cps
          have c82 := (o105 82 (by omega)).trans c82
          have hxw : Ex [q] _ h := ⟨z105, fun y hy => o105 y (by simpa using hy)⟩
          have hL := hL.ex hxw (hW.off (by simp))
          have hQ := hQ.wr hxw (by simp)
          refine r_aload_n (pc2 := 109) 0 dX8_beginAt_108 rfl rfl rfl rfl ?_
          refine r_iload_n (pc2 := 110) 1 dX8_beginAt_109 rfl rfl rfl ?_
          refine r_putfX (pc2 := 113) [.ref 82, .ref s, .int (nI (a 27)), .int (nI (tws (packS a))), .int wsd, .ref (q + 1), .ref (q + 2), .int lk, .int (nI n), .int go, .int gh, .ref (q + 3), .ref (q + 4), .ref (q + 5), .ref (q + 6), .ref (q + 7), .int op, .int pa] fX8_9 dX8_beginAt_110 cq (by omega) (Nat.le_of_ble_eq_true rfl) rfl rfl rfl (fun h z110 o110 cq => ?_)
          have cfb := (o110 (q + 1) (by omega)).trans cfb
          have cod := (o110 (q + 2) (by omega)).trans cod
          have crt := (o110 (q + 3) (by omega)).trans crt
          have crh := (o110 (q + 4) (by omega)).trans crh
          have cnz := (o110 (q + 5) (by omega)).trans cnz
          have csh := (o110 (q + 6) (by omega)).trans csh
          have cps := (o110 (q + 7) (by omega)).trans cps
          have c82 := (o110 82 (by omega)).trans c82
          have hxw : Ex [q] _ h := ⟨z110, fun y hy => o110 y (by simpa using hy)⟩
          have hL := hL.ex hxw (hW.off (by simp))
          have hQ := hQ.wr hxw (by simp)
          refine r_aload_n (pc2 := 114) 0 dX8_beginAt_113 rfl rfl rfl rfl ?_
          refine r_iload_n (pc2 := 115) 2 dX8_beginAt_114 rfl rfl rfl ?_
          refine r_putfX (pc2 := 118) [.ref 82, .ref s, .int (nI (a 27)), .int (nI (tws (packS a))), .int (nI (a 26)), .ref (q + 1), .ref (q + 2), .int lk, .int (nI n), .int go, .int gh, .ref (q + 3), .ref (q + 4), .ref (q + 5), .ref (q + 6), .ref (q + 7), .int op, .int pa] fX8_53 dX8_beginAt_115 cq (by omega) (Nat.le_of_ble_eq_true rfl) rfl rfl rfl (fun h z115 o115 cq => ?_)
          have cfb := (o115 (q + 1) (by omega)).trans cfb
          have cod := (o115 (q + 2) (by omega)).trans cod
          have crt := (o115 (q + 3) (by omega)).trans crt
          have crh := (o115 (q + 4) (by omega)).trans crh
          have cnz := (o115 (q + 5) (by omega)).trans cnz
          have csh := (o115 (q + 6) (by omega)).trans csh
          have cps := (o115 (q + 7) (by omega)).trans cps
          have c82 := (o115 82 (by omega)).trans c82
          have hxw : Ex [q] _ h := ⟨z115, fun y hy => o115 y (by simpa using hy)⟩
          have hL := hL.ex hxw (hW.off (by simp))
          have hQ := hQ.wr hxw (by simp)
          refine r_aload_n (pc2 := 119) 0 dX8_beginAt_118 rfl rfl rfl rfl ?_
          refine r_iconst (pc2 := 120) (v := 0) dX8_beginAt_119 (by decide) rfl ?_
          refine r_cast (nI 0) (rfl) ?_
          refine r_putfX (pc2 := 123) [.ref 82, .ref s, .int (nI (a 27)), .int (nI (tws (packS a))), .int (nI (a 26)), .ref (q + 1), .ref (q + 2), .int (nI 0), .int (nI n), .int go, .int gh, .ref (q + 3), .ref (q + 4), .ref (q + 5), .ref (q + 6), .ref (q + 7), .int op, .int pa] fX8_59 dX8_beginAt_120 cq (by omega) (Nat.le_of_ble_eq_true rfl) rfl rfl rfl (fun h z120 o120 cq => ?_)
          have cfb := (o120 (q + 1) (by omega)).trans cfb
          have cod := (o120 (q + 2) (by omega)).trans cod
          have crt := (o120 (q + 3) (by omega)).trans crt
          have crh := (o120 (q + 4) (by omega)).trans crh
          have cnz := (o120 (q + 5) (by omega)).trans cnz
          have csh := (o120 (q + 6) (by omega)).trans csh
          have cps := (o120 (q + 7) (by omega)).trans cps
          have c82 := (o120 82 (by omega)).trans c82
          have hxw : Ex [q] _ h := ⟨z120, fun y hy => o120 y (by simpa using hy)⟩
          have hL := hL.ex hxw (hW.off (by simp))
          have hQ := hQ.wr hxw (by simp)
          refine r_aload_n (pc2 := 124) 0 dX8_beginAt_123 rfl rfl rfl rfl ?_
          refine r_iconst (pc2 := 125) (v := 0) dX8_beginAt_124 (by decide) rfl ?_
          refine r_cast (nI 0) (rfl) ?_
          refine r_putfX (pc2 := 128) [.ref 82, .ref s, .int (nI (a 27)), .int (nI (tws (packS a))), .int (nI (a 26)), .ref (q + 1), .ref (q + 2), .int (nI 0), .int (nI 0), .int go, .int gh, .ref (q + 3), .ref (q + 4), .ref (q + 5), .ref (q + 6), .ref (q + 7), .int op, .int pa] fX8_56 dX8_beginAt_125 cq (by omega) (Nat.le_of_ble_eq_true rfl) rfl rfl rfl (fun h z125 o125 cq => ?_)
          have cfb := (o125 (q + 1) (by omega)).trans cfb
          have cod := (o125 (q + 2) (by omega)).trans cod
          have crt := (o125 (q + 3) (by omega)).trans crt
          have crh := (o125 (q + 4) (by omega)).trans crh
          have cnz := (o125 (q + 5) (by omega)).trans cnz
          have csh := (o125 (q + 6) (by omega)).trans csh
          have cps := (o125 (q + 7) (by omega)).trans cps
          have c82 := (o125 82 (by omega)).trans c82
          have hxw : Ex [q] _ h := ⟨z125, fun y hy => o125 y (by simpa using hy)⟩
          have hL := hL.ex hxw (hW.off (by simp))
          have hQ := hQ.wr hxw (by simp)
          refine r_aload_n (pc2 := 129) 0 dX8_beginAt_128 rfl rfl rfl rfl ?_
          refine r_iload_n (pc2 := 130) 1 dX8_beginAt_129 rfl rfl rfl ?_
          refine r_bipush (pc2 := 132) (v := 10) dX8_beginAt_130 (by decide) rfl ?_
          refine r_imul (pc2 := 133) dX8_beginAt_132 rfl ?_
          refine r_cast (nI (tws (packS a) * 10)) (pk_mul _ 10) ?_
          refine r_iload_n (pc2 := 134) 2 dX8_beginAt_133 rfl rfl rfl ?_
          refine r_iadd (pc2 := 135) dX8_beginAt_134 rfl ?_
          refine r_cast (nI (cst (packS a))) (by rw [nI_add]; exact congrArg nI (by unfold cst; rw [hA.pdep]; omega)) ?_
          refine r_iconst (pc2 := 136) (v := -1) dX8_beginAt_135 (by decide) rfl ?_
          refine r_callV0 (pc2 := 139) (As := [.int (nI (cst (packS a))), .int (-1)]) (st := []) kX8_62 rfl rfl dX8_beginAt_136 cq (by omega) rfl rfl (Nat.le_of_ble_eq_true rfl) (by omega) (c_find1 (x := cst (packS a)) (F := 0) cq cfb cod hq139 hcl rfl (by decide) (hfz _ hcl)) rfl (fun h hq136 => ?_)
          obtain ⟨hxf, cq, cfb, cod⟩ := hq136
          have crt := hxf.get (by simp <;> omega) crt
          have crh := hxf.get (by simp <;> omega) crh
          have cnz := hxf.get (by simp <;> omega) cnz
          have csh := hxf.get (by simp <;> omega) csh
          have cps := hxf.get (by simp <;> omega) cps
          have c82 := hxf.get (by simp <;> omega) c82
          have hL := hL.ex hxf (hW.off (by simp))
          have hQ := hQ.wr hxf (by simp)
          exact r_vret rfl dX8_beginAt_139 ⟨rfl, [(packS a)], fun _ => 1, _, 0, go, gh, rt, rh, ⟨_, nz, sh, ps, op, pa, cq, cfb, cod, cnz, csh, cps, hz0, BF.init hsg hcl hfz⟩, crt, crh, hrt, hL, hQ⟩
        · exact absurd (nI_le (by omega) (by omega)) b64
      | succ m ih =>
        intro i h fb u3 hi hfx hQ hL cq cfb cod crt crh cnz csh cps c82
        have hlt : i < n := by omega
        refine r_iload (pc2 := 60) 4 dX8_beginAt_58 rfl rfl ?_
        refine r_aload_n (pc2 := 61) 0 dX8_beginAt_60 rfl rfl rfl rfl ?_
        refine r_getf (pc2 := 64) (v := .int (nI n)) fX8_56 dX8_beginAt_61 cq (by omega) rfl rfl ?_
        refine r_icmp_ge (tgt := 86) (pc2 := 67) dX8_beginAt_64 (by decide) rfl (fun b64 => ?_) (fun b64 => ?_)
        · exact absurd b64 (nI_ge hlt (by omega))
        · skip
          refine r_aload_n (pc2 := 68) 0 dX8_beginAt_67 rfl rfl rfl rfl ?_
          refine r_getf (pc2 := 71) (v := .ref (q + 1)) fX8_15 dX8_beginAt_68 cq (by omega) rfl rfl ?_
          refine r_aload_n (pc2 := 72) 0 dX8_beginAt_71 rfl rfl rfl rfl ?_
          refine r_getf (pc2 := 75) (v := .ref (q + 2)) fX8_19 dX8_beginAt_72 cq (by omega) rfl rfl ?_
          refine r_iload (pc2 := 77) 4 dX8_beginAt_75 rfl rfl ?_
          refine r_ialdN (pc2 := 78) i dX8_beginAt_77 cod (by omega) rfl (by omega) (by decide) rfl ?_
          refine r_cast (nI (g i)) ((hgl i hlt).1) ?_
          refine r_iconst (pc2 := 79) (v := 0) dX8_beginAt_78 (by decide) rfl ?_
          refine r_iastN (pc2 := 80) (g i) dX8_beginAt_79 cfb (by omega) rfl (hgl i hlt).2 (by decide) rfl (fun h z79 o79 cfb => ?_)
          have cq := (o79 q (by omega)).trans cq
          have cod := (o79 (q + 2) (by omega)).trans cod
          have crt := (o79 (q + 3) (by omega)).trans crt
          have crh := (o79 (q + 4) (by omega)).trans crh
          have cnz := (o79 (q + 5) (by omega)).trans cnz
          have csh := (o79 (q + 6) (by omega)).trans csh
          have cps := (o79 (q + 7) (by omega)).trans cps
          have c82 := (o79 82 (by omega)).trans c82
          have hxw : Ex [q + 1] _ h := ⟨z79, fun y hy => o79 y (by simpa using hy)⟩
          have hL := hL.ex hxw (hW.off (by simp))
          have hQ := hQ.wr hxw (by simp)
          obtain ⟨x80, e80⟩ : ∃ z : Int32, z = (nI i) + (1) := ⟨_, rfl⟩
          refine r_iinc (pc2 := 83) (ls2 := [.ref q, .int (nI (tws (packS a))), .int (nI (a 26)), .int u3, .int x80]) (v := x80) 4 dX8_beginAt_80 rfl (by rw [e80]; rfl) rfl rfl rfl ?_
          refine r_goto (pc2 := 58) dX8_beginAt_83 (by decide) ?_
          rw [e80, nI_1]
          exact ih (i + 1) h _ (by omega) (fun x hx z => by
            by_cases y : x = g i
            · exact absurd (if_pos y) z
            · have z2 : fb x ≠ 0 := fun e => z ((if_neg y).trans e)
              obtain ⟨j, j1, j2, j3⟩ := hfx x hx z2
              exact ⟨j, by
                rcases Nat.lt_or_eq_of_le j1 with v | v
                · omega
                · subst v; exact absurd j3.symm y, j2, j3⟩) hQ hL cq cfb cod crt crh cnz csh cps c82
    have anew : ∀ (u3 : Int32), Fr E mX8_beginAt d 55 [.ref q, .int (nI (tws (packS a))), .int (nI (a 26)), .int u3, .float 0] [] h0 (fun r h2 => r = none ∧ ∃ (Q : List Nat) (Kf : Nat → Nat) (fb : Nat → Int32) (k : Nat) (go gh : Int32) (rt rh : Nat → Int64), WKB a s q (nI (tws (packS a))) (nI (a 26)) go gh Q Kf fb k h2 ∧ h2.1 (q + 3) = some (aL 24010 rt) ∧ h2.1 (q + 4) = some (aL 10 rh) ∧ (∀ x, x < 24010 → rt x = 0) ∧ LQ Z h2 reg ns s sg (a 27) kd b ∧ GQ [q, q + 1, q + 2] kd h0 h2 kd) := by
      intro u3
      refine r_iconst (pc2 := 56) (v := 0) dX8_beginAt_55 (by decide) rfl ?_
      refine r_cast (nI 0) (rfl) ?_
      refine r_istore (pc2 := 58) (ls2 := [.ref q, .int (nI (tws (packS a))), .int (nI (a 26)), .int u3, .int (nI 0)]) 4 dX8_beginAt_56 (by decide) rfl rfl rfl ?_
      exact loop n 0 h0 fb (by omega) (fun x hx z => by obtain ⟨j, j1, j2⟩ := hgx x hx z; exact ⟨j, Nat.zero_le _, j1, j2⟩) GQ.rf hL cq cfb cod crt crh cnz csh cps c82
    refine Cn.go (ls := [.ref q, .int (nI (tws (packS a))), .int (nI (a 26)), .float 0, .float 0]) (by decide +kernel) rfl (Nat.le_of_ble_eq_true rfl) ?_
    refine r_aload_n (pc2 := 1) 0 dX8_beginAt_0 rfl rfl rfl rfl ?_
    refine r_getf (pc2 := 4) (v := .ref ws) fX8_48 dX8_beginAt_1 cq (by omega) rfl rfl ?_
    refine r_aload_n (pc2 := 5) 0 dX8_beginAt_4 rfl rfl rfl rfl ?_
    refine r_getf (pc2 := 8) (v := .ref 82) fX8_38 dX8_beginAt_5 cq (by omega) rfl rfl ?_
    refine r_getf (pc2 := 11) (v := .ref s) fX8_42 dX8_beginAt_8 c82 (by decide) rfl rfl ?_
    refine r_acmp_ne (tgt := 32) (pc2 := 14) dX8_beginAt_11 hws hs64 (by decide) rfl (fun b11 => ?_) (fun b11 => ?_)
    · skip
      refine r_iconst (pc2 := 33) (v := 0) dX8_beginAt_32 (by decide) rfl ?_
      refine r_istore_n (pc2 := 34) (ls2 := [.ref q, .int (nI (tws (packS a))), .int (nI (a 26)), .int 0, .float 0]) 3 dX8_beginAt_33 rfl (by decide) rfl rfl rfl ?_
      refine r_iload_n (pc2 := 35) 3 dX8_beginAt_34 rfl rfl rfl ?_
      refine r_if_eq (tgt := 55) (pc2 := 38) dX8_beginAt_35 (by decide) rfl (fun b35 => ?_) (fun b35 => ?_)
      · skip
        exact anew _
      · exact absurd b35 (by decide)
    · skip
      refine r_aload_n (pc2 := 15) 0 dX8_beginAt_14 rfl rfl rfl rfl ?_
      refine r_getf (pc2 := 18) (v := .int wd) fX8_49 dX8_beginAt_15 cq (by omega) rfl rfl ?_
      refine r_aload_n (pc2 := 19) 0 dX8_beginAt_18 rfl rfl rfl rfl ?_
      refine r_getf (pc2 := 22) (v := .ref 82) fX8_38 dX8_beginAt_19 cq (by omega) rfl rfl ?_
      refine r_getf (pc2 := 25) (v := .int (nI (a 27))) fX8_52 dX8_beginAt_22 c82 (by decide) rfl rfl ?_
      refine r_icmp_ne (tgt := 32) (pc2 := 28) dX8_beginAt_25 (by decide) rfl (fun b25 => ?_) (fun b25 => ?_)
      · skip
        refine r_iconst (pc2 := 33) (v := 0) dX8_beginAt_32 (by decide) rfl ?_
        refine r_istore_n (pc2 := 34) (ls2 := [.ref q, .int (nI (tws (packS a))), .int (nI (a 26)), .int 0, .float 0]) 3 dX8_beginAt_33 rfl (by decide) rfl rfl rfl ?_
        refine r_iload_n (pc2 := 35) 3 dX8_beginAt_34 rfl rfl rfl ?_
        refine r_if_eq (tgt := 55) (pc2 := 38) dX8_beginAt_35 (by decide) rfl (fun b35 => ?_) (fun b35 => ?_)
        · skip
          exact anew _
        · exact absurd b35 (by decide)
      · skip
        refine r_iconst (pc2 := 29) (v := 1) dX8_beginAt_28 (by decide) rfl ?_
        refine r_goto (pc2 := 33) dX8_beginAt_29 (by decide) ?_
        refine r_istore_n (pc2 := 34) (ls2 := [.ref q, .int (nI (tws (packS a))), .int (nI (a 26)), .int 1, .float 0]) 3 dX8_beginAt_33 rfl (by decide) rfl rfl rfl ?_
        refine r_iload_n (pc2 := 35) 3 dX8_beginAt_34 rfl rfl rfl ?_
        refine r_if_eq (tgt := 55) (pc2 := 38) dX8_beginAt_35 (by decide) rfl (fun b35 => ?_) (fun b35 => ?_)
        · exact absurd b35 (by decide)
        · skip
          refine r_aload_n (pc2 := 39) 0 dX8_beginAt_38 rfl rfl rfl rfl ?_
          refine r_getf (pc2 := 42) (v := .int wst) fX8_9 dX8_beginAt_39 cq (by omega) rfl rfl ?_
          refine r_iload_n (pc2 := 43) 1 dX8_beginAt_42 rfl rfl rfl ?_
          refine r_icmp_ne (tgt := 55) (pc2 := 46) dX8_beginAt_43 (by decide) rfl (fun b43 => ?_) (fun b43 => ?_)
          · skip
            exact anew _
          · skip
            refine r_aload_n (pc2 := 47) 0 dX8_beginAt_46 rfl rfl rfl rfl ?_
            refine r_getf (pc2 := 50) (v := .int wsd) fX8_53 dX8_beginAt_47 cq (by omega) rfl rfl ?_
            refine r_iload_n (pc2 := 51) 2 dX8_beginAt_50 rfl rfl rfl ?_
            refine r_icmp_ne (tgt := 55) (pc2 := 54) dX8_beginAt_51 (by decide) rfl (fun b51 => ?_) (fun b51 => ?_)
            · skip
              exact anew _
            · exact absurd ⟨b11, b25, b43, b51⟩ hne
