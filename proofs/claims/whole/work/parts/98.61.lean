/-! street of both -/
set_option maxRecDepth 20000 in
set_option maxHeartbeats 1000000 in
theorem b_street {E : EnvT} {h : Hp} {c : Nat} {y1 : Int32} (hJ : JS h c) (hc : c < 512) : BothI E mX9_street mX10_street [.int y1] h c := by
  obtain ⟨a, hi, rs, rm, nu, fk, fp, t, tp, ⟨Z, reg, ns, s, sg, kd, w1, w2, wk, dt, b, x⟩, ⟨v, hR0, v5, v13, v14⟩, hA, hT, ht, htp⟩ := hJ
  have x0 := x
  obtain ⟨⟨xN, xD, xS, xR, xT, xI, xY, xW, x9, xK, xd⟩, ⟨hkl, hns⟩, hr1, hr2⟩ := x0
  by_cases hv : (0 : Int64) ≤ y1.toInt64 ∧ y1.toInt64 ≤ (nI t).toInt64
  · obtain ⟨hv1, hv2⟩ := hv
    rw [i2l_le] at hv2
    have hv1 : (0 : Int32) ≤ y1 := (i2l_le 0 y1).mp hv1
    obtain ⟨N, hN, rfl⟩ := nI_of (Int32.not_lt.mpr hv1)
    rw [nI_leI hN (by omega)] at hv2
    obtain ⟨f121, k121⟩ := hR0.2.2.2.2.1
    have hf0 : ∀ k, k < 1177 → plainX f121 k = plainF k := fun k hk => if_pos hk
    refine ⟨sF (pStreet tp N (plainX f121)), (cl_street xN hA xR hv2 ht htp hf0 xD.n (by decide)).mono fun r h1 q => ?_⟩
    obtain ⟨q1, qg, qs, qr, qd⟩ := q
    have key : CSt h1 (c + 1) (sA a (pStreet tp N (plainX f121))) hi rs rm nu (sK (pStreet tp N (plainX f121))) (sP (pStreet tp N (plainX f121))) 0 tp ∧ NM h h1 ∧ AIN (sA a (pStreet tp N (plainX f121))) := by
      rcases qd with ⟨⟨g, ex⟩, qn⟩ | ⟨p, fr, ex, qn, qt⟩
      · obtain ⟨u1, u2⟩ := cs_sE x hA qs qg qn qr
        refine ⟨?_, u2, ?_⟩
        · have e : sA a (pStreet tp N (plainX f121)) = a := by rw [ex]; rfl
          rw [e]
          exact u1
        · rw [ex]
          exact hA
      · have hI : LnI N 0 (.ok (p, fr)) := by rw [← ex]; exact i_street hf0
        rw [ex] at qn qr ⊢
        obtain ⟨u1, u2⟩ := cs_sO x hA (by omega) qs qg hI (by omega) qn qt qr
        exact ⟨u1, u2, FK.ain hI (by omega) (fun k hk => sA_lo hk)⟩
    obtain ⟨qc, qm, qa⟩ := key
    have hR := hR0.nm qm
    exact ⟨q1, ⟨v, hR.1⟩, (ref_street hR v5 ht hv2 htp (by decide)).mono fun r2 h2 q2 => JS.mkV qc ⟨qa, hT, Nat.zero_le _, htp⟩ (q2 f121 ((qm 121 (by decide) (by decide)).trans k121))⟩
  · refine ⟨-3, (cl_streetN xN xR hv).mono fun r h1 q => ?_⟩
    obtain ⟨q1, rfl⟩ := q
    obtain ⟨qc, qm⟩ := cs_tr x hA Ex.rf xT
    have hR := hR0.nm qm
    exact ⟨q1, ⟨v, hR.1⟩, (ref_streetN hR (by rw [v5]; exact hv) (by decide)).mono fun r2 h2 q2 => by
      rw [v5, v13, v14] at q2
      exact JS.mkV qc ⟨hA, hT, ht, htp⟩ q2⟩
