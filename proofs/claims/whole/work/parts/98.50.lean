/-! the class's reader: a street's head; a street -/
theorem tkV_lt {tp : Nat → Nat} {n lo H : Nat} (y : PY) : tkV tp n lo H y < 1000 := by
  match y with
  | .error e => exact Nat.zero_lt_succ _
  | .ok p =>
    show (if _ then _ else _) < 1000
    split
    · exact lxN_lt tp n p
    · exact Nat.zero_lt_succ _
theorem LN.er {tp : Nat → Nat} {n q : Nat} {ta sg : Int32} {x x2 : PX FR} {h : Hp} {g : Nat × Nat} (l : LN tp n ta sg q x h) (h1 : yo tp n x = .error g) (h2 : yo tp n x2 = .error g) : LN tp n ta sg q x2 h := by
  obtain ⟨t, ne, inz, pt, cl, k, f1, f2, w, nl, sl, c65, hT, c67, cq, c1, c2, c3, hg, hpt, hq, hM⟩ := l
  exact ⟨t, ne, inz, pt, cl, k, f1, f2, w, nl, sl, c65, by rw [h2, ← h1]; exact hT, c67, cq, c1, c2, c3, hg, hpt, hq, fun p fr z1 z2 => by rw [z1, yo_ok z2] at h2; cases h2⟩
theorem lines_26 {tp : Nat → Nat} {n m p : Nat} {fr : FR} (h : lxK tp n p = 26) : pLines tp n (m + 1) p fr = .error (1, lxS tp n p) := by
  have e : pLine tp n p fr = .error (1, lxS tp n p) := by
    unfold pLine
    rw [if_neg (by rw [h]; decide), if_neg (by rw [h]; decide), if_neg (by rw [h]; decide), if_neg (by rw [h]; decide), if_neg (by rw [h]; decide), if_neg (by rw [h]; decide), if_neg (by rw [h]; decide), if_neg (by rw [h]; decide)]
    unfold pFl
    rw [if_pos h]
  rw [pLines_s, if_neg (by rw [h]; decide), e]
  rfl
theorem lines_25 {tp : Nat → Nat} {n m p : Nat} {fr : FR} (h : lxK tp n p = 25) : pLines tp n m p fr = .ok (p, fr) := by
  cases m with
  | zero => rfl
  | succ m => rw [pLines_s, if_pos h]
theorem ck0 {tp : Nat → Nat} {n p : Nat} (ht : TOk tp n) (h26 : lxK tp n p ≠ 26) : ckK tp n p = 0 ↔ lxK tp n p = 25 := by
  rcases tk_cases ht h26 with z | z | z | z
  · exact ⟨fun _ => z.2.2, fun _ => z.2.1⟩
  · have := kF_le (wordL tp (lxS tp n p) (lxE tp n p)) 23 0 (by decide)
    exact ⟨fun y => by omega, fun y => by omega⟩
  · exact ⟨fun y => by omega, fun y => by omega⟩
  · exact ⟨fun y => by omega, fun y => by omega⟩
abbrev headX (tp : Nat → Nat) (n : Nat) (x : PX FR) : PX FR := bnd (bnd (bnd (bnd (bnd (bnd x (pEat tp n 0)) (pSet tp n 1 (fun _ => 7) 1)) (pEat tp n 1)) (pSet tp n 0 (fun fr => fr 1) 2)) (pEat tp n 2)) (pSet tp n 1 (fun _ => 10) 26)
set_option maxRecDepth 20000 in
set_option maxHeartbeats 1000000 in
theorem L_head {E : EnvT} {d : Nat} {h0 : Hp} {tp : Nat → Nat} {n : Nat} {ta sg : Int32} {q : Nat} {x : PX FR} (hL : LN tp n ta sg q x h0) (hP : TPo tp h0) (ht : TOk tp n) (hd : 7 ≤ d) : Cn E mX3_readHead d [.ref 65] h0 (LNQ tp n ta sg q h0 x (bnd (headX tp n x) (pEnds tp n))) := by
  have hP0 := hP
  obtain ⟨t, ne, inz, pt, cl, k, f1, f2, w, nl, sl, c65, hT, ⟨cd, c67⟩, cq, c1, c2, c3, hg, hpt, hq, hM⟩ := hL
  have hq1 := hq.1
  have hx : Ex [65, q, q + 3] h0 h0 := Ex.rf
  have yo1 : yo tp n (bnd x (pEat tp n 0)) = (eatY tp n (kx 0) (yo tp n x)) := yo_eat (by decide) x
  have yo2 : yo tp n (bnd (bnd x (pEat tp n 0)) (pSet tp n 1 (fun _ => 7) 1)) = (tkY tp n 1 7 (eatY tp n (kx 0) (yo tp n x))) := by rw [yoS (Hn := 7) _ (fun _ _ _ => rfl), yo1]
  have yo3 : yo tp n (bnd (bnd (bnd x (pEat tp n 0)) (pSet tp n 1 (fun _ => 7) 1)) (pEat tp n 1)) = (eatY tp n (kx 1) (tkY tp n 1 7 (eatY tp n (kx 0) (yo tp n x)))) := by rw [yo_eat (by decide), yo2]; rfl
  have yo4 : yo tp n (bnd (bnd (bnd (bnd x (pEat tp n 0)) (pSet tp n 1 (fun _ => 7) 1)) (pEat tp n 1)) (pSet tp n 0 (fun fr => fr 1) 2)) = (tkY tp n 0 (tkV tp n 1 7 (eatY tp n (kx 0) (yo tp n x))) (eatY tp n (kx 1) (tkY tp n 1 7 (eatY tp n (kx 0) (yo tp n x))))) := by
    rw [yoS (Hn := (tkV tp n 1 7 (eatY tp n (kx 0) (yo tp n x)))) _ (fun p3 e3 s6 => by
      obtain ⟨p2, s9, s10⟩ := eatB_in (by decide) s6
      obtain ⟨p1, e1, s11, s12, s13⟩ := setB_in s9
      show e3 1 = _
      rw [s13, yo1]
      exact va_up_self _ _ _), yo3]
  have yo5 : yo tp n (bnd (bnd (bnd (bnd (bnd x (pEat tp n 0)) (pSet tp n 1 (fun _ => 7) 1)) (pEat tp n 1)) (pSet tp n 0 (fun fr => fr 1) 2)) (pEat tp n 2)) = (eatY tp n (kx 2) (tkY tp n 0 (tkV tp n 1 7 (eatY tp n (kx 0) (yo tp n x))) (eatY tp n (kx 1) (tkY tp n 1 7 (eatY tp n (kx 0) (yo tp n x)))))) := by rw [yo_eat (by decide), yo4]; rfl
  have yo6 : yo tp n (headX tp n x) = (tkY tp n 1 10 (eatY tp n (kx 2) (tkY tp n 0 (tkV tp n 1 7 (eatY tp n (kx 0) (yo tp n x))) (eatY tp n (kx 1) (tkY tp n 1 7 (eatY tp n (kx 0) (yo tp n x))))))) := by
    show yo tp n (bnd _ _) = _
    rw [yoS (Hn := 10) _ (fun _ _ _ => rfl), yo5]
  have pl6 : plY tp n (yo tp n x) ≤ plY tp n (tkY tp n 1 10 (eatY tp n (kx 2) (tkY tp n 0 (tkV tp n 1 7 (eatY tp n (kx 0) (yo tp n x))) (eatY tp n (kx 1) (tkY tp n 1 7 (eatY tp n (kx 0) (yo tp n x))))))) := Nat.le_trans (plY_eat (by decide) _) (Nat.le_trans (plY_tk _) (Nat.le_trans (plY_eat (by decide) _) (Nat.le_trans (plY_tk _) (Nat.le_trans (plY_eat (by decide) _) (plY_tk _)))))
  refine Cn.go (ls := [.ref 65]) (by decide +kernel) rfl (Nat.le_of_ble_eq_true rfl) ?_
  refine r_aload_n (pc2 := 1) 0 dX3_readHead_0 rfl rfl rfl rfl ?_
  refine r_getf (pc2 := 4) (v := .ref q) fX3_28 dX3_readHead_1 c65 (by decide) rfl rfl ?_
  refine r_aload_n (pc2 := 5) 0 dX3_readHead_4 rfl rfl rfl rfl ?_
  refine r_ldcS (pc2 := 7) 0 (by decide) rfl rfl dX3_readHead_5 rfl ?_
  refine r_iconst (pc2 := 8) (v := 1) dX3_readHead_7 (by decide) rfl ?_
  refine r_bipush (pc2 := 10) (v := 6) dX3_readHead_8 (by decide) rfl ?_
  refine r_callV1 (pc2 := 13) (As := [.ref 0, .int 1, .int 6]) (st := [.ref q]) kX3_108 rfl rfl dX3_readHead_10 c65 (by decide) rfl rfl (Nat.le_of_ble_eq_true rfl) (by omega) (c_passWordNumber (x := 0) (lo := 1) (H := 7) (t := t) (y := (yo tp n x)) (by decide) (fun _ _ => ⟨rfl, rfl⟩) (by decide) (by decide) c65 hT hP ht (by omega)) rfl (fun h hq10 => ?_)
  obtain ⟨hxa, t1, c65, hT1⟩ := hq10
  have cq := hxa.get (by simp <;> omega) cq
  have c3 := hxa.get (by simp <;> omega) c3
  have hx := hx.trans hxa (by simp)
  refine r_putfX (pc2 := 16) [.int sg, .int (k 0), .int (nI (tkV tp n 1 7 (eatY tp n (kx 0) (yo tp n x)))), .int (k 2), .int (k 3), .ref (q + 1), .ref (q + 2), .int (k 4), .int (k 5), .int (k 6), .ref (q + 3), nl, sl] fX3_112 dX3_readHead_13 cq (by omega) (Nat.le_of_ble_eq_true rfl) rfl rfl rfl (fun h z13 o13 cq => ?_)
  have c65 := (o13 65 (by omega)).trans c65
  have c3 := (o13 (q + 3) (by omega)).trans c3
  have hx := hx.step (a := q) (by simp) z13 o13
  have hP := hP0.ex hx (by simp <;> omega)
  refine r_aload_n (pc2 := 17) 0 dX3_readHead_16 rfl rfl rfl rfl ?_
  refine r_getf (pc2 := 20) (v := .ref q) fX3_28 dX3_readHead_17 c65 (by decide) rfl rfl ?_
  refine r_aload_n (pc2 := 21) 0 dX3_readHead_20 rfl rfl rfl rfl ?_
  refine r_ldcS (pc2 := 23) 1 (by decide) rfl rfl dX3_readHead_21 rfl ?_
  refine r_iconst (pc2 := 24) (v := 0) dX3_readHead_23 (by decide) rfl ?_
  refine r_aload_n (pc2 := 25) 0 dX3_readHead_24 rfl rfl rfl rfl ?_
  refine r_getf (pc2 := 28) (v := .ref q) fX3_28 dX3_readHead_25 c65 (by decide) rfl rfl ?_
  refine r_getf (pc2 := 31) (v := .int (nI (tkV tp n 1 7 (eatY tp n (kx 0) (yo tp n x))))) fX3_112 dX3_readHead_28 cq (by omega) rfl rfl ?_
  refine r_iconst (pc2 := 32) (v := 1) dX3_readHead_31 (by decide) rfl ?_
  refine r_isub (pc2 := 33) dX3_readHead_32 rfl ?_
  refine r_callV1 (pc2 := 36) (As := [.ref 1, .int 0, .int ((nI (tkV tp n 1 7 (eatY tp n (kx 0) (yo tp n x)))) - 1)]) (st := [.ref q]) kX3_108 rfl rfl dX3_readHead_33 c65 (by decide) rfl rfl (Nat.le_of_ble_eq_true rfl) (by omega) (c_passWordNumber (x := 1) (lo := 0) (H := (tkV tp n 1 7 (eatY tp n (kx 0) (yo tp n x)))) (t := t1) (y := (tkY tp n 1 7 (eatY tp n (kx 0) (yo tp n x)))) (by decide) (fun _ _ => ⟨rfl, rfl⟩) (by decide) (Nat.le_of_lt (tkV_lt _)) c65 hT1 hP ht (by omega)) rfl (fun h hq33 => ?_)
  obtain ⟨hxa, t2, c65, hT2⟩ := hq33
  have cq := hxa.get (by simp <;> omega) cq
  have c3 := hxa.get (by simp <;> omega) c3
  have hx := hx.trans hxa (by simp)
  refine r_putfX (pc2 := 39) [.int sg, .int (k 0), .int (nI (tkV tp n 1 7 (eatY tp n (kx 0) (yo tp n x)))), .int (nI (tkV tp n 0 (tkV tp n 1 7 (eatY tp n (kx 0) (yo tp n x))) (eatY tp n (kx 1) (tkY tp n 1 7 (eatY tp n (kx 0) (yo tp n x)))))), .int (k 3), .ref (q + 1), .ref (q + 2), .int (k 4), .int (k 5), .int (k 6), .ref (q + 3), nl, sl] fX3_117 dX3_readHead_36 cq (by omega) (Nat.le_of_ble_eq_true rfl) rfl rfl rfl (fun h z36 o36 cq => ?_)
  have c65 := (o36 65 (by omega)).trans c65
  have c3 := (o36 (q + 3) (by omega)).trans c3
  have hx := hx.step (a := q) (by simp) z36 o36
  have hP := hP0.ex hx (by simp <;> omega)
  refine r_aload_n (pc2 := 40) 0 dX3_readHead_39 rfl rfl rfl rfl ?_
  refine r_getf (pc2 := 43) (v := .ref q) fX3_28 dX3_readHead_40 c65 (by decide) rfl rfl ?_
  refine r_getf (pc2 := 46) (v := .ref (q + 3)) fX3_119 dX3_readHead_43 cq (by omega) rfl rfl ?_
  refine r_aload_n (pc2 := 47) 0 dX3_readHead_46 rfl rfl rfl rfl ?_
  refine r_ldcS (pc2 := 49) 2 (by decide) rfl rfl dX3_readHead_47 rfl ?_
  refine r_iconst (pc2 := 50) (v := 1) dX3_readHead_49 (by decide) rfl ?_
  refine r_bipush (pc2 := 52) (v := 9) dX3_readHead_50 (by decide) rfl ?_
  refine r_callV1 (pc2 := 55) (As := [.ref 2, .int 1, .int 9]) (st := [.ref (q + 3)]) kX3_108 rfl rfl dX3_readHead_52 c65 (by decide) rfl rfl (Nat.le_of_ble_eq_true rfl) (by omega) (c_passWordNumber (x := 2) (lo := 1) (H := 10) (t := t2) (y := (tkY tp n 0 (tkV tp n 1 7 (eatY tp n (kx 0) (yo tp n x))) (eatY tp n (kx 1) (tkY tp n 1 7 (eatY tp n (kx 0) (yo tp n x)))))) (by decide) (fun _ _ => ⟨rfl, rfl⟩) (by decide) (by decide) c65 hT2 hP ht (by omega)) rfl (fun h hq52 => ?_)
  obtain ⟨hxa, t3, c65, hT3⟩ := hq52
  have cq := hxa.get (by simp <;> omega) cq
  have c3 := hxa.get (by simp <;> omega) c3
  have hx := hx.trans hxa (by simp)
  refine r_putfX (pc2 := 58) [.int w.1, .int (nI (tkV tp n 1 10 (eatY tp n (kx 2) (tkY tp n 0 (tkV tp n 1 7 (eatY tp n (kx 0) (yo tp n x))) (eatY tp n (kx 1) (tkY tp n 1 7 (eatY tp n (kx 0) (yo tp n x)))))))), .long w.2.2.1, .long w.2.2.2.1, .int w.2.2.2.2.1, .int w.2.2.2.2.2] fX3_124 dX3_readHead_55 c3 (by omega) (Nat.le_of_ble_eq_true rfl) rfl rfl rfl (fun h z55 o55 c3 => ?_)
  have c65 := (o55 65 (by omega)).trans c65
  have cq := (o55 q (by omega)).trans cq
  have hx := hx.step (a := (q + 3)) (by simp) z55 o55
  have hP := hP0.ex hx (by simp <;> omega)
  have hL6 : LN tp n ta sg q (headX tp n x) h := ⟨t3, ne, inz, pt, cl, upd (upd k 1 (nI (tkV tp n 1 7 (eatY tp n (kx 0) (yo tp n x))))) 2 (nI (tkV tp n 0 (tkV tp n 1 7 (eatY tp n (kx 0) (yo tp n x))) (eatY tp n (kx 1) (tkY tp n 1 7 (eatY tp n (kx 0) (yo tp n x)))))), f1, f2, (w.1, nI (tkV tp n 1 10 (eatY tp n (kx 2) (tkY tp n 0 (tkV tp n 1 7 (eatY tp n (kx 0) (yo tp n x))) (eatY tp n (kx 1) (tkY tp n 1 7 (eatY tp n (kx 0) (yo tp n x))))))), w.2.2), nl, sl, c65, by rw [yo6]; exact hT3, ⟨cd, hx.get (by simp <;> omega) c67⟩, cq, hx.get (by simp <;> omega) c1, hx.get (by simp <;> omega) c2, c3, hg, hpt, by rw [hx.1]; exact hq, fun p2 fr2 z1 z2 => by
    obtain ⟨p5, e5, s1, s2, s3⟩ := setB_in z1
    obtain ⟨p4, s4, s5⟩ := eatB_in (by decide) s1
    obtain ⟨p3, e3, s6, s7, s8⟩ := setB_in s4
    obtain ⟨p2, s9, s10⟩ := eatB_in (by decide) s6
    obtain ⟨p1, e1, s11, s12, s13⟩ := setB_in s9
    obtain ⟨p0, s14, s15⟩ := eatB_in (by decide) s11
    have z3 : e3 1 = (tkV tp n 1 7 (eatY tp n (kx 0) (yo tp n x))) := by rw [s13, yo1]; exact va_up_self _ _ _
    rw [yo3, z3] at s8
    rw [yo5] at s3
    rw [yo1] at s13
    rw [s3, s8, s13]
    exact (((hM p0 e1 s14 s15).gr (Nat.le_of_eq (congrArg Prod.fst hx.1).symm) (fun y hy _ => hx.2 y (by simp <;> omega))).fk (i := 1) (j := 1) (by simp)).fk (i := 2) (j := 2) (by simp) |>.w26⟩
  refine r_aload_n (pc2 := 59) 0 dX3_readHead_58 rfl rfl rfl rfl ?_
  refine r_callV0 (pc2 := 62) (As := []) (st := []) kX3_128 rfl rfl dX3_readHead_59 c65 (by decide) rfl rfl (Nat.le_of_ble_eq_true rfl) (by omega) (L_end hL6 hP ht (by omega)) rfl (fun h hq59 => ?_)
  obtain ⟨g1, g2, g3⟩ := hq59
  exact r_vret rfl dX3_readHead_62 ⟨rfl, (hx.gx.mono (by simp)).trans g1 (fun _ z => z), (RmL.same hx.1 (by rw [plc_eqY x, plc_eqY (headX tp n x), yo6]; exact pl6)).trans g2, g3⟩
theorem MFr0 {h : Hp} {q : Nat} {f0 : FR} (hf : ∀ k, k < 1177 → f0 k = plainF k) : MFr h q f0 (fun j => if j = 1 then 1 else 0) (fun _ => 0) (fun _ => 0) (0, 9, 0, 0, 0, 0) .null .null 0 := by
  have e : ∀ k, k < 1177 → k ≠ 1 → k ≠ 26 → f0 k = 0 := fun k h1 h2 h3 => by rw [hf k h1]; unfold plainF; rw [if_neg h2, if_neg h3]
  have e1 : f0 1 = 1 := hf 1 (by omega)
  refine ⟨⟨?_, ?_, ?_, ?_, ?_, ?_, ?_, ?_⟩, fun j hj => ?_, fun j hj => ?_, ?_, Or.inl ⟨e _ (by omega) (by omega) (by omega), rfl⟩, Or.inl ⟨e _ (by omega) (by omega) (by omega), rfl⟩, fun j _ hj => e _ (by omega) (by omega) (by omega)⟩
  · rw [e 0 (by omega) (by omega) (by omega)]; rfl
  · rw [e1]; rfl
  · rw [e 2 (by omega) (by omega) (by omega)]; rfl
  · rw [e 3 (by omega) (by omega) (by omega)]; rfl
  · rw [e 4 (by omega) (by omega) (by omega)]; rfl
  · rw [e 6 (by omega) (by omega) (by omega)]; rfl
  · rw [e 7 (by omega) (by omega) (by omega)]; rfl
  · rw [e 5 (by omega) (by omega) (by omega)]; rfl
  · rw [e _ (by omega) (by omega) (by omega)]; rfl
  · rw [e _ (by omega) (by omega) (by omega)]; rfl
  · rw [sdL_congr (k2 := fun k => if k = 4 then 9 else 0) (fun j hj => by
      show f0 (22 + j) = _
      rw [hf _ (by omega)]
      unfold plainF
      by_cases h4 : j = 4
      · subst h4; rfl
      · rw [if_neg (by omega), if_neg (by omega), if_neg h4])]
    rfl
theorem LnI.pl {tp : Nat → Nat} {n q : Nat} {x : PX FR} (h : LnI n q x) : plc tp n x ≤ n := by
  match x, h.1 with
  | .ok (p, fr), w => exact lxS_n w.2.1
  | .error (w, a), w2 => exact w2.2.2
set_option maxRecDepth 20000 in
set_option maxHeartbeats 1000000 in
theorem c_read {E : EnvT} {d : Nat} {h0 : Hp} {fk fp sg : Int32} {t N : Nat} {tp : Nat → Nat} {f0 : FR} (hR : MR h0 fk fp t tp) (hN : N ≤ t) (ht9 : t ≤ 900) (htp : ∀ k, k < 900 → tp k < 256) (hf0 : ∀ k, k < 1177 → f0 k = plainF k) (h139 : 139 ≤ h0.2.1) (hd : 63 ≤ d) : Cn E mX3_read d [.ref 65, .int (nI N), .int sg] h0 (fun r h2 => ∃ v9, r = some v9 ∧ ((v9 = .ref h0.2.1 ∧ ∃ p fr, (pStreet tp N f0) = .ok (p, fr) ∧ lxK tp N p = 25) ∨ (v9 = .null ∧ ∃ g, (pStreet tp N f0) = .error g)) ∧ Gx [65, 67] h0 h2 ∧ (5 * h2.2.1 ≤ 5 * h0.2.1 + 20 + N ∧ h2.2.2 ≤ h0.2.2 + 27 + N) ∧ LN tp N 0 sg h0.2.1 (pStreet tp N f0) h2) := by
  obtain ⟨⟨y4, y5, y6, y7, y8, y9, y10, y12, y13, c65⟩, ⟨tb, c66, htb⟩, cd, c67⟩ := hR
  have hTO : TOk tp N := ⟨by omega, htp⟩
  have hmin : ∀ h : Hp, Cn E mJ9_min_7cf53 (d - 1) [.int (nI N), .int 900] h (fun r h2 => r = some (.int (nI N)) ∧ h2 = h) := fun h => (c_min (nI N) 900).mono fun r h2 q => ⟨q.1.trans (by rw [if_pos (show nI N ≤ 900 from nI_le (b := 900) (by omega) (by decide))]), q.2⟩
  have loop : ∀ (q : Nat) (hE : Hp), q = h0.2.1 → hE.2.1 = q + 4 → hE.2.2 = h0.2.2 + 27 → (∀ b, b < h0.2.1 → b ≠ 65 → hE.1 b = h0.1 b) → TPo tp hE → ∀ (m i : Nat) (x : PX FR) (h : Hp), i + m = 901 → LnI N i x → LN tp N 0 sg q x h → Gx (UWc q) hE h → RmL tp N hE h (.ok (0, f0)) x → Fr E mX3_read d 58 [.ref 65, .int (nI N), .int sg, .int (nI i)] [] h (fun r h2 => ∃ v9, r = some v9 ∧ ((v9 = .ref h0.2.1 ∧ ∃ p fr, (bnd x (pLines tp N m)) = .ok (p, fr) ∧ lxK tp N p = 25) ∨ (v9 = .null ∧ ∃ g, (bnd x (pLines tp N m)) = .error g)) ∧ Gx [65, 67] h0 h2 ∧ (5 * h2.2.1 ≤ 5 * h0.2.1 + 20 + N ∧ h2.2.2 ≤ h0.2.2 + 27 + N) ∧ LN tp N 0 sg h0.2.1 (bnd x (pLines tp N m)) h2) := by
    intro q hE eq hE1 hE2 chE hPE
    have exit : ∀ (x X : PX FR) (h : Hp) (iv : Int32), LN tp N 0 sg q X h → LnI N 0 X → Gx (UWc q) hE h → RmL tp N hE h (.ok (0, f0)) X → ((∃ p fr, X = .ok (p, fr) ∧ lxK tp N p = 25) ∨ ∃ g, X = .error g) → Fr E mX3_read d 82 [.ref 65, .int (nI N), .int sg, .int iv] [] h (fun r h2 => ∃ v9, r = some v9 ∧ ((v9 = .ref h0.2.1 ∧ ∃ p fr, X = .ok (p, fr) ∧ lxK tp N p = 25) ∨ (v9 = .null ∧ ∃ g, X = .error g)) ∧ Gx [65, 67] h0 h2 ∧ (5 * h2.2.1 ≤ 5 * h0.2.1 + 20 + N ∧ h2.2.2 ≤ h0.2.2 + 27 + N) ∧ LN tp N 0 sg h0.2.1 X h2) := by
      intro x X h iv hL hI hgx hrm hcs
      have hGf : Gx [65, 67] h0 h := ⟨by have := hgx.1; omega, fun b b1 b2 => by
        have b3 : b ≠ 65 ∧ b ≠ 67 := by simpa using b2
        exact (hgx.2 b (by omega) (by simp <;> omega)).trans (chE b b1 b3.1)⟩
      have hRf : 5 * h.2.1 ≤ 5 * h0.2.1 + 20 + N ∧ h.2.2 ≤ h0.2.2 + 27 + N := by
        have := hI.pl (tp := tp)
        unfold RmL at hrm
        omega
      obtain ⟨t, ne, inz, pt, cl, k, f1, f2, w, nl, sl, c65, hT, _⟩ := id hL
      rcases hcs with hok | hok
      · have hz : t.1 = 0 := by
          obtain ⟨p, fr, z1, z2⟩ := hok
          rw [z1, yo_ok (by rw [z2]; decide)] at hT
          rw [hT.2.2]
        refine r_aload_n (pc2 := 83) 0 dX3_read_82 rfl rfl rfl rfl ?_
        refine r_getf (pc2 := 86) (v := .int t.1) fX3_44 dX3_read_83 c65 (by decide) rfl rfl ?_
        refine r_if_ne (tgt := 96) (pc2 := 89) dX3_read_86 (by decide) rfl (fun b86 => ?_) (fun b86 => ?_)
        · exact absurd hz b86
        · skip
          refine r_aload_n (pc2 := 90) 0 dX3_read_89 rfl rfl rfl rfl ?_
          refine r_getf (pc2 := 93) (v := .ref q) fX3_28 dX3_read_90 c65 (by decide) rfl rfl ?_
          refine r_goto (pc2 := 97) dX3_read_93 (by decide) ?_
          exact r_aret rfl (Or.inl ⟨_, rfl⟩) rfl dX3_read_97 ⟨_, rfl, Or.inl ⟨by rw [← eq], hok⟩, hGf, hRf, by rw [← eq]; exact hL⟩
      · have hz : ¬ t.1 = 0 := by
          obtain ⟨g, z1⟩ := hok
          rcases TK_z hT with z | z
          · obtain ⟨_, p, z⟩ := z
            rw [z1] at z
            cases z
          · exact z.1
        refine r_aload_n (pc2 := 83) 0 dX3_read_82 rfl rfl rfl rfl ?_
        refine r_getf (pc2 := 86) (v := .int t.1) fX3_44 dX3_read_83 c65 (by decide) rfl rfl ?_
        refine r_if_ne (tgt := 96) (pc2 := 89) dX3_read_86 (by decide) rfl (fun b86 => ?_) (fun b86 => ?_)
        · skip
          refine r_null (pc2 := 97) dX3_read_96 rfl ?_
          exact r_aret rfl (Or.inl ⟨_, rfl⟩) rfl dX3_read_97 ⟨_, rfl, Or.inr ⟨rfl, hok⟩, hGf, hRf, by rw [← eq]; exact hL⟩
        · exact absurd b86 hz
    intro m
    induction m with
    | zero =>
      intro i x h hm hI hL hgx hrm
      have hcs : (∃ p fr, bnd x (pLines tp N 0) = .ok (p, fr) ∧ lxK tp N p = 25) ∨ ∃ g, bnd x (pLines tp N 0) = .error g := by
        match x, hI with
        | .error g, _ => exact Or.inr ⟨g, rfl⟩
        | .ok (p, fr), hI => have a1 := hI.1.1; have a2 := hI.1.2.1; omega
      have hX : bnd x (pLines tp N 0) = x := by match x with | .error g => rfl | .ok (p, fr) => rfl
      rw [hX] at hcs ⊢
      have hLX := hL
      have hI := hI.mono (Nat.zero_le _)
      obtain ⟨t, ne, inz, pt, cl, k, f1, f2, w, nl, sl, c65, hT, _⟩ := id hL
      refine r_iload_n (pc2 := 59) 3 dX3_read_58 rfl rfl rfl ?_
      refine r_sipush (pc2 := 62) (v := 900) dX3_read_59 (by decide) rfl ?_
      refine r_icmp_ge (tgt := 82) (pc2 := 65) dX3_read_62 (by decide) rfl (fun b62 => ?_) (fun b62 => ?_)
      · skip
        exact exit x _ h (nI i) hLX hI hgx hrm hcs
      · exact absurd (nI_le (a := 900) (by omega) (by omega)) b62
    | succ m ih =>
      intro i x h hm hI hL hgx hrm
      have hP := hPE.gx hgx (by simp <;> omega) (by omega)
      by_cases hlt : i < 900
      · rcases hy : yo tp N x with g | p
        · have hz : (∃ g, bnd x (pLines tp N (m + 1)) = .error g) ∧ yo tp N (bnd x (pLines tp N (m + 1))) = .error g := by
            match x, hy with
            | .error g2, hy => exact ⟨⟨g2, rfl⟩, hy⟩
            | .ok (p, fr), hy =>
              by_cases h26 : lxK tp N p = 26
              · rw [yo_26 h26] at hy
                cases hy
                exact ⟨⟨_, lines_26 h26⟩, by show yo tp N (pLines tp N (m + 1) p fr) = _; rw [lines_26 h26]; rfl⟩
              · rw [yo_ok h26] at hy
                cases hy
          have hLX := hL.er hy hz.2
          have hcs : (∃ p fr, bnd x (pLines tp N (m + 1)) = .ok (p, fr) ∧ lxK tp N p = 25) ∨ ∃ g, bnd x (pLines tp N (m + 1)) = .error g := Or.inr hz.1
          have hrm : RmL tp N hE h (.ok (0, f0)) (bnd x (pLines tp N (m + 1))) := by
            unfold RmL at hrm ⊢
            rw [plc_eqY (bnd x _), hz.2, ← hy, ← plc_eqY]
            exact hrm
          have hI : LnI N 0 (bnd x (pLines tp N (m + 1))) := (hI.mono (Nat.zero_le _)).b (fun p fr z => i_lines _ z)
          obtain ⟨t, ne, inz, pt, cl, k, f1, f2, w, nl, sl, c65, hT, _⟩ := id hL
          have hz : t.2.2.1 = 0 := by
            rcases TK_z hT with z | z
            · obtain ⟨_, p, z⟩ := z
              rw [hy] at z
              cases z
            · exact z.2.1
          refine r_iload_n (pc2 := 59) 3 dX3_read_58 rfl rfl rfl ?_
          refine r_sipush (pc2 := 62) (v := 900) dX3_read_59 (by decide) rfl ?_
          refine r_icmp_ge (tgt := 82) (pc2 := 65) dX3_read_62 (by decide) rfl (fun b62 => ?_) (fun b62 => ?_)
          · exact absurd b62 (nI_ge (b := 900) hlt (by decide))
          · skip
            refine r_aload_n (pc2 := 66) 0 dX3_read_65 rfl rfl rfl rfl ?_
            refine r_getf (pc2 := 69) (v := .int t.2.2.1) fX3_60 dX3_read_66 c65 (by decide) rfl rfl ?_
            refine r_if_eq (tgt := 82) (pc2 := 72) dX3_read_69 (by decide) rfl (fun b69 => ?_) (fun b69 => ?_)
            · skip
              exact exit x _ h (nI i) hLX hI hgx hrm hcs
            · exact absurd hz b69
        · match x, hy, hI, hL, hrm with
          | .ok (p2, fr), hy, hI, hL, hrm =>
            obtain ⟨e1, h26⟩ := nrp_ok (show nrp tp N p2 = .ok p from hy)
            subst e1
            obtain ⟨t, ne, inz, pt, cl, k, f1, f2, w, nl, sl, c65, hT, _⟩ := id hL
            rw [yo_ok h26] at hT
            obtain ⟨hp, _, rfl⟩ := hT
            by_cases h25 : lxK tp N p = 25
            · have eX : bnd (.ok (p, fr)) (pLines tp N (m + 1)) = .ok (p, fr) := lines_25 h25
              rw [eX]
              have hz : nI (ckK tp N p) = 0 := by rw [(ck0 hTO h26).mpr h25]; rfl
              have hLX := hL
              have hcs : (∃ p2 fr2, (.ok (p, fr) : PX FR) = .ok (p2, fr2) ∧ lxK tp N p2 = 25) ∨ ∃ g, (.ok (p, fr) : PX FR) = .error g := Or.inl ⟨p, fr, rfl, h25⟩
              have hI := hI.mono (Nat.zero_le _)
              refine r_iload_n (pc2 := 59) 3 dX3_read_58 rfl rfl rfl ?_
              refine r_sipush (pc2 := 62) (v := 900) dX3_read_59 (by decide) rfl ?_
              refine r_icmp_ge (tgt := 82) (pc2 := 65) dX3_read_62 (by decide) rfl (fun b62 => ?_) (fun b62 => ?_)
              · exact absurd b62 (nI_ge (b := 900) hlt (by decide))
              · skip
                refine r_aload_n (pc2 := 66) 0 dX3_read_65 rfl rfl rfl rfl ?_
                refine r_getf (pc2 := 69) (v := .int (nI (ckK tp N p))) fX3_60 dX3_read_66 c65 (by decide) rfl rfl ?_
                refine r_if_eq (tgt := 82) (pc2 := 72) dX3_read_69 (by decide) rfl (fun b69 => ?_) (fun b69 => ?_)
                · skip
                  exact exit (.ok (p, fr)) _ h (nI i) hLX hI hgx hrm hcs
                · exact absurd hz b69
            · have eX : bnd (.ok (p, fr)) (pLines tp N (m + 1)) = bnd (bnd (pLine tp N p fr) (pEnds tp N)) (pLines tp N m) := by
                show pLines tp N (m + 1) p fr = _
                rw [pLines_s, if_neg h25]
              rw [eX]
              have hz : ¬ nI (ckK tp N p) = 0 := fun z => h25 ((ck0 hTO h26).mp ((nI_eq (b := 0) (by have := ck_le (tp := tp) (n := N) (p := p); omega) (by decide)).mp z))
              refine r_iload_n (pc2 := 59) 3 dX3_read_58 rfl rfl rfl ?_
              refine r_sipush (pc2 := 62) (v := 900) dX3_read_59 (by decide) rfl ?_
              refine r_icmp_ge (tgt := 82) (pc2 := 65) dX3_read_62 (by decide) rfl (fun b62 => ?_) (fun b62 => ?_)
              · exact absurd b62 (nI_ge (b := 900) hlt (by decide))
              · skip
                refine r_aload_n (pc2 := 66) 0 dX3_read_65 rfl rfl rfl rfl ?_
                refine r_getf (pc2 := 69) (v := .int (nI (ckK tp N p))) fX3_60 dX3_read_66 c65 (by decide) rfl rfl ?_
                refine r_if_eq (tgt := 82) (pc2 := 72) dX3_read_69 (by decide) rfl (fun b69 => ?_) (fun b69 => ?_)
                · exact absurd b69 hz
                · skip
                  refine r_aload_n (pc2 := 73) 0 dX3_read_72 rfl rfl rfl rfl ?_
                  refine r_callV0 (pc2 := 76) (As := []) (st := []) kX3_63 rfl rfl dX3_read_73 c65 (by decide) rfl rfl (Nat.le_of_ble_eq_true rfl) (by omega) (L_line hI.1.2.2.2 hI.2 h26 h25 hL hP hTO (by omega)) rfl (fun h hq73 => ?_)
                  obtain ⟨g1, g2, g3⟩ := hq73
                  obtain ⟨xi, e76⟩ : ∃ z : Int32, z = (nI i) + (1) := ⟨_, rfl⟩
                  refine r_iinc (pc2 := 79) (ls2 := [.ref 65, .int (nI N), .int sg, .int xi]) (v := xi) 3 dX3_read_76 rfl (by rw [e76]; rfl) rfl rfl rfl ?_
                  refine r_goto (pc2 := 58) dX3_read_79 (by decide) ?_
                  rw [show xi = nI (i + 1) from e76.trans (nI_1 _)]
                  exact ih (i + 1) _ h (by omega) (i_line1 hI) g3 (hgx.trans g1 (fun _ z => z)) (hrm.trans g2)
      · have hX : bnd x (pLines tp N (m + 1)) = x ∧ ((∃ p fr, x = .ok (p, fr) ∧ lxK tp N p = 25) ∨ ∃ g, x = .error g) := by
          match x, hI with
          | .error g, _ => exact ⟨rfl, Or.inr ⟨g, rfl⟩⟩
          | .ok (p, fr), hI =>
            have a1 := hI.1.1
            have h25 : lxK tp N p = 25 := by
              unfold lxK tkK
              rw [if_pos (Nat.le_trans (by omega) (lxS_le tp N p))]
            exact ⟨lines_25 h25, Or.inl ⟨p, fr, rfl, h25⟩⟩
        have hcs := hX.2
        rw [hX.1]
        have hLX := hL
        have hI := hI.mono (Nat.zero_le _)
        obtain ⟨t, ne, inz, pt, cl, k, f1, f2, w, nl, sl, c65, hT, _⟩ := id hL
        refine r_iload_n (pc2 := 59) 3 dX3_read_58 rfl rfl rfl ?_
        refine r_sipush (pc2 := 62) (v := 900) dX3_read_59 (by decide) rfl ?_
        refine r_icmp_ge (tgt := 82) (pc2 := 65) dX3_read_62 (by decide) rfl (fun b62 => ?_) (fun b62 => ?_)
        · skip
          exact exit x _ h (nI i) hLX hI hgx hrm hcs
        · exact absurd (nI_le (a := 900) (by omega) (by omega)) b62
  have hx : Ex [65] h0 h0 := Ex.rf
  refine Cn.go (ls := [.ref 65, .int (nI N), .int sg, .float 0]) (by decide +kernel) rfl (Nat.le_of_ble_eq_true rfl) ?_
  refine r_aload_n (pc2 := 1) 0 dX3_read_0 rfl rfl rfl rfl ?_
  refine r_iconst (pc2 := 2) (v := 0) dX3_read_1 (by decide) rfl ?_
  refine r_putfX (pc2 := 5) [.int fk, .int fp, .int 0, .ref 66, .int y4, .int y5, .int y6, .int y7, .int y8, .int y9, .int y10, .ref 67, .int y12, y13] fX3_32 dX3_read_2 c65 (by decide) (Nat.le_of_ble_eq_true rfl) rfl rfl rfl (fun h z2 o2 c65 => ?_)
  have hx := hx.step (a := 65) (by simp) z2 o2
  refine r_aload_n (pc2 := 6) 0 dX3_read_5 rfl rfl rfl rfl ?_
  refine r_iload_n (pc2 := 7) 1 dX3_read_6 rfl rfl rfl ?_
  refine r_sipush (pc2 := 10) (v := 900) dX3_read_7 (by decide) rfl ?_
  refine r_callS1 (pc2 := 13) (As := [.int (nI N), .int 900]) (st := [.ref 65]) kX3_35 dX3_read_10 rfl rfl (Nat.le_of_ble_eq_true rfl) (by omega) (hmin _) rfl (fun h2 hq10 => ?_)
  obtain rfl := hq10.symm
  refine r_putfX (pc2 := 16) [.int fk, .int fp, .int 0, .ref 66, .int (nI N), .int y5, .int y6, .int y7, .int y8, .int y9, .int y10, .ref 67, .int y12, y13] fX3_41 dX3_read_13 c65 (by decide) (Nat.le_of_ble_eq_true rfl) rfl rfl rfl (fun h z13 o13 c65 => ?_)
  have hx := hx.step (a := 65) (by simp) z13 o13
  refine r_aload_n (pc2 := 17) 0 dX3_read_16 rfl rfl rfl rfl ?_
  refine r_iconst (pc2 := 18) (v := 0) dX3_read_17 (by decide) rfl ?_
  refine r_putfX (pc2 := 21) [.int 0, .int fp, .int 0, .ref 66, .int (nI N), .int y5, .int y6, .int y7, .int y8, .int y9, .int y10, .ref 67, .int y12, y13] fX3_44 dX3_read_18 c65 (by decide) (Nat.le_of_ble_eq_true rfl) rfl rfl rfl (fun h z18 o18 c65 => ?_)
  have hx := hx.step (a := 65) (by simp) z18 o18
  refine r_aload_n (pc2 := 22) 0 dX3_read_21 rfl rfl rfl rfl ?_
  refine r_iconst (pc2 := 23) (v := -1) dX3_read_22 (by decide) rfl ?_
  refine r_putfX (pc2 := 26) [.int 0, .int (-1), .int 0, .ref 66, .int (nI N), .int y5, .int y6, .int y7, .int y8, .int y9, .int y10, .ref 67, .int y12, y13] fX3_9 dX3_read_23 c65 (by decide) (Nat.le_of_ble_eq_true rfl) rfl rfl rfl (fun h z23 o23 c65 => ?_)
  have hx := hx.step (a := 65) (by simp) z23 o23
  refine r_aload_n (pc2 := 27) 0 dX3_read_26 rfl rfl rfl rfl ?_
  refine r_iconst (pc2 := 28) (v := 0) dX3_read_27 (by decide) rfl ?_
  refine r_putfX (pc2 := 31) [.int 0, .int (-1), .int 0, .ref 66, .int (nI N), .int y5, .int y6, .int 0, .int y8, .int y9, .int y10, .ref 67, .int y12, y13] fX3_47 dX3_read_28 c65 (by decide) (Nat.le_of_ble_eq_true rfl) rfl rfl rfl (fun h z28 o28 c65 => ?_)
  have hx := hx.step (a := 65) (by simp) z28 o28
  refine r_aload_n (pc2 := 32) 0 dX3_read_31 rfl rfl rfl rfl ?_
  refine r_iconst (pc2 := 33) (v := 0) dX3_read_32 (by decide) rfl ?_
  refine r_putfX (pc2 := 36) [.int 0, .int (-1), .int 0, .ref 66, .int (nI N), .int y5, .int y6, .int 0, .int y8, .int y9, .int 0, .ref 67, .int y12, y13] fX3_50 dX3_read_33 c65 (by decide) (Nat.le_of_ble_eq_true rfl) rfl rfl rfl (fun h z33 o33 c65 => ?_)
  have hx := hx.step (a := 65) (by simp) z33 o33
  obtain ⟨hA, ehA⟩ : ∃ z : Hp, z = h := ⟨_, rfl⟩
  subst ehA
  have hA1 : hA.2.1 = h0.2.1 := by rw [hx.1]
  have hA2 : hA.2.2 = h0.2.2 := by rw [hx.1]
  have hxA := hx
  refine r_aload_n (pc2 := 37) 0 dX3_read_36 rfl rfl rfl rfl ?_
  refine r_newX (pc2 := 40) nX3_23 dX3_read_37 rfl (by omega) (fun q h eq zc37 zs37 o37 c_q => ?_)
  have c65 := (o37 65 (by omega)).trans c65
  refine r_dup (pc2 := 41) dX3_read_40 rfl rfl ?_
  obtain ⟨hB, ehB⟩ : ∃ z : Hp, z = h := ⟨_, rfl⟩
  subst ehB
  refine r_iload_n (pc2 := 42) 2 dX3_read_41 rfl rfl rfl ?_
  refine r_callI0 (pc2 := 45) (As := [.int sg]) (st := [.ref q, .ref 65]) kX3_25 dX3_read_42 (by omega) rfl rfl (Nat.le_of_ble_eq_true rfl) (by omega) (c_street0 c_q (by omega) (by omega) (by omega)) rfl (fun h hq42 => ?_)
  obtain ⟨w1, w2, hgs, c_q, c1, c2, c3⟩ := hq42
  have c65 := hgs.get (by simp <;> omega) (by omega) c65
  obtain ⟨hC, ehC⟩ : ∃ z : Hp, z = h := ⟨_, rfl⟩
  subst ehC
  have hx : Ex [65] hC hC := Ex.rf
  refine r_putfX (pc2 := 48) [.int 0, .int (-1), .int 0, .ref 66, .int (nI N), .int y5, .int y6, .int 0, .int y8, .int y9, .int 0, .ref 67, .int y12, .ref q] fX3_28 dX3_read_45 c65 (by decide) (Nat.le_of_ble_eq_true rfl) (okO (by omega)) rfl rfl (fun h z45 o45 c65 => ?_)
  have c_q := (o45 q (by omega)).trans c_q
  have hx := hx.step (a := 65) (by simp) z45 o45
  obtain ⟨hD, ehD⟩ : ∃ z : Hp, z = h := ⟨_, rfl⟩
  subst ehD
  have hD1 : hD.2.1 = q + 4 := by rw [z45]; exact w1
  have hD2 : hD.2.2 = h0.2.2 + 27 := by rw [z45]; omega
  have eq : q = h0.2.1 := by omega
  have ch : ∀ b, b < h0.2.1 → b ≠ 65 → hD.1 b = h0.1 b := fun b b1 b2 => (o45 b b2).trans ((hgs.2 b (by omega) (by simp <;> omega)).trans ((o37 b (by omega)).trans (hxA.2 b (by simp <;> omega))))
  have hPs : TPo tp hD := ⟨tb, (ch 66 (by omega) (by omega)).trans c66, htb⟩
  have c1 := (o45 (q + 1) (by omega)).trans c1
  have c2 := (o45 (q + 2) (by omega)).trans c2
  have c3 := (o45 (q + 3) (by omega)).trans c3
  have c67 := (ch 67 (by omega) (by omega)).trans c67
  refine r_aload_n (pc2 := 49) 0 dX3_read_48 rfl rfl rfl rfl ?_
  refine r_callV0 (pc2 := 52) (As := []) (st := []) kX3_54 rfl rfl dX3_read_49 c65 (by decide) rfl rfl (Nat.le_of_ble_eq_true rfl) (by omega) (c_advance0 (p := 0) c65 hPs hTO (Nat.zero_le _) (by omega)) rfl (fun h hq49 => ?_)
  obtain ⟨hxa, t2, c65, hT2⟩ := hq49
  obtain ⟨hE, ehE⟩ : ∃ z : Hp, z = h := ⟨_, rfl⟩
  subst ehE
  have hE1 : hE.2.1 = q + 4 := by rw [hxa.1]; exact hD1
  have hE2 : hE.2.2 = h0.2.2 + 27 := by rw [hxa.1]; exact hD2
  have hPa := hPs.ex hxa (by decide)
  have hL0 : LN tp N 0 sg q (.ok (0, f0)) hE := ⟨t2, y8, y9, 0, y12, fun j => if j = 1 then 1 else 0, fun _ => 0, fun _ => 0, (0, 9, 0, 0, 0, 0), .null, .null, c65, hT2, ⟨cd, hxa.get (by simp) c67⟩, hxa.get (by simp <;> omega) c_q, hxa.get (by simp <;> omega) c1, hxa.get (by simp <;> omega) c2, hxa.get (by simp <;> omega) c3, ⟨0, rfl, by decide⟩, Or.inl rfl, ⟨by omega, by omega⟩, fun p fr z1 _ => by cases z1; exact MFr0 hf0⟩
  have chE : ∀ b, b < h0.2.1 → b ≠ 65 → hE.1 b = h0.1 b := fun b b1 b2 => (hxa.2 b (by simp <;> omega)).trans (ch b b1 b2)
  refine r_aload_n (pc2 := 53) 0 dX3_read_52 rfl rfl rfl rfl ?_
  refine r_callV0 (pc2 := 56) (As := []) (st := []) kX3_57 rfl rfl dX3_read_53 c65 (by decide) rfl rfl (Nat.le_of_ble_eq_true rfl) (by omega) (L_head hL0 hPa hTO (by omega)) rfl (fun h hq53 => ?_)
  obtain ⟨g1, g2, g3⟩ := hq53
  refine r_iconst (pc2 := 57) (v := 0) dX3_read_56 (by decide) rfl ?_
  refine r_cast (nI 0) (rfl) ?_
  refine r_istore_n (pc2 := 58) (ls2 := [.ref 65, .int (nI N), .int sg, .int (nI 0)]) 3 dX3_read_57 rfl (by decide) rfl rfl rfl ?_
  exact loop q hE eq hE1 hE2 chE hPa 901 0 _ h rfl (i_head hf0) g3 g1 g2
