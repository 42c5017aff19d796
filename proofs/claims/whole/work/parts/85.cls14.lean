/-! the class: numbers, write -/
theorem inP_iffB {n : Nat} (hn : n ≤ 40) (x : Int32) : inP n x ↔ 0 ≤ x ∧ x < nI n := by
  have h1 : (nI n).toInt = (n : Int) := nI_toInt (by omega)
  have h2 : (nI n - 1).toInt = (n : Int) - 1 := by
    have := pk_sub_toInt (a := n) (b := 1) (by omega) (by omega)
    exact this
  unfold inP
  rw [show (0 : Int64) = (0 : Int32).toInt64 by decide, i2l_le, i2l_le]
  constructor
  · rintro ⟨z1, z2⟩
    exact ⟨z1, Int32.lt_iff_toInt_lt.mpr (by have := Int32.le_iff_toInt_le.mp z2; rw [h2] at this; rw [h1]; omega)⟩
  · rintro ⟨z1, z2⟩
    exact ⟨z1, Int32.le_iff_toInt_le.mpr (by have := Int32.lt_iff_toInt_lt.mp z2; rw [h1] at this; rw [h2]; omega)⟩
theorem MT.lay {h h2 : Hp} {t n : Nat} {rs rm : Nat → Int32} {nu g : Nat → Int64} {y z : Int32} (x : MT h rs rm nu) (ht : t < 4) (hT : TOK rs rm) (e : Ex [109 + 2 * t, 110 + 2 * t] h h2) (hy : y ≠ -1) (hz : z = nI n) (hn : n ≤ 40) (c1 : h2.1 (109 + 2 * t) = some (.inr (7, [.int 0, .int y, .int z, .ref (110 + 2 * t)]))) (c2 : h2.1 (110 + 2 * t) = some (aL 40 g)) (hg : ∀ j, j < 40 → g j = 0) : MT h2 (upd rs t y) (upd rm t z) (fillN nu (40 * t) n (fun _ => 0)) := by
  refine x.set ht hT e ?_ (fun u hu q => ⟨if_neg q, if_neg q, fun j hj => fillN_out (by omega)⟩)
  rw [show upd rs t y t = y from if_pos rfl, show upd rm t z t = z from if_pos rfl]
  refine ⟨0, y, z, g, c1, c2, fun q => absurd q hy, fun _ => ⟨rfl, rfl, rfl, fun j hj => ?_⟩⟩
  rw [hz, nI_clamp (by omega)] at hj
  rw [hg j (by omega)]
  exact (fillN_in (a := nu) (off := 40 * t) (g := fun _ => (0 : Int64)) hj).symm
theorem MT.put {h h2 : Hp} {t i : Nat} {rs rm : Nat → Int32} {nu vv : Nat → Int64} {z : Int64} (x : MT h rs rm nu) (ht : t < 4) (hT : TOK rs rm) (hs : rs t ≠ -1) (hi : i < 40) (e : Ex [110 + 2 * t] h h2) (c0 : h.1 (110 + 2 * t) = some (aL 40 vv)) (c2 : h2.1 (110 + 2 * t) = some (aL 40 (vp_updL vv i z))) : MT h2 rs rm (vp_updL nu (40 * t + i) z) := by
  have out : ∀ k, k ≠ 40 * t + i → vp_updL nu (40 * t + i) z k = nu k := fun k hk => if_neg hk
  refine x.set ht hT (e.mono (by simp)) ?_ (fun u hu q => ⟨rfl, rfl, fun j hj => out _ (by omega)⟩)
  obtain ⟨ms, so, si, v2, c3, c4, q1, q2⟩ := x.2 t ht
  rw [c0] at c4
  have ev : vv = v2 := by injection c4 with c4; injection c4 with c4; injection c4 with _ c4; injection c4 with _ c4; injection c4 with c4; injection c4
  subst ev
  refine ⟨ms, so, si, _, (e.2 _ (by simp)).trans c3, c2, q1, fun q => ⟨(q2 q).1, (q2 q).2.1, (q2 q).2.2.1, fun j hj => ?_⟩⟩
  show (if j = i then z else vv j) = (if 40 * t + j = 40 * t + i then z else nu (40 * t + j))
  by_cases w : j = i
  · rw [if_pos w, if_pos (by omega)]
  · rw [if_neg w, if_neg (by omega)]; exact (q2 q).2.2.2 j hj
set_option maxRecDepth 20000 in
set_option maxHeartbeats 1000000 in
theorem cl_numbers {E : EnvT} {d : Nat} {h0 : Hp} {ns s un w1 w2 : Nat} {wk dt : Value} {rs rm : Nat → Int32} {nu : Nat → Int64} {x y z : Int32} (c64 : h0.1 64 = some (.inr (9, coL s ns un w1 w2 wk dt))) (hM : MT h0 rs rm nu) (hT : TOK rs rm) (hd : 2 ≤ d) : Cn E mX9_numbers d [.ref 64, .int x, .int y, .int z] h0 (fun r h2 => r = some (.int (numF x y z)) ∧ Ex TR h0 h2 ∧ MT h2 (numS rs x y z) (numM rm x y z) (numV nu x y z)) := by
  by_cases hx : inR 0 3 x
  · by_cases hy : inR 0 3 y
    · by_cases hz : inR 0 40 z
      · have hc : numC x y z := ⟨⟨hx, hy⟩, hz⟩
        obtain ⟨t, _, ht3, rfl⟩ := inR_of (by decide) (by decide) hx
        obtain ⟨n, _, hn40, hn2⟩ := inR_of (by decide) (by decide) hz
        have hy1 : y ≠ -1 := fun q => absurd ((inR_iff (l := 0) (h := 3) (by decide) (by decide) y).mp hy).1 (by rw [q]; decide)
        have ht : t < 4 := by omega
        obtain ⟨⟨f, c81, hf⟩, _⟩ := id hM
        obtain ⟨ms, so, si, vv, ct, cv, q1, q2⟩ := hM.2 t ht
        generalize hp : 109 + 2 * t = p at ct
        generalize hq : 110 + 2 * t = q at ct cv
        refine Cn.go (ls := [.ref 64, .int (nI t), .int y, .int z]) (by decide +kernel) rfl (Nat.le_of_ble_eq_true rfl) ?_
        refine r_iload_n (pc2 := 1) 1 dX9_numbers_0 rfl rfl rfl ?_
        refine r_callS1 (pc2 := 4) (As := [.int (nI t)]) (st := []) kX9_210 dX9_numbers_1 rfl rfl (Nat.le_of_ble_eq_true rfl) (by omega) (c_isTray.mono fun r h2 q => ⟨q.1.trans (by rw [if_pos hx]), q.2⟩) rfl (fun h2 hq1 => ?_)
        subst hq1
        refine r_if_eq (tgt := 16) (pc2 := 7) dX9_numbers_4 (by decide) rfl (fun b4 => ?_) (fun b4 => ?_)
        · exact absurd b4 (by decide)
        · skip
          refine r_iload_n (pc2 := 8) 2 dX9_numbers_7 rfl rfl rfl ?_
          refine r_if_lt (tgt := 16) (pc2 := 11) dX9_numbers_8 (by decide) rfl (fun b8 => ?_) (fun b8 => ?_)
          · exact absurd b8 (Int32.not_lt.mpr ((inR_iff (l := 0) (h := 3) (by decide) (by decide) y).mp hy).1)
          · skip
            refine r_iload_n (pc2 := 12) 2 dX9_numbers_11 rfl rfl rfl ?_
            refine r_iconst (pc2 := 13) (v := 3) dX9_numbers_12 (by decide) rfl ?_
            refine r_icmp_le (tgt := 19) (pc2 := 16) dX9_numbers_13 (by decide) rfl (fun b13 => ?_) (fun b13 => ?_)
            · skip
              refine r_iload_n (pc2 := 20) 3 dX9_numbers_19 rfl rfl rfl ?_
              refine r_if_lt (tgt := 29) (pc2 := 23) dX9_numbers_20 (by decide) rfl (fun b20 => ?_) (fun b20 => ?_)
              · exact absurd b20 (Int32.not_lt.mpr ((inR_iff (l := 0) (h := 40) (by decide) (by decide) z).mp hz).1)
              · skip
                refine r_iload_n (pc2 := 24) 3 dX9_numbers_23 rfl rfl rfl ?_
                refine r_bipush (pc2 := 26) (v := 40) dX9_numbers_24 (by decide) rfl ?_
                refine r_icmp_le (tgt := 32) (pc2 := 29) dX9_numbers_26 (by decide) rfl (fun b26 => ?_) (fun b26 => ?_)
                · skip
                  refine r_aload_n (pc2 := 33) 0 dX9_numbers_32 rfl rfl rfl rfl ?_
                  refine r_getf (pc2 := 36) (v := .ref 81) fX9_48 dX9_numbers_33 c64 (by decide) rfl rfl ?_
                  refine r_iload_n (pc2 := 37) 1 dX9_numbers_36 rfl rfl rfl ?_
                  refine r_aald (pc2 := 38) dX9_numbers_37 c81 (by decide) (by decide) (nI_vp (j := t) rfl (by omega) (by decide)).1 (by rw [nI_clamp (by omega), hf t ht, hp]) (by omega) rfl ?_
                  refine r_iload_n (pc2 := 39) 2 dX9_numbers_38 rfl rfl rfl ?_
                  refine r_iload_n (pc2 := 40) 3 dX9_numbers_39 rfl rfl rfl ?_
                  refine r_callV0 (pc2 := 43) (As := [.int y, .int z]) (st := []) kX9_378 rfl rfl dX9_numbers_40 ct (by omega) rfl rfl (Nat.le_of_ble_eq_true rfl) (by omega) (c_tlay ct cv (by omega) (by omega) (by omega) (by omega)) rfl (fun h hq40 => ?_)
                  obtain ⟨hxl, ct, g, cv, hg⟩ := hq40
                  refine r_iconst (pc2 := 44) (v := 0) dX9_numbers_43 (by decide) rfl ?_
                  exact r_iret rfl dX9_numbers_44 ⟨by unfold numF; rw [if_pos hc.1, if_pos hz], (by subst hp hq; exact hxl.mono (tr_sub ht)), by unfold numS numM numV; rw [if_pos hc, if_pos hc, if_pos hc, nI_clamp (by omega), hn2, nI_clamp (by omega)]; exact hM.lay ht hT (by subst hp hq; exact hxl) hy1 rfl hn40 (by subst hp hq; rw [← hn2]; exact ct) (by subst hq; exact cv) hg⟩
                · exact absurd ((inR_iff (l := 0) (h := 40) (by decide) (by decide) z).mp hz).2 b26
            · exact absurd ((inR_iff (l := 0) (h := 3) (by decide) (by decide) y).mp hy).2 b13
      · have hc : ¬ numC x y z := fun q => hz q.2
        refine Cn.go (ls := [.ref 64, .int x, .int y, .int z]) (by decide +kernel) rfl (Nat.le_of_ble_eq_true rfl) ?_
        refine r_iload_n (pc2 := 1) 1 dX9_numbers_0 rfl rfl rfl ?_
        refine r_callS1 (pc2 := 4) (As := [.int x]) (st := []) kX9_210 dX9_numbers_1 rfl rfl (Nat.le_of_ble_eq_true rfl) (by omega) (c_isTray.mono fun r h2 q => ⟨q.1.trans (by rw [if_pos hx]), q.2⟩) rfl (fun h2 hq1 => ?_)
        subst hq1
        refine r_if_eq (tgt := 16) (pc2 := 7) dX9_numbers_4 (by decide) rfl (fun b4 => ?_) (fun b4 => ?_)
        · exact absurd b4 (by decide)
        · skip
          refine r_iload_n (pc2 := 8) 2 dX9_numbers_7 rfl rfl rfl ?_
          refine r_if_lt (tgt := 16) (pc2 := 11) dX9_numbers_8 (by decide) rfl (fun b8 => ?_) (fun b8 => ?_)
          · exact absurd b8 (Int32.not_lt.mpr ((inR_iff (l := 0) (h := 3) (by decide) (by decide) y).mp hy).1)
          · skip
            refine r_iload_n (pc2 := 12) 2 dX9_numbers_11 rfl rfl rfl ?_
            refine r_iconst (pc2 := 13) (v := 3) dX9_numbers_12 (by decide) rfl ?_
            refine r_icmp_le (tgt := 19) (pc2 := 16) dX9_numbers_13 (by decide) rfl (fun b13 => ?_) (fun b13 => ?_)
            · skip
              refine r_iload_n (pc2 := 20) 3 dX9_numbers_19 rfl rfl rfl ?_
              refine r_if_lt (tgt := 29) (pc2 := 23) dX9_numbers_20 (by decide) rfl (fun b20 => ?_) (fun b20 => ?_)
              · skip
                refine r_bipush (pc2 := 31) (v := -3) dX9_numbers_29 (by decide) rfl ?_
                exact r_iret rfl dX9_numbers_31 ⟨by unfold numF; rw [if_pos ⟨hx, hy⟩, if_neg hz], Ex.rf, by unfold numS numM numV; rw [if_neg hc, if_neg hc, if_neg hc]; exact hM⟩
              · skip
                refine r_iload_n (pc2 := 24) 3 dX9_numbers_23 rfl rfl rfl ?_
                refine r_bipush (pc2 := 26) (v := 40) dX9_numbers_24 (by decide) rfl ?_
                refine r_icmp_le (tgt := 32) (pc2 := 29) dX9_numbers_26 (by decide) rfl (fun b26 => ?_) (fun b26 => ?_)
                · exact absurd ((inR_iff (l := 0) (h := 40) (by decide) (by decide) z).mpr ⟨Int32.not_lt.mp b20, b26⟩) hz
                · skip
                  refine r_bipush (pc2 := 31) (v := -3) dX9_numbers_29 (by decide) rfl ?_
                  exact r_iret rfl dX9_numbers_31 ⟨by unfold numF; rw [if_pos ⟨hx, hy⟩, if_neg hz], Ex.rf, by unfold numS numM numV; rw [if_neg hc, if_neg hc, if_neg hc]; exact hM⟩
            · exact absurd ((inR_iff (l := 0) (h := 3) (by decide) (by decide) y).mp hy).2 b13
    · have hc : ¬ numC x y z := fun q => hy q.1.2
      refine Cn.go (ls := [.ref 64, .int x, .int y, .int z]) (by decide +kernel) rfl (Nat.le_of_ble_eq_true rfl) ?_
      refine r_iload_n (pc2 := 1) 1 dX9_numbers_0 rfl rfl rfl ?_
      refine r_callS1 (pc2 := 4) (As := [.int x]) (st := []) kX9_210 dX9_numbers_1 rfl rfl (Nat.le_of_ble_eq_true rfl) (by omega) (c_isTray.mono fun r h2 q => ⟨q.1.trans (by rw [if_pos hx]), q.2⟩) rfl (fun h2 hq1 => ?_)
      subst hq1
      refine r_if_eq (tgt := 16) (pc2 := 7) dX9_numbers_4 (by decide) rfl (fun b4 => ?_) (fun b4 => ?_)
      · exact absurd b4 (by decide)
      · skip
        refine r_iload_n (pc2 := 8) 2 dX9_numbers_7 rfl rfl rfl ?_
        refine r_if_lt (tgt := 16) (pc2 := 11) dX9_numbers_8 (by decide) rfl (fun b8 => ?_) (fun b8 => ?_)
        · skip
          refine r_bipush (pc2 := 18) (v := -2) dX9_numbers_16 (by decide) rfl ?_
          exact r_iret rfl dX9_numbers_18 ⟨by unfold numF; rw [if_neg (fun q => hy q.2)], Ex.rf, by unfold numS numM numV; rw [if_neg hc, if_neg hc, if_neg hc]; exact hM⟩
        · skip
          refine r_iload_n (pc2 := 12) 2 dX9_numbers_11 rfl rfl rfl ?_
          refine r_iconst (pc2 := 13) (v := 3) dX9_numbers_12 (by decide) rfl ?_
          refine r_icmp_le (tgt := 19) (pc2 := 16) dX9_numbers_13 (by decide) rfl (fun b13 => ?_) (fun b13 => ?_)
          · exact absurd ((inR_iff (l := 0) (h := 3) (by decide) (by decide) y).mpr ⟨Int32.not_lt.mp b8, b13⟩) hy
          · skip
            refine r_bipush (pc2 := 18) (v := -2) dX9_numbers_16 (by decide) rfl ?_
            exact r_iret rfl dX9_numbers_18 ⟨by unfold numF; rw [if_neg (fun q => hy q.2)], Ex.rf, by unfold numS numM numV; rw [if_neg hc, if_neg hc, if_neg hc]; exact hM⟩
  · have hc : ¬ numC x y z := fun q => hx q.1.1
    refine Cn.go (ls := [.ref 64, .int x, .int y, .int z]) (by decide +kernel) rfl (Nat.le_of_ble_eq_true rfl) ?_
    refine r_iload_n (pc2 := 1) 1 dX9_numbers_0 rfl rfl rfl ?_
    refine r_callS1 (pc2 := 4) (As := [.int x]) (st := []) kX9_210 dX9_numbers_1 rfl rfl (Nat.le_of_ble_eq_true rfl) (by omega) (c_isTray.mono fun r h2 q => ⟨q.1.trans (by rw [if_neg hx]), q.2⟩) rfl (fun h2 hq1 => ?_)
    subst hq1
    refine r_if_eq (tgt := 16) (pc2 := 7) dX9_numbers_4 (by decide) rfl (fun b4 => ?_) (fun b4 => ?_)
    · skip
      refine r_bipush (pc2 := 18) (v := -2) dX9_numbers_16 (by decide) rfl ?_
      exact r_iret rfl dX9_numbers_18 ⟨by unfold numF; rw [if_neg (fun q => hx q.1)], Ex.rf, by unfold numS numM numV; rw [if_neg hc, if_neg hc, if_neg hc]; exact hM⟩
    · exact absurd b4 (by decide)
set_option maxRecDepth 20000 in
set_option maxHeartbeats 1000000 in
theorem cl_write {E : EnvT} {d : Nat} {h0 : Hp} {ns s un w1 w2 : Nat} {wk dt : Value} {rs rm : Nat → Int32} {nu : Nat → Int64} {x y : Int32} {z : Int64} (c64 : h0.1 64 = some (.inr (9, coL s ns un w1 w2 wk dt))) (hM : MT h0 rs rm nu) (hT : TOK rs rm) (hd : 2 ≤ d) : Cn E mX9_write d [.ref 64, .int x, .int y, .long z] h0 (fun r h2 => r = some (.long (wriF rs rm x y z)) ∧ Ex TR h0 h2 ∧ MT h2 rs rm (wriV rs rm nu x y z)) := by
  by_cases hx : inR 0 3 x
  · obtain ⟨t, _, ht3, rfl⟩ := inR_of (by decide) (by decide) hx
    have ht : t < 4 := by omega
    obtain ⟨⟨f, c81, hf⟩, _⟩ := id hM
    obtain ⟨ms, so, si, vv, ct, cv, q1, q2⟩ := hM.2 t ht
    generalize hp : 109 + 2 * t = p at ct
    generalize hq : 110 + 2 * t = q at ct cv
    have hn : rm t = nI (rowN rm t) := (hT t ht).1
    have hn40 : rowN rm t ≤ 40 := (hT t ht).2
    by_cases hs : rs t = -1
    · have hno : noTrayF rs (nI t) = -6 := by unfold noTrayF; rw [if_pos hx, nI_clamp (by omega), if_pos hs]
      have hc : ¬ wriC rs rm (nI t) y := fun q => absurd (hno.symm.trans q.1) (by decide)
      obtain rfl := q1 hs
      refine Cn.go (ls := [.ref 64, .int (nI t), .int y, .long z, .float 0, .float 0]) (by decide +kernel) rfl (Nat.le_of_ble_eq_true rfl) ?_
      refine r_iload_n (pc2 := 1) 1 dX9_write_0 rfl rfl rfl ?_
      refine r_callS1 (pc2 := 4) (As := [.int (nI t)]) (st := []) kX9_210 dX9_write_1 rfl rfl (Nat.le_of_ble_eq_true rfl) (by omega) (c_isTray.mono fun r h2 q => ⟨q.1.trans (by rw [if_pos hx]), q.2⟩) rfl (fun h2 hq1 => ?_)
      subst hq1
      refine r_if_ne (tgt := 11) (pc2 := 7) dX9_write_4 (by decide) rfl (fun b4 => ?_) (fun b4 => ?_)
      · skip
        refine r_aload_n (pc2 := 12) 0 dX9_write_11 rfl rfl rfl rfl ?_
        refine r_getf (pc2 := 15) (v := .ref 81) fX9_48 dX9_write_12 c64 (by decide) rfl rfl ?_
        refine r_iload_n (pc2 := 16) 1 dX9_write_15 rfl rfl rfl ?_
        refine r_aald (pc2 := 17) dX9_write_16 c81 (by decide) (by decide) (nI_vp (j := t) rfl (by omega) (by decide)).1 (by rw [nI_clamp (by omega), hf t ht, hp]) (by omega) rfl ?_
        refine r_astore (pc2 := 19) (ls2 := [.ref 64, .int (nI t), .int y, .long z, .float 0, .ref p]) 5 dX9_write_17 (by decide) rfl rfl rfl rfl ?_
        refine r_aload (pc2 := 21) 5 dX9_write_19 rfl rfl rfl ?_
        refine r_getf (pc2 := 24) (v := .int 1) fX9_213 dX9_write_21 ct (by omega) rfl rfl ?_
        refine r_if_eq (tgt := 31) (pc2 := 27) dX9_write_24 (by decide) rfl (fun b24 => ?_) (fun b24 => ?_)
        · exact absurd b24 (by decide)
        · skip
          refine r_ldc2 (pc2 := 30) (v := -6) qX9_383 dX9_write_27 rfl ?_
          exact r_lret rfl dX9_write_30 ⟨by unfold wriF; rw [hno, if_pos (by decide)]; rfl, Ex.rf, by unfold wriV; rw [if_neg hc]; exact hM⟩
      · exact absurd b4 (by decide)
    · have hno : noTrayF rs (nI t) = 0 := by unfold noTrayF; rw [if_pos hx, nI_clamp (by omega), if_neg hs]
      obtain ⟨rfl, rfl, rfl, q3⟩ := q2 hs
      obtain ⟨n, hnn⟩ : ∃ n, n = rowN rm t := ⟨_, rfl⟩
      rw [← hnn] at hn hn40
      rw [hn] at ct
      by_cases hy : inP n y
      · have hyn : inP (rowN rm t) y := by rw [← hnn]; exact hy
        have hc : wriC rs rm (nI t) y := ⟨hno, by rw [nI_clamp (by omega)]; exact hyn⟩
        obtain ⟨i, hin, rfl⟩ := inP_of (by omega) hy
        have cv0 := cv
        refine Cn.go (ls := [.ref 64, .int (nI t), .int (nI i), .long z, .float 0, .float 0]) (by decide +kernel) rfl (Nat.le_of_ble_eq_true rfl) ?_
        refine r_iload_n (pc2 := 1) 1 dX9_write_0 rfl rfl rfl ?_
        refine r_callS1 (pc2 := 4) (As := [.int (nI t)]) (st := []) kX9_210 dX9_write_1 rfl rfl (Nat.le_of_ble_eq_true rfl) (by omega) (c_isTray.mono fun r h2 q => ⟨q.1.trans (by rw [if_pos hx]), q.2⟩) rfl (fun h2 hq1 => ?_)
        subst hq1
        refine r_if_ne (tgt := 11) (pc2 := 7) dX9_write_4 (by decide) rfl (fun b4 => ?_) (fun b4 => ?_)
        · skip
          refine r_aload_n (pc2 := 12) 0 dX9_write_11 rfl rfl rfl rfl ?_
          refine r_getf (pc2 := 15) (v := .ref 81) fX9_48 dX9_write_12 c64 (by decide) rfl rfl ?_
          refine r_iload_n (pc2 := 16) 1 dX9_write_15 rfl rfl rfl ?_
          refine r_aald (pc2 := 17) dX9_write_16 c81 (by decide) (by decide) (nI_vp (j := t) rfl (by omega) (by decide)).1 (by rw [nI_clamp (by omega), hf t ht, hp]) (by omega) rfl ?_
          refine r_astore (pc2 := 19) (ls2 := [.ref 64, .int (nI t), .int (nI i), .long z, .float 0, .ref p]) 5 dX9_write_17 (by decide) rfl rfl rfl rfl ?_
          refine r_aload (pc2 := 21) 5 dX9_write_19 rfl rfl rfl ?_
          refine r_getf (pc2 := 24) (v := .int 0) fX9_213 dX9_write_21 ct (by omega) rfl rfl ?_
          refine r_if_eq (tgt := 31) (pc2 := 27) dX9_write_24 (by decide) rfl (fun b24 => ?_) (fun b24 => ?_)
          · skip
            refine r_iload_n (pc2 := 32) 2 dX9_write_31 rfl rfl rfl ?_
            refine r_if_lt (tgt := 44) (pc2 := 35) dX9_write_32 (by decide) rfl (fun b32 => ?_) (fun b32 => ?_)
            · exact absurd b32 (nI_pos (by omega))
            · skip
              refine r_iload_n (pc2 := 36) 2 dX9_write_35 rfl rfl rfl ?_
              refine r_aload (pc2 := 38) 5 dX9_write_36 rfl rfl rfl ?_
              refine r_getf (pc2 := 41) (v := .int (nI n)) fX9_217 dX9_write_38 ct (by omega) rfl rfl ?_
              refine r_icmp_lt (tgt := 48) (pc2 := 44) dX9_write_41 (by decide) rfl (fun b41 => ?_) (fun b41 => ?_)
              · skip
                refine r_aload (pc2 := 50) 5 dX9_write_48 rfl rfl rfl ?_
                refine r_iload_n (pc2 := 51) 2 dX9_write_50 rfl rfl rfl ?_
                refine r_lload_n (pc2 := 52) 3 dX9_write_51 rfl rfl rfl ?_
                refine r_callV0 (pc2 := 55) (As := [.int (nI i), .long z]) (st := []) kX9_387 rfl rfl dX9_write_52 ct (by omega) rfl rfl (Nat.le_of_ble_eq_true rfl) (by omega) (c_tput ct cv (by omega) (by omega) (by omega) hin hn40 (by omega)) rfl (fun h hq52 => ?_)
                obtain ⟨hxp, cv⟩ := hq52
                have c64 := hxp.get (by simp; omega) c64
                have c81 := hxp.get (by simp; omega) c81
                have ct := hxp.get (by simp; omega) ct
                refine r_aload (pc2 := 57) 5 dX9_write_55 rfl rfl rfl ?_
                refine r_iload_n (pc2 := 58) 2 dX9_write_57 rfl rfl rfl ?_
                refine r_callV1 (pc2 := 61) (As := [.int (nI i)]) (st := []) kX9_220 rfl rfl dX9_write_58 ct (by omega) rfl rfl (Nat.le_of_ble_eq_true rfl) (by omega) ((c_tget ct cv (by omega) (by omega) hin hn40).mono fun r h2 q => ⟨q.1.trans (by rw [show vp_updL vv i (cutN z (rs t)) i = cutN z (rs t) from if_pos rfl]), q.2⟩) rfl (fun h2 hq58 => ?_)
                subst hq58
                exact r_lret rfl dX9_write_61 ⟨by unfold wriF; rw [if_neg (fun q => q hno), nI_clamp (by omega), if_pos hyn], by subst hq; exact hxp.mono (fun a m => tr_sub ht a (by simp at m ⊢; omega)), by unfold wriV; rw [if_pos hc, nI_clamp (by omega), nI_clamp (by omega)]; exact hM.put ht hT hs (by omega) (by rw [hq]; exact hxp) (by rw [hq]; exact cv0) (by rw [hq]; exact cv)⟩
              · exact absurd (nI_lt hin (by omega)) b41
          · exact absurd b24 (by decide)
        · exact absurd b4 (by decide)
      · have hyn : ¬ inP (rowN rm t) y := by rw [← hnn]; exact hy
        have hc : ¬ wriC rs rm (nI t) y := fun q => hyn (by have := q.2; rw [nI_clamp (by omega)] at this; exact this)
        refine Cn.go (ls := [.ref 64, .int (nI t), .int y, .long z, .float 0, .float 0]) (by decide +kernel) rfl (Nat.le_of_ble_eq_true rfl) ?_
        refine r_iload_n (pc2 := 1) 1 dX9_write_0 rfl rfl rfl ?_
        refine r_callS1 (pc2 := 4) (As := [.int (nI t)]) (st := []) kX9_210 dX9_write_1 rfl rfl (Nat.le_of_ble_eq_true rfl) (by omega) (c_isTray.mono fun r h2 q => ⟨q.1.trans (by rw [if_pos hx]), q.2⟩) rfl (fun h2 hq1 => ?_)
        subst hq1
        refine r_if_ne (tgt := 11) (pc2 := 7) dX9_write_4 (by decide) rfl (fun b4 => ?_) (fun b4 => ?_)
        · skip
          refine r_aload_n (pc2 := 12) 0 dX9_write_11 rfl rfl rfl rfl ?_
          refine r_getf (pc2 := 15) (v := .ref 81) fX9_48 dX9_write_12 c64 (by decide) rfl rfl ?_
          refine r_iload_n (pc2 := 16) 1 dX9_write_15 rfl rfl rfl ?_
          refine r_aald (pc2 := 17) dX9_write_16 c81 (by decide) (by decide) (nI_vp (j := t) rfl (by omega) (by decide)).1 (by rw [nI_clamp (by omega), hf t ht, hp]) (by omega) rfl ?_
          refine r_astore (pc2 := 19) (ls2 := [.ref 64, .int (nI t), .int y, .long z, .float 0, .ref p]) 5 dX9_write_17 (by decide) rfl rfl rfl rfl ?_
          refine r_aload (pc2 := 21) 5 dX9_write_19 rfl rfl rfl ?_
          refine r_getf (pc2 := 24) (v := .int 0) fX9_213 dX9_write_21 ct (by omega) rfl rfl ?_
          refine r_if_eq (tgt := 31) (pc2 := 27) dX9_write_24 (by decide) rfl (fun b24 => ?_) (fun b24 => ?_)
          · skip
            refine r_iload_n (pc2 := 32) 2 dX9_write_31 rfl rfl rfl ?_
            refine r_if_lt (tgt := 44) (pc2 := 35) dX9_write_32 (by decide) rfl (fun b32 => ?_) (fun b32 => ?_)
            · skip
              refine r_ldc2 (pc2 := 47) (v := -7) qX9_385 dX9_write_44 rfl ?_
              exact r_lret rfl dX9_write_47 ⟨by unfold wriF; rw [if_neg (fun q => q hno), nI_clamp (by omega), if_neg hyn], Ex.rf, by unfold wriV; rw [if_neg hc]; exact hM⟩
            · skip
              refine r_iload_n (pc2 := 36) 2 dX9_write_35 rfl rfl rfl ?_
              refine r_aload (pc2 := 38) 5 dX9_write_36 rfl rfl rfl ?_
              refine r_getf (pc2 := 41) (v := .int (nI n)) fX9_217 dX9_write_38 ct (by omega) rfl rfl ?_
              refine r_icmp_lt (tgt := 48) (pc2 := 44) dX9_write_41 (by decide) rfl (fun b41 => ?_) (fun b41 => ?_)
              · exact absurd ((inP_iffB hn40 y).mpr ⟨Int32.not_lt.mp b32, b41⟩) hy
              · skip
                refine r_ldc2 (pc2 := 47) (v := -7) qX9_385 dX9_write_44 rfl ?_
                exact r_lret rfl dX9_write_47 ⟨by unfold wriF; rw [if_neg (fun q => q hno), nI_clamp (by omega), if_neg hyn], Ex.rf, by unfold wriV; rw [if_neg hc]; exact hM⟩
          · exact absurd b24 (by decide)
        · exact absurd b4 (by decide)
  · have hno : noTrayF rs x = -2 := by unfold noTrayF; rw [if_neg hx]
    have hc : ¬ wriC rs rm x y := fun q => absurd (hno.symm.trans q.1) (by decide)
    refine Cn.go (ls := [.ref 64, .int x, .int y, .long z, .float 0, .float 0]) (by decide +kernel) rfl (Nat.le_of_ble_eq_true rfl) ?_
    refine r_iload_n (pc2 := 1) 1 dX9_write_0 rfl rfl rfl ?_
    refine r_callS1 (pc2 := 4) (As := [.int x]) (st := []) kX9_210 dX9_write_1 rfl rfl (Nat.le_of_ble_eq_true rfl) (by omega) (c_isTray.mono fun r h2 q => ⟨q.1.trans (by rw [if_neg hx]), q.2⟩) rfl (fun h2 hq1 => ?_)
    subst hq1
    refine r_if_ne (tgt := 11) (pc2 := 7) dX9_write_4 (by decide) rfl (fun b4 => ?_) (fun b4 => ?_)
    · exact absurd b4 (by decide)
    · skip
      refine r_ldc2 (pc2 := 10) (v := -2) qX9_381 dX9_write_7 rfl ?_
      exact r_lret rfl dX9_write_10 ⟨by unfold wriF; rw [hno, if_pos (by decide)]; rfl, Ex.rf, by unfold wriV; rw [if_neg hc]; exact hM⟩
