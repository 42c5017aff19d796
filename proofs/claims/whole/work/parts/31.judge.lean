/-! judge, perform -/
theorem doesN_out {a : Nat → Nat} {j k : Nat} (hG : a 3 ≤ 4) (hP : j % 100 / 10 < 8 ∨ j < 200) (hQ : j % 10 < 8 ∨ j < 200) (hk : k < 22 ∨ 45 ≤ k) : doesN a j k = a k := by
  unfold doesN
  split
  · exact goesN_out hG (by omega)
  · split
    · exact va_up_ne _ _ (by omega)
    · exact hintN_out (by omega) (by omega) (by omega)
theorem tell_out {F : Nat → Int64} : ∀ (m k : Nat) (a : Nat → Nat), AIN a → ∀ i, (i < 22 ∨ 45 ≤ i) → (tell F m k a).2.2 i = a i := by
  intro m
  induction m with
  | zero => intro k a hA i hi; rfl
  | succ m ih =>
    intro k a hA i hi
    unfold tell
    split
    · rename_i h
      obtain ⟨j, hj, e, hh⟩ := whyD_ok hA h
      rw [e] at h ⊢
      rw [lN_clamp (by omega), ih _ _ (hA.does h hj) i hi]
      have := hA.P
      exact doesN_out hA.G (by omega) (by omega) hi
    · rfl
theorem again_eq {a b : Nat → Nat} (h : ∀ i, (i < 22 ∨ 45 ≤ i) → b i = a i) : fillN b 22 23 (keepV a) = a := by
  funext i
  by_cases q : 22 ≤ i ∧ i < 45
  · have : fillN b 22 23 (keepV a) (22 + (i - 22)) = keepV a (i - 22) := fillN_in (by omega)
    rw [show 22 + (i - 22) = i by omega] at this
    rw [this]
    show a (22 + (i - 22)) = a i
    congr 1
    omega
  · rw [fillN_out (by omega), h i (by omega)]
theorem tell_le {F : Nat → Int64} : ∀ (m k : Nat) (a : Nat → Nat), k ≤ (tell F m k a).1 ∧ (tell F m k a).1 ≤ k + m ∧ (tell F m k a).2.1 < 4 := by
  intro m
  induction m with
  | zero => intro k a; exact ⟨Nat.le_refl _, Nat.le_refl _, by show 0 < 4; decide⟩
  | succ m ih =>
    intro k a
    unfold tell
    split
    · have := ih (k + 1) (doesN a (F k).toNatClampNeg)
      omega
    · exact ⟨Nat.le_refl _, Nat.le_add_right _ _, whyD_lt _ _⟩
theorem tell_0 {F : Nat → Int64} : ∀ (m k : Nat) (a : Nat → Nat), (tell F m k a).1 = k → (tell F m k a).2.2 = a := by
  intro m k a
  match m with
  | 0 => intro _; rfl
  | m + 1 =>
    unfold tell
    split
    · intro h
      have := (tell_le (F := F) m (k + 1) (doesN a (F k).toNatClampNeg)).1
      omega
    · intro _; rfl
def rowN (rm : Nat → Int32) (t : Nat) : Nat := (rm t).toNatClampNeg
def TOK (rs rm : Nat → Int32) : Prop := ∀ t, t < 4 → rm t = nI (rowN rm t) ∧ rowN rm t ≤ 40
def tellT (a : Nat → Nat) (rm : Nat → Int32) (nu : Nat → Int64) (t : Nat) : Nat × Nat × (Nat → Nat) := tell (fun j => nu (40 * t + j)) (rowN rm t) 0 a
def judgeF (a : Nat → Nat) (rs rm : Nat → Int32) (nu : Nat → Int64) (x w : Int32) : Int32 :=
  if ¬ inR 0 3 w then -2 else if noTrayF rs x ≠ 0 then noTrayF rs x
  else if w = 0 then (if (tellT a rm nu x.toNatClampNeg).2.1 = 0 then -1 else nI (tellT a rm nu x.toNatClampNeg).1)
  else if w = 1 then nI (tellT a rm nu x.toNatClampNeg).2.1
  else if w = 2 then nI ((tellT a rm nu x.toNatClampNeg).2.2 26)
  else nI (pastN (a 1) (packS (tellT a rm nu x.toNatClampNeg).2.2) (a 3))
def performF (a : Nat → Nat) (rs rm : Nat → Int32) (nu : Nat → Int64) (x : Int32) : Int32 := if noTrayF rs x ≠ 0 then noTrayF rs x else nI (tellT a rm nu x.toNatClampNeg).1
def performA (a : Nat → Nat) (rs rm : Nat → Int32) (nu : Nat → Int64) (x : Int32) : Nat → Nat := if noTrayF rs x ≠ 0 ∨ (tellT a rm nu x.toNatClampNeg).1 = 0 then a else notesN (tellT a rm nu x.toNatClampNeg).2.2 (keepV a)
theorem noTray_0 {rs : Nat → Int32} {x : Int32} (h : noTrayF rs x = 0) : ∃ t, t < 4 ∧ x = nI t ∧ rs t ≠ -1 := by
  unfold noTrayF at h
  by_cases hv : inR 0 3 x
  · obtain ⟨t, h0, ht, rfl⟩ := inR_of (by decide) (by decide) hv
    rw [if_pos hv, nI_clamp (by omega)] at h
    refine ⟨t, by omega, rfl, fun q => ?_⟩
    rw [if_pos q] at h
    exact absurd h (by decide)
  · rw [if_neg hv] at h
    exact absurd h (by decide)
set_option maxRecDepth 20000 in
set_option maxHeartbeats 1000000 in
theorem ref_judge {E : EnvT} {d : Nat} {h0 : Hp} {v : Nat → Int32} {a : Nat → Nat} {hi : Nat → Int32} {tp : Nat → Nat} {rs rm : Nat → Int32} {nu : Nat → Int64} {x y : Int32} (hR : RS h0 v a hi tp rs rm nu) (hA : AIN a) (hT : TOK rs rm) (hd : 7 ≤ d) : Cn E mX10_judge d [.ref 117, .int x, .int y] h0 (RP (.int (judgeF a rs rm nu x y)) h0 v a hi tp rs rm nu) := by
  obtain ⟨k117, k118, k119, k120, ⟨f121, k121⟩, ⟨f122, k122⟩, ⟨f123, k123⟩, ⟨f124, k124⟩, ⟨f125, k125⟩, ⟨f126, k126⟩, ⟨f127, k127⟩, ⟨f128, k128⟩, ⟨f129, k129⟩, ⟨f130, k130⟩, ⟨f131, k131⟩, ⟨f132, k132⟩, ⟨f133, k133⟩, ⟨f134, k134⟩, ⟨f135, k135⟩, k136, k137, k138⟩ := hR
  have c117 := k117
  have c118 := k118
  have c122 := k122
  have c123 := k123
  have c124 := k124
  have c136 := k136
  have c137 := k137
  have c138 := k138
  have hx : Ex [117, 118, 122, 123, 124, 136, 137, 138] h0 h0 := Ex.rf
  by_cases hv : inR 0 3 y
  · by_cases hz : noTrayF rs x = 0
    · obtain ⟨t, ht, rfl, hrs⟩ := noTray_0 hz
      obtain ⟨y, y0, y3, rfl⟩ := inR_of (by decide) (by decide) hv
      have hB : AIN (tellT a rm nu t).2.2 := AIN.telling _ _ _ hA
      have hout : ∀ i, (i < 22 ∨ 45 ≤ i) → (tellT a rm nu t).2.2 i = a i := tell_out _ _ _ hA
      have hle := (tell_le (F := fun j => nu (40 * t + j)) (rowN rm t) 0 a)
      have hle : (tellT a rm nu t).2.1 < 4 := hle.2.2
      have eF : judgeF a rs rm nu (nI t) (nI y) = if y = 0 then (if (tellT a rm nu t).2.1 = 0 then -1 else nI (tellT a rm nu t).1) else if y = 1 then nI (tellT a rm nu t).2.1 else if y = 2 then nI ((tellT a rm nu t).2.2 26) else nI (pastN (a 1) (packS (tellT a rm nu t).2.2) (a 3)) := by
        rw [judgeF, if_neg (fun q => q hv), if_neg (fun q => q hz), nI_clamp (by omega)]
        match y, y3 with
        | 0, _ => rfl
        | 1, _ => rfl
        | 2, _ => rfl
        | 3, _ => rfl
      rw [eF]
      match y, y3, hv, eF with
      | 0, _, hv, _ =>
          refine Cn.go (ls := [.ref 117, .int (nI t), .int 0, .float 0, .float 0, .float 0]) (by decide +kernel) rfl (Nat.le_of_ble_eq_true rfl) ?_
          refine r_aload_n (pc2 := 1) 0 dX10_judge_0 rfl rfl rfl rfl ?_
          refine r_iconst (pc2 := 2) (v := 0) dX10_judge_1 (by decide) rfl ?_
          refine r_putfX (pc2 := 5) (moL (upd v 0 0)) fX10_1 dX10_judge_2 c117 (by decide) (Nat.le_of_ble_eq_true rfl) rfl rfl rfl (fun h z2 o2 c117 => ?_)
          have c118 := (o2 118 (by decide)).trans c118
          have c122 := (o2 122 (by decide)).trans c122
          have c123 := (o2 123 (by decide)).trans c123
          have c124 := (o2 124 (by decide)).trans c124
          have c136 := (o2 136 (by decide)).trans c136
          have c137 := (o2 137 (by decide)).trans c137
          have c138 := (o2 138 (by decide)).trans c138
          have hx := hx.step (a := 117) (by decide) z2 o2
          refine r_iload_n (pc2 := 6) 2 dX10_judge_5 rfl rfl rfl ?_
          refine r_i2l (pc2 := 7) dX10_judge_6 rfl ?_
          refine r_lconst (pc2 := 8) (v := 0) dX10_judge_7 (by decide) rfl ?_
          refine r_ldc2 (pc2 := 11) (v := 3) qX10_321 dX10_judge_8 rfl ?_
          refine r_callS1 (pc2 := 14) (As := [.long (Int32.toInt64 0), .long 0, .long 3]) (st := []) kX10_152 dX10_judge_11 rfl rfl (Nat.le_of_ble_eq_true rfl) (by omega) (c_within (Int32.toInt64 0) 0 3) rfl (fun h2 hq11 => ?_)
          subst hq11
          refine r_if_ne (tgt := 20) (pc2 := 17) dX10_judge_14 (by decide) rfl (fun b14 => ?_) (fun b14 => ?_)
          · skip
            refine r_aload_n (pc2 := 21) 0 dX10_judge_20 rfl rfl rfl rfl ?_
            refine r_iload_n (pc2 := 22) 1 dX10_judge_21 rfl rfl rfl ?_
            refine r_callV1 (pc2 := 25) (As := [.int (nI t)]) (st := []) kX10_323 rfl rfl dX10_judge_22 c117 (by decide) rfl rfl (Nat.le_of_ble_eq_true rfl) (by omega) (c_noTray (x := (nI t)) c117 c136 (by omega)) rfl (fun h2 hq22 => ?_)
            subst hq22
            refine r_topi (fun no e25 => ?_)
            refine r_istore_n (pc2 := 26) (ls2 := [.ref 117, .int (nI t), .int 0, .int no, .float 0, .float 0]) 3 dX10_judge_25 rfl (by decide) rfl rfl rfl ?_
            refine r_iload_n (pc2 := 27) 3 dX10_judge_26 rfl rfl rfl ?_
            refine r_if_eq (tgt := 32) (pc2 := 30) dX10_judge_27 (by decide) rfl (fun b27 => ?_) (fun b27 => ?_)
            · skip
              refine r_aload_n (pc2 := 33) 0 dX10_judge_32 rfl rfl rfl rfl ?_
              refine r_callV0 (pc2 := 36) (As := []) (st := []) kX10_279 rfl rfl dX10_judge_33 c117 (by decide) rfl rfl (Nat.le_of_ble_eq_true rfl) (by omega) (c_keeps c117 c118 c124) rfl (fun h hq33 => ?_)
              obtain ⟨hxk, c124⟩ := hq33
              have c117 := hxk.get (by decide) c117
              have c118 := hxk.get (by decide) c118
              have c122 := hxk.get (by decide) c122
              have c123 := hxk.get (by decide) c123
              have c136 := hxk.get (by decide) c136
              have c137 := hxk.get (by decide) c137
              have c138 := hxk.get (by decide) c138
              have hx := hx.trans hxk (by decide)
              refine r_aload_n (pc2 := 37) 0 dX10_judge_36 rfl rfl rfl rfl ?_
              refine r_iload_n (pc2 := 38) 1 dX10_judge_37 rfl rfl rfl ?_
              refine r_callV1 (pc2 := 41) (As := [.int (nI t)]) (st := []) kX10_326 rfl rfl dX10_judge_38 c117 (by decide) rfl rfl (Nat.le_of_ble_eq_true rfl) (by omega) (c_tells (t := t) (n := rowN rm t) c117 c118 c122 c123 c137 c138 hA ht (hT t ht).1 (hT t ht).2 (by omega)) rfl (fun h hq38 => ?_)
              obtain ⟨hxt, c117, c118, ⟨f2, c122⟩, ⟨w2, c123⟩⟩ := hq38
              have c124 := hxt.get (by decide) c124
              have c136 := hxt.get (by decide) c136
              have c137 := hxt.get (by decide) c137
              have c138 := hxt.get (by decide) c138
              have hx := hx.trans hxt (by decide)
              have c117 : h.1 117 = some (mO (upd (upd v 0 0) 19 (nI (tellT a rm nu t).2.1))) := c117
              have c118 : h.1 118 = some (aI 3531 (nA (tellT a rm nu t).2.2)) := c118
              refine r_istore (pc2 := 43) (ls2 := [.ref 117, .int (nI t), .int 0, .int no, .int (nI (tellT a rm nu t).1), .float 0]) 4 dX10_judge_41 (by decide) rfl rfl rfl ?_
              refine r_aload_n (pc2 := 44) 0 dX10_judge_43 rfl rfl rfl rfl ?_
              refine r_callV1 (pc2 := 47) (As := []) (st := []) kX10_266 rfl rfl dX10_judge_44 c117 (by decide) rfl rfl (Nat.le_of_ble_eq_true rfl) (by omega) (c_standNow c117 c118 hB.G hB.c7 hB.dp) rfl (fun h2 hq44 => ?_)
              subst hq44
              refine r_istore (pc2 := 49) (ls2 := [.ref 117, .int (nI t), .int 0, .int no, .int (nI (tellT a rm nu t).1), .int (nI (packS ((tellT a rm nu t).2.2)))]) 5 dX10_judge_47 (by decide) rfl rfl rfl ?_
              refine r_aload_n (pc2 := 50) 0 dX10_judge_49 rfl rfl rfl rfl ?_
              refine r_callV0 (pc2 := 53) (As := []) (st := []) kX10_329 rfl rfl dX10_judge_50 c117 (by decide) rfl rfl (Nat.le_of_ble_eq_true rfl) (by omega) (c_isAgain (w := keepV a) c117 c118 c124 keepV_hw) rfl (fun h hq50 => ?_)
              obtain ⟨hxa, c118⟩ := hq50
              have c117 := hxa.get (by decide) c117
              have c122 := hxa.get (by decide) c122
              have c123 := hxa.get (by decide) c123
              have c124 := hxa.get (by decide) c124
              have c136 := hxa.get (by decide) c136
              have c137 := hxa.get (by decide) c137
              have c138 := hxa.get (by decide) c138
              have hx := hx.trans hxa (by decide)
              rw [again_eq hout] at c118
              refine r_iload_n (pc2 := 54) 2 dX10_judge_53 rfl rfl rfl ?_
              refine r_if_ne (tgt := 73) (pc2 := 57) dX10_judge_54 (by decide) rfl (fun b54 => ?_) (fun b54 => ?_)
              · exact absurd b54 (by decide)
              · skip
                refine r_aload_n (pc2 := 58) 0 dX10_judge_57 rfl rfl rfl rfl ?_
                refine r_getf (pc2 := 61) (v := .int (nI (tellT a rm nu t).2.1)) fX10_311 dX10_judge_58 c117 (by decide) rfl rfl ?_
                refine r_if_ne (tgt := 68) (pc2 := 64) dX10_judge_61 (by decide) rfl (fun b61 => ?_) (fun b61 => ?_)
                · skip
                  refine r_iload (pc2 := 70) 4 dX10_judge_68 rfl rfl ?_
                  refine r_goto (pc2 := 104) dX10_judge_70 (by decide) ?_
                  exact r_iret rfl dX10_judge_104 ⟨by rw [if_pos rfl, if_neg (fun q => b61 (by rw [q]; rfl))], (upd (upd v 0 0) 19 (nI (tellT a rm nu t).2.1)), ⟨rfl, rfl, rfl⟩, ⟨c117, c118, hx.get (by decide) k119, hx.get (by decide) k120, ⟨_, hx.get (by decide) k121⟩, ⟨_, c122⟩, ⟨_, c123⟩, ⟨_, c124⟩, ⟨_, hx.get (by decide) k125⟩, ⟨_, hx.get (by decide) k126⟩, ⟨_, hx.get (by decide) k127⟩, ⟨_, hx.get (by decide) k128⟩, ⟨_, hx.get (by decide) k129⟩, ⟨_, hx.get (by decide) k130⟩, ⟨_, hx.get (by decide) k131⟩, ⟨_, hx.get (by decide) k132⟩, ⟨_, hx.get (by decide) k133⟩, ⟨_, hx.get (by decide) k134⟩, ⟨_, hx.get (by decide) k135⟩, c136, c137, c138⟩, hx.mono (by decide)⟩
                · skip
                  refine r_iconst (pc2 := 65) (v := -1) dX10_judge_64 (by decide) rfl ?_
                  refine r_goto (pc2 := 104) dX10_judge_65 (by decide) ?_
                  exact r_iret rfl dX10_judge_104 ⟨by rw [if_pos rfl, if_pos (nI_z0 (by omega) b61)], (upd (upd v 0 0) 19 (nI (tellT a rm nu t).2.1)), ⟨rfl, rfl, rfl⟩, ⟨c117, c118, hx.get (by decide) k119, hx.get (by decide) k120, ⟨_, hx.get (by decide) k121⟩, ⟨_, c122⟩, ⟨_, c123⟩, ⟨_, c124⟩, ⟨_, hx.get (by decide) k125⟩, ⟨_, hx.get (by decide) k126⟩, ⟨_, hx.get (by decide) k127⟩, ⟨_, hx.get (by decide) k128⟩, ⟨_, hx.get (by decide) k129⟩, ⟨_, hx.get (by decide) k130⟩, ⟨_, hx.get (by decide) k131⟩, ⟨_, hx.get (by decide) k132⟩, ⟨_, hx.get (by decide) k133⟩, ⟨_, hx.get (by decide) k134⟩, ⟨_, hx.get (by decide) k135⟩, c136, c137, c138⟩, hx.mono (by decide)⟩
            · exact absurd (e25.trans hz) b27
          · exact absurd b14 (if1 hv)
      | 1, _, hv, _ =>
          refine Cn.go (ls := [.ref 117, .int (nI t), .int 1, .float 0, .float 0, .float 0]) (by decide +kernel) rfl (Nat.le_of_ble_eq_true rfl) ?_
          refine r_aload_n (pc2 := 1) 0 dX10_judge_0 rfl rfl rfl rfl ?_
          refine r_iconst (pc2 := 2) (v := 0) dX10_judge_1 (by decide) rfl ?_
          refine r_putfX (pc2 := 5) (moL (upd v 0 0)) fX10_1 dX10_judge_2 c117 (by decide) (Nat.le_of_ble_eq_true rfl) rfl rfl rfl (fun h z2 o2 c117 => ?_)
          have c118 := (o2 118 (by decide)).trans c118
          have c122 := (o2 122 (by decide)).trans c122
          have c123 := (o2 123 (by decide)).trans c123
          have c124 := (o2 124 (by decide)).trans c124
          have c136 := (o2 136 (by decide)).trans c136
          have c137 := (o2 137 (by decide)).trans c137
          have c138 := (o2 138 (by decide)).trans c138
          have hx := hx.step (a := 117) (by decide) z2 o2
          refine r_iload_n (pc2 := 6) 2 dX10_judge_5 rfl rfl rfl ?_
          refine r_i2l (pc2 := 7) dX10_judge_6 rfl ?_
          refine r_lconst (pc2 := 8) (v := 0) dX10_judge_7 (by decide) rfl ?_
          refine r_ldc2 (pc2 := 11) (v := 3) qX10_321 dX10_judge_8 rfl ?_
          refine r_callS1 (pc2 := 14) (As := [.long (Int32.toInt64 1), .long 0, .long 3]) (st := []) kX10_152 dX10_judge_11 rfl rfl (Nat.le_of_ble_eq_true rfl) (by omega) (c_within (Int32.toInt64 1) 0 3) rfl (fun h2 hq11 => ?_)
          subst hq11
          refine r_if_ne (tgt := 20) (pc2 := 17) dX10_judge_14 (by decide) rfl (fun b14 => ?_) (fun b14 => ?_)
          · skip
            refine r_aload_n (pc2 := 21) 0 dX10_judge_20 rfl rfl rfl rfl ?_
            refine r_iload_n (pc2 := 22) 1 dX10_judge_21 rfl rfl rfl ?_
            refine r_callV1 (pc2 := 25) (As := [.int (nI t)]) (st := []) kX10_323 rfl rfl dX10_judge_22 c117 (by decide) rfl rfl (Nat.le_of_ble_eq_true rfl) (by omega) (c_noTray (x := (nI t)) c117 c136 (by omega)) rfl (fun h2 hq22 => ?_)
            subst hq22
            refine r_topi (fun no e25 => ?_)
            refine r_istore_n (pc2 := 26) (ls2 := [.ref 117, .int (nI t), .int 1, .int no, .float 0, .float 0]) 3 dX10_judge_25 rfl (by decide) rfl rfl rfl ?_
            refine r_iload_n (pc2 := 27) 3 dX10_judge_26 rfl rfl rfl ?_
            refine r_if_eq (tgt := 32) (pc2 := 30) dX10_judge_27 (by decide) rfl (fun b27 => ?_) (fun b27 => ?_)
            · skip
              refine r_aload_n (pc2 := 33) 0 dX10_judge_32 rfl rfl rfl rfl ?_
              refine r_callV0 (pc2 := 36) (As := []) (st := []) kX10_279 rfl rfl dX10_judge_33 c117 (by decide) rfl rfl (Nat.le_of_ble_eq_true rfl) (by omega) (c_keeps c117 c118 c124) rfl (fun h hq33 => ?_)
              obtain ⟨hxk, c124⟩ := hq33
              have c117 := hxk.get (by decide) c117
              have c118 := hxk.get (by decide) c118
              have c122 := hxk.get (by decide) c122
              have c123 := hxk.get (by decide) c123
              have c136 := hxk.get (by decide) c136
              have c137 := hxk.get (by decide) c137
              have c138 := hxk.get (by decide) c138
              have hx := hx.trans hxk (by decide)
              refine r_aload_n (pc2 := 37) 0 dX10_judge_36 rfl rfl rfl rfl ?_
              refine r_iload_n (pc2 := 38) 1 dX10_judge_37 rfl rfl rfl ?_
              refine r_callV1 (pc2 := 41) (As := [.int (nI t)]) (st := []) kX10_326 rfl rfl dX10_judge_38 c117 (by decide) rfl rfl (Nat.le_of_ble_eq_true rfl) (by omega) (c_tells (t := t) (n := rowN rm t) c117 c118 c122 c123 c137 c138 hA ht (hT t ht).1 (hT t ht).2 (by omega)) rfl (fun h hq38 => ?_)
              obtain ⟨hxt, c117, c118, ⟨f2, c122⟩, ⟨w2, c123⟩⟩ := hq38
              have c124 := hxt.get (by decide) c124
              have c136 := hxt.get (by decide) c136
              have c137 := hxt.get (by decide) c137
              have c138 := hxt.get (by decide) c138
              have hx := hx.trans hxt (by decide)
              have c117 : h.1 117 = some (mO (upd (upd v 0 0) 19 (nI (tellT a rm nu t).2.1))) := c117
              have c118 : h.1 118 = some (aI 3531 (nA (tellT a rm nu t).2.2)) := c118
              refine r_istore (pc2 := 43) (ls2 := [.ref 117, .int (nI t), .int 1, .int no, .int (nI (tellT a rm nu t).1), .float 0]) 4 dX10_judge_41 (by decide) rfl rfl rfl ?_
              refine r_aload_n (pc2 := 44) 0 dX10_judge_43 rfl rfl rfl rfl ?_
              refine r_callV1 (pc2 := 47) (As := []) (st := []) kX10_266 rfl rfl dX10_judge_44 c117 (by decide) rfl rfl (Nat.le_of_ble_eq_true rfl) (by omega) (c_standNow c117 c118 hB.G hB.c7 hB.dp) rfl (fun h2 hq44 => ?_)
              subst hq44
              refine r_istore (pc2 := 49) (ls2 := [.ref 117, .int (nI t), .int 1, .int no, .int (nI (tellT a rm nu t).1), .int (nI (packS ((tellT a rm nu t).2.2)))]) 5 dX10_judge_47 (by decide) rfl rfl rfl ?_
              refine r_aload_n (pc2 := 50) 0 dX10_judge_49 rfl rfl rfl rfl ?_
              refine r_callV0 (pc2 := 53) (As := []) (st := []) kX10_329 rfl rfl dX10_judge_50 c117 (by decide) rfl rfl (Nat.le_of_ble_eq_true rfl) (by omega) (c_isAgain (w := keepV a) c117 c118 c124 keepV_hw) rfl (fun h hq50 => ?_)
              obtain ⟨hxa, c118⟩ := hq50
              have c117 := hxa.get (by decide) c117
              have c122 := hxa.get (by decide) c122
              have c123 := hxa.get (by decide) c123
              have c124 := hxa.get (by decide) c124
              have c136 := hxa.get (by decide) c136
              have c137 := hxa.get (by decide) c137
              have c138 := hxa.get (by decide) c138
              have hx := hx.trans hxa (by decide)
              rw [again_eq hout] at c118
              refine r_iload_n (pc2 := 54) 2 dX10_judge_53 rfl rfl rfl ?_
              refine r_if_ne (tgt := 73) (pc2 := 57) dX10_judge_54 (by decide) rfl (fun b54 => ?_) (fun b54 => ?_)
              · skip
                refine r_iload_n (pc2 := 74) 2 dX10_judge_73 rfl rfl rfl ?_
                refine r_iconst (pc2 := 75) (v := 1) dX10_judge_74 (by decide) rfl ?_
                refine r_icmp_ne (tgt := 85) (pc2 := 78) dX10_judge_75 (by decide) rfl (fun b75 => ?_) (fun b75 => ?_)
                · exact absurd b75 (by decide)
                · skip
                  refine r_aload_n (pc2 := 79) 0 dX10_judge_78 rfl rfl rfl rfl ?_
                  refine r_getf (pc2 := 82) (v := .int (nI (tellT a rm nu t).2.1)) fX10_311 dX10_judge_79 c117 (by decide) rfl rfl ?_
                  refine r_goto (pc2 := 104) dX10_judge_82 (by decide) ?_
                  exact r_iret rfl dX10_judge_104 ⟨rfl, (upd (upd v 0 0) 19 (nI (tellT a rm nu t).2.1)), ⟨rfl, rfl, rfl⟩, ⟨c117, c118, hx.get (by decide) k119, hx.get (by decide) k120, ⟨_, hx.get (by decide) k121⟩, ⟨_, c122⟩, ⟨_, c123⟩, ⟨_, c124⟩, ⟨_, hx.get (by decide) k125⟩, ⟨_, hx.get (by decide) k126⟩, ⟨_, hx.get (by decide) k127⟩, ⟨_, hx.get (by decide) k128⟩, ⟨_, hx.get (by decide) k129⟩, ⟨_, hx.get (by decide) k130⟩, ⟨_, hx.get (by decide) k131⟩, ⟨_, hx.get (by decide) k132⟩, ⟨_, hx.get (by decide) k133⟩, ⟨_, hx.get (by decide) k134⟩, ⟨_, hx.get (by decide) k135⟩, c136, c137, c138⟩, hx.mono (by decide)⟩
              · exact absurd b54 (by decide)
            · exact absurd (e25.trans hz) b27
          · exact absurd b14 (if1 hv)
      | 2, _, hv, _ =>
          refine Cn.go (ls := [.ref 117, .int (nI t), .int 2, .float 0, .float 0, .float 0]) (by decide +kernel) rfl (Nat.le_of_ble_eq_true rfl) ?_
          refine r_aload_n (pc2 := 1) 0 dX10_judge_0 rfl rfl rfl rfl ?_
          refine r_iconst (pc2 := 2) (v := 0) dX10_judge_1 (by decide) rfl ?_
          refine r_putfX (pc2 := 5) (moL (upd v 0 0)) fX10_1 dX10_judge_2 c117 (by decide) (Nat.le_of_ble_eq_true rfl) rfl rfl rfl (fun h z2 o2 c117 => ?_)
          have c118 := (o2 118 (by decide)).trans c118
          have c122 := (o2 122 (by decide)).trans c122
          have c123 := (o2 123 (by decide)).trans c123
          have c124 := (o2 124 (by decide)).trans c124
          have c136 := (o2 136 (by decide)).trans c136
          have c137 := (o2 137 (by decide)).trans c137
          have c138 := (o2 138 (by decide)).trans c138
          have hx := hx.step (a := 117) (by decide) z2 o2
          refine r_iload_n (pc2 := 6) 2 dX10_judge_5 rfl rfl rfl ?_
          refine r_i2l (pc2 := 7) dX10_judge_6 rfl ?_
          refine r_lconst (pc2 := 8) (v := 0) dX10_judge_7 (by decide) rfl ?_
          refine r_ldc2 (pc2 := 11) (v := 3) qX10_321 dX10_judge_8 rfl ?_
          refine r_callS1 (pc2 := 14) (As := [.long (Int32.toInt64 2), .long 0, .long 3]) (st := []) kX10_152 dX10_judge_11 rfl rfl (Nat.le_of_ble_eq_true rfl) (by omega) (c_within (Int32.toInt64 2) 0 3) rfl (fun h2 hq11 => ?_)
          subst hq11
          refine r_if_ne (tgt := 20) (pc2 := 17) dX10_judge_14 (by decide) rfl (fun b14 => ?_) (fun b14 => ?_)
          · skip
            refine r_aload_n (pc2 := 21) 0 dX10_judge_20 rfl rfl rfl rfl ?_
            refine r_iload_n (pc2 := 22) 1 dX10_judge_21 rfl rfl rfl ?_
            refine r_callV1 (pc2 := 25) (As := [.int (nI t)]) (st := []) kX10_323 rfl rfl dX10_judge_22 c117 (by decide) rfl rfl (Nat.le_of_ble_eq_true rfl) (by omega) (c_noTray (x := (nI t)) c117 c136 (by omega)) rfl (fun h2 hq22 => ?_)
            subst hq22
            refine r_topi (fun no e25 => ?_)
            refine r_istore_n (pc2 := 26) (ls2 := [.ref 117, .int (nI t), .int 2, .int no, .float 0, .float 0]) 3 dX10_judge_25 rfl (by decide) rfl rfl rfl ?_
            refine r_iload_n (pc2 := 27) 3 dX10_judge_26 rfl rfl rfl ?_
            refine r_if_eq (tgt := 32) (pc2 := 30) dX10_judge_27 (by decide) rfl (fun b27 => ?_) (fun b27 => ?_)
            · skip
              refine r_aload_n (pc2 := 33) 0 dX10_judge_32 rfl rfl rfl rfl ?_
              refine r_callV0 (pc2 := 36) (As := []) (st := []) kX10_279 rfl rfl dX10_judge_33 c117 (by decide) rfl rfl (Nat.le_of_ble_eq_true rfl) (by omega) (c_keeps c117 c118 c124) rfl (fun h hq33 => ?_)
              obtain ⟨hxk, c124⟩ := hq33
              have c117 := hxk.get (by decide) c117
              have c118 := hxk.get (by decide) c118
              have c122 := hxk.get (by decide) c122
              have c123 := hxk.get (by decide) c123
              have c136 := hxk.get (by decide) c136
              have c137 := hxk.get (by decide) c137
              have c138 := hxk.get (by decide) c138
              have hx := hx.trans hxk (by decide)
              refine r_aload_n (pc2 := 37) 0 dX10_judge_36 rfl rfl rfl rfl ?_
              refine r_iload_n (pc2 := 38) 1 dX10_judge_37 rfl rfl rfl ?_
              refine r_callV1 (pc2 := 41) (As := [.int (nI t)]) (st := []) kX10_326 rfl rfl dX10_judge_38 c117 (by decide) rfl rfl (Nat.le_of_ble_eq_true rfl) (by omega) (c_tells (t := t) (n := rowN rm t) c117 c118 c122 c123 c137 c138 hA ht (hT t ht).1 (hT t ht).2 (by omega)) rfl (fun h hq38 => ?_)
              obtain ⟨hxt, c117, c118, ⟨f2, c122⟩, ⟨w2, c123⟩⟩ := hq38
              have c124 := hxt.get (by decide) c124
              have c136 := hxt.get (by decide) c136
              have c137 := hxt.get (by decide) c137
              have c138 := hxt.get (by decide) c138
              have hx := hx.trans hxt (by decide)
              have c117 : h.1 117 = some (mO (upd (upd v 0 0) 19 (nI (tellT a rm nu t).2.1))) := c117
              have c118 : h.1 118 = some (aI 3531 (nA (tellT a rm nu t).2.2)) := c118
              refine r_istore (pc2 := 43) (ls2 := [.ref 117, .int (nI t), .int 2, .int no, .int (nI (tellT a rm nu t).1), .float 0]) 4 dX10_judge_41 (by decide) rfl rfl rfl ?_
              refine r_aload_n (pc2 := 44) 0 dX10_judge_43 rfl rfl rfl rfl ?_
              refine r_callV1 (pc2 := 47) (As := []) (st := []) kX10_266 rfl rfl dX10_judge_44 c117 (by decide) rfl rfl (Nat.le_of_ble_eq_true rfl) (by omega) (c_standNow c117 c118 hB.G hB.c7 hB.dp) rfl (fun h2 hq44 => ?_)
              subst hq44
              refine r_istore (pc2 := 49) (ls2 := [.ref 117, .int (nI t), .int 2, .int no, .int (nI (tellT a rm nu t).1), .int (nI (packS ((tellT a rm nu t).2.2)))]) 5 dX10_judge_47 (by decide) rfl rfl rfl ?_
              refine r_aload_n (pc2 := 50) 0 dX10_judge_49 rfl rfl rfl rfl ?_
              refine r_callV0 (pc2 := 53) (As := []) (st := []) kX10_329 rfl rfl dX10_judge_50 c117 (by decide) rfl rfl (Nat.le_of_ble_eq_true rfl) (by omega) (c_isAgain (w := keepV a) c117 c118 c124 keepV_hw) rfl (fun h hq50 => ?_)
              obtain ⟨hxa, c118⟩ := hq50
              have c117 := hxa.get (by decide) c117
              have c122 := hxa.get (by decide) c122
              have c123 := hxa.get (by decide) c123
              have c124 := hxa.get (by decide) c124
              have c136 := hxa.get (by decide) c136
              have c137 := hxa.get (by decide) c137
              have c138 := hxa.get (by decide) c138
              have hx := hx.trans hxa (by decide)
              rw [again_eq hout] at c118
              refine r_iload_n (pc2 := 54) 2 dX10_judge_53 rfl rfl rfl ?_
              refine r_if_ne (tgt := 73) (pc2 := 57) dX10_judge_54 (by decide) rfl (fun b54 => ?_) (fun b54 => ?_)
              · skip
                refine r_iload_n (pc2 := 74) 2 dX10_judge_73 rfl rfl rfl ?_
                refine r_iconst (pc2 := 75) (v := 1) dX10_judge_74 (by decide) rfl ?_
                refine r_icmp_ne (tgt := 85) (pc2 := 78) dX10_judge_75 (by decide) rfl (fun b75 => ?_) (fun b75 => ?_)
                · skip
                  refine r_iload_n (pc2 := 86) 2 dX10_judge_85 rfl rfl rfl ?_
                  refine r_iconst (pc2 := 87) (v := 2) dX10_judge_86 (by decide) rfl ?_
                  refine r_icmp_ne (tgt := 98) (pc2 := 90) dX10_judge_87 (by decide) rfl (fun b87 => ?_) (fun b87 => ?_)
                  · exact absurd b87 (by decide)
                  · skip
                    refine r_iload (pc2 := 92) 5 dX10_judge_90 rfl rfl ?_
                    refine r_callS1 (pc2 := 95) (As := [.int (nI (packS ((tellT a rm nu t).2.2)))]) (st := []) kX10_231 dX10_judge_92 rfl rfl (Nat.le_of_ble_eq_true rfl) (by omega) (c_depthIn (nI (packS ((tellT a rm nu t).2.2)))) rfl (fun h2 hq92 => ?_)
                    subst hq92
                    refine r_goto (pc2 := 104) dX10_judge_95 (by decide) ?_
                    refine r_cast (nI ((tellT a rm nu t).2.2 26)) (by rw [depthN (by have := hB.plt; omega), hB.pdep]) ?_
                    exact r_iret rfl dX10_judge_104 ⟨rfl, (upd (upd v 0 0) 19 (nI (tellT a rm nu t).2.1)), ⟨rfl, rfl, rfl⟩, ⟨c117, c118, hx.get (by decide) k119, hx.get (by decide) k120, ⟨_, hx.get (by decide) k121⟩, ⟨_, c122⟩, ⟨_, c123⟩, ⟨_, c124⟩, ⟨_, hx.get (by decide) k125⟩, ⟨_, hx.get (by decide) k126⟩, ⟨_, hx.get (by decide) k127⟩, ⟨_, hx.get (by decide) k128⟩, ⟨_, hx.get (by decide) k129⟩, ⟨_, hx.get (by decide) k130⟩, ⟨_, hx.get (by decide) k131⟩, ⟨_, hx.get (by decide) k132⟩, ⟨_, hx.get (by decide) k133⟩, ⟨_, hx.get (by decide) k134⟩, ⟨_, hx.get (by decide) k135⟩, c136, c137, c138⟩, hx.mono (by decide)⟩
                · exact absurd b75 (by decide)
              · exact absurd b54 (by decide)
            · exact absurd (e25.trans hz) b27
          · exact absurd b14 (if1 hv)
      | 3, _, hv, _ =>
          refine Cn.go (ls := [.ref 117, .int (nI t), .int 3, .float 0, .float 0, .float 0]) (by decide +kernel) rfl (Nat.le_of_ble_eq_true rfl) ?_
          refine r_aload_n (pc2 := 1) 0 dX10_judge_0 rfl rfl rfl rfl ?_
          refine r_iconst (pc2 := 2) (v := 0) dX10_judge_1 (by decide) rfl ?_
          refine r_putfX (pc2 := 5) (moL (upd v 0 0)) fX10_1 dX10_judge_2 c117 (by decide) (Nat.le_of_ble_eq_true rfl) rfl rfl rfl (fun h z2 o2 c117 => ?_)
          have c118 := (o2 118 (by decide)).trans c118
          have c122 := (o2 122 (by decide)).trans c122
          have c123 := (o2 123 (by decide)).trans c123
          have c124 := (o2 124 (by decide)).trans c124
          have c136 := (o2 136 (by decide)).trans c136
          have c137 := (o2 137 (by decide)).trans c137
          have c138 := (o2 138 (by decide)).trans c138
          have hx := hx.step (a := 117) (by decide) z2 o2
          refine r_iload_n (pc2 := 6) 2 dX10_judge_5 rfl rfl rfl ?_
          refine r_i2l (pc2 := 7) dX10_judge_6 rfl ?_
          refine r_lconst (pc2 := 8) (v := 0) dX10_judge_7 (by decide) rfl ?_
          refine r_ldc2 (pc2 := 11) (v := 3) qX10_321 dX10_judge_8 rfl ?_
          refine r_callS1 (pc2 := 14) (As := [.long (Int32.toInt64 3), .long 0, .long 3]) (st := []) kX10_152 dX10_judge_11 rfl rfl (Nat.le_of_ble_eq_true rfl) (by omega) (c_within (Int32.toInt64 3) 0 3) rfl (fun h2 hq11 => ?_)
          subst hq11
          refine r_if_ne (tgt := 20) (pc2 := 17) dX10_judge_14 (by decide) rfl (fun b14 => ?_) (fun b14 => ?_)
          · skip
            refine r_aload_n (pc2 := 21) 0 dX10_judge_20 rfl rfl rfl rfl ?_
            refine r_iload_n (pc2 := 22) 1 dX10_judge_21 rfl rfl rfl ?_
            refine r_callV1 (pc2 := 25) (As := [.int (nI t)]) (st := []) kX10_323 rfl rfl dX10_judge_22 c117 (by decide) rfl rfl (Nat.le_of_ble_eq_true rfl) (by omega) (c_noTray (x := (nI t)) c117 c136 (by omega)) rfl (fun h2 hq22 => ?_)
            subst hq22
            refine r_topi (fun no e25 => ?_)
            refine r_istore_n (pc2 := 26) (ls2 := [.ref 117, .int (nI t), .int 3, .int no, .float 0, .float 0]) 3 dX10_judge_25 rfl (by decide) rfl rfl rfl ?_
            refine r_iload_n (pc2 := 27) 3 dX10_judge_26 rfl rfl rfl ?_
            refine r_if_eq (tgt := 32) (pc2 := 30) dX10_judge_27 (by decide) rfl (fun b27 => ?_) (fun b27 => ?_)
            · skip
              refine r_aload_n (pc2 := 33) 0 dX10_judge_32 rfl rfl rfl rfl ?_
              refine r_callV0 (pc2 := 36) (As := []) (st := []) kX10_279 rfl rfl dX10_judge_33 c117 (by decide) rfl rfl (Nat.le_of_ble_eq_true rfl) (by omega) (c_keeps c117 c118 c124) rfl (fun h hq33 => ?_)
              obtain ⟨hxk, c124⟩ := hq33
              have c117 := hxk.get (by decide) c117
              have c118 := hxk.get (by decide) c118
              have c122 := hxk.get (by decide) c122
              have c123 := hxk.get (by decide) c123
              have c136 := hxk.get (by decide) c136
              have c137 := hxk.get (by decide) c137
              have c138 := hxk.get (by decide) c138
              have hx := hx.trans hxk (by decide)
              refine r_aload_n (pc2 := 37) 0 dX10_judge_36 rfl rfl rfl rfl ?_
              refine r_iload_n (pc2 := 38) 1 dX10_judge_37 rfl rfl rfl ?_
              refine r_callV1 (pc2 := 41) (As := [.int (nI t)]) (st := []) kX10_326 rfl rfl dX10_judge_38 c117 (by decide) rfl rfl (Nat.le_of_ble_eq_true rfl) (by omega) (c_tells (t := t) (n := rowN rm t) c117 c118 c122 c123 c137 c138 hA ht (hT t ht).1 (hT t ht).2 (by omega)) rfl (fun h hq38 => ?_)
              obtain ⟨hxt, c117, c118, ⟨f2, c122⟩, ⟨w2, c123⟩⟩ := hq38
              have c124 := hxt.get (by decide) c124
              have c136 := hxt.get (by decide) c136
              have c137 := hxt.get (by decide) c137
              have c138 := hxt.get (by decide) c138
              have hx := hx.trans hxt (by decide)
              have c117 : h.1 117 = some (mO (upd (upd v 0 0) 19 (nI (tellT a rm nu t).2.1))) := c117
              have c118 : h.1 118 = some (aI 3531 (nA (tellT a rm nu t).2.2)) := c118
              refine r_istore (pc2 := 43) (ls2 := [.ref 117, .int (nI t), .int 3, .int no, .int (nI (tellT a rm nu t).1), .float 0]) 4 dX10_judge_41 (by decide) rfl rfl rfl ?_
              refine r_aload_n (pc2 := 44) 0 dX10_judge_43 rfl rfl rfl rfl ?_
              refine r_callV1 (pc2 := 47) (As := []) (st := []) kX10_266 rfl rfl dX10_judge_44 c117 (by decide) rfl rfl (Nat.le_of_ble_eq_true rfl) (by omega) (c_standNow c117 c118 hB.G hB.c7 hB.dp) rfl (fun h2 hq44 => ?_)
              subst hq44
              refine r_istore (pc2 := 49) (ls2 := [.ref 117, .int (nI t), .int 3, .int no, .int (nI (tellT a rm nu t).1), .int (nI (packS ((tellT a rm nu t).2.2)))]) 5 dX10_judge_47 (by decide) rfl rfl rfl ?_
              refine r_aload_n (pc2 := 50) 0 dX10_judge_49 rfl rfl rfl rfl ?_
              refine r_callV0 (pc2 := 53) (As := []) (st := []) kX10_329 rfl rfl dX10_judge_50 c117 (by decide) rfl rfl (Nat.le_of_ble_eq_true rfl) (by omega) (c_isAgain (w := keepV a) c117 c118 c124 keepV_hw) rfl (fun h hq50 => ?_)
              obtain ⟨hxa, c118⟩ := hq50
              have c117 := hxa.get (by decide) c117
              have c122 := hxa.get (by decide) c122
              have c123 := hxa.get (by decide) c123
              have c124 := hxa.get (by decide) c124
              have c136 := hxa.get (by decide) c136
              have c137 := hxa.get (by decide) c137
              have c138 := hxa.get (by decide) c138
              have hx := hx.trans hxa (by decide)
              rw [again_eq hout] at c118
              refine r_iload_n (pc2 := 54) 2 dX10_judge_53 rfl rfl rfl ?_
              refine r_if_ne (tgt := 73) (pc2 := 57) dX10_judge_54 (by decide) rfl (fun b54 => ?_) (fun b54 => ?_)
              · skip
                refine r_iload_n (pc2 := 74) 2 dX10_judge_73 rfl rfl rfl ?_
                refine r_iconst (pc2 := 75) (v := 1) dX10_judge_74 (by decide) rfl ?_
                refine r_icmp_ne (tgt := 85) (pc2 := 78) dX10_judge_75 (by decide) rfl (fun b75 => ?_) (fun b75 => ?_)
                · skip
                  refine r_iload_n (pc2 := 86) 2 dX10_judge_85 rfl rfl rfl ?_
                  refine r_iconst (pc2 := 87) (v := 2) dX10_judge_86 (by decide) rfl ?_
                  refine r_icmp_ne (tgt := 98) (pc2 := 90) dX10_judge_87 (by decide) rfl (fun b87 => ?_) (fun b87 => ?_)
                  · skip
                    refine r_aload_n (pc2 := 99) 0 dX10_judge_98 rfl rfl rfl rfl ?_
                    refine r_iload (pc2 := 101) 5 dX10_judge_99 rfl rfl ?_
                    refine r_callV1 (pc2 := 104) (As := [.int (nI (packS ((tellT a rm nu t).2.2)))]) (st := []) kX10_256 rfl rfl dX10_judge_101 c117 (by decide) rfl rfl (Nat.le_of_ble_eq_true rfl) (by omega) (c_pastIn (st := (packS ((tellT a rm nu t).2.2))) c117 c118 hA.G hA.C (by have := hB.plt; omega) (by omega)) rfl (fun h2 hq101 => ?_)
                    subst hq101
                    exact r_iret rfl dX10_judge_104 ⟨rfl, (upd (upd v 0 0) 19 (nI (tellT a rm nu t).2.1)), ⟨rfl, rfl, rfl⟩, ⟨c117, c118, hx.get (by decide) k119, hx.get (by decide) k120, ⟨_, hx.get (by decide) k121⟩, ⟨_, c122⟩, ⟨_, c123⟩, ⟨_, c124⟩, ⟨_, hx.get (by decide) k125⟩, ⟨_, hx.get (by decide) k126⟩, ⟨_, hx.get (by decide) k127⟩, ⟨_, hx.get (by decide) k128⟩, ⟨_, hx.get (by decide) k129⟩, ⟨_, hx.get (by decide) k130⟩, ⟨_, hx.get (by decide) k131⟩, ⟨_, hx.get (by decide) k132⟩, ⟨_, hx.get (by decide) k133⟩, ⟨_, hx.get (by decide) k134⟩, ⟨_, hx.get (by decide) k135⟩, c136, c137, c138⟩, hx.mono (by decide)⟩
                  · exact absurd b87 (by decide)
                · exact absurd b75 (by decide)
              · exact absurd b54 (by decide)
            · exact absurd (e25.trans hz) b27
          · exact absurd b14 (if1 hv)
    · skip
      refine Cn.go (ls := [.ref 117, .int x, .int y, .float 0, .float 0, .float 0]) (by decide +kernel) rfl (Nat.le_of_ble_eq_true rfl) ?_
      refine r_aload_n (pc2 := 1) 0 dX10_judge_0 rfl rfl rfl rfl ?_
      refine r_iconst (pc2 := 2) (v := 0) dX10_judge_1 (by decide) rfl ?_
      refine r_putfX (pc2 := 5) (moL (upd v 0 0)) fX10_1 dX10_judge_2 c117 (by decide) (Nat.le_of_ble_eq_true rfl) rfl rfl rfl (fun h z2 o2 c117 => ?_)
      have c118 := (o2 118 (by decide)).trans c118
      have c122 := (o2 122 (by decide)).trans c122
      have c123 := (o2 123 (by decide)).trans c123
      have c124 := (o2 124 (by decide)).trans c124
      have c136 := (o2 136 (by decide)).trans c136
      have c137 := (o2 137 (by decide)).trans c137
      have c138 := (o2 138 (by decide)).trans c138
      have hx := hx.step (a := 117) (by decide) z2 o2
      refine r_iload_n (pc2 := 6) 2 dX10_judge_5 rfl rfl rfl ?_
      refine r_i2l (pc2 := 7) dX10_judge_6 rfl ?_
      refine r_lconst (pc2 := 8) (v := 0) dX10_judge_7 (by decide) rfl ?_
      refine r_ldc2 (pc2 := 11) (v := 3) qX10_321 dX10_judge_8 rfl ?_
      refine r_callS1 (pc2 := 14) (As := [.long (Int32.toInt64 y), .long 0, .long 3]) (st := []) kX10_152 dX10_judge_11 rfl rfl (Nat.le_of_ble_eq_true rfl) (by omega) (c_within (Int32.toInt64 y) 0 3) rfl (fun h2 hq11 => ?_)
      subst hq11
      refine r_if_ne (tgt := 20) (pc2 := 17) dX10_judge_14 (by decide) rfl (fun b14 => ?_) (fun b14 => ?_)
      · skip
        refine r_aload_n (pc2 := 21) 0 dX10_judge_20 rfl rfl rfl rfl ?_
        refine r_iload_n (pc2 := 22) 1 dX10_judge_21 rfl rfl rfl ?_
        refine r_callV1 (pc2 := 25) (As := [.int x]) (st := []) kX10_323 rfl rfl dX10_judge_22 c117 (by decide) rfl rfl (Nat.le_of_ble_eq_true rfl) (by omega) (c_noTray (x := x) c117 c136 (by omega)) rfl (fun h2 hq22 => ?_)
        subst hq22
        refine r_topi (fun x25 e25 => ?_)
        refine r_istore_n (pc2 := 26) (ls2 := [.ref 117, .int x, .int y, .int x25, .float 0, .float 0]) 3 dX10_judge_25 rfl (by decide) rfl rfl rfl ?_
        subst e25
        refine r_iload_n (pc2 := 27) 3 dX10_judge_26 rfl rfl rfl ?_
        refine r_if_eq (tgt := 32) (pc2 := 30) dX10_judge_27 (by decide) rfl (fun b27 => ?_) (fun b27 => ?_)
        · exact absurd b27 hz
        · skip
          refine r_iload_n (pc2 := 31) 3 dX10_judge_30 rfl rfl rfl ?_
          exact r_iret rfl dX10_judge_31 ⟨by rw [judgeF, if_neg (fun q => q hv), if_pos hz], (upd v 0 0), ⟨rfl, rfl, rfl⟩, ⟨c117, c118, hx.get (by decide) k119, hx.get (by decide) k120, ⟨_, hx.get (by decide) k121⟩, ⟨_, c122⟩, ⟨_, c123⟩, ⟨_, c124⟩, ⟨_, hx.get (by decide) k125⟩, ⟨_, hx.get (by decide) k126⟩, ⟨_, hx.get (by decide) k127⟩, ⟨_, hx.get (by decide) k128⟩, ⟨_, hx.get (by decide) k129⟩, ⟨_, hx.get (by decide) k130⟩, ⟨_, hx.get (by decide) k131⟩, ⟨_, hx.get (by decide) k132⟩, ⟨_, hx.get (by decide) k133⟩, ⟨_, hx.get (by decide) k134⟩, ⟨_, hx.get (by decide) k135⟩, c136, c137, c138⟩, hx.mono (by decide)⟩
      · exact absurd b14 (if1 hv)
  · skip
    refine Cn.go (ls := [.ref 117, .int x, .int y, .float 0, .float 0, .float 0]) (by decide +kernel) rfl (Nat.le_of_ble_eq_true rfl) ?_
    refine r_aload_n (pc2 := 1) 0 dX10_judge_0 rfl rfl rfl rfl ?_
    refine r_iconst (pc2 := 2) (v := 0) dX10_judge_1 (by decide) rfl ?_
    refine r_putfX (pc2 := 5) (moL (upd v 0 0)) fX10_1 dX10_judge_2 c117 (by decide) (Nat.le_of_ble_eq_true rfl) rfl rfl rfl (fun h z2 o2 c117 => ?_)
    have c118 := (o2 118 (by decide)).trans c118
    have c122 := (o2 122 (by decide)).trans c122
    have c123 := (o2 123 (by decide)).trans c123
    have c124 := (o2 124 (by decide)).trans c124
    have c136 := (o2 136 (by decide)).trans c136
    have c137 := (o2 137 (by decide)).trans c137
    have c138 := (o2 138 (by decide)).trans c138
    have hx := hx.step (a := 117) (by decide) z2 o2
    refine r_iload_n (pc2 := 6) 2 dX10_judge_5 rfl rfl rfl ?_
    refine r_i2l (pc2 := 7) dX10_judge_6 rfl ?_
    refine r_lconst (pc2 := 8) (v := 0) dX10_judge_7 (by decide) rfl ?_
    refine r_ldc2 (pc2 := 11) (v := 3) qX10_321 dX10_judge_8 rfl ?_
    refine r_callS1 (pc2 := 14) (As := [.long (Int32.toInt64 y), .long 0, .long 3]) (st := []) kX10_152 dX10_judge_11 rfl rfl (Nat.le_of_ble_eq_true rfl) (by omega) (c_within (Int32.toInt64 y) 0 3) rfl (fun h2 hq11 => ?_)
    subst hq11
    refine r_if_ne (tgt := 20) (pc2 := 17) dX10_judge_14 (by decide) rfl (fun b14 => ?_) (fun b14 => ?_)
    · exact absurd (if0 hv) b14
    · skip
      refine r_bipush (pc2 := 19) (v := -2) dX10_judge_17 (by decide) rfl ?_
      exact r_iret rfl dX10_judge_19 ⟨by rw [judgeF, if_pos hv], (upd v 0 0), ⟨rfl, rfl, rfl⟩, ⟨c117, c118, hx.get (by decide) k119, hx.get (by decide) k120, ⟨_, hx.get (by decide) k121⟩, ⟨_, c122⟩, ⟨_, c123⟩, ⟨_, c124⟩, ⟨_, hx.get (by decide) k125⟩, ⟨_, hx.get (by decide) k126⟩, ⟨_, hx.get (by decide) k127⟩, ⟨_, hx.get (by decide) k128⟩, ⟨_, hx.get (by decide) k129⟩, ⟨_, hx.get (by decide) k130⟩, ⟨_, hx.get (by decide) k131⟩, ⟨_, hx.get (by decide) k132⟩, ⟨_, hx.get (by decide) k133⟩, ⟨_, hx.get (by decide) k134⟩, ⟨_, hx.get (by decide) k135⟩, c136, c137, c138⟩, hx.mono (by decide)⟩
