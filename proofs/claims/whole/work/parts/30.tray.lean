/-! deeds in a tray, draws -/
def tell (F : Nat → Int64) : Nat → Nat → (Nat → Nat) → Nat × Nat × (Nat → Nat)
  | 0, k, a => (k, 0, a)
  | m + 1, k, a => if whyD a (F k) = 0 then tell F m (k + 1) (doesN a (F k).toNatClampNeg) else (k, whyD a (F k), a)
theorem upd_upd (f : Nat → Int32) (k : Nat) (x y : Int32) : upd (upd f k x) k y = upd f k y := by
  funext j
  show (if j = k then y else if j = k then x else f j) = (if j = k then y else f j)
  split <;> rfl
theorem AIN.telling {F : Nat → Int64} : ∀ (m k : Nat) (a : Nat → Nat), AIN a → AIN (tell F m k a).2.2 := by
  intro m
  induction m with
  | zero => intro k a hA; exact hA
  | succ m ih =>
    intro k a hA
    unfold tell
    split
    · rename_i h
      obtain ⟨j, hj, e, -⟩ := whyD_ok hA h
      rw [e] at h ⊢
      rw [lN_clamp (by omega)]
      exact ih _ _ (hA.does h hj)
    · exact hA
theorem whyD_lt (a : Nat → Nat) (x : Int64) : whyD a x < 4 := by
  unfold whyD whyF
  repeat' split
  all_goals first | decide | exact why2_lt _ _ _
set_option maxRecDepth 20000 in
set_option maxHeartbeats 1000000 in
theorem c_tells {E : EnvT} {d : Nat} {h0 : Hp} {v : Nat → Int32} {a : Nat → Nat} {f w rm : Nat → Int32} {nu : Nat → Int64} {t n : Nat} (c117 : h0.1 117 = some (mO v)) (c118 : h0.1 118 = some (aI 3531 (nA a))) (c122 : h0.1 122 = some (aI 900 f)) (c123 : h0.1 123 = some (aI 9 w)) (c137 : h0.1 137 = some (aI 4 rm)) (c138 : h0.1 138 = some (aL 160 nu)) (hA : AIN a) (ht : t < 4) (hn : rm t = nI n) (hn40 : n ≤ 40) (hd : 6 ≤ d) : Cn E mX10_tells d [.ref 117, .int (nI t)] h0 (fun r h2 => r = some (.int (nI (tell (fun j => nu (40 * t + j)) n 0 a).1)) ∧ Ex [117, 118, 122, 123] h0 h2 ∧ h2.1 117 = some (mO (upd v 19 (nI (tell (fun j => nu (40 * t + j)) n 0 a).2.1))) ∧ h2.1 118 = some (aI 3531 (nA (tell (fun j => nu (40 * t + j)) n 0 a).2.2)) ∧ (∃ f2, h2.1 122 = some (aI 900 f2)) ∧ ∃ w2, h2.1 123 = some (aI 9 w2)) := by
  refine Cn.go (ls := [.ref 117, .int (nI t), .float 0]) (by decide +kernel) rfl (Nat.le_of_ble_eq_true rfl) ?_
  have hx : Ex [117, 118, 122, 123] h0 h0 := Ex.rf
  have loop : ∀ (m k : Nat) (a : Nat → Nat) (h1 : Hp) (f w : Nat → Int32), k + m = n → AIN a → Ex [117, 118, 122, 123] h0 h1 → h1.1 117 = some (mO (upd v 19 0)) → h1.1 118 = some (aI 3531 (nA a)) → h1.1 122 = some (aI 900 f) → h1.1 123 = some (aI 9 w) → h1.1 137 = some (aI 4 rm) → h1.1 138 = some (aL 160 nu) → Fr E mX10_tells d 7 [.ref 117, .int (nI t), .int (nI k)] [] h1 (fun r h2 => r = some (.int (nI (tell (fun j => nu (40 * t + j)) m k a).1)) ∧ Ex [117, 118, 122, 123] h0 h2 ∧ h2.1 117 = some (mO (upd v 19 (nI (tell (fun j => nu (40 * t + j)) m k a).2.1))) ∧ h2.1 118 = some (aI 3531 (nA (tell (fun j => nu (40 * t + j)) m k a).2.2)) ∧ (∃ f2, h2.1 122 = some (aI 900 f2)) ∧ ∃ w2, h2.1 123 = some (aI 9 w2)) := by
    intro m
    induction m with
    | zero =>
      intro k a h f w hk hA hx c117 c118 c122 c123 c137 c138
      obtain rfl : k = n := by omega
      refine r_iload_n (pc2 := 8) 2 dX10_tells_7 rfl rfl rfl ?_
      refine r_aload_n (pc2 := 9) 0 dX10_tells_8 rfl rfl rfl rfl ?_
      refine r_getf (pc2 := 12) (v := .ref 137) fX10_80 dX10_tells_9 c117 (by decide) rfl rfl ?_
      refine r_iload_n (pc2 := 13) 1 dX10_tells_12 rfl rfl rfl ?_
      refine r_ialdN (pc2 := 14) t dX10_tells_13 c137 (by decide) rfl (by omega) (by decide) rfl ?_
      refine r_cast (nI k) (hn) ?_
      refine r_icmp_ge (tgt := 67) (pc2 := 17) dX10_tells_14 (by decide) rfl (fun b14 => ?_) (fun b14 => ?_)
      · skip
        refine r_aload_n (pc2 := 68) 0 dX10_tells_67 rfl rfl rfl rfl ?_
        refine r_getf (pc2 := 71) (v := .ref 137) fX10_80 dX10_tells_68 c117 (by decide) rfl rfl ?_
        refine r_iload_n (pc2 := 72) 1 dX10_tells_71 rfl rfl rfl ?_
        refine r_ialdN (pc2 := 73) t dX10_tells_72 c137 (by decide) rfl (by omega) (by decide) rfl ?_
        refine r_cast (nI k) (hn) ?_
        exact r_iret rfl dX10_tells_73 ⟨rfl, hx, c117, c118, ⟨_, c122⟩, ⟨_, c123⟩⟩
      · exact absurd (nI_le (Nat.le_refl _) (by omega)) b14
    | succ m ih =>
      intro k a h f w hk hA hx c117 c118 c122 c123 c137 c138
      have hlt : k < n := by omega
      by_cases hw : whyD a (nu (40 * t + k)) = 0
      · obtain ⟨j, hj, ej, -⟩ := whyD_ok hA hw
        have hw0 : whyD a (lN j) = 0 := by rw [← ej]; exact hw
        have et : tell (fun j => nu (40 * t + j)) (m + 1) k a = tell (fun j => nu (40 * t + j)) m (k + 1) (doesN a j) := by
          rw [tell, if_pos hw, ej, lN_clamp (by omega)]
        rw [et]
        refine r_iload_n (pc2 := 8) 2 dX10_tells_7 rfl rfl rfl ?_
        refine r_aload_n (pc2 := 9) 0 dX10_tells_8 rfl rfl rfl rfl ?_
        refine r_getf (pc2 := 12) (v := .ref 137) fX10_80 dX10_tells_9 c117 (by decide) rfl rfl ?_
        refine r_iload_n (pc2 := 13) 1 dX10_tells_12 rfl rfl rfl ?_
        refine r_ialdN (pc2 := 14) t dX10_tells_13 c137 (by decide) rfl (by omega) (by decide) rfl ?_
        refine r_cast (nI n) (hn) ?_
        refine r_icmp_ge (tgt := 67) (pc2 := 17) dX10_tells_14 (by decide) rfl (fun b14 => ?_) (fun b14 => ?_)
        · exact absurd b14 (nI_ge hlt (by omega))
        · skip
          refine r_aload_n (pc2 := 18) 0 dX10_tells_17 rfl rfl rfl rfl ?_
          refine r_aload_n (pc2 := 19) 0 dX10_tells_18 rfl rfl rfl rfl ?_
          refine r_aload_n (pc2 := 20) 0 dX10_tells_19 rfl rfl rfl rfl ?_
          refine r_getf (pc2 := 23) (v := .ref 138) fX10_83 dX10_tells_20 c117 (by decide) rfl rfl ?_
          refine r_bipush (pc2 := 25) (v := 40) dX10_tells_23 (by decide) rfl ?_
          refine r_iload_n (pc2 := 26) 1 dX10_tells_25 rfl rfl rfl ?_
          refine r_imul (pc2 := 27) dX10_tells_26 rfl ?_
          refine r_cast (nI (40 * t)) (pk_mul 40 t) ?_
          refine r_iload_n (pc2 := 28) 2 dX10_tells_27 rfl rfl rfl ?_
          refine r_iadd (pc2 := 29) dX10_tells_28 rfl ?_
          refine r_cast (nI (40 * t + k)) (nI_add _ k) ?_
          refine r_laldN (pc2 := 30) (40 * t + k) dX10_tells_29 c138 (by decide) rfl (by omega) (by decide) rfl ?_
          refine r_callV1 (pc2 := 33) (As := [.long (nu (40 * t + k))]) (st := [.ref 117]) kX10_314 rfl rfl dX10_tells_30 c117 (by decide) rfl rfl (Nat.le_of_ble_eq_true rfl) (by omega) (c_whyNot (x := (nu (40 * t + k))) c117 c118 hA (by omega)) rfl (fun h2 hq30 => ?_)
          subst hq30
          refine r_cast (0) (by rw [hw]; rfl) ?_
          refine r_putfX (pc2 := 36) (moL (upd (upd v 19 0) 19 0)) fX10_311 dX10_tells_33 c117 (by decide) (Nat.le_of_ble_eq_true rfl) rfl rfl rfl (fun h z33 o33 c117 => ?_)
          have c118 := (o33 118 (by decide)).trans c118
          have c122 := (o33 122 (by decide)).trans c122
          have c123 := (o33 123 (by decide)).trans c123
          have c137 := (o33 137 (by decide)).trans c137
          have c138 := (o33 138 (by decide)).trans c138
          have hx := hx.step (a := 117) (by decide) z33 o33
          refine r_aload_n (pc2 := 37) 0 dX10_tells_36 rfl rfl rfl rfl ?_
          refine r_getf (pc2 := 40) (v := .int 0) fX10_311 dX10_tells_37 c117 (by decide) rfl rfl ?_
          refine r_if_eq (tgt := 45) (pc2 := 43) dX10_tells_40 (by decide) rfl (fun b40 => ?_) (fun b40 => ?_)
          · skip
            refine r_aload_n (pc2 := 46) 0 dX10_tells_45 rfl rfl rfl rfl ?_
            refine r_aload_n (pc2 := 47) 0 dX10_tells_46 rfl rfl rfl rfl ?_
            refine r_getf (pc2 := 50) (v := .ref 138) fX10_83 dX10_tells_47 c117 (by decide) rfl rfl ?_
            refine r_bipush (pc2 := 52) (v := 40) dX10_tells_50 (by decide) rfl ?_
            refine r_iload_n (pc2 := 53) 1 dX10_tells_52 rfl rfl rfl ?_
            refine r_imul (pc2 := 54) dX10_tells_53 rfl ?_
            refine r_cast (nI (40 * t)) (pk_mul 40 t) ?_
            refine r_iload_n (pc2 := 55) 2 dX10_tells_54 rfl rfl rfl ?_
            refine r_iadd (pc2 := 56) dX10_tells_55 rfl ?_
            refine r_cast (nI (40 * t + k)) (nI_add _ k) ?_
            refine r_laldN (pc2 := 57) (40 * t + k) dX10_tells_56 c138 (by decide) rfl (by omega) (by decide) rfl ?_
            refine r_castl (lN j) (ej) ?_
            refine r_l2i (pc2 := 58) dX10_tells_57 rfl ?_
            refine r_cast (nI j) (lN_i j) ?_
            refine r_callV0 (pc2 := 61) (As := [.int (nI j)]) (st := []) kX10_318 rfl rfl dX10_tells_58 c117 (by decide) rfl rfl (Nat.le_of_ble_eq_true rfl) (by omega) (c_does (k := j) c117 c118 c122 c123 hA hj hw0 (by omega)) rfl (fun h hq58 => ?_)
            obtain ⟨hxg, c118, ⟨f2, c122⟩, ⟨w2, c123⟩⟩ := hq58
            have c117 := hxg.get (by decide) c117
            have c137 := hxg.get (by decide) c137
            have c138 := hxg.get (by decide) c138
            have hx := hx.trans hxg (by decide)
            obtain ⟨x61, e61⟩ : ∃ z : Int32, z = (nI k) + (1) := ⟨_, rfl⟩
            refine r_iinc (pc2 := 64) (ls2 := [.ref 117, .int (nI t), .int x61]) (v := x61) 2 dX10_tells_61 rfl (by rw [e61]; rfl) rfl rfl rfl ?_
            refine r_goto (pc2 := 7) dX10_tells_64 (by decide) ?_
            rw [e61, nI_1]
            rw [upd_upd] at c117
            exact ih (k + 1) _ h _ _ (by omega) (hA.does hw0 hj) hx c117 c118 c122 c123 c137 c138
          · exact absurd rfl b40
      · have et : tell (fun j => nu (40 * t + j)) (m + 1) k a = (k, whyD a (nu (40 * t + k)), a) := by
          rw [tell, if_neg hw]
        rw [et]
        refine r_iload_n (pc2 := 8) 2 dX10_tells_7 rfl rfl rfl ?_
        refine r_aload_n (pc2 := 9) 0 dX10_tells_8 rfl rfl rfl rfl ?_
        refine r_getf (pc2 := 12) (v := .ref 137) fX10_80 dX10_tells_9 c117 (by decide) rfl rfl ?_
        refine r_iload_n (pc2 := 13) 1 dX10_tells_12 rfl rfl rfl ?_
        refine r_ialdN (pc2 := 14) t dX10_tells_13 c137 (by decide) rfl (by omega) (by decide) rfl ?_
        refine r_cast (nI n) (hn) ?_
        refine r_icmp_ge (tgt := 67) (pc2 := 17) dX10_tells_14 (by decide) rfl (fun b14 => ?_) (fun b14 => ?_)
        · exact absurd b14 (nI_ge hlt (by omega))
        · skip
          refine r_aload_n (pc2 := 18) 0 dX10_tells_17 rfl rfl rfl rfl ?_
          refine r_aload_n (pc2 := 19) 0 dX10_tells_18 rfl rfl rfl rfl ?_
          refine r_aload_n (pc2 := 20) 0 dX10_tells_19 rfl rfl rfl rfl ?_
          refine r_getf (pc2 := 23) (v := .ref 138) fX10_83 dX10_tells_20 c117 (by decide) rfl rfl ?_
          refine r_bipush (pc2 := 25) (v := 40) dX10_tells_23 (by decide) rfl ?_
          refine r_iload_n (pc2 := 26) 1 dX10_tells_25 rfl rfl rfl ?_
          refine r_imul (pc2 := 27) dX10_tells_26 rfl ?_
          refine r_cast (nI (40 * t)) (pk_mul 40 t) ?_
          refine r_iload_n (pc2 := 28) 2 dX10_tells_27 rfl rfl rfl ?_
          refine r_iadd (pc2 := 29) dX10_tells_28 rfl ?_
          refine r_cast (nI (40 * t + k)) (nI_add _ k) ?_
          refine r_laldN (pc2 := 30) (40 * t + k) dX10_tells_29 c138 (by decide) rfl (by omega) (by decide) rfl ?_
          refine r_callV1 (pc2 := 33) (As := [.long (nu (40 * t + k))]) (st := [.ref 117]) kX10_314 rfl rfl dX10_tells_30 c117 (by decide) rfl rfl (Nat.le_of_ble_eq_true rfl) (by omega) (c_whyNot (x := (nu (40 * t + k))) c117 c118 hA (by omega)) rfl (fun h2 hq30 => ?_)
          subst hq30
          refine r_putfX (pc2 := 36) (moL (upd (upd v 19 0) 19 (nI (whyD a (nu (40 * t + k)))))) fX10_311 dX10_tells_33 c117 (by decide) (Nat.le_of_ble_eq_true rfl) rfl rfl rfl (fun h z33 o33 c117 => ?_)
          have c118 := (o33 118 (by decide)).trans c118
          have c122 := (o33 122 (by decide)).trans c122
          have c123 := (o33 123 (by decide)).trans c123
          have c137 := (o33 137 (by decide)).trans c137
          have c138 := (o33 138 (by decide)).trans c138
          have hx := hx.step (a := 117) (by decide) z33 o33
          refine r_aload_n (pc2 := 37) 0 dX10_tells_36 rfl rfl rfl rfl ?_
          refine r_getf (pc2 := 40) (v := .int (nI (whyD a (nu (40 * t + k))))) fX10_311 dX10_tells_37 c117 (by decide) rfl rfl ?_
          refine r_if_eq (tgt := 45) (pc2 := 43) dX10_tells_40 (by decide) rfl (fun b40 => ?_) (fun b40 => ?_)
          · exact absurd (nI_z0 (Nat.lt_of_lt_of_le (whyD_lt _ _) (by decide)) b40) hw
          · skip
            refine r_iload_n (pc2 := 44) 2 dX10_tells_43 rfl rfl rfl ?_
            exact r_iret rfl dX10_tells_44 ⟨rfl, hx, by rw [upd_upd] at c117; exact c117, c118, ⟨_, c122⟩, ⟨_, c123⟩⟩
  refine r_aload_n (pc2 := 1) 0 dX10_tells_0 rfl rfl rfl rfl ?_
  refine r_iconst (pc2 := 2) (v := 0) dX10_tells_1 (by decide) rfl ?_
  refine r_putfX (pc2 := 5) (moL (upd v 19 0)) fX10_311 dX10_tells_2 c117 (by decide) (Nat.le_of_ble_eq_true rfl) rfl rfl rfl (fun h z2 o2 c117 => ?_)
  have c118 := (o2 118 (by decide)).trans c118
  have c122 := (o2 122 (by decide)).trans c122
  have c123 := (o2 123 (by decide)).trans c123
  have c137 := (o2 137 (by decide)).trans c137
  have c138 := (o2 138 (by decide)).trans c138
  have hx := hx.step (a := 117) (by decide) z2 o2
  refine r_iconst (pc2 := 6) (v := 0) dX10_tells_5 (by decide) rfl ?_
  refine r_istore_n (pc2 := 7) (ls2 := [.ref 117, .int (nI t), .int 0]) 2 dX10_tells_6 rfl (by decide) rfl rfl rfl ?_
  exact loop n 0 a h f w (by omega) hA hx c117 c118 c122 c123 c137 c138
def noTrayF (rs : Nat → Int32) (x : Int32) : Int32 := if inR 0 3 x then (if rs x.toNatClampNeg = -1 then -6 else 0) else -2
set_option maxRecDepth 20000 in
set_option maxHeartbeats 1000000 in
theorem c_noTray {E : EnvT} {d : Nat} {h0 : Hp} {v : Nat → Int32} {rs : Nat → Int32} {x : Int32} (c117 : h0.1 117 = some (mO v)) (c136 : h0.1 136 = some (aI 4 rs)) (hd : 1 ≤ d) : Cn E mX10_noTray d [.ref 117, .int x] h0 (fun r h2 => r = some (.int (noTrayF rs x)) ∧ h2 = h0) := by
  by_cases hv : inR 0 3 x
  · obtain ⟨t, ht0, ht, rfl⟩ := inR_of (by decide) (by decide) hv
    refine Cn.go (ls := [.ref 117, .int (nI t)]) (by decide +kernel) rfl (Nat.le_of_ble_eq_true rfl) ?_
    refine r_iload_n (pc2 := 1) 1 dX10_noTray_0 rfl rfl rfl ?_
    refine r_i2l (pc2 := 2) dX10_noTray_1 rfl ?_
    refine r_lconst (pc2 := 3) (v := 0) dX10_noTray_2 (by decide) rfl ?_
    refine r_ldc2 (pc2 := 6) (v := 3) qX10_321 dX10_noTray_3 rfl ?_
    refine r_callS1 (pc2 := 9) (As := [.long (Int32.toInt64 (nI t)), .long 0, .long 3]) (st := []) kX10_152 dX10_noTray_6 rfl rfl (Nat.le_of_ble_eq_true rfl) (by omega) (c_within (Int32.toInt64 (nI t)) 0 3) rfl (fun h2 hq6 => ?_)
    subst hq6
    refine r_if_ne (tgt := 17) (pc2 := 12) dX10_noTray_9 (by decide) rfl (fun b9 => ?_) (fun b9 => ?_)
    · skip
      refine r_aload_n (pc2 := 18) 0 dX10_noTray_17 rfl rfl rfl rfl ?_
      refine r_getf (pc2 := 21) (v := .ref 136) fX10_77 dX10_noTray_18 c117 (by decide) rfl rfl ?_
      refine r_iload_n (pc2 := 22) 1 dX10_noTray_21 rfl rfl rfl ?_
      refine r_ialdN (pc2 := 23) t dX10_noTray_22 c136 (by decide) rfl (by omega) (by decide) rfl ?_
      refine r_iconst (pc2 := 24) (v := -1) dX10_noTray_23 (by decide) rfl ?_
      refine r_icmp_ne (tgt := 32) (pc2 := 27) dX10_noTray_24 (by decide) rfl (fun b24 => ?_) (fun b24 => ?_)
      · skip
        refine r_iconst (pc2 := 33) (v := 0) dX10_noTray_32 (by decide) rfl ?_
        exact r_iret rfl dX10_noTray_33 ⟨by rw [noTrayF, if_pos hv, nI_clamp (by omega), if_neg b24], rfl⟩
      · skip
        refine r_bipush (pc2 := 29) (v := -6) dX10_noTray_27 (by decide) rfl ?_
        refine r_goto (pc2 := 33) dX10_noTray_29 (by decide) ?_
        exact r_iret rfl dX10_noTray_33 ⟨by rw [noTrayF, if_pos hv, nI_clamp (by omega), if_pos b24], rfl⟩
    · exact absurd b9 (if1 hv)
  · skip
    refine Cn.go (ls := [.ref 117, .int x]) (by decide +kernel) rfl (Nat.le_of_ble_eq_true rfl) ?_
    refine r_iload_n (pc2 := 1) 1 dX10_noTray_0 rfl rfl rfl ?_
    refine r_i2l (pc2 := 2) dX10_noTray_1 rfl ?_
    refine r_lconst (pc2 := 3) (v := 0) dX10_noTray_2 (by decide) rfl ?_
    refine r_ldc2 (pc2 := 6) (v := 3) qX10_321 dX10_noTray_3 rfl ?_
    refine r_callS1 (pc2 := 9) (As := [.long (Int32.toInt64 x), .long 0, .long 3]) (st := []) kX10_152 dX10_noTray_6 rfl rfl (Nat.le_of_ble_eq_true rfl) (by omega) (c_within (Int32.toInt64 x) 0 3) rfl (fun h2 hq6 => ?_)
    subst hq6
    refine r_if_ne (tgt := 17) (pc2 := 12) dX10_noTray_9 (by decide) rfl (fun b9 => ?_) (fun b9 => ?_)
    · exact absurd (if0 hv) b9
    · skip
      refine r_bipush (pc2 := 14) (v := -2) dX10_noTray_12 (by decide) rfl ?_
      refine r_goto (pc2 := 33) dX10_noTray_14 (by decide) ?_
      exact r_iret rfl dX10_noTray_33 ⟨by rw [noTrayF, if_neg hv], rfl⟩
