/-! attempt -/
def mdp (a : Nat → Nat) (sn dr : Nat) : Nat := hourN a (packS a) sn 0 dr / 4096
def moF (a : Nat → Nat) (sn set : Nat) : Nat → (Nat → Nat) × Nat
  | 0 => (fun _ => 0, 0)
  | k + 1 => if set.testBit k = true then (va_up (moF a sn set k).1 (mdp a sn k) ((moF a sn set k).1 (mdp a sn k) + 1), max (moF a sn set k).2 ((moF a sn set k).1 (mdp a sn k) + 1)) else moF a sn set k
theorem moF_le (a : Nat → Nat) (sn set : Nat) : ∀ k, (∀ e, (moF a sn set k).1 e ≤ k) ∧ (moF a sn set k).2 ≤ k
  | 0 => ⟨fun _ => Nat.le_refl _, Nat.le_refl _⟩
  | k + 1 => by
    obtain ⟨h1, h2⟩ := moF_le a sn set k
    unfold moF
    split
    · refine ⟨fun e => ?_, ?_⟩
      · show va_up _ _ _ e ≤ _
        unfold va_up
        split
        · have := h1 (mdp a sn k); omega
        · have := h1 e; omega
      · have := h1 (mdp a sn k)
        show max _ _ ≤ _
        omega
    · exact ⟨fun e => Nat.le_succ_of_le (h1 e), Nat.le_succ_of_le h2⟩
def atF (a : Nat → Nat) (set i0 : Nat) : Nat → Int32 × Nat
  | 0 => (-1, i0)
  | k + 1 => if okS a (packS a) k ∧ (moF a k set 10).2 < (atF a set i0 k).2 then (nI k, (moF a k set 10).2) else atF a set i0 k
theorem atF_lt (a : Nat → Nat) (set : Nat) : ∀ k, (atF a set 268435456 k).2 ≤ 268435456
  | 0 => Nat.le_refl _
  | k + 1 => by
    have := atF_lt a set k
    unfold atF
    split
    · show (moF a k set 10).2 ≤ _; omega
    · exact this
def attF (a : Nat → Nat) (rs rm : Nat → Int32) (nu : Nat → Int64) (x : Int32) : Int32 := if nsF rs rm nu x ≠ 0 then nsF rs rm nu x else if a 26 = 0 then -5 else if drO a nu x.toNatClampNeg (rowN rm x.toNatClampNeg) 10 = 0 then -1 else (atF a (drO a nu x.toNatClampNeg (rowN rm x.toNatClampNeg) 10) 268435456 (2 ^ (a 3))).1
set_option maxRecDepth 20000 in
set_option maxHeartbeats 1000000 in
theorem c_mostOften {E : EnvT} {d : Nat} {h0 : Hp} {v f2 w2 : Nat → Int32} {a ct : Nat → Nat} {sn set : Nat} (c117 : h0.1 117 = some (mO v)) (c118 : h0.1 118 = some (aI 3531 (nA a))) (c122 : h0.1 122 = some (aI 900 f2)) (c123 : h0.1 123 = some (aI 9 w2)) (c134 : h0.1 134 = some (aI 10 (nA ct))) (hA : AIN a) (hsn : sn < 16) (hset : set < 1024) (hdg : ∀ g, g < a 3 → sn.testBit g = true → packS a / 8 ^ g % 8 < a 1) (hd : 4 ≤ d) : Cn E mX10_mostOften d [.ref 117, .int (nI sn), .int (nI set)] h0 (fun r h2 => r = some (.int (nI (moF a sn set 10).2)) ∧ Ex [122, 123, 134] h0 h2 ∧ (∃ f, h2.1 122 = some (aI 900 f)) ∧ (∃ w, h2.1 123 = some (aI 9 w)) ∧ ∃ f, h2.1 134 = some (aI 10 f)) := by
  have hx : Ex [122, 123, 134] h0 h0 := Ex.rf
  have hp4 := hA.plt
  have loop : ∀ (m k : Nat) (ct : Nat → Nat) (u5 : Value) (f2 w2 : Nat → Int32) (h1 : Hp), k + m = 10 → (∀ e, e < 10 → ct e = (moF a sn set k).1 e) → Ex [122, 123, 134] h0 h1 → h1.1 117 = some (mO v) → h1.1 118 = some (aI 3531 (nA a)) → h1.1 122 = some (aI 900 f2) → h1.1 123 = some (aI 9 w2) → h1.1 134 = some (aI 10 (nA ct)) → Fr E mX10_mostOften d 29 [.ref 117, .int (nI sn), .int (nI set), .int (nI (moF a sn set k).2), .int (nI k), u5] [] h1 (fun r h2 => r = some (.int (nI (moF a sn set 10).2)) ∧ Ex [122, 123, 134] h0 h2 ∧ (∃ f, h2.1 122 = some (aI 900 f)) ∧ (∃ w, h2.1 123 = some (aI 9 w)) ∧ ∃ f, h2.1 134 = some (aI 10 f)) := by
    intro m
    induction m with
    | zero =>
      intro k ct u5 f2 w2 h hkm hct hx c117 c118 c122 c123 c134
      obtain rfl : k = 10 := by omega
      refine r_iload (pc2 := 31) 4 dX10_mostOften_29 rfl rfl ?_
      refine r_bipush (pc2 := 33) (v := 10) dX10_mostOften_31 (by decide) rfl ?_
      refine r_icmp_ge (tgt := 106) (pc2 := 36) dX10_mostOften_33 (by decide) rfl (fun b33 => ?_) (fun b33 => ?_)
      · skip
        refine r_iload_n (pc2 := 107) 3 dX10_mostOften_106 rfl rfl rfl ?_
        exact r_iret rfl dX10_mostOften_107 ⟨rfl, hx, ⟨_, c122⟩, ⟨_, c123⟩, ⟨_, c134⟩⟩
      · exact absurd (show nI 10 ≤ nI 10 by decide) b33
    | succ m ih =>
      intro k ct u5 f2 w2 h hkm hct hx c117 c118 c122 c123 c134
      have hk : k < 10 := by omega
      have hle := moF_le a sn set k
      have hlt := hourN_lt (b := 0) (dr := k) hA.G hA.C (by omega) hdg
      have hmd : (mdp a sn k) < 10 := by unfold mdp; omega
      by_cases hbit : set.testBit k = true
      · have hnx : moF a sn set (k + 1) = (va_up (moF a sn set k).1 (mdp a sn k) ((moF a sn set k).1 (mdp a sn k) + 1), max (moF a sn set k).2 ((moF a sn set k).1 (mdp a sn k) + 1)) := by rw [moF, if_pos hbit]
        have hl1 := hle.1 (mdp a sn k)
        have hl2 := hle.2
        by_cases hgt : (moF a sn set k).2 < (moF a sn set k).1 (mdp a sn k) + 1
        · skip
          refine r_iload (pc2 := 31) 4 dX10_mostOften_29 rfl rfl ?_
          refine r_bipush (pc2 := 33) (v := 10) dX10_mostOften_31 (by decide) rfl ?_
          refine r_icmp_ge (tgt := 106) (pc2 := 36) dX10_mostOften_33 (by decide) rfl (fun b33 => ?_) (fun b33 => ?_)
          · exact absurd b33 (nI_ge (b := 10) hk (by decide))
          · skip
            refine r_iload_n (pc2 := 37) 2 dX10_mostOften_36 rfl rfl rfl ?_
            refine r_i2l (pc2 := 38) dX10_mostOften_37 rfl ?_
            refine r_iload (pc2 := 40) 4 dX10_mostOften_38 rfl rfl ?_
            refine r_callS1 (pc2 := 43) (As := [.long (Int32.toInt64 (nI set)), .int (nI k)]) (st := []) kX10_245 dX10_mostOften_40 rfl rfl (Nat.le_of_ble_eq_true rfl) (by omega) (c_isIn (Int32.toInt64 (nI set)) (nI k)) rfl (fun h2 hq40 => ?_)
            subst hq40
            refine r_if_ne (tgt := 49) (pc2 := 46) dX10_mostOften_43 (by decide) rfl (fun b43 => ?_) (fun b43 => ?_)
            · skip
              refine r_aload_n (pc2 := 50) 0 dX10_mostOften_49 rfl rfl rfl rfl ?_
              refine r_aload_n (pc2 := 51) 0 dX10_mostOften_50 rfl rfl rfl rfl ?_
              refine r_callV1 (pc2 := 54) (As := []) (st := [.ref 117]) kX10_266 rfl rfl dX10_mostOften_51 c117 (by decide) rfl rfl (Nat.le_of_ble_eq_true rfl) (by omega) (c_standNow c117 c118 hA.G hA.c7 hA.dp) rfl (fun h2 hq51 => ?_)
              subst hq51
              refine r_iload_n (pc2 := 55) 1 dX10_mostOften_54 rfl rfl rfl ?_
              refine r_iconst (pc2 := 56) (v := 0) dX10_mostOften_55 (by decide) rfl ?_
              refine r_iload (pc2 := 58) 4 dX10_mostOften_56 rfl rfl ?_
              refine r_callV1 (pc2 := 61) (As := [.int (nI (packS a)), .int (nI sn), .int 0, .int (nI k)]) (st := []) kX10_273 rfl rfl dX10_mostOften_58 c117 (by decide) rfl rfl (Nat.le_of_ble_eq_true rfl) (by omega) (c_hourTo (st := packS a) (sn := sn) (b := 0) (dr := k) c117 c118 c122 c123 (by omega) hsn (by omega) (by decide) hdg hA.G hA.C hA.h2 hA.lo hA.w0 hA.w1 (by omega)) rfl (fun h hq58 => ?_)
              obtain ⟨hx2, ⟨f2b, c122⟩, ⟨w2b, c123⟩⟩ := hq58
              have c117 := hx2.get (by decide) c117
              have c118 := hx2.get (by decide) c118
              have c134 := hx2.get (by decide) c134
              have hx := hx.trans hx2 (by decide)
              refine r_callS1 (pc2 := 64) (As := [.int (nI (hourN a (packS a) sn 0 k))]) (st := []) kX10_231 dX10_mostOften_61 rfl rfl (Nat.le_of_ble_eq_true rfl) (by omega) (c_depthIn (nI (hourN a (packS a) sn 0 k))) rfl (fun h2 hq61 => ?_)
              subst hq61
              refine r_cast (nI (mdp a sn k)) (depthN (by omega)) ?_
              refine r_istore (pc2 := 66) (ls2 := [.ref 117, .int (nI sn), .int (nI set), .int (nI (moF a sn set k).2), .int (nI k), .int (nI (mdp a sn k))]) 5 dX10_mostOften_64 (by decide) rfl rfl rfl ?_
              refine r_aload_n (pc2 := 67) 0 dX10_mostOften_66 rfl rfl rfl rfl ?_
              refine r_getf (pc2 := 70) (v := .ref 134) fX10_69 dX10_mostOften_67 c117 (by decide) rfl rfl ?_
              refine r_iload (pc2 := 72) 5 dX10_mostOften_70 rfl rfl ?_
              refine r_dup2 (pc2 := 73) dX10_mostOften_72 rfl rfl rfl ?_
              refine r_ialdA (pc2 := 74) (mdp a sn k) dX10_mostOften_73 c134 (by decide) rfl (by omega) (by decide) rfl ?_
              refine r_cast (nI ((moF a sn set k).1 (mdp a sn k))) (by rw [hct _ hmd]) ?_
              refine r_iconst (pc2 := 75) (v := 1) dX10_mostOften_74 (by decide) rfl ?_
              refine r_iadd (pc2 := 76) dX10_mostOften_75 rfl ?_
              refine r_cast (nI ((moF a sn set k).1 (mdp a sn k) + 1)) (nI_1 _) ?_
              refine r_iastN (pc2 := 77) (mdp a sn k) dX10_mostOften_76 c134 (by decide) rfl (by omega) (by decide) rfl (fun h z76 o76 c134 => ?_)
              rw [upd_nA] at c134
              have c117 := (o76 117 (by decide)).trans c117
              have c118 := (o76 118 (by decide)).trans c118
              have c122 := (o76 122 (by decide)).trans c122
              have c123 := (o76 123 (by decide)).trans c123
              have hx := hx.step (a := 134) (by decide) z76 o76
              refine r_aload_n (pc2 := 78) 0 dX10_mostOften_77 rfl rfl rfl rfl ?_
              refine r_getf (pc2 := 81) (v := .ref 134) fX10_69 dX10_mostOften_78 c117 (by decide) rfl rfl ?_
              refine r_iload (pc2 := 83) 5 dX10_mostOften_81 rfl rfl ?_
              refine r_ialdA (pc2 := 84) (mdp a sn k) dX10_mostOften_83 c134 (by decide) rfl (by omega) (by decide) rfl ?_
              refine r_cast (nI ((moF a sn set k).1 (mdp a sn k) + 1)) (by rw [va_up, if_pos rfl]) ?_
              refine r_iload_n (pc2 := 85) 3 dX10_mostOften_84 rfl rfl rfl ?_
              refine r_icmp_le (tgt := 98) (pc2 := 88) dX10_mostOften_85 (by decide) rfl (fun b85 => ?_) (fun b85 => ?_)
              · exact absurd b85 (nI_ge hgt (by omega))
              · skip
                refine r_aload_n (pc2 := 89) 0 dX10_mostOften_88 rfl rfl rfl rfl ?_
                refine r_getf (pc2 := 92) (v := .ref 134) fX10_69 dX10_mostOften_89 c117 (by decide) rfl rfl ?_
                refine r_iload (pc2 := 94) 5 dX10_mostOften_92 rfl rfl ?_
                refine r_ialdA (pc2 := 95) (mdp a sn k) dX10_mostOften_94 c134 (by decide) rfl (by omega) (by decide) rfl ?_
                refine r_cast (nI ((moF a sn set k).1 (mdp a sn k) + 1)) (by rw [va_up, if_pos rfl]) ?_
                refine r_goto (pc2 := 99) dX10_mostOften_95 (by decide) ?_
                refine r_cast (nI (moF a sn set (k + 1)).2) (by rw [hnx]; exact congrArg nI (Nat.max_eq_right (by omega)).symm) ?_
                refine r_istore_n (pc2 := 100) (ls2 := [.ref 117, .int (nI sn), .int (nI set), .int (nI (moF a sn set (k + 1)).2), .int (nI k), .int (nI (mdp a sn k))]) 3 dX10_mostOften_99 rfl (by decide) rfl rfl rfl ?_
                obtain ⟨x100, e100⟩ : ∃ z : Int32, z = (nI k) + (1) := ⟨_, rfl⟩
                refine r_iinc (pc2 := 103) (ls2 := [.ref 117, .int (nI sn), .int (nI set), .int (nI (moF a sn set (k + 1)).2), .int x100, .int (nI (mdp a sn k))]) (v := x100) 4 dX10_mostOften_100 rfl (by rw [e100]; rfl) rfl rfl rfl ?_
                refine r_goto (pc2 := 29) dX10_mostOften_103 (by decide) ?_
                rw [e100, nI_1]
                exact ih (k + 1) (va_up ct (mdp a sn k) ((moF a sn set k).1 (mdp a sn k) + 1)) _ _ _ _ (by omega) (by rw [hnx]; exact fun e he => by show va_up _ _ _ e = va_up _ _ _ e; unfold va_up; rw [hct e he]) hx c117 c118 c122 c123 c134
            · exact absurd b43 (if1 ((isInB set hset k hk).mpr hbit))
        · skip
          refine r_iload (pc2 := 31) 4 dX10_mostOften_29 rfl rfl ?_
          refine r_bipush (pc2 := 33) (v := 10) dX10_mostOften_31 (by decide) rfl ?_
          refine r_icmp_ge (tgt := 106) (pc2 := 36) dX10_mostOften_33 (by decide) rfl (fun b33 => ?_) (fun b33 => ?_)
          · exact absurd b33 (nI_ge (b := 10) hk (by decide))
          · skip
            refine r_iload_n (pc2 := 37) 2 dX10_mostOften_36 rfl rfl rfl ?_
            refine r_i2l (pc2 := 38) dX10_mostOften_37 rfl ?_
            refine r_iload (pc2 := 40) 4 dX10_mostOften_38 rfl rfl ?_
            refine r_callS1 (pc2 := 43) (As := [.long (Int32.toInt64 (nI set)), .int (nI k)]) (st := []) kX10_245 dX10_mostOften_40 rfl rfl (Nat.le_of_ble_eq_true rfl) (by omega) (c_isIn (Int32.toInt64 (nI set)) (nI k)) rfl (fun h2 hq40 => ?_)
            subst hq40
            refine r_if_ne (tgt := 49) (pc2 := 46) dX10_mostOften_43 (by decide) rfl (fun b43 => ?_) (fun b43 => ?_)
            · skip
              refine r_aload_n (pc2 := 50) 0 dX10_mostOften_49 rfl rfl rfl rfl ?_
              refine r_aload_n (pc2 := 51) 0 dX10_mostOften_50 rfl rfl rfl rfl ?_
              refine r_callV1 (pc2 := 54) (As := []) (st := [.ref 117]) kX10_266 rfl rfl dX10_mostOften_51 c117 (by decide) rfl rfl (Nat.le_of_ble_eq_true rfl) (by omega) (c_standNow c117 c118 hA.G hA.c7 hA.dp) rfl (fun h2 hq51 => ?_)
              subst hq51
              refine r_iload_n (pc2 := 55) 1 dX10_mostOften_54 rfl rfl rfl ?_
              refine r_iconst (pc2 := 56) (v := 0) dX10_mostOften_55 (by decide) rfl ?_
              refine r_iload (pc2 := 58) 4 dX10_mostOften_56 rfl rfl ?_
              refine r_callV1 (pc2 := 61) (As := [.int (nI (packS a)), .int (nI sn), .int 0, .int (nI k)]) (st := []) kX10_273 rfl rfl dX10_mostOften_58 c117 (by decide) rfl rfl (Nat.le_of_ble_eq_true rfl) (by omega) (c_hourTo (st := packS a) (sn := sn) (b := 0) (dr := k) c117 c118 c122 c123 (by omega) hsn (by omega) (by decide) hdg hA.G hA.C hA.h2 hA.lo hA.w0 hA.w1 (by omega)) rfl (fun h hq58 => ?_)
              obtain ⟨hx2, ⟨f2b, c122⟩, ⟨w2b, c123⟩⟩ := hq58
              have c117 := hx2.get (by decide) c117
              have c118 := hx2.get (by decide) c118
              have c134 := hx2.get (by decide) c134
              have hx := hx.trans hx2 (by decide)
              refine r_callS1 (pc2 := 64) (As := [.int (nI (hourN a (packS a) sn 0 k))]) (st := []) kX10_231 dX10_mostOften_61 rfl rfl (Nat.le_of_ble_eq_true rfl) (by omega) (c_depthIn (nI (hourN a (packS a) sn 0 k))) rfl (fun h2 hq61 => ?_)
              subst hq61
              refine r_cast (nI (mdp a sn k)) (depthN (by omega)) ?_
              refine r_istore (pc2 := 66) (ls2 := [.ref 117, .int (nI sn), .int (nI set), .int (nI (moF a sn set k).2), .int (nI k), .int (nI (mdp a sn k))]) 5 dX10_mostOften_64 (by decide) rfl rfl rfl ?_
              refine r_aload_n (pc2 := 67) 0 dX10_mostOften_66 rfl rfl rfl rfl ?_
              refine r_getf (pc2 := 70) (v := .ref 134) fX10_69 dX10_mostOften_67 c117 (by decide) rfl rfl ?_
              refine r_iload (pc2 := 72) 5 dX10_mostOften_70 rfl rfl ?_
              refine r_dup2 (pc2 := 73) dX10_mostOften_72 rfl rfl rfl ?_
              refine r_ialdA (pc2 := 74) (mdp a sn k) dX10_mostOften_73 c134 (by decide) rfl (by omega) (by decide) rfl ?_
              refine r_cast (nI ((moF a sn set k).1 (mdp a sn k))) (by rw [hct _ hmd]) ?_
              refine r_iconst (pc2 := 75) (v := 1) dX10_mostOften_74 (by decide) rfl ?_
              refine r_iadd (pc2 := 76) dX10_mostOften_75 rfl ?_
              refine r_cast (nI ((moF a sn set k).1 (mdp a sn k) + 1)) (nI_1 _) ?_
              refine r_iastN (pc2 := 77) (mdp a sn k) dX10_mostOften_76 c134 (by decide) rfl (by omega) (by decide) rfl (fun h z76 o76 c134 => ?_)
              rw [upd_nA] at c134
              have c117 := (o76 117 (by decide)).trans c117
              have c118 := (o76 118 (by decide)).trans c118
              have c122 := (o76 122 (by decide)).trans c122
              have c123 := (o76 123 (by decide)).trans c123
              have hx := hx.step (a := 134) (by decide) z76 o76
              refine r_aload_n (pc2 := 78) 0 dX10_mostOften_77 rfl rfl rfl rfl ?_
              refine r_getf (pc2 := 81) (v := .ref 134) fX10_69 dX10_mostOften_78 c117 (by decide) rfl rfl ?_
              refine r_iload (pc2 := 83) 5 dX10_mostOften_81 rfl rfl ?_
              refine r_ialdA (pc2 := 84) (mdp a sn k) dX10_mostOften_83 c134 (by decide) rfl (by omega) (by decide) rfl ?_
              refine r_cast (nI ((moF a sn set k).1 (mdp a sn k) + 1)) (by rw [va_up, if_pos rfl]) ?_
              refine r_iload_n (pc2 := 85) 3 dX10_mostOften_84 rfl rfl rfl ?_
              refine r_icmp_le (tgt := 98) (pc2 := 88) dX10_mostOften_85 (by decide) rfl (fun b85 => ?_) (fun b85 => ?_)
              · skip
                refine r_iload_n (pc2 := 99) 3 dX10_mostOften_98 rfl rfl rfl ?_
                refine r_cast (nI (moF a sn set (k + 1)).2) (by rw [hnx]; exact congrArg nI (Nat.max_eq_left (by omega)).symm) ?_
                refine r_istore_n (pc2 := 100) (ls2 := [.ref 117, .int (nI sn), .int (nI set), .int (nI (moF a sn set (k + 1)).2), .int (nI k), .int (nI (mdp a sn k))]) 3 dX10_mostOften_99 rfl (by decide) rfl rfl rfl ?_
                obtain ⟨x100, e100⟩ : ∃ z : Int32, z = (nI k) + (1) := ⟨_, rfl⟩
                refine r_iinc (pc2 := 103) (ls2 := [.ref 117, .int (nI sn), .int (nI set), .int (nI (moF a sn set (k + 1)).2), .int x100, .int (nI (mdp a sn k))]) (v := x100) 4 dX10_mostOften_100 rfl (by rw [e100]; rfl) rfl rfl rfl ?_
                refine r_goto (pc2 := 29) dX10_mostOften_103 (by decide) ?_
                rw [e100, nI_1]
                exact ih (k + 1) (va_up ct (mdp a sn k) ((moF a sn set k).1 (mdp a sn k) + 1)) _ _ _ _ (by omega) (by rw [hnx]; exact fun e he => by show va_up _ _ _ e = va_up _ _ _ e; unfold va_up; rw [hct e he]) hx c117 c118 c122 c123 c134
              · exact absurd (nI_le (by omega) (by omega)) b85
            · exact absurd b43 (if1 ((isInB set hset k hk).mpr hbit))
      · have hnx : moF a sn set (k + 1) = moF a sn set k := by rw [moF, if_neg hbit]
        refine r_iload (pc2 := 31) 4 dX10_mostOften_29 rfl rfl ?_
        refine r_bipush (pc2 := 33) (v := 10) dX10_mostOften_31 (by decide) rfl ?_
        refine r_icmp_ge (tgt := 106) (pc2 := 36) dX10_mostOften_33 (by decide) rfl (fun b33 => ?_) (fun b33 => ?_)
        · exact absurd b33 (nI_ge (b := 10) hk (by decide))
        · skip
          refine r_iload_n (pc2 := 37) 2 dX10_mostOften_36 rfl rfl rfl ?_
          refine r_i2l (pc2 := 38) dX10_mostOften_37 rfl ?_
          refine r_iload (pc2 := 40) 4 dX10_mostOften_38 rfl rfl ?_
          refine r_callS1 (pc2 := 43) (As := [.long (Int32.toInt64 (nI set)), .int (nI k)]) (st := []) kX10_245 dX10_mostOften_40 rfl rfl (Nat.le_of_ble_eq_true rfl) (by omega) (c_isIn (Int32.toInt64 (nI set)) (nI k)) rfl (fun h2 hq40 => ?_)
          subst hq40
          refine r_if_ne (tgt := 49) (pc2 := 46) dX10_mostOften_43 (by decide) rfl (fun b43 => ?_) (fun b43 => ?_)
          · exact absurd (if_neg (fun z => hbit ((isInB set hset k hk).mp z))) b43
          · skip
            refine r_goto (pc2 := 100) dX10_mostOften_46 (by decide) ?_
            obtain ⟨x100, e100⟩ : ∃ z : Int32, z = (nI k) + (1) := ⟨_, rfl⟩
            refine r_iinc (pc2 := 103) (ls2 := [.ref 117, .int (nI sn), .int (nI set), .int (nI (moF a sn set k).2), .int x100, u5]) (v := x100) 4 dX10_mostOften_100 rfl (by rw [e100]; rfl) rfl rfl rfl ?_
            refine r_goto (pc2 := 29) dX10_mostOften_103 (by decide) ?_
            rw [e100, nI_1]
            have e9 := ih (k + 1) ct u5 _ _ _ (by omega) (by rw [hnx]; exact hct) hx c117 c118 c122 c123 c134
            rw [hnx] at e9
            exact e9
  have zero : ∀ (m k : Nat) (ct : Nat → Nat) (h1 : Hp), k + m = 10 → (∀ e, e < k → ct e = 0) → Ex [122, 123, 134] h0 h1 → h1.1 117 = some (mO v) → h1.1 118 = some (aI 3531 (nA a)) → h1.1 122 = some (aI 900 f2) → h1.1 123 = some (aI 9 w2) → h1.1 134 = some (aI 10 (nA ct)) → Fr E mX10_mostOften d 5 [.ref 117, .int (nI sn), .int (nI set), .int 0, .int (nI k), .float 0] [] h1 (fun r h2 => r = some (.int (nI (moF a sn set 10).2)) ∧ Ex [122, 123, 134] h0 h2 ∧ (∃ f, h2.1 122 = some (aI 900 f)) ∧ (∃ w, h2.1 123 = some (aI 9 w)) ∧ ∃ f, h2.1 134 = some (aI 10 f)) := by
    intro m
    induction m with
    | zero =>
      intro k ct h hkm hz hx c117 c118 c122 c123 c134
      obtain rfl : k = 10 := by omega
      refine r_iload (pc2 := 7) 4 dX10_mostOften_5 rfl rfl ?_
      refine r_bipush (pc2 := 9) (v := 9) dX10_mostOften_7 (by decide) rfl ?_
      refine r_icmp_gt (tgt := 26) (pc2 := 12) dX10_mostOften_9 (by decide) rfl (fun b9 => ?_) (fun b9 => ?_)
      · skip
        refine r_iconst (pc2 := 27) (v := 0) dX10_mostOften_26 (by decide) rfl ?_
        refine r_istore (pc2 := 29) (ls2 := [.ref 117, .int (nI sn), .int (nI set), .int 0, .int 0, .float 0]) 4 dX10_mostOften_27 (by decide) rfl rfl rfl ?_
        exact loop 10 0 _ _ _ _ _ (by omega) (fun e he => hz e he) hx c117 c118 c122 c123 c134
      · exact absurd (show nI 9 < nI 10 by decide) b9
    | succ m ih =>
      intro k ct h hkm hz hx c117 c118 c122 c123 c134
      have hk : k < 10 := by omega
      refine r_iload (pc2 := 7) 4 dX10_mostOften_5 rfl rfl ?_
      refine r_bipush (pc2 := 9) (v := 9) dX10_mostOften_7 (by decide) rfl ?_
      refine r_icmp_gt (tgt := 26) (pc2 := 12) dX10_mostOften_9 (by decide) rfl (fun b9 => ?_) (fun b9 => ?_)
      · exact absurd b9 (fun z => by have := (nI_ltI (a := 9) (by decide) (by omega)).mp z; omega)
      · skip
        refine r_aload_n (pc2 := 13) 0 dX10_mostOften_12 rfl rfl rfl rfl ?_
        refine r_getf (pc2 := 16) (v := .ref 134) fX10_69 dX10_mostOften_13 c117 (by decide) rfl rfl ?_
        refine r_iload (pc2 := 18) 4 dX10_mostOften_16 rfl rfl ?_
        refine r_iconst (pc2 := 19) (v := 0) dX10_mostOften_18 (by decide) rfl ?_
        refine r_cast (nI 0) rfl ?_
        refine r_iastN (pc2 := 20) k dX10_mostOften_19 c134 (by decide) rfl (by omega) (by decide) rfl (fun h z19 o19 c134 => ?_)
        rw [upd_nA] at c134
        have c117 := (o19 117 (by decide)).trans c117
        have c118 := (o19 118 (by decide)).trans c118
        have c122 := (o19 122 (by decide)).trans c122
        have c123 := (o19 123 (by decide)).trans c123
        have hx := hx.step (a := 134) (by decide) z19 o19
        obtain ⟨x20, e20⟩ : ∃ z : Int32, z = (nI k) + (1) := ⟨_, rfl⟩
        refine r_iinc (pc2 := 23) (ls2 := [.ref 117, .int (nI sn), .int (nI set), .int 0, .int x20, .float 0]) (v := x20) 4 dX10_mostOften_20 rfl (by rw [e20]; rfl) rfl rfl rfl ?_
        refine r_goto (pc2 := 5) dX10_mostOften_23 (by decide) ?_
        rw [e20, nI_1]
        exact ih (k + 1) _ _ (by omega) (fun e he => by by_cases q : e = k; rw [q, va_up, if_pos rfl]; rw [va_up, if_neg q]; exact hz e (by omega)) hx c117 c118 c122 c123 c134
  refine Cn.go (ls := [.ref 117, .int (nI sn), .int (nI set), .float 0, .float 0, .float 0]) (by decide +kernel) rfl (Nat.le_of_ble_eq_true rfl) ?_
  refine r_iconst (pc2 := 1) (v := 0) dX10_mostOften_0 (by decide) rfl ?_
  refine r_istore_n (pc2 := 2) (ls2 := [.ref 117, .int (nI sn), .int (nI set), .int 0, .float 0, .float 0]) 3 dX10_mostOften_1 rfl (by decide) rfl rfl rfl ?_
  refine r_iconst (pc2 := 3) (v := 0) dX10_mostOften_2 (by decide) rfl ?_
  refine r_istore (pc2 := 5) (ls2 := [.ref 117, .int (nI sn), .int (nI set), .int 0, .int 0, .float 0]) 4 dX10_mostOften_3 (by decide) rfl rfl rfl ?_
  exact zero 10 0 ct _ (by omega) (fun e he => absurd he (Nat.not_lt_zero _)) hx c117 c118 c122 c123 c134
set_option maxRecDepth 20000 in
set_option maxHeartbeats 1000000 in
theorem ref_attempt {E : EnvT} {d : Nat} {h0 : Hp} {v : Nat → Int32} {a : Nat → Nat} {hi : Nat → Int32} {tp : Nat → Nat} {rs rm : Nat → Int32} {nu : Nat → Int64} {x : Int32} (hR : RS h0 v a hi tp rs rm nu) (hA : AIN a) (hT : TOK rs rm) (hd : 5 ≤ d) : Cn E mX10_attempt d [.ref 117, .int x] h0 (RP (.int (attF a rs rm nu x)) h0 v a hi tp rs rm nu) := by
  obtain ⟨k117, k118, k119, k120, ⟨f121, k121⟩, ⟨f122, k122⟩, ⟨f123, k123⟩, ⟨f124, k124⟩, ⟨f125, k125⟩, ⟨f126, k126⟩, ⟨f127, k127⟩, ⟨f128, k128⟩, ⟨f129, k129⟩, ⟨f130, k130⟩, ⟨f131, k131⟩, ⟨f132, k132⟩, ⟨f133, k133⟩, ⟨f134, k134⟩, ⟨f135, k135⟩, k136, k137, k138⟩ := hR
  obtain ⟨ct0, e134⟩ : ∃ z, f134 = nA z := ⟨_, nA_of f134⟩
  rw [e134] at k134
  have c117 := k117
  have c118 := k118
  have c122 := k122
  have c123 := k123
  have c134 := k134
  have c136 := k136
  have c137 := k137
  have c138 := k138
  have hx : Ex [117, 118, 122, 123, 134, 136, 137, 138] h0 h0 := Ex.rf
  have hdp := hA.dp
  have hG := hA.G
  have hp4 : 2 ^ (a 3) ≤ 2 ^ 4 := Nat.pow_le_pow_right (by decide) hA.G
  have hsg := SG.now hA
  have hs4 := hsg.1
  by_cases h0n : nsF rs rm nu x = 0
  · obtain ⟨t, ht, rfl, hrm, hr1, hr10, hok⟩ := nsF_0 hT h0n
    by_cases h26 : a 26 = 0
    · skip
      refine Cn.go (ls := [.ref 117, .int (nI t), .float 0, .float 0, .float 0, .float 0, .float 0, .float 0]) (by decide +kernel) rfl (Nat.le_of_ble_eq_true rfl) ?_
      refine r_aload_n (pc2 := 1) 0 dX10_attempt_0 rfl rfl rfl rfl ?_
      refine r_iconst (pc2 := 2) (v := 0) dX10_attempt_1 (by decide) rfl ?_
      refine r_putfX (pc2 := 5) (moL (upd v 0 0)) fX10_1 dX10_attempt_2 c117 (by decide) (Nat.le_of_ble_eq_true rfl) rfl rfl rfl (fun h z2 o2 c117 => ?_)
      have c118 := (o2 118 (by decide)).trans c118
      have c122 := (o2 122 (by decide)).trans c122
      have c123 := (o2 123 (by decide)).trans c123
      have c134 := (o2 134 (by decide)).trans c134
      have c136 := (o2 136 (by decide)).trans c136
      have c137 := (o2 137 (by decide)).trans c137
      have c138 := (o2 138 (by decide)).trans c138
      have hx := hx.step (a := 117) (by decide) z2 o2
      refine r_aload_n (pc2 := 6) 0 dX10_attempt_5 rfl rfl rfl rfl ?_
      refine r_iload_n (pc2 := 7) 1 dX10_attempt_6 rfl rfl rfl ?_
      refine r_callV1 (pc2 := 10) (As := [.int (nI t)]) (st := []) kX10_408 rfl rfl dX10_attempt_7 c117 (by decide) rfl rfl (Nat.le_of_ble_eq_true rfl) (by omega) (c_noSlept c117 c136 c137 c138 hT (by omega)) rfl (fun h2 hq7 => ?_)
      subst hq7
      refine r_topi (fun x10 e10 => ?_)
      refine r_istore_n (pc2 := 11) (ls2 := [.ref 117, .int (nI t), .int x10, .float 0, .float 0, .float 0, .float 0, .float 0]) 2 dX10_attempt_10 rfl (by decide) rfl rfl rfl ?_
      refine r_iload_n (pc2 := 12) 2 dX10_attempt_11 rfl rfl rfl ?_
      refine r_if_eq (tgt := 17) (pc2 := 15) dX10_attempt_12 (by decide) rfl (fun b12 => ?_) (fun b12 => ?_)
      · skip
        refine r_aload_n (pc2 := 18) 0 dX10_attempt_17 rfl rfl rfl rfl ?_
        refine r_getf (pc2 := 21) (v := .ref 118) fX10_13 dX10_attempt_18 c117 (by decide) rfl rfl ?_
        refine r_bipush (pc2 := 23) (v := 26) dX10_attempt_21 (by decide) rfl ?_
        refine r_ialdA (pc2 := 24) 26 dX10_attempt_23 c118 (by decide) rfl (by decide) (by decide) rfl ?_
        refine r_if_ne (tgt := 30) (pc2 := 27) dX10_attempt_24 (by decide) rfl (fun b24 => ?_) (fun b24 => ?_)
        · exact absurd (by rw [h26]; rfl) b24
        · skip
          refine r_bipush (pc2 := 29) (v := -5) dX10_attempt_27 (by decide) rfl ?_
          exact r_iret rfl dX10_attempt_29 ⟨by rw [attF, if_neg (fun z => z h0n), if_pos h26], (upd v 0 0), ⟨rfl, rfl, rfl⟩, ⟨c117, c118, hx.get (by decide) k119, hx.get (by decide) k120, ⟨_, hx.get (by decide) k121⟩, ⟨_, c122⟩, ⟨_, c123⟩, ⟨_, hx.get (by decide) k124⟩, ⟨_, hx.get (by decide) k125⟩, ⟨_, hx.get (by decide) k126⟩, ⟨_, hx.get (by decide) k127⟩, ⟨_, hx.get (by decide) k128⟩, ⟨_, hx.get (by decide) k129⟩, ⟨_, hx.get (by decide) k130⟩, ⟨_, hx.get (by decide) k131⟩, ⟨_, hx.get (by decide) k132⟩, ⟨_, hx.get (by decide) k133⟩, ⟨_, c134⟩, ⟨_, hx.get (by decide) k135⟩, c136, c137, c138⟩, hx.mono (by decide)⟩
      · exact absurd (e10.trans h0n) b12
    · obtain ⟨D, hDe⟩ : ∃ D, D = drO a nu t (rowN rm t) 10 := ⟨_, rfl⟩
      have hD4 : D < 1024 := by rw [hDe]; exact drO_lt a nu t (rowN rm t) 10
      by_cases hD0 : D = 0
      · skip
        refine Cn.go (ls := [.ref 117, .int (nI t), .float 0, .float 0, .float 0, .float 0, .float 0, .float 0]) (by decide +kernel) rfl (Nat.le_of_ble_eq_true rfl) ?_
        refine r_aload_n (pc2 := 1) 0 dX10_attempt_0 rfl rfl rfl rfl ?_
        refine r_iconst (pc2 := 2) (v := 0) dX10_attempt_1 (by decide) rfl ?_
        refine r_putfX (pc2 := 5) (moL (upd v 0 0)) fX10_1 dX10_attempt_2 c117 (by decide) (Nat.le_of_ble_eq_true rfl) rfl rfl rfl (fun h z2 o2 c117 => ?_)
        have c118 := (o2 118 (by decide)).trans c118
        have c122 := (o2 122 (by decide)).trans c122
        have c123 := (o2 123 (by decide)).trans c123
        have c134 := (o2 134 (by decide)).trans c134
        have c136 := (o2 136 (by decide)).trans c136
        have c137 := (o2 137 (by decide)).trans c137
        have c138 := (o2 138 (by decide)).trans c138
        have hx := hx.step (a := 117) (by decide) z2 o2
        refine r_aload_n (pc2 := 6) 0 dX10_attempt_5 rfl rfl rfl rfl ?_
        refine r_iload_n (pc2 := 7) 1 dX10_attempt_6 rfl rfl rfl ?_
        refine r_callV1 (pc2 := 10) (As := [.int (nI t)]) (st := []) kX10_408 rfl rfl dX10_attempt_7 c117 (by decide) rfl rfl (Nat.le_of_ble_eq_true rfl) (by omega) (c_noSlept c117 c136 c137 c138 hT (by omega)) rfl (fun h2 hq7 => ?_)
        subst hq7
        refine r_topi (fun x10 e10 => ?_)
        refine r_istore_n (pc2 := 11) (ls2 := [.ref 117, .int (nI t), .int x10, .float 0, .float 0, .float 0, .float 0, .float 0]) 2 dX10_attempt_10 rfl (by decide) rfl rfl rfl ?_
        refine r_iload_n (pc2 := 12) 2 dX10_attempt_11 rfl rfl rfl ?_
        refine r_if_eq (tgt := 17) (pc2 := 15) dX10_attempt_12 (by decide) rfl (fun b12 => ?_) (fun b12 => ?_)
        · skip
          refine r_aload_n (pc2 := 18) 0 dX10_attempt_17 rfl rfl rfl rfl ?_
          refine r_getf (pc2 := 21) (v := .ref 118) fX10_13 dX10_attempt_18 c117 (by decide) rfl rfl ?_
          refine r_bipush (pc2 := 23) (v := 26) dX10_attempt_21 (by decide) rfl ?_
          refine r_ialdA (pc2 := 24) 26 dX10_attempt_23 c118 (by decide) rfl (by decide) (by decide) rfl ?_
          refine r_if_ne (tgt := 30) (pc2 := 27) dX10_attempt_24 (by decide) rfl (fun b24 => ?_) (fun b24 => ?_)
          · skip
            refine r_aload_n (pc2 := 31) 0 dX10_attempt_30 rfl rfl rfl rfl ?_
            refine r_iload_n (pc2 := 32) 1 dX10_attempt_31 rfl rfl rfl ?_
            refine r_callV1 (pc2 := 35) (As := [.int (nI t)]) (st := []) kX10_411 rfl rfl dX10_attempt_32 c117 (by decide) rfl rfl (Nat.le_of_ble_eq_true rfl) (by omega) (c_draughtsOf c117 c118 c122 c123 c137 c138 hA ht hrm (by omega) (by omega)) rfl (fun h hq32 => ?_)
            obtain ⟨hxd, ⟨f2, c122⟩, ⟨w2, c123⟩⟩ := hq32
            have c117 := hxd.get (by decide) c117
            have c118 := hxd.get (by decide) c118
            have c134 := hxd.get (by decide) c134
            have c136 := hxd.get (by decide) c136
            have c137 := hxd.get (by decide) c137
            have c138 := hxd.get (by decide) c138
            have hx := hx.trans hxd (by decide)
            refine r_cast (nI D) (by rw [hDe]) ?_
            refine r_istore_n (pc2 := 36) (ls2 := [.ref 117, .int (nI t), .int x10, .int (nI D), .float 0, .float 0, .float 0, .float 0]) 3 dX10_attempt_35 rfl (by decide) rfl rfl rfl ?_
            refine r_iconst (pc2 := 37) (v := -1) dX10_attempt_36 (by decide) rfl ?_
            refine r_istore (pc2 := 39) (ls2 := [.ref 117, .int (nI t), .int x10, .int (nI D), .int (-1), .float 0, .float 0, .float 0]) 4 dX10_attempt_37 (by decide) rfl rfl rfl ?_
            refine r_ldcw (pc2 := 42) (v := 268435456) qX10_350 dX10_attempt_39 rfl ?_
            refine r_istore (pc2 := 44) (ls2 := [.ref 117, .int (nI t), .int x10, .int (nI D), .int (-1), .int 268435456, .float 0, .float 0]) 5 dX10_attempt_42 (by decide) rfl rfl rfl ?_
            refine r_iconst (pc2 := 45) (v := 0) dX10_attempt_44 (by decide) rfl ?_
            refine r_istore (pc2 := 47) (ls2 := [.ref 117, .int (nI t), .int x10, .int (nI D), .int (-1), .int 268435456, .int 0, .float 0]) 6 dX10_attempt_45 (by decide) rfl rfl rfl ?_
            refine r_iload (pc2 := 49) 6 dX10_attempt_47 rfl rfl ?_
            refine r_iconst (pc2 := 50) (v := 1) dX10_attempt_49 (by decide) rfl ?_
            refine r_aload_n (pc2 := 51) 0 dX10_attempt_50 rfl rfl rfl rfl ?_
            refine r_getf (pc2 := 54) (v := .ref 118) fX10_13 dX10_attempt_51 c117 (by decide) rfl rfl ?_
            refine r_iconst (pc2 := 55) (v := 3) dX10_attempt_54 (by decide) rfl ?_
            refine r_ialdA (pc2 := 56) 3 dX10_attempt_55 c118 (by decide) rfl (by decide) (by decide) rfl ?_
            refine r_ishl (pc2 := 57) dX10_attempt_56 rfl ?_
            refine r_cast (nI (2 ^ (a 3))) (shl1 _ (by omega)) ?_
            refine r_icmp_ge (tgt := 114) (pc2 := 60) dX10_attempt_57 (by decide) rfl (fun b57 => ?_) (fun b57 => ?_)
            · exact absurd b57 (nI_ge (a := 0) (Nat.two_pow_pos _) (by omega))
            · skip
              refine r_iload_n (pc2 := 61) 3 dX10_attempt_60 rfl rfl rfl ?_
              refine r_if_eq (tgt := 114) (pc2 := 64) dX10_attempt_61 (by decide) rfl (fun b61 => ?_) (fun b61 => ?_)
              · skip
                refine r_iload (pc2 := 116) 4 dX10_attempt_114 rfl rfl ?_
                exact r_iret rfl dX10_attempt_116 ⟨by rw [attF, if_neg (fun z => z h0n), if_neg h26, nI_clamp (by omega), ← hDe, if_pos hD0], (upd v 0 0), ⟨rfl, rfl, rfl⟩, ⟨c117, c118, hx.get (by decide) k119, hx.get (by decide) k120, ⟨_, hx.get (by decide) k121⟩, ⟨_, c122⟩, ⟨_, c123⟩, ⟨_, hx.get (by decide) k124⟩, ⟨_, hx.get (by decide) k125⟩, ⟨_, hx.get (by decide) k126⟩, ⟨_, hx.get (by decide) k127⟩, ⟨_, hx.get (by decide) k128⟩, ⟨_, hx.get (by decide) k129⟩, ⟨_, hx.get (by decide) k130⟩, ⟨_, hx.get (by decide) k131⟩, ⟨_, hx.get (by decide) k132⟩, ⟨_, hx.get (by decide) k133⟩, ⟨_, c134⟩, ⟨_, hx.get (by decide) k135⟩, c136, c137, c138⟩, hx.mono (by decide)⟩
              · exact absurd (by rw [hD0]; rfl) b61
          · exact absurd (nI_z0 (by omega) b24) h26
        · exact absurd (e10.trans h0n) b12
      · skip
        have loop : ∀ (m k : Nat) (u2 : Int32) (u7 : Value) (f2 w2 f4 : Nat → Int32) (h1 : Hp), k + m = 2 ^ (a 3) → Ex [117, 118, 122, 123, 134, 136, 137, 138] h0 h1 → h1.1 117 = some (mO (upd v 0 0)) → h1.1 118 = some (aI 3531 (nA a)) → h1.1 122 = some (aI 900 f2) → h1.1 123 = some (aI 9 w2) → h1.1 134 = some (aI 10 f4) → h1.1 136 = some (aI 4 rs) → h1.1 137 = some (aI 4 rm) → h1.1 138 = some (aL 160 nu) → Fr E mX10_attempt d 47 [.ref 117, .int (nI t), .int u2, .int (nI D), .int ((atF a D 268435456 k).1), .int (nI (atF a D 268435456 k).2), .int (nI k), u7] [] h1 (RP (.int (attF a rs rm nu (nI t))) h0 v a hi tp rs rm nu) := by
          intro m
          induction m with
          | zero =>
            intro k u2 u7 f2 w2 f4 h hkm hx c117 c118 c122 c123 c134 c136 c137 c138
            obtain rfl : k = 2 ^ (a 3) := by omega
            refine r_iload (pc2 := 49) 6 dX10_attempt_47 rfl rfl ?_
            refine r_iconst (pc2 := 50) (v := 1) dX10_attempt_49 (by decide) rfl ?_
            refine r_aload_n (pc2 := 51) 0 dX10_attempt_50 rfl rfl rfl rfl ?_
            refine r_getf (pc2 := 54) (v := .ref 118) fX10_13 dX10_attempt_51 c117 (by decide) rfl rfl ?_
            refine r_iconst (pc2 := 55) (v := 3) dX10_attempt_54 (by decide) rfl ?_
            refine r_ialdA (pc2 := 56) 3 dX10_attempt_55 c118 (by decide) rfl (by decide) (by decide) rfl ?_
            refine r_ishl (pc2 := 57) dX10_attempt_56 rfl ?_
            refine r_cast (nI (2 ^ (a 3))) (shl1 _ (by omega)) ?_
            refine r_icmp_ge (tgt := 114) (pc2 := 60) dX10_attempt_57 (by decide) rfl (fun b57 => ?_) (fun b57 => ?_)
            · skip
              refine r_iload (pc2 := 116) 4 dX10_attempt_114 rfl rfl ?_
              exact r_iret rfl dX10_attempt_116 ⟨by rw [attF, if_neg (fun z => z h0n), if_neg h26, nI_clamp (by omega), ← hDe, if_neg hD0], (upd v 0 0), ⟨rfl, rfl, rfl⟩, ⟨c117, c118, hx.get (by decide) k119, hx.get (by decide) k120, ⟨_, hx.get (by decide) k121⟩, ⟨_, c122⟩, ⟨_, c123⟩, ⟨_, hx.get (by decide) k124⟩, ⟨_, hx.get (by decide) k125⟩, ⟨_, hx.get (by decide) k126⟩, ⟨_, hx.get (by decide) k127⟩, ⟨_, hx.get (by decide) k128⟩, ⟨_, hx.get (by decide) k129⟩, ⟨_, hx.get (by decide) k130⟩, ⟨_, hx.get (by decide) k131⟩, ⟨_, hx.get (by decide) k132⟩, ⟨_, hx.get (by decide) k133⟩, ⟨_, c134⟩, ⟨_, hx.get (by decide) k135⟩, c136, c137, c138⟩, hx.mono (by decide)⟩
            · exact absurd (nI_le (Nat.le_refl _) (by omega)) b57
          | succ m ih =>
            intro k u2 u7 f2 w2 f4 h hkm hx c117 c118 c122 c123 c134 c136 c137 c138
            have hlt : k < 2 ^ (a 3) := by omega
            have hk16 : k < 16 := by omega
            have hml := (moF_le a k D 10).2
            have hal := atF_lt a D k
            by_cases ho : okS a (packS a) k
            · have hdg := okS_dig hsg hA.G ho
              by_cases hlt2 : (moF a k D 10).2 < (atF a D 268435456 k).2
              · have hnx : atF a D 268435456 (k + 1) = (nI k, (moF a k D 10).2) := by rw [atF, if_pos ⟨ho, hlt2⟩]
                refine r_iload (pc2 := 49) 6 dX10_attempt_47 rfl rfl ?_
                refine r_iconst (pc2 := 50) (v := 1) dX10_attempt_49 (by decide) rfl ?_
                refine r_aload_n (pc2 := 51) 0 dX10_attempt_50 rfl rfl rfl rfl ?_
                refine r_getf (pc2 := 54) (v := .ref 118) fX10_13 dX10_attempt_51 c117 (by decide) rfl rfl ?_
                refine r_iconst (pc2 := 55) (v := 3) dX10_attempt_54 (by decide) rfl ?_
                refine r_ialdA (pc2 := 56) 3 dX10_attempt_55 c118 (by decide) rfl (by decide) (by decide) rfl ?_
                refine r_ishl (pc2 := 57) dX10_attempt_56 rfl ?_
                refine r_cast (nI (2 ^ (a 3))) (shl1 _ (by omega)) ?_
                refine r_icmp_ge (tgt := 114) (pc2 := 60) dX10_attempt_57 (by decide) rfl (fun b57 => ?_) (fun b57 => ?_)
                · exact absurd b57 (nI_ge hlt (by omega))
                · skip
                  refine r_iload_n (pc2 := 61) 3 dX10_attempt_60 rfl rfl rfl ?_
                  refine r_if_eq (tgt := 114) (pc2 := 64) dX10_attempt_61 (by decide) rfl (fun b61 => ?_) (fun b61 => ?_)
                  · exact absurd (nI_z0 (by omega) b61) hD0
                  · skip
                    refine r_aload_n (pc2 := 65) 0 dX10_attempt_64 rfl rfl rfl rfl ?_
                    refine r_aload_n (pc2 := 66) 0 dX10_attempt_65 rfl rfl rfl rfl ?_
                    refine r_callV1 (pc2 := 69) (As := []) (st := [.ref 117]) kX10_266 rfl rfl dX10_attempt_66 c117 (by decide) rfl rfl (Nat.le_of_ble_eq_true rfl) (by omega) (c_standNow c117 c118 hA.G hA.c7 hA.dp) rfl (fun h2 hq66 => ?_)
                    subst hq66
                    refine r_iload (pc2 := 71) 6 dX10_attempt_69 rfl rfl ?_
                    refine r_i2l (pc2 := 72) dX10_attempt_71 rfl ?_
                    refine r_castl (lN k) (nI_l (by omega)) ?_
                    refine r_callV1 (pc2 := 75) (As := [.int (nI (packS a)), .long (lN k)]) (st := []) kX10_269 rfl rfl dX10_attempt_72 c117 (by decide) rfl rfl (Nat.le_of_ble_eq_true rfl) (by omega) (c_whyBy (st := packS a) (sn := k) c117 c118 hA (by omega) hlt (by omega)) rfl (fun h2 hq72 => ?_)
                    subst hq72
                    refine r_if_eq (tgt := 81) (pc2 := 78) dX10_attempt_75 (by decide) rfl (fun b75 => ?_) (fun b75 => ?_)
                    · skip
                      obtain ⟨ct1, e134b⟩ : ∃ z, f4 = nA z := ⟨_, nA_of f4⟩
                      rw [e134b] at c134
                      refine r_aload_n (pc2 := 82) 0 dX10_attempt_81 rfl rfl rfl rfl ?_
                      refine r_iload (pc2 := 84) 6 dX10_attempt_82 rfl rfl ?_
                      refine r_iload_n (pc2 := 85) 3 dX10_attempt_84 rfl rfl rfl ?_
                      refine r_callV1 (pc2 := 88) (As := [.int (nI k), .int (nI D)]) (st := []) kX10_414 rfl rfl dX10_attempt_85 c117 (by decide) rfl rfl (Nat.le_of_ble_eq_true rfl) (by omega) (c_mostOften c117 c118 c122 c123 c134 hA hk16 hD4 hdg.1 (by omega)) rfl (fun h hq85 => ?_)
                      obtain ⟨hxm, ⟨f3, c122⟩, ⟨w3, c123⟩, ⟨f5, c134⟩⟩ := hq85
                      have c117 := hxm.get (by decide) c117
                      have c118 := hxm.get (by decide) c118
                      have c136 := hxm.get (by decide) c136
                      have c137 := hxm.get (by decide) c137
                      have c138 := hxm.get (by decide) c138
                      have hx := hx.trans hxm (by decide)
                      refine r_istore (pc2 := 90) (ls2 := [.ref 117, .int (nI t), .int u2, .int (nI D), .int ((atF a D 268435456 k).1), .int (nI (atF a D 268435456 k).2), .int (nI k), .int (nI (moF a k D 10).2)]) 7 dX10_attempt_88 (by decide) rfl rfl rfl ?_
                      refine r_iload (pc2 := 92) 7 dX10_attempt_90 rfl rfl ?_
                      refine r_iload (pc2 := 94) 5 dX10_attempt_92 rfl rfl ?_
                      refine r_icmp_lt (tgt := 100) (pc2 := 97) dX10_attempt_94 (by decide) rfl (fun b94 => ?_) (fun b94 => ?_)
                      · skip
                        refine r_iload (pc2 := 102) 6 dX10_attempt_100 rfl rfl ?_
                        refine r_istore (pc2 := 104) (ls2 := [.ref 117, .int (nI t), .int u2, .int (nI D), .int (nI k), .int (nI (atF a D 268435456 k).2), .int (nI k), .int (nI (moF a k D 10).2)]) 4 dX10_attempt_102 (by decide) rfl rfl rfl ?_
                        refine r_iload (pc2 := 106) 7 dX10_attempt_104 rfl rfl ?_
                        refine r_istore (pc2 := 108) (ls2 := [.ref 117, .int (nI t), .int u2, .int (nI D), .int (nI k), .int (nI (moF a k D 10).2), .int (nI k), .int (nI (moF a k D 10).2)]) 5 dX10_attempt_106 (by decide) rfl rfl rfl ?_
                        obtain ⟨x108, e108⟩ : ∃ z : Int32, z = (nI k) + (1) := ⟨_, rfl⟩
                        refine r_iinc (pc2 := 111) (ls2 := [.ref 117, .int (nI t), .int u2, .int (nI D), .int (nI k), .int (nI (moF a k D 10).2), .int x108, .int (nI (moF a k D 10).2)]) (v := x108) 6 dX10_attempt_108 rfl (by rw [e108]; rfl) rfl rfl rfl ?_
                        refine r_goto (pc2 := 47) dX10_attempt_111 (by decide) ?_
                        rw [e108, nI_1]
                        have e9 := ih (k + 1) u2 (.int (nI (moF a k D 10).2)) _ _ _ _ (by omega) hx c117 c118 c122 c123 c134 c136 c137 c138
                        rw [hnx] at e9
                        exact e9
                      · exact absurd (nI_lt hlt2 (by omega)) b94
                    · exact absurd (by rw [ho.2]; rfl) b75
              · have hnx : atF a D 268435456 (k + 1) = atF a D 268435456 k := by rw [atF, if_neg (fun z => hlt2 z.2)]
                refine r_iload (pc2 := 49) 6 dX10_attempt_47 rfl rfl ?_
                refine r_iconst (pc2 := 50) (v := 1) dX10_attempt_49 (by decide) rfl ?_
                refine r_aload_n (pc2 := 51) 0 dX10_attempt_50 rfl rfl rfl rfl ?_
                refine r_getf (pc2 := 54) (v := .ref 118) fX10_13 dX10_attempt_51 c117 (by decide) rfl rfl ?_
                refine r_iconst (pc2 := 55) (v := 3) dX10_attempt_54 (by decide) rfl ?_
                refine r_ialdA (pc2 := 56) 3 dX10_attempt_55 c118 (by decide) rfl (by decide) (by decide) rfl ?_
                refine r_ishl (pc2 := 57) dX10_attempt_56 rfl ?_
                refine r_cast (nI (2 ^ (a 3))) (shl1 _ (by omega)) ?_
                refine r_icmp_ge (tgt := 114) (pc2 := 60) dX10_attempt_57 (by decide) rfl (fun b57 => ?_) (fun b57 => ?_)
                · exact absurd b57 (nI_ge hlt (by omega))
                · skip
                  refine r_iload_n (pc2 := 61) 3 dX10_attempt_60 rfl rfl rfl ?_
                  refine r_if_eq (tgt := 114) (pc2 := 64) dX10_attempt_61 (by decide) rfl (fun b61 => ?_) (fun b61 => ?_)
                  · exact absurd (nI_z0 (by omega) b61) hD0
                  · skip
                    refine r_aload_n (pc2 := 65) 0 dX10_attempt_64 rfl rfl rfl rfl ?_
                    refine r_aload_n (pc2 := 66) 0 dX10_attempt_65 rfl rfl rfl rfl ?_
                    refine r_callV1 (pc2 := 69) (As := []) (st := [.ref 117]) kX10_266 rfl rfl dX10_attempt_66 c117 (by decide) rfl rfl (Nat.le_of_ble_eq_true rfl) (by omega) (c_standNow c117 c118 hA.G hA.c7 hA.dp) rfl (fun h2 hq66 => ?_)
                    subst hq66
                    refine r_iload (pc2 := 71) 6 dX10_attempt_69 rfl rfl ?_
                    refine r_i2l (pc2 := 72) dX10_attempt_71 rfl ?_
                    refine r_castl (lN k) (nI_l (by omega)) ?_
                    refine r_callV1 (pc2 := 75) (As := [.int (nI (packS a)), .long (lN k)]) (st := []) kX10_269 rfl rfl dX10_attempt_72 c117 (by decide) rfl rfl (Nat.le_of_ble_eq_true rfl) (by omega) (c_whyBy (st := packS a) (sn := k) c117 c118 hA (by omega) hlt (by omega)) rfl (fun h2 hq72 => ?_)
                    subst hq72
                    refine r_if_eq (tgt := 81) (pc2 := 78) dX10_attempt_75 (by decide) rfl (fun b75 => ?_) (fun b75 => ?_)
                    · skip
                      obtain ⟨ct1, e134b⟩ : ∃ z, f4 = nA z := ⟨_, nA_of f4⟩
                      rw [e134b] at c134
                      refine r_aload_n (pc2 := 82) 0 dX10_attempt_81 rfl rfl rfl rfl ?_
                      refine r_iload (pc2 := 84) 6 dX10_attempt_82 rfl rfl ?_
                      refine r_iload_n (pc2 := 85) 3 dX10_attempt_84 rfl rfl rfl ?_
                      refine r_callV1 (pc2 := 88) (As := [.int (nI k), .int (nI D)]) (st := []) kX10_414 rfl rfl dX10_attempt_85 c117 (by decide) rfl rfl (Nat.le_of_ble_eq_true rfl) (by omega) (c_mostOften c117 c118 c122 c123 c134 hA hk16 hD4 hdg.1 (by omega)) rfl (fun h hq85 => ?_)
                      obtain ⟨hxm, ⟨f3, c122⟩, ⟨w3, c123⟩, ⟨f5, c134⟩⟩ := hq85
                      have c117 := hxm.get (by decide) c117
                      have c118 := hxm.get (by decide) c118
                      have c136 := hxm.get (by decide) c136
                      have c137 := hxm.get (by decide) c137
                      have c138 := hxm.get (by decide) c138
                      have hx := hx.trans hxm (by decide)
                      refine r_istore (pc2 := 90) (ls2 := [.ref 117, .int (nI t), .int u2, .int (nI D), .int ((atF a D 268435456 k).1), .int (nI (atF a D 268435456 k).2), .int (nI k), .int (nI (moF a k D 10).2)]) 7 dX10_attempt_88 (by decide) rfl rfl rfl ?_
                      refine r_iload (pc2 := 92) 7 dX10_attempt_90 rfl rfl ?_
                      refine r_iload (pc2 := 94) 5 dX10_attempt_92 rfl rfl ?_
                      refine r_icmp_lt (tgt := 100) (pc2 := 97) dX10_attempt_94 (by decide) rfl (fun b94 => ?_) (fun b94 => ?_)
                      · exact absurd ((nI_ltI (by omega) (by omega)).mp b94) hlt2
                      · skip
                        refine r_goto (pc2 := 108) dX10_attempt_97 (by decide) ?_
                        obtain ⟨x108, e108⟩ : ∃ z : Int32, z = (nI k) + (1) := ⟨_, rfl⟩
                        refine r_iinc (pc2 := 111) (ls2 := [.ref 117, .int (nI t), .int u2, .int (nI D), .int ((atF a D 268435456 k).1), .int (nI (atF a D 268435456 k).2), .int x108, .int (nI (moF a k D 10).2)]) (v := x108) 6 dX10_attempt_108 rfl (by rw [e108]; rfl) rfl rfl rfl ?_
                        refine r_goto (pc2 := 47) dX10_attempt_111 (by decide) ?_
                        rw [e108, nI_1]
                        have e9 := ih (k + 1) u2 (.int (nI (moF a k D 10).2)) _ _ _ _ (by omega) hx c117 c118 c122 c123 c134 c136 c137 c138
                        rw [hnx] at e9
                        exact e9
                    · exact absurd (by rw [ho.2]; rfl) b75
            · have hnx : atF a D 268435456 (k + 1) = atF a D 268435456 k := by rw [atF, if_neg (fun z => ho z.1)]
              refine r_iload (pc2 := 49) 6 dX10_attempt_47 rfl rfl ?_
              refine r_iconst (pc2 := 50) (v := 1) dX10_attempt_49 (by decide) rfl ?_
              refine r_aload_n (pc2 := 51) 0 dX10_attempt_50 rfl rfl rfl rfl ?_
              refine r_getf (pc2 := 54) (v := .ref 118) fX10_13 dX10_attempt_51 c117 (by decide) rfl rfl ?_
              refine r_iconst (pc2 := 55) (v := 3) dX10_attempt_54 (by decide) rfl ?_
              refine r_ialdA (pc2 := 56) 3 dX10_attempt_55 c118 (by decide) rfl (by decide) (by decide) rfl ?_
              refine r_ishl (pc2 := 57) dX10_attempt_56 rfl ?_
              refine r_cast (nI (2 ^ (a 3))) (shl1 _ (by omega)) ?_
              refine r_icmp_ge (tgt := 114) (pc2 := 60) dX10_attempt_57 (by decide) rfl (fun b57 => ?_) (fun b57 => ?_)
              · exact absurd b57 (nI_ge hlt (by omega))
              · skip
                refine r_iload_n (pc2 := 61) 3 dX10_attempt_60 rfl rfl rfl ?_
                refine r_if_eq (tgt := 114) (pc2 := 64) dX10_attempt_61 (by decide) rfl (fun b61 => ?_) (fun b61 => ?_)
                · exact absurd (nI_z0 (by omega) b61) hD0
                · skip
                  refine r_aload_n (pc2 := 65) 0 dX10_attempt_64 rfl rfl rfl rfl ?_
                  refine r_aload_n (pc2 := 66) 0 dX10_attempt_65 rfl rfl rfl rfl ?_
                  refine r_callV1 (pc2 := 69) (As := []) (st := [.ref 117]) kX10_266 rfl rfl dX10_attempt_66 c117 (by decide) rfl rfl (Nat.le_of_ble_eq_true rfl) (by omega) (c_standNow c117 c118 hA.G hA.c7 hA.dp) rfl (fun h2 hq66 => ?_)
                  subst hq66
                  refine r_iload (pc2 := 71) 6 dX10_attempt_69 rfl rfl ?_
                  refine r_i2l (pc2 := 72) dX10_attempt_71 rfl ?_
                  refine r_castl (lN k) (nI_l (by omega)) ?_
                  refine r_callV1 (pc2 := 75) (As := [.int (nI (packS a)), .long (lN k)]) (st := []) kX10_269 rfl rfl dX10_attempt_72 c117 (by decide) rfl rfl (Nat.le_of_ble_eq_true rfl) (by omega) (c_whyBy (st := packS a) (sn := k) c117 c118 hA (by omega) hlt (by omega)) rfl (fun h2 hq72 => ?_)
                  subst hq72
                  refine r_if_eq (tgt := 81) (pc2 := 78) dX10_attempt_75 (by decide) rfl (fun b75 => ?_) (fun b75 => ?_)
                  · exact absurd (nI_z0 (Nat.lt_trans (why2_lt _ _ _) (by decide)) b75) (fun z => ho ⟨hlt, z⟩)
                  · skip
                    refine r_goto (pc2 := 108) dX10_attempt_78 (by decide) ?_
                    obtain ⟨x108, e108⟩ : ∃ z : Int32, z = (nI k) + (1) := ⟨_, rfl⟩
                    refine r_iinc (pc2 := 111) (ls2 := [.ref 117, .int (nI t), .int u2, .int (nI D), .int ((atF a D 268435456 k).1), .int (nI (atF a D 268435456 k).2), .int x108, u7]) (v := x108) 6 dX10_attempt_108 rfl (by rw [e108]; rfl) rfl rfl rfl ?_
                    refine r_goto (pc2 := 47) dX10_attempt_111 (by decide) ?_
                    rw [e108, nI_1]
                    have e9 := ih (k + 1) u2 u7 _ _ _ _ (by omega) hx c117 c118 c122 c123 c134 c136 c137 c138
                    rw [hnx] at e9
                    exact e9
        refine Cn.go (ls := [.ref 117, .int (nI t), .float 0, .float 0, .float 0, .float 0, .float 0, .float 0]) (by decide +kernel) rfl (Nat.le_of_ble_eq_true rfl) ?_
        refine r_aload_n (pc2 := 1) 0 dX10_attempt_0 rfl rfl rfl rfl ?_
        refine r_iconst (pc2 := 2) (v := 0) dX10_attempt_1 (by decide) rfl ?_
        refine r_putfX (pc2 := 5) (moL (upd v 0 0)) fX10_1 dX10_attempt_2 c117 (by decide) (Nat.le_of_ble_eq_true rfl) rfl rfl rfl (fun h z2 o2 c117 => ?_)
        have c118 := (o2 118 (by decide)).trans c118
        have c122 := (o2 122 (by decide)).trans c122
        have c123 := (o2 123 (by decide)).trans c123
        have c134 := (o2 134 (by decide)).trans c134
        have c136 := (o2 136 (by decide)).trans c136
        have c137 := (o2 137 (by decide)).trans c137
        have c138 := (o2 138 (by decide)).trans c138
        have hx := hx.step (a := 117) (by decide) z2 o2
        refine r_aload_n (pc2 := 6) 0 dX10_attempt_5 rfl rfl rfl rfl ?_
        refine r_iload_n (pc2 := 7) 1 dX10_attempt_6 rfl rfl rfl ?_
        refine r_callV1 (pc2 := 10) (As := [.int (nI t)]) (st := []) kX10_408 rfl rfl dX10_attempt_7 c117 (by decide) rfl rfl (Nat.le_of_ble_eq_true rfl) (by omega) (c_noSlept c117 c136 c137 c138 hT (by omega)) rfl (fun h2 hq7 => ?_)
        subst hq7
        refine r_topi (fun x10 e10 => ?_)
        refine r_istore_n (pc2 := 11) (ls2 := [.ref 117, .int (nI t), .int x10, .float 0, .float 0, .float 0, .float 0, .float 0]) 2 dX10_attempt_10 rfl (by decide) rfl rfl rfl ?_
        refine r_iload_n (pc2 := 12) 2 dX10_attempt_11 rfl rfl rfl ?_
        refine r_if_eq (tgt := 17) (pc2 := 15) dX10_attempt_12 (by decide) rfl (fun b12 => ?_) (fun b12 => ?_)
        · skip
          refine r_aload_n (pc2 := 18) 0 dX10_attempt_17 rfl rfl rfl rfl ?_
          refine r_getf (pc2 := 21) (v := .ref 118) fX10_13 dX10_attempt_18 c117 (by decide) rfl rfl ?_
          refine r_bipush (pc2 := 23) (v := 26) dX10_attempt_21 (by decide) rfl ?_
          refine r_ialdA (pc2 := 24) 26 dX10_attempt_23 c118 (by decide) rfl (by decide) (by decide) rfl ?_
          refine r_if_ne (tgt := 30) (pc2 := 27) dX10_attempt_24 (by decide) rfl (fun b24 => ?_) (fun b24 => ?_)
          · skip
            refine r_aload_n (pc2 := 31) 0 dX10_attempt_30 rfl rfl rfl rfl ?_
            refine r_iload_n (pc2 := 32) 1 dX10_attempt_31 rfl rfl rfl ?_
            refine r_callV1 (pc2 := 35) (As := [.int (nI t)]) (st := []) kX10_411 rfl rfl dX10_attempt_32 c117 (by decide) rfl rfl (Nat.le_of_ble_eq_true rfl) (by omega) (c_draughtsOf c117 c118 c122 c123 c137 c138 hA ht hrm (by omega) (by omega)) rfl (fun h hq32 => ?_)
            obtain ⟨hxd, ⟨f2, c122⟩, ⟨w2, c123⟩⟩ := hq32
            have c117 := hxd.get (by decide) c117
            have c118 := hxd.get (by decide) c118
            have c134 := hxd.get (by decide) c134
            have c136 := hxd.get (by decide) c136
            have c137 := hxd.get (by decide) c137
            have c138 := hxd.get (by decide) c138
            have hx := hx.trans hxd (by decide)
            refine r_cast (nI D) (by rw [hDe]) ?_
            refine r_istore_n (pc2 := 36) (ls2 := [.ref 117, .int (nI t), .int x10, .int (nI D), .float 0, .float 0, .float 0, .float 0]) 3 dX10_attempt_35 rfl (by decide) rfl rfl rfl ?_
            refine r_iconst (pc2 := 37) (v := -1) dX10_attempt_36 (by decide) rfl ?_
            refine r_istore (pc2 := 39) (ls2 := [.ref 117, .int (nI t), .int x10, .int (nI D), .int (-1), .float 0, .float 0, .float 0]) 4 dX10_attempt_37 (by decide) rfl rfl rfl ?_
            refine r_ldcw (pc2 := 42) (v := 268435456) qX10_350 dX10_attempt_39 rfl ?_
            refine r_cast (nI 268435456) (rfl) ?_
            refine r_istore (pc2 := 44) (ls2 := [.ref 117, .int (nI t), .int x10, .int (nI D), .int (-1), .int (nI 268435456), .float 0, .float 0]) 5 dX10_attempt_42 (by decide) rfl rfl rfl ?_
            refine r_iconst (pc2 := 45) (v := 0) dX10_attempt_44 (by decide) rfl ?_
            refine r_istore (pc2 := 47) (ls2 := [.ref 117, .int (nI t), .int x10, .int (nI D), .int (-1), .int (nI 268435456), .int 0, .float 0]) 6 dX10_attempt_45 (by decide) rfl rfl rfl ?_
            exact loop (2 ^ (a 3)) 0 _ _ _ _ _ _ (by omega) hx c117 c118 c122 c123 c134 c136 c137 c138
          · exact absurd (nI_z0 (by omega) b24) h26
        · exact absurd (e10.trans h0n) b12
  · skip
    refine Cn.go (ls := [.ref 117, .int x, .float 0, .float 0, .float 0, .float 0, .float 0, .float 0]) (by decide +kernel) rfl (Nat.le_of_ble_eq_true rfl) ?_
    refine r_aload_n (pc2 := 1) 0 dX10_attempt_0 rfl rfl rfl rfl ?_
    refine r_iconst (pc2 := 2) (v := 0) dX10_attempt_1 (by decide) rfl ?_
    refine r_putfX (pc2 := 5) (moL (upd v 0 0)) fX10_1 dX10_attempt_2 c117 (by decide) (Nat.le_of_ble_eq_true rfl) rfl rfl rfl (fun h z2 o2 c117 => ?_)
    have c118 := (o2 118 (by decide)).trans c118
    have c122 := (o2 122 (by decide)).trans c122
    have c123 := (o2 123 (by decide)).trans c123
    have c134 := (o2 134 (by decide)).trans c134
    have c136 := (o2 136 (by decide)).trans c136
    have c137 := (o2 137 (by decide)).trans c137
    have c138 := (o2 138 (by decide)).trans c138
    have hx := hx.step (a := 117) (by decide) z2 o2
    refine r_aload_n (pc2 := 6) 0 dX10_attempt_5 rfl rfl rfl rfl ?_
    refine r_iload_n (pc2 := 7) 1 dX10_attempt_6 rfl rfl rfl ?_
    refine r_callV1 (pc2 := 10) (As := [.int x]) (st := []) kX10_408 rfl rfl dX10_attempt_7 c117 (by decide) rfl rfl (Nat.le_of_ble_eq_true rfl) (by omega) (c_noSlept c117 c136 c137 c138 hT (by omega)) rfl (fun h2 hq7 => ?_)
    subst hq7
    refine r_topi (fun x10 e10 => ?_)
    refine r_istore_n (pc2 := 11) (ls2 := [.ref 117, .int x, .int x10, .float 0, .float 0, .float 0, .float 0, .float 0]) 2 dX10_attempt_10 rfl (by decide) rfl rfl rfl ?_
    refine r_iload_n (pc2 := 12) 2 dX10_attempt_11 rfl rfl rfl ?_
    refine r_if_eq (tgt := 17) (pc2 := 15) dX10_attempt_12 (by decide) rfl (fun b12 => ?_) (fun b12 => ?_)
    · exact absurd (e10.symm.trans b12) h0n
    · skip
      refine r_iload_n (pc2 := 16) 2 dX10_attempt_15 rfl rfl rfl ?_
      exact r_iret rfl dX10_attempt_16 ⟨by rw [attF, if_pos h0n, e10], (upd v 0 0), ⟨rfl, rfl, rfl⟩, ⟨c117, c118, hx.get (by decide) k119, hx.get (by decide) k120, ⟨_, hx.get (by decide) k121⟩, ⟨_, c122⟩, ⟨_, c123⟩, ⟨_, hx.get (by decide) k124⟩, ⟨_, hx.get (by decide) k125⟩, ⟨_, hx.get (by decide) k126⟩, ⟨_, hx.get (by decide) k127⟩, ⟨_, hx.get (by decide) k128⟩, ⟨_, hx.get (by decide) k129⟩, ⟨_, hx.get (by decide) k130⟩, ⟨_, hx.get (by decide) k131⟩, ⟨_, hx.get (by decide) k132⟩, ⟨_, hx.get (by decide) k133⟩, ⟨_, c134⟩, ⟨_, hx.get (by decide) k135⟩, c136, c137, c138⟩, hx.mono (by decide)⟩
