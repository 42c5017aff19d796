theorem RepS.top {f : Nat → Int32} {x : Int32} {s : List Int32} (h : RepS f (x :: s)) : f s.length = x := h.1
theorem RepS.pop {f : Nat → Int32} {x : Int32} {s : List Int32} (h : RepS f (x :: s)) : RepS f s := h.2
theorem nI_m2 (n : Nat) : nI (n + 3) + (-2) = nI (n + 1) := by
  have h1 := pk_m1 (n + 2)
  have h2 := pk_m1 (n + 1)
  rw [← h2, ← h1, Int32.add_assoc]
  rfl
theorem ev1_A {w : Nat → Int32} {c : Nat} {s : List Int32} (h : c < 1000) : ev1 w c s = nI c :: s := by
  unfold ev1
  rw [if_pos h]
theorem ev1_B {w : Nat → Int32} {c : Nat} {s : List Int32} (h : 1000 ≤ c) (h2 : c < 3000) : ev1 w c s = w (c - 1000) :: s := by
  unfold ev1
  rw [if_neg (by omega), if_pos h2]
theorem ev1_bin {w : Nat → Int32} {c : Nat} {x y : Int32} {r : List Int32} (hb : isBin c) : ev1 w c (y :: x :: r) = btw c x y :: r := by
  have h : ¬ c < 1000 ∧ ¬ c < 3000 ∧ ¬ c = 3006 ∧ ¬ c = 3009 := by rcases hb with o | o | o | o | o | o | o | o <;> omega
  unfold ev1
  rw [if_neg h.1, if_neg h.2.1, if_neg h.2.2.1, if_neg h.2.2.2]
set_option maxRecDepth 20000 in
set_option maxHeartbeats 1000000 in
theorem c_reckons {E : EnvT} {d : Nat} {h0 : Hp} {v : Nat → Int32} {a : Nat → Nat} {f w : Nat → Int32} {cf : Nat → Nat} {lw n : Nat} {mx : Int32} (c117 : h0.1 117 = some (mO v)) (c118 : h0.1 118 = some (aI 3531 (nA a))) (c122 : h0.1 122 = some (aI 900 f)) (c123 : h0.1 123 = some (aI 9 w)) (hlw : lw < 2) (hn : a (12 + lw) = n) (hcf : ∀ k, k < n → cf k = a (277 + a (10 + lw) + k)) (hfn : a (10 + lw) + n ≤ 900) (hwf : LawWF cf n) (hd : 1 ≤ d) : Cn E mX10_reckons d [.ref 117, .int (nI lw), .int mx] h0 (fun r h2 => r = some (.int (clipM ((stk w cf n).headD 0) mx)) ∧ Ex [122] h0 h2 ∧ ∃ g, h2.1 122 = some (aI 900 g)) := by
  refine Cn.go (ls := [.ref 117, .int (nI lw), .int mx, .float 0, .float 0, .float 0]) (by decide +kernel) rfl (Nat.le_of_ble_eq_true rfl) ?_
  have loop : ∀ (m k : Nat) (h1 : Hp) (f : Nat → Int32) (s : List Int32) (u : Value), k + m = n → stk w cf k = s → RepS f s → Ex [122] h0 h1 → h1.1 117 = some (mO v) → h1.1 118 = some (aI 3531 (nA a)) → h1.1 122 = some (aI 900 f) → h1.1 123 = some (aI 9 w) → Fr E mX10_reckons d 5 [.ref 117, .int (nI lw), .int mx, .int (nI s.length), .int (nI k), u] [] h1 (fun r h2 => r = some (.int (clipM ((stk w cf n).headD 0) mx)) ∧ Ex [122] h0 h2 ∧ ∃ g, h2.1 122 = some (aI 900 g)) := by
    intro m
    induction m with
    | zero =>
      intro k h f s u hk hs hr hx c117 c118 c122 c123
      obtain rfl : k = n := by omega
      have hl := stk_len w hwf.1 k (Nat.le_refl _)
      rw [hwf.2.2, hs] at hl
      obtain ⟨x, rfl⟩ : ∃ x, s = [x] := List.length_eq_one_iff.mp hl
      have hx0 : f 0 = x := hr.top
      rw [hs]
      refine r_iload (pc2 := 7) 4 dX10_reckons_5 rfl rfl ?_
      refine r_aload_n (pc2 := 8) 0 dX10_reckons_7 rfl rfl rfl rfl ?_
      refine r_getf (pc2 := 11) (v := .ref 118) fX10_13 dX10_reckons_8 c117 (by decide) rfl rfl ?_
      refine r_bipush (pc2 := 13) (v := 12) dX10_reckons_11 (by decide) rfl ?_
      refine r_iload_n (pc2 := 14) 1 dX10_reckons_13 rfl rfl rfl ?_
      refine r_iadd (pc2 := 15) dX10_reckons_14 rfl ?_
      refine r_cast (nI (12 + lw)) (nI_add 12 lw) ?_
      refine r_ialdA (pc2 := 16) (12 + lw) dX10_reckons_15 c118 (by decide) rfl (by omega) (by decide) rfl ?_
      refine r_cast (nI k) (by rw [hn]) ?_
      refine r_icmp_ge (tgt := 202) (pc2 := 19) dX10_reckons_16 (by decide) rfl (fun b16 => ?_) (fun b16 => ?_)
      · skip
        refine r_aload_n (pc2 := 203) 0 dX10_reckons_202 rfl rfl rfl rfl ?_
        refine r_getf (pc2 := 206) (v := .ref 122) fX10_30 dX10_reckons_203 c117 (by decide) rfl rfl ?_
        refine r_iconst (pc2 := 207) (v := 0) dX10_reckons_206 (by decide) rfl ?_
        refine r_ialdN (pc2 := 208) 0 dX10_reckons_207 c122 (by decide) rfl (by decide) (by decide) rfl ?_
        refine r_cast (x) (hx0) ?_
        refine r_if_ge (tgt := 215) (pc2 := 211) dX10_reckons_208 (by decide) rfl (fun b208 => ?_) (fun b208 => ?_)
        · skip
          refine r_aload_n (pc2 := 216) 0 dX10_reckons_215 rfl rfl rfl rfl ?_
          refine r_getf (pc2 := 219) (v := .ref 122) fX10_30 dX10_reckons_216 c117 (by decide) rfl rfl ?_
          refine r_iconst (pc2 := 220) (v := 0) dX10_reckons_219 (by decide) rfl ?_
          refine r_ialdN (pc2 := 221) 0 dX10_reckons_220 c122 (by decide) rfl (by decide) (by decide) rfl ?_
          refine r_cast (x) (hx0) ?_
          refine r_iload_n (pc2 := 222) 2 dX10_reckons_221 rfl rfl rfl ?_
          refine r_icmp_le (tgt := 229) (pc2 := 225) dX10_reckons_222 (by decide) rfl (fun b222 => ?_) (fun b222 => ?_)
          · skip
            refine r_aload_n (pc2 := 230) 0 dX10_reckons_229 rfl rfl rfl rfl ?_
            refine r_getf (pc2 := 233) (v := .ref 122) fX10_30 dX10_reckons_230 c117 (by decide) rfl rfl ?_
            refine r_iconst (pc2 := 234) (v := 0) dX10_reckons_233 (by decide) rfl ?_
            refine r_ialdN (pc2 := 235) 0 dX10_reckons_234 c122 (by decide) rfl (by decide) (by decide) rfl ?_
            refine r_cast (x) (hx0) ?_
            exact r_iret rfl dX10_reckons_235 ⟨by show some (Value.int _) = some (Value.int (clipM x mx)); unfold clipM; (first | rw [if_pos (Int32.not_le.mp b208)] | rw [if_neg (Int32.not_lt.mpr b208), if_pos (Int32.not_le.mp b222)] | rw [if_neg (Int32.not_lt.mpr b208), if_neg (Int32.not_lt.mpr b222)]), hx, f, c122⟩
          · skip
            refine r_iload_n (pc2 := 226) 2 dX10_reckons_225 rfl rfl rfl ?_
            refine r_goto (pc2 := 235) dX10_reckons_226 (by decide) ?_
            exact r_iret rfl dX10_reckons_235 ⟨by show some (Value.int _) = some (Value.int (clipM x mx)); unfold clipM; (first | rw [if_pos (Int32.not_le.mp b208)] | rw [if_neg (Int32.not_lt.mpr b208), if_pos (Int32.not_le.mp b222)] | rw [if_neg (Int32.not_lt.mpr b208), if_neg (Int32.not_lt.mpr b222)]), hx, f, c122⟩
        · skip
          refine r_iconst (pc2 := 212) (v := 0) dX10_reckons_211 (by decide) rfl ?_
          refine r_goto (pc2 := 235) dX10_reckons_212 (by decide) ?_
          exact r_iret rfl dX10_reckons_235 ⟨by show some (Value.int _) = some (Value.int (clipM x mx)); unfold clipM; (first | rw [if_pos (Int32.not_le.mp b208)] | rw [if_neg (Int32.not_lt.mpr b208), if_pos (Int32.not_le.mp b222)] | rw [if_neg (Int32.not_lt.mpr b208), if_neg (Int32.not_lt.mpr b222)]), hx, f, c122⟩
      · exact absurd (nI_le (Nat.le_refl _) (by omega)) b16
    | succ m ih =>
      intro k h f s u hk hs hr hx c117 c118 c122 c123
      have hlt : k < n := by omega
      have hok := hwf.1 k hlt
      have hl := stk_len w hwf.1 k (by omega)
      have h64 := hwf.2.1 k (by omega)
      rw [hs] at hl
      rw [← hl] at hok
      obtain ⟨c, hc⟩ : ∃ c, c = cf k := ⟨_, rfl⟩
      rw [← hc] at hok
      have hstk : stk w cf (k + 1) = ev1 w c s := by rw [stk, hs, hc]
      refine r_iload (pc2 := 7) 4 dX10_reckons_5 rfl rfl ?_
      refine r_aload_n (pc2 := 8) 0 dX10_reckons_7 rfl rfl rfl rfl ?_
      refine r_getf (pc2 := 11) (v := .ref 118) fX10_13 dX10_reckons_8 c117 (by decide) rfl rfl ?_
      refine r_bipush (pc2 := 13) (v := 12) dX10_reckons_11 (by decide) rfl ?_
      refine r_iload_n (pc2 := 14) 1 dX10_reckons_13 rfl rfl rfl ?_
      refine r_iadd (pc2 := 15) dX10_reckons_14 rfl ?_
      refine r_cast (nI (12 + lw)) (nI_add 12 lw) ?_
      refine r_ialdA (pc2 := 16) (12 + lw) dX10_reckons_15 c118 (by decide) rfl (by omega) (by decide) rfl ?_
      refine r_cast (nI n) (by rw [hn]) ?_
      refine r_icmp_ge (tgt := 202) (pc2 := 19) dX10_reckons_16 (by decide) rfl (fun b16 => ?_) (fun b16 => ?_)
      · exact absurd b16 (nI_ge hlt (by omega))
      · skip
        refine r_aload_n (pc2 := 20) 0 dX10_reckons_19 rfl rfl rfl rfl ?_
        refine r_getf (pc2 := 23) (v := .ref 118) fX10_13 dX10_reckons_20 c117 (by decide) rfl rfl ?_
        refine r_sipush (pc2 := 26) (v := 277) dX10_reckons_23 (by decide) rfl ?_
        refine r_aload_n (pc2 := 27) 0 dX10_reckons_26 rfl rfl rfl rfl ?_
        refine r_getf (pc2 := 30) (v := .ref 118) fX10_13 dX10_reckons_27 c117 (by decide) rfl rfl ?_
        refine r_bipush (pc2 := 32) (v := 10) dX10_reckons_30 (by decide) rfl ?_
        refine r_iload_n (pc2 := 33) 1 dX10_reckons_32 rfl rfl rfl ?_
        refine r_iadd (pc2 := 34) dX10_reckons_33 rfl ?_
        refine r_cast (nI (10 + lw)) (nI_add 10 lw) ?_
        refine r_ialdA (pc2 := 35) (10 + lw) dX10_reckons_34 c118 (by decide) rfl (by omega) (by decide) rfl ?_
        refine r_iadd (pc2 := 36) dX10_reckons_35 rfl ?_
        refine r_cast (nI (277 + a (10 + lw))) (nI_add 277 _) ?_
        refine r_iload (pc2 := 38) 4 dX10_reckons_36 rfl rfl ?_
        refine r_iadd (pc2 := 39) dX10_reckons_38 rfl ?_
        refine r_cast (nI (277 + a (10 + lw) + k)) (nI_add _ k) ?_
        refine r_ialdA (pc2 := 40) (277 + a (10 + lw) + k) dX10_reckons_39 c118 (by decide) rfl (by omega) (by decide) rfl ?_
        refine r_cast (nI c) (by rw [hc, hcf k hlt]) ?_
        refine r_istore (pc2 := 42) (ls2 := [.ref 117, .int (nI lw), .int mx, .int (nI s.length), .int (nI k), .int (nI c)]) 5 dX10_reckons_40 (by decide) rfl rfl rfl ?_
        rcases hok with hok | ⟨hok, hok2⟩ | ⟨hok, hok2⟩ | ⟨hok, hok2⟩ | ⟨hb, hok2⟩
        · skip
          refine r_iload (pc2 := 44) 5 dX10_reckons_42 rfl rfl ?_
          refine r_sipush (pc2 := 47) (v := 3000) dX10_reckons_44 (by decide) rfl ?_
          refine r_icmp_ge (tgt := 86) (pc2 := 50) dX10_reckons_47 (by decide) rfl (fun b47 => ?_) (fun b47 => ?_)
          · exact absurd b47 (nI_ge (b := 3000) (by omega) (by decide))
          · skip
            refine r_aload_n (pc2 := 51) 0 dX10_reckons_50 rfl rfl rfl rfl ?_
            refine r_getf (pc2 := 54) (v := .ref 122) fX10_30 dX10_reckons_51 c117 (by decide) rfl rfl ?_
            refine r_iload_n (pc2 := 55) 3 dX10_reckons_54 rfl rfl rfl ?_
            refine r_iload (pc2 := 57) 5 dX10_reckons_55 rfl rfl ?_
            refine r_sipush (pc2 := 60) (v := 1000) dX10_reckons_57 (by decide) rfl ?_
            refine r_icmp_ge (tgt := 68) (pc2 := 63) dX10_reckons_60 (by decide) rfl (fun b60 => ?_) (fun b60 => ?_)
            · exact absurd b60 (nI_ge (b := 1000) (by omega) (by decide))
            · skip
              refine r_iload (pc2 := 65) 5 dX10_reckons_63 rfl rfl ?_
              refine r_goto (pc2 := 79) dX10_reckons_65 (by decide) ?_
              refine r_iastN (pc2 := 80) s.length dX10_reckons_79 c122 (by decide) rfl (by omega) (by decide) rfl (fun h z79 o79 c122 => ?_)
              have c117 := (o79 117 (by decide)).trans c117
              have c118 := (o79 118 (by decide)).trans c118
              have c123 := (o79 123 (by decide)).trans c123
              have hx := hx.step (a := 122) (by decide) z79 o79
              obtain ⟨x80, e80⟩ : ∃ z : Int32, z = (nI s.length) + (1) := ⟨_, rfl⟩
              refine r_iinc (pc2 := 83) (ls2 := [.ref 117, .int (nI lw), .int mx, .int x80, .int (nI k), .int (nI c)]) (v := x80) 3 dX10_reckons_80 rfl (by rw [e80]; rfl) rfl rfl rfl ?_
              refine r_goto (pc2 := 196) dX10_reckons_83 (by decide) ?_
              obtain ⟨x196, e196⟩ : ∃ z : Int32, z = (nI k) + (1) := ⟨_, rfl⟩
              refine r_iinc (pc2 := 199) (ls2 := [.ref 117, .int (nI lw), .int mx, .int x80, .int x196, .int (nI c)]) (v := x196) 4 dX10_reckons_196 rfl (by rw [e196]; rfl) rfl rfl rfl ?_
              refine r_goto (pc2 := 5) dX10_reckons_199 (by decide) ?_
              rw [e196, nI_1]
              rw [e80, nI_1]
              exact ih (k + 1) h _ (nI c :: s) _ (by omega) (by rw [hstk]; exact ev1_A hok) (hr.push _) hx c117 c118 c122 c123
        · skip
          refine r_iload (pc2 := 44) 5 dX10_reckons_42 rfl rfl ?_
          refine r_sipush (pc2 := 47) (v := 3000) dX10_reckons_44 (by decide) rfl ?_
          refine r_icmp_ge (tgt := 86) (pc2 := 50) dX10_reckons_47 (by decide) rfl (fun b47 => ?_) (fun b47 => ?_)
          · exact absurd b47 (nI_ge (b := 3000) (by omega) (by decide))
          · skip
            refine r_aload_n (pc2 := 51) 0 dX10_reckons_50 rfl rfl rfl rfl ?_
            refine r_getf (pc2 := 54) (v := .ref 122) fX10_30 dX10_reckons_51 c117 (by decide) rfl rfl ?_
            refine r_iload_n (pc2 := 55) 3 dX10_reckons_54 rfl rfl rfl ?_
            refine r_iload (pc2 := 57) 5 dX10_reckons_55 rfl rfl ?_
            refine r_sipush (pc2 := 60) (v := 1000) dX10_reckons_57 (by decide) rfl ?_
            refine r_icmp_ge (tgt := 68) (pc2 := 63) dX10_reckons_60 (by decide) rfl (fun b60 => ?_) (fun b60 => ?_)
            · skip
              refine r_aload_n (pc2 := 69) 0 dX10_reckons_68 rfl rfl rfl rfl ?_
              refine r_getf (pc2 := 72) (v := .ref 123) fX10_33 dX10_reckons_69 c117 (by decide) rfl rfl ?_
              refine r_iload (pc2 := 74) 5 dX10_reckons_72 rfl rfl ?_
              refine r_sipush (pc2 := 77) (v := 1000) dX10_reckons_74 (by decide) rfl ?_
              refine r_isub (pc2 := 78) dX10_reckons_77 rfl ?_
              refine r_cast (nI (c - 1000)) (pk_sub (b := 1000) hok) ?_
              refine r_ialdN (pc2 := 79) (c - 1000) dX10_reckons_78 c123 (by decide) rfl (by omega) (by decide) rfl ?_
              refine r_topi (fun y79 ey79 => ?_)
              refine r_iastN (pc2 := 80) s.length dX10_reckons_79 c122 (by decide) rfl (by omega) (by decide) rfl (fun h z79 o79 c122 => ?_)
              have c117 := (o79 117 (by decide)).trans c117
              have c118 := (o79 118 (by decide)).trans c118
              have c123 := (o79 123 (by decide)).trans c123
              have hx := hx.step (a := 122) (by decide) z79 o79
              obtain ⟨x80, e80⟩ : ∃ z : Int32, z = (nI s.length) + (1) := ⟨_, rfl⟩
              refine r_iinc (pc2 := 83) (ls2 := [.ref 117, .int (nI lw), .int mx, .int x80, .int (nI k), .int (nI c)]) (v := x80) 3 dX10_reckons_80 rfl (by rw [e80]; rfl) rfl rfl rfl ?_
              refine r_goto (pc2 := 196) dX10_reckons_83 (by decide) ?_
              obtain ⟨x196, e196⟩ : ∃ z : Int32, z = (nI k) + (1) := ⟨_, rfl⟩
              refine r_iinc (pc2 := 199) (ls2 := [.ref 117, .int (nI lw), .int mx, .int x80, .int x196, .int (nI c)]) (v := x196) 4 dX10_reckons_196 rfl (by rw [e196]; rfl) rfl rfl rfl ?_
              refine r_goto (pc2 := 5) dX10_reckons_199 (by decide) ?_
              rw [e196, nI_1]
              rw [e80, nI_1]
              rw [ey79] at c122
              exact ih (k + 1) h _ (w (c - 1000) :: s) _ (by omega) (by rw [hstk]; exact ev1_B hok (by omega)) (hr.push _) hx c117 c118 c122 c123
            · exact absurd (nI_le (a := 1000) (by omega) (by omega)) b60
        · subst hok
          obtain ⟨y, t, rfl⟩ : ∃ y t, s = y :: t := by
            match s, hok2 with
            | y :: t, _ => exact ⟨y, t, rfl⟩
          have ht : f t.length = y := hr.top
          simp at hl
          refine r_iload (pc2 := 44) 5 dX10_reckons_42 rfl rfl ?_
          refine r_sipush (pc2 := 47) (v := 3000) dX10_reckons_44 (by decide) rfl ?_
          refine r_icmp_ge (tgt := 86) (pc2 := 50) dX10_reckons_47 (by decide) rfl (fun b47 => ?_) (fun b47 => ?_)
          · skip
            refine r_iload (pc2 := 88) 5 dX10_reckons_86 rfl rfl ?_
            refine r_sipush (pc2 := 91) (v := 3006) dX10_reckons_88 (by decide) rfl ?_
            refine r_icmp_ne (tgt := 115) (pc2 := 94) dX10_reckons_91 (by decide) rfl (fun b91 => ?_) (fun b91 => ?_)
            · exact absurd b91 (by decide)
            · skip
              refine r_aload_n (pc2 := 95) 0 dX10_reckons_94 rfl rfl rfl rfl ?_
              refine r_getf (pc2 := 98) (v := .ref 122) fX10_30 dX10_reckons_95 c117 (by decide) rfl rfl ?_
              refine r_iload_n (pc2 := 99) 3 dX10_reckons_98 rfl rfl rfl ?_
              refine r_iconst (pc2 := 100) (v := 1) dX10_reckons_99 (by decide) rfl ?_
              refine r_isub (pc2 := 101) dX10_reckons_100 rfl ?_
              refine r_cast (nI t.length) (nI_pred t.length) ?_
              refine r_iconst (pc2 := 102) (v := 1) dX10_reckons_101 (by decide) rfl ?_
              refine r_aload_n (pc2 := 103) 0 dX10_reckons_102 rfl rfl rfl rfl ?_
              refine r_getf (pc2 := 106) (v := .ref 122) fX10_30 dX10_reckons_103 c117 (by decide) rfl rfl ?_
              refine r_iload_n (pc2 := 107) 3 dX10_reckons_106 rfl rfl rfl ?_
              refine r_iconst (pc2 := 108) (v := 1) dX10_reckons_107 (by decide) rfl ?_
              refine r_isub (pc2 := 109) dX10_reckons_108 rfl ?_
              refine r_cast (nI t.length) (nI_pred t.length) ?_
              refine r_ialdN (pc2 := 110) t.length dX10_reckons_109 c122 (by decide) rfl (by omega) (by decide) rfl ?_
              refine r_cast (y) (ht) ?_
              refine r_isub (pc2 := 111) dX10_reckons_110 rfl ?_
              refine r_topi (fun y111 ey111 => ?_)
              refine r_iastN (pc2 := 112) t.length dX10_reckons_111 c122 (by decide) rfl (by omega) (by decide) rfl (fun h z111 o111 c122 => ?_)
              have c117 := (o111 117 (by decide)).trans c117
              have c118 := (o111 118 (by decide)).trans c118
              have c123 := (o111 123 (by decide)).trans c123
              have hx := hx.step (a := 122) (by decide) z111 o111
              refine r_goto (pc2 := 196) dX10_reckons_112 (by decide) ?_
              obtain ⟨x196, e196⟩ : ∃ z : Int32, z = (nI k) + (1) := ⟨_, rfl⟩
              refine r_iinc (pc2 := 199) (ls2 := [.ref 117, .int (nI lw), .int mx, .int (nI (t.length + 1)), .int x196, .int 3006]) (v := x196) 4 dX10_reckons_196 rfl (by rw [e196]; rfl) rfl rfl rfl ?_
              refine r_goto (pc2 := 5) dX10_reckons_199 (by decide) ?_
              rw [e196, nI_1]
              exact ih (k + 1) h _ ((1 - y) :: t) _ (by omega) (by rw [hstk]; simp [ev1]) (⟨pk_us.trans ey111, hr.pop.far (Nat.le_refl _)⟩) hx c117 c118 c122 c123
          · exact absurd b47 (by decide)
        · subst hok
          obtain ⟨z, y, b, r, rfl⟩ : ∃ z y b r, s = z :: y :: b :: r := by
            match s, hok2 with
            | z :: y :: b :: r, _ => exact ⟨z, y, b, r, rfl⟩
          simp at hl
          have hb0 : f r.length = b := hr.pop.pop.top
          have hy0 : f (r.length + 1) = y := hr.pop.top
          have hz0 : f (r.length + 2) = z := hr.top
          have J : ∀ z2 : Int32, (z2 = if b = 1 then y else z) → Fr E mX10_reckons d 162 [.ref 117, .int (nI lw), .int mx, .int (nI (r.length + 1)), .int (nI k), .int 3009] [.int z2, .int (nI r.length), .ref 122] h (fun r h2 => r = some (.int (clipM ((stk w cf n).headD 0) mx)) ∧ Ex [122] h0 h2 ∧ ∃ g, h2.1 122 = some (aI 900 g)) := by
            intro z2 hz2
            refine r_iastN (pc2 := 163) r.length dX10_reckons_162 c122 (by decide) rfl (by omega) (by decide) rfl (fun h z162 o162 c122 => ?_)
            have c117 := (o162 117 (by decide)).trans c117
            have c118 := (o162 118 (by decide)).trans c118
            have c123 := (o162 123 (by decide)).trans c123
            have hx := hx.step (a := 122) (by decide) z162 o162
            refine r_goto (pc2 := 196) dX10_reckons_163 (by decide) ?_
            obtain ⟨x196, e196⟩ : ∃ z : Int32, z = (nI k) + (1) := ⟨_, rfl⟩
            refine r_iinc (pc2 := 199) (ls2 := [.ref 117, .int (nI lw), .int mx, .int (nI (r.length + 1)), .int x196, .int 3009]) (v := x196) 4 dX10_reckons_196 rfl (by rw [e196]; rfl) rfl rfl rfl ?_
            refine r_goto (pc2 := 5) dX10_reckons_199 (by decide) ?_
            rw [e196, nI_1]
            exact ih (k + 1) h _ (z2 :: r) _ (by omega) (by rw [hstk]; simp [ev1, hz2]) (⟨pk_us, hr.pop.pop.pop.far (Nat.le_refl _)⟩) hx c117 c118 c122 c123
          refine r_iload (pc2 := 44) 5 dX10_reckons_42 rfl rfl ?_
          refine r_sipush (pc2 := 47) (v := 3000) dX10_reckons_44 (by decide) rfl ?_
          refine r_icmp_ge (tgt := 86) (pc2 := 50) dX10_reckons_47 (by decide) rfl (fun b47 => ?_) (fun b47 => ?_)
          · skip
            refine r_iload (pc2 := 88) 5 dX10_reckons_86 rfl rfl ?_
            refine r_sipush (pc2 := 91) (v := 3006) dX10_reckons_88 (by decide) rfl ?_
            refine r_icmp_ne (tgt := 115) (pc2 := 94) dX10_reckons_91 (by decide) rfl (fun b91 => ?_) (fun b91 => ?_)
            · skip
              refine r_iload (pc2 := 117) 5 dX10_reckons_115 rfl rfl ?_
              refine r_sipush (pc2 := 120) (v := 3009) dX10_reckons_117 (by decide) rfl ?_
              refine r_icmp_ne (tgt := 166) (pc2 := 123) dX10_reckons_120 (by decide) rfl (fun b120 => ?_) (fun b120 => ?_)
              · exact absurd b120 (by decide)
              · skip
                obtain ⟨x123, e123⟩ : ∃ z : Int32, z = (nI (r.length + 3)) + (-2) := ⟨_, rfl⟩
                refine r_iinc (pc2 := 126) (ls2 := [.ref 117, .int (nI lw), .int mx, .int x123, .int (nI k), .int 3009]) (v := x123) 3 dX10_reckons_123 rfl (by rw [e123]; rfl) rfl rfl rfl ?_
                rw [nI_m2] at e123
                subst e123
                refine r_aload_n (pc2 := 127) 0 dX10_reckons_126 rfl rfl rfl rfl ?_
                refine r_getf (pc2 := 130) (v := .ref 122) fX10_30 dX10_reckons_127 c117 (by decide) rfl rfl ?_
                refine r_iload_n (pc2 := 131) 3 dX10_reckons_130 rfl rfl rfl ?_
                refine r_iconst (pc2 := 132) (v := 1) dX10_reckons_131 (by decide) rfl ?_
                refine r_isub (pc2 := 133) dX10_reckons_132 rfl ?_
                refine r_cast (nI r.length) (nI_pred r.length) ?_
                refine r_aload_n (pc2 := 134) 0 dX10_reckons_133 rfl rfl rfl rfl ?_
                refine r_getf (pc2 := 137) (v := .ref 122) fX10_30 dX10_reckons_134 c117 (by decide) rfl rfl ?_
                refine r_iload_n (pc2 := 138) 3 dX10_reckons_137 rfl rfl rfl ?_
                refine r_iconst (pc2 := 139) (v := 1) dX10_reckons_138 (by decide) rfl ?_
                refine r_isub (pc2 := 140) dX10_reckons_139 rfl ?_
                refine r_cast (nI r.length) (nI_pred r.length) ?_
                refine r_ialdN (pc2 := 141) r.length dX10_reckons_140 c122 (by decide) rfl (by omega) (by decide) rfl ?_
                refine r_cast (b) (hb0) ?_
                refine r_iconst (pc2 := 142) (v := 1) dX10_reckons_141 (by decide) rfl ?_
                refine r_icmp_ne (tgt := 154) (pc2 := 145) dX10_reckons_142 (by decide) rfl (fun b142 => ?_) (fun b142 => ?_)
                · skip
                  refine r_aload_n (pc2 := 155) 0 dX10_reckons_154 rfl rfl rfl rfl ?_
                  refine r_getf (pc2 := 158) (v := .ref 122) fX10_30 dX10_reckons_155 c117 (by decide) rfl rfl ?_
                  refine r_iload_n (pc2 := 159) 3 dX10_reckons_158 rfl rfl rfl ?_
                  refine r_iconst (pc2 := 160) (v := 1) dX10_reckons_159 (by decide) rfl ?_
                  refine r_iadd (pc2 := 161) dX10_reckons_160 rfl ?_
                  refine r_cast (nI (r.length + 2)) (nI_1 (r.length + 1)) ?_
                  refine r_ialdN (pc2 := 162) (r.length + 2) dX10_reckons_161 c122 (by decide) rfl (by omega) (by decide) rfl ?_
                  exact J _ (by rw [if_neg b142]; exact hz0)
                · skip
                  refine r_aload_n (pc2 := 146) 0 dX10_reckons_145 rfl rfl rfl rfl ?_
                  refine r_getf (pc2 := 149) (v := .ref 122) fX10_30 dX10_reckons_146 c117 (by decide) rfl rfl ?_
                  refine r_iload_n (pc2 := 150) 3 dX10_reckons_149 rfl rfl rfl ?_
                  refine r_ialdN (pc2 := 151) (r.length + 1) dX10_reckons_150 c122 (by decide) rfl (by omega) (by decide) rfl ?_
                  refine r_goto (pc2 := 162) dX10_reckons_151 (by decide) ?_
                  exact J _ (by rw [if_pos b142]; exact hy0)
            · exact absurd b91 (by decide)
          · exact absurd b47 (by decide)
        · skip
          obtain ⟨y, x, r, rfl⟩ : ∃ y x r, s = y :: x :: r := by
            match s, hok2 with
            | y :: x :: r, _ => exact ⟨y, x, r, rfl⟩
          simp at hl
          have hx0 : f r.length = x := hr.pop.top
          have hy0 : f (r.length + 1) = y := hr.top
          refine r_iload (pc2 := 44) 5 dX10_reckons_42 rfl rfl ?_
          refine r_sipush (pc2 := 47) (v := 3000) dX10_reckons_44 (by decide) rfl ?_
          refine r_icmp_ge (tgt := 86) (pc2 := 50) dX10_reckons_47 (by decide) rfl (fun b47 => ?_) (fun b47 => ?_)
          · skip
            refine r_iload (pc2 := 88) 5 dX10_reckons_86 rfl rfl ?_
            refine r_sipush (pc2 := 91) (v := 3006) dX10_reckons_88 (by decide) rfl ?_
            refine r_icmp_ne (tgt := 115) (pc2 := 94) dX10_reckons_91 (by decide) rfl (fun b91 => ?_) (fun b91 => ?_)
            · skip
              refine r_iload (pc2 := 117) 5 dX10_reckons_115 rfl rfl ?_
              refine r_sipush (pc2 := 120) (v := 3009) dX10_reckons_117 (by decide) rfl ?_
              refine r_icmp_ne (tgt := 166) (pc2 := 123) dX10_reckons_120 (by decide) rfl (fun b120 => ?_) (fun b120 => ?_)
              · skip
                obtain ⟨x166, e166⟩ : ∃ z : Int32, z = (nI (r.length + 2)) + (-1) := ⟨_, rfl⟩
                refine r_iinc (pc2 := 169) (ls2 := [.ref 117, .int (nI lw), .int mx, .int x166, .int (nI k), .int (nI c)]) (v := x166) 3 dX10_reckons_166 rfl (by rw [e166]; rfl) rfl rfl rfl ?_
                rw [pk_m1] at e166
                subst e166
                refine r_aload_n (pc2 := 170) 0 dX10_reckons_169 rfl rfl rfl rfl ?_
                refine r_getf (pc2 := 173) (v := .ref 122) fX10_30 dX10_reckons_170 c117 (by decide) rfl rfl ?_
                refine r_iload_n (pc2 := 174) 3 dX10_reckons_173 rfl rfl rfl ?_
                refine r_iconst (pc2 := 175) (v := 1) dX10_reckons_174 (by decide) rfl ?_
                refine r_isub (pc2 := 176) dX10_reckons_175 rfl ?_
                refine r_cast (nI r.length) (nI_pred r.length) ?_
                refine r_iload (pc2 := 178) 5 dX10_reckons_176 rfl rfl ?_
                refine r_aload_n (pc2 := 179) 0 dX10_reckons_178 rfl rfl rfl rfl ?_
                refine r_getf (pc2 := 182) (v := .ref 122) fX10_30 dX10_reckons_179 c117 (by decide) rfl rfl ?_
                refine r_iload_n (pc2 := 183) 3 dX10_reckons_182 rfl rfl rfl ?_
                refine r_iconst (pc2 := 184) (v := 1) dX10_reckons_183 (by decide) rfl ?_
                refine r_isub (pc2 := 185) dX10_reckons_184 rfl ?_
                refine r_cast (nI r.length) (nI_pred r.length) ?_
                refine r_ialdN (pc2 := 186) r.length dX10_reckons_185 c122 (by decide) rfl (by omega) (by decide) rfl ?_
                refine r_cast (x) (hx0) ?_
                refine r_aload_n (pc2 := 187) 0 dX10_reckons_186 rfl rfl rfl rfl ?_
                refine r_getf (pc2 := 190) (v := .ref 122) fX10_30 dX10_reckons_187 c117 (by decide) rfl rfl ?_
                refine r_iload_n (pc2 := 191) 3 dX10_reckons_190 rfl rfl rfl ?_
                refine r_ialdN (pc2 := 192) (r.length + 1) dX10_reckons_191 c122 (by decide) rfl (by omega) (by decide) rfl ?_
                refine r_cast (y) (hy0) ?_
                refine r_callS1 (pc2 := 195) (As := [.int (nI c), .int x, .int y]) (st := [.int (nI r.length), .ref 122]) kX10_238 dX10_reckons_192 rfl rfl (Nat.le_of_ble_eq_true rfl) (by omega) (c_between x y hb) rfl (fun h2 hq192 => ?_)
                subst hq192
                refine r_topi (fun y195 ey195 => ?_)
                refine r_iastN (pc2 := 196) r.length dX10_reckons_195 c122 (by decide) rfl (by omega) (by decide) rfl (fun h z195 o195 c122 => ?_)
                have c117 := (o195 117 (by decide)).trans c117
                have c118 := (o195 118 (by decide)).trans c118
                have c123 := (o195 123 (by decide)).trans c123
                have hx := hx.step (a := 122) (by decide) z195 o195
                obtain ⟨x196, e196⟩ : ∃ z : Int32, z = (nI k) + (1) := ⟨_, rfl⟩
                refine r_iinc (pc2 := 199) (ls2 := [.ref 117, .int (nI lw), .int mx, .int (nI (r.length + 1)), .int x196, .int (nI c)]) (v := x196) 4 dX10_reckons_196 rfl (by rw [e196]; rfl) rfl rfl rfl ?_
                refine r_goto (pc2 := 5) dX10_reckons_199 (by decide) ?_
                rw [e196, nI_1]
                rw [ey195] at c122
                exact ih (k + 1) h _ (btw c x y :: r) _ (by omega) (by rw [hstk]; exact ev1_bin hb) (⟨pk_us, hr.pop.pop.far (Nat.le_refl _)⟩) hx c117 c118 c122 c123
              · rw [show (3009 : Int32) = nI 3009 from rfl, nI_eq (by rcases hb with q | q | q | q | q | q | q | q <;> omega) (by decide)] at b120; rcases hb with q | q | q | q | q | q | q | q <;> omega
            · rw [show (3006 : Int32) = nI 3006 from rfl, nI_eq (by rcases hb with q | q | q | q | q | q | q | q <;> omega) (by decide)] at b91; rcases hb with q | q | q | q | q | q | q | q <;> omega
          · exact absurd (nI_le (a := 3000) (by rcases hb with q | q | q | q | q | q | q | q <;> omega) (by rcases hb with q | q | q | q | q | q | q | q <;> omega)) b47
  refine r_iconst (pc2 := 1) (v := 0) dX10_reckons_0 (by decide) rfl ?_
  refine r_istore_n (pc2 := 2) (ls2 := [.ref 117, .int (nI lw), .int mx, .int 0, .float 0, .float 0]) 3 dX10_reckons_1 rfl (by decide) rfl rfl rfl ?_
  refine r_iconst (pc2 := 3) (v := 0) dX10_reckons_2 (by decide) rfl ?_
  refine r_istore (pc2 := 5) (ls2 := [.ref 117, .int (nI lw), .int mx, .int 0, .int 0, .float 0]) 4 dX10_reckons_3 (by decide) rfl rfl rfl ?_
  exact loop n 0 h0 f [] _ (by omega) rfl trivial Ex.rf c117 c118 c122 c123
