/-! the class: weighHour, weighHours -/
set_option maxRecDepth 20000 in
set_option maxHeartbeats 1000000 in
theorem c_weighHour {E : EnvT} {d : Nat} {h0 : Hp} {ns s w1 w2 : Nat} {wk dt : Value} {Z : Nat → Prop} {reg : Nat → FR} {sg kd : Nat} {a b : FR} {un x c : Nat} {f g : Nat → Int64} {W : Nat → Nat} {X C : Int32} (c64 : h0.1 64 = some (.inr (9, coL s ns un w1 w2 wk dt))) (cw1 : h0.1 w1 = some (aL 10 f)) (cw2 : h0.1 w2 = some (aL 10 g)) (hw : (w1 = 95 ∧ w2 = 96) ∨ (w1 = 96 ∧ w2 = 95)) (hf : ∀ e, e < 10 → f e = lN (W e)) (hW : sC W 10 ≤ 1000000) (hL : LQ Z h0 reg ns s sg (a 27) kd b) (hA : AIN a) (hst : Stat a b) (hs : SG a x) (hc : c < 2 ^ (a 3)) (hstp : ∀ g, g < a 3 → c.testBit g = true → x / 8 ^ g % 8 < a 1) (eX : X = nI (tws x)) (eC : C = nI c) (hd : 4 ≤ d) : Cn E mX9_weighHour d [.ref 64, .int X, .int C] h0 (fun r h2 => r = none ∧ ∃ (V : Nat → Nat) (f2 g2 : Nat → Int64), h2.1 64 = some (.inr (9, coL s ns un w2 w1 wk dt)) ∧ h2.1 w2 = some (aL 10 f2) ∧ h2.1 w1 = some (aL 10 g2) ∧ (∀ e, e < 10 → f2 e = lN (V e)) ∧ (∀ K : Nat → Nat, sC (fun e => V e * K e) 10 = 10 * W 0 * K 0 + sC (wtS a W x c K) 10) ∧ LQ Z h2 reg ns s sg (a 27) kd b ∧ GQ [64, 95, 96] kd h0 h2 kd) := by
  subst eX eC
  have hG := hA.G
  have hp16 := pw16 hA.G
  have h6 := hA.ct.1
  have h7 := hA.ct.2
  have st6 : a 6 = b 6 := hst 6 (by omega)
  have st7 : a 7 = b 7 := hst 7 (by omega)
  have hk0 := hL.dv.k0
  have hzs := hL.dv.zs
  have hs64 := hL.dv.s64
  have hoff : OffL Z kd [w2] := hL.dv.offl (by simp <;> omega)
  obtain ⟨lo, so9, sa, nl, sl, cs⟩ := hL.dv.cs
  have loop : ∀ (m k : Nat) (h : Hp) (V : Nat → Nat) (g : Nat → Int64) (u4 u5 : Value), k + m = 10 → 1 ≤ k → (∀ e, e < 10 → g e = lN (V e)) → (∀ K : Nat → Nat, sC (fun e => V e * K e) 10 = 10 * W 0 * K 0 + sC (wtS a W x c K) k) → GQ [64, 95, 96] kd h0 h kd → LQ Z h reg ns s sg (a 27) kd b → h.1 64 = some (.inr (9, coL s ns un w1 w2 wk dt)) → h.1 w1 = some (aL 10 f) → h.1 w2 = some (aL 10 g) → h.1 s = some (.inr (6, stL sg b lo so9 sa nl sl)) → Fr E mX9_weighHour d 26 [.ref 64, .int (nI (tws x)), .int (nI c), .int (nI k), u4, u5] [] h (fun r h2 => r = none ∧ ∃ (V : Nat → Nat) (f2 g2 : Nat → Int64), h2.1 64 = some (.inr (9, coL s ns un w2 w1 wk dt)) ∧ h2.1 w2 = some (aL 10 f2) ∧ h2.1 w1 = some (aL 10 g2) ∧ (∀ e, e < 10 → f2 e = lN (V e)) ∧ (∀ K : Nat → Nat, sC (fun e => V e * K e) 10 = 10 * W 0 * K 0 + sC (wtS a W x c K) 10) ∧ LQ Z h2 reg ns s sg (a 27) kd b ∧ GQ [64, 95, 96] kd h0 h2 kd) := by
    intro m
    induction m with
    | zero =>
      intro k h V g u4 u5 hk hk1 hg hV hQ hL c64 cw1 cw2 cs
      obtain rfl : k = 10 := by omega
      refine r_iload_n (pc2 := 27) 3 dX9_weighHour_26 rfl rfl rfl ?_
      refine r_bipush (pc2 := 29) (v := 10) dX9_weighHour_27 (by decide) rfl ?_
      refine r_icmp_ge (tgt := 134) (pc2 := 32) dX9_weighHour_29 (by decide) rfl (fun b29 => ?_) (fun b29 => ?_)
      · skip
        refine r_aload_n (pc2 := 135) 0 dX9_weighHour_134 rfl rfl rfl rfl ?_
        refine r_getf (pc2 := 138) (v := .ref w1) fX9_70 dX9_weighHour_135 c64 (by decide) rfl rfl ?_
        refine r_astore_n (pc2 := 139) (ls2 := [.ref 64, .int (nI (tws x)), .int (nI c), .ref w1, u4, u5]) 3 dX9_weighHour_138 rfl (by decide) rfl rfl rfl rfl ?_
        refine r_aload_n (pc2 := 140) 0 dX9_weighHour_139 rfl rfl rfl rfl ?_
        refine r_aload_n (pc2 := 141) 0 dX9_weighHour_140 rfl rfl rfl rfl ?_
        refine r_getf (pc2 := 144) (v := .ref w2) fX9_74 dX9_weighHour_141 c64 (by decide) rfl rfl ?_
        refine r_putfX (pc2 := 147) [.ref 65, .int (nI ns), .ref s, .ref 76, .ref 77, .ref 78, .int (nI un), .ref 79, .ref 80, .ref 81, .ref 82, .ref 90, .ref 94, .ref w2, .ref w2, wk, dt] fX9_70 dX9_weighHour_144 c64 (by decide) (Nat.le_of_ble_eq_true rfl) (okA (by omega)) rfl rfl (fun h z144 o144 c64 => ?_)
        have cw1 := (o144 w1 (by omega)).trans cw1
        have cw2 := (o144 w2 (by omega)).trans cw2
        have cs := (o144 s (by omega)).trans cs
        have hL := hL.ex (S := [64]) ⟨z144, fun q hq => o144 q (by simpa using hq)⟩ (hL.dv.offl (by simp))
        have hQ := hQ.wr (T := [64]) ⟨z144, fun q hq => o144 q (by simpa using hq)⟩ (by simp)
        refine r_aload_n (pc2 := 148) 0 dX9_weighHour_147 rfl rfl rfl rfl ?_
        refine r_aload_n (pc2 := 149) 3 dX9_weighHour_148 rfl rfl rfl rfl ?_
        refine r_putfX (pc2 := 152) [.ref 65, .int (nI ns), .ref s, .ref 76, .ref 77, .ref 78, .int (nI un), .ref 79, .ref 80, .ref 81, .ref 82, .ref 90, .ref 94, .ref w2, .ref w1, wk, dt] fX9_74 dX9_weighHour_149 c64 (by decide) (Nat.le_of_ble_eq_true rfl) (okA (by omega)) rfl rfl (fun h z149 o149 c64 => ?_)
        have cw1 := (o149 w1 (by omega)).trans cw1
        have cw2 := (o149 w2 (by omega)).trans cw2
        have cs := (o149 s (by omega)).trans cs
        have hL := hL.ex (S := [64]) ⟨z149, fun q hq => o149 q (by simpa using hq)⟩ (hL.dv.offl (by simp))
        have hQ := hQ.wr (T := [64]) ⟨z149, fun q hq => o149 q (by simpa using hq)⟩ (by simp)
        exact r_vret rfl dX9_weighHour_152 ⟨rfl, V, g, f, c64, cw2, cw1, hg, hV, hL, hQ⟩
      · exact absurd (by decide) b29
    | succ m ih =>
      intro k h V g u4 u5 hk hk1 hg hV hQ hL c64 cw1 cw2 cs
      have hlt : k < 10 := by omega
      have hWk : W k ≤ 1000000 := Nat.le_trans (sC_mem 10 hlt) hW
      by_cases hz : W k = 0
      · skip
        refine r_iload_n (pc2 := 27) 3 dX9_weighHour_26 rfl rfl rfl ?_
        refine r_bipush (pc2 := 29) (v := 10) dX9_weighHour_27 (by decide) rfl ?_
        refine r_icmp_ge (tgt := 134) (pc2 := 32) dX9_weighHour_29 (by decide) rfl (fun b29 => ?_) (fun b29 => ?_)
        · exact absurd b29 (nI_ge (b := 10) hlt (by decide))
        · skip
          refine r_aload_n (pc2 := 33) 0 dX9_weighHour_32 rfl rfl rfl rfl ?_
          refine r_getf (pc2 := 36) (v := .ref w1) fX9_70 dX9_weighHour_33 c64 (by decide) rfl rfl ?_
          refine r_iload_n (pc2 := 37) 3 dX9_weighHour_36 rfl rfl rfl ?_
          refine r_laldN (pc2 := 38) k dX9_weighHour_37 cw1 (by omega) rfl (by omega) (by decide) rfl ?_
          refine r_castl (lN (W k)) (hf k (by omega)) ?_
          refine r_lconst (pc2 := 39) (v := 0) dX9_weighHour_38 (by decide) rfl ?_
          refine r_lcmp (pc2 := 40) dX9_weighHour_39 rfl ?_
          refine r_if_le (tgt := 128) (pc2 := 43) dX9_weighHour_40 (by decide) rfl (fun b40 => ?_) (fun b40 => ?_)
          · skip
            obtain ⟨x128, e128⟩ : ∃ z : Int32, z = (nI k) + (1) := ⟨_, rfl⟩
            refine r_iinc (pc2 := 131) (ls2 := [.ref 64, .int (nI (tws x)), .int (nI c), .int x128, u4, u5]) (v := x128) 3 dX9_weighHour_128 rfl (by rw [e128]; rfl) rfl rfl rfl ?_
            refine r_goto (pc2 := 26) dX9_weighHour_131 (by decide) ?_
            rw [e128, nI_1]
            exact ih (k + 1) h V _ _ _ (by omega) (by omega) hg (fun K => (hV K).trans (by show _ = _ + (sC (wtS a W x c K) k + wtS a W x c K k); have e9 := wtS_z (a := a) (x := x) (c := c) (K := K) hz; omega)) hQ hL c64 cw1 cw2 cs
          · exact absurd ((lgc_le _ _).mpr (by rw [hz]; decide)) b40
      · have hstk : ∀ g, g < a 3 → c.testBit g = true → (stD x k) / 8 ^ g % 8 < a 1 := fun g hg z => by rw [stD_dig g (by omega)]; exact hstp g hg z
        have hj1 : (hourN a (stD x k) c 0 (a 27) / 4096) < 10 := by have := hourN_lt (a := a) (st := (stD x k)) (sn := c) (b := 0) (dr := a 27) hA.G hA.C (by rw [stD_d]; omega) hstk; omega
        have hj2 : (hourN a (stD x k) c (a 7) (a 27) / 4096) < 10 := by have := hourN_lt (a := a) (st := (stD x k)) (sn := c) (b := a 7) (dr := a 27) hA.G hA.C (by rw [stD_d]; omega) hstk; omega
        refine r_iload_n (pc2 := 27) 3 dX9_weighHour_26 rfl rfl rfl ?_
        refine r_bipush (pc2 := 29) (v := 10) dX9_weighHour_27 (by decide) rfl ?_
        refine r_icmp_ge (tgt := 134) (pc2 := 32) dX9_weighHour_29 (by decide) rfl (fun b29 => ?_) (fun b29 => ?_)
        · exact absurd b29 (nI_ge (b := 10) hlt (by decide))
        · skip
          refine r_aload_n (pc2 := 33) 0 dX9_weighHour_32 rfl rfl rfl rfl ?_
          refine r_getf (pc2 := 36) (v := .ref w1) fX9_70 dX9_weighHour_33 c64 (by decide) rfl rfl ?_
          refine r_iload_n (pc2 := 37) 3 dX9_weighHour_36 rfl rfl rfl ?_
          refine r_laldN (pc2 := 38) k dX9_weighHour_37 cw1 (by omega) rfl (by omega) (by decide) rfl ?_
          refine r_castl (lN (W k)) (hf k (by omega)) ?_
          refine r_lconst (pc2 := 39) (v := 0) dX9_weighHour_38 (by decide) rfl ?_
          refine r_lcmp (pc2 := 40) dX9_weighHour_39 rfl ?_
          refine r_if_le (tgt := 128) (pc2 := 43) dX9_weighHour_40 (by decide) rfl (fun b40 => ?_) (fun b40 => ?_)
          · exact absurd ((pk_lLE (b := 0) (by omega) (by decide)).mp ((lgc_le _ _).mp b40)) (by omega)
          · skip
            refine r_aload_n (pc2 := 44) 0 dX9_weighHour_43 rfl rfl rfl rfl ?_
            refine r_getf (pc2 := 47) (v := .ref 82) fX9_55 dX9_weighHour_44 c64 (by decide) rfl rfl ?_
            refine r_iload_n (pc2 := 48) 1 dX9_weighHour_47 rfl rfl rfl ?_
            refine r_iload_n (pc2 := 49) 3 dX9_weighHour_48 rfl rfl rfl ?_
            refine r_iload_n (pc2 := 50) 2 dX9_weighHour_49 rfl rfl rfl ?_
            refine r_iconst (pc2 := 51) (v := 0) dX9_weighHour_50 (by decide) rfl ?_
            refine r_callV1 (pc2 := 54) (As := [.int (nI (tws x)), .int (nI k), .int (nI c), .int 0]) (st := []) kX9_152 rfl rfl dX9_weighHour_51 hL.1.1 (by decide) rfl rfl (Nat.le_of_ble_eq_true rfl) (by omega) (c_depthQ (a := a) (s := (stD x k)) (sn := c) (o := 0) hL hst (fun g hg => by rw [stD_dig g hg]; exact hs.2.1 g hg) (by rw [stD_d]; omega) (by omega) (fun g hg z => by rw [stD_dig g (by omega)]; exact hstp g hg z) (by omega) (by rw [tws_mod stD_m]) (by rw [stD_d]) rfl rfl (by omega)) rfl (fun h hq51 => ?_)
            obtain ⟨hxd, hL⟩ := hq51
            have c64 := hxd.get (by simp <;> omega) c64
            have cw1 := hxd.get (by simp <;> omega) cw1
            have cw2 := hxd.get (by simp <;> omega) cw2
            have cs := hxd.get (by simp <;> omega) cs
            have hQ := hQ.dp hxd
            refine r_istore (pc2 := 56) (ls2 := [.ref 64, .int (nI (tws x)), .int (nI c), .int (nI k), .int (nI (hourN a (stD x k) c 0 (a 27) / 4096)), u5]) 4 dX9_weighHour_54 (by decide) rfl rfl rfl ?_
            refine r_aload_n (pc2 := 57) 0 dX9_weighHour_56 rfl rfl rfl rfl ?_
            refine r_getf (pc2 := 60) (v := .ref 82) fX9_55 dX9_weighHour_57 c64 (by decide) rfl rfl ?_
            refine r_iload_n (pc2 := 61) 1 dX9_weighHour_60 rfl rfl rfl ?_
            refine r_iload_n (pc2 := 62) 3 dX9_weighHour_61 rfl rfl rfl ?_
            refine r_iload_n (pc2 := 63) 2 dX9_weighHour_62 rfl rfl rfl ?_
            refine r_aload_n (pc2 := 64) 0 dX9_weighHour_63 rfl rfl rfl rfl ?_
            refine r_getf (pc2 := 67) (v := .ref s) fX9_21 dX9_weighHour_64 c64 (by decide) rfl rfl ?_
            refine r_getf (pc2 := 70) (v := .int (nI (b 7))) fX9_372 dX9_weighHour_67 cs hs64 rfl rfl ?_
            refine r_callV1 (pc2 := 73) (As := [.int (nI (tws x)), .int (nI k), .int (nI c), .int (nI (b 7))]) (st := []) kX9_152 rfl rfl dX9_weighHour_70 hL.1.1 (by decide) rfl rfl (Nat.le_of_ble_eq_true rfl) (by omega) (c_depthQ (a := a) (s := (stD x k)) (sn := c) (o := (a 7)) hL hst (fun g hg => by rw [stD_dig g hg]; exact hs.2.1 g hg) (by rw [stD_d]; omega) (by omega) (fun g hg z => by rw [stD_dig g (by omega)]; exact hstp g hg z) (by omega) (by rw [tws_mod stD_m]) (by rw [stD_d]) rfl (by rw [st7]) (by omega)) rfl (fun h hq70 => ?_)
            obtain ⟨hxd, hL⟩ := hq70
            have c64 := hxd.get (by simp <;> omega) c64
            have cw1 := hxd.get (by simp <;> omega) cw1
            have cw2 := hxd.get (by simp <;> omega) cw2
            have cs := hxd.get (by simp <;> omega) cs
            have hQ := hQ.dp hxd
            refine r_istore (pc2 := 75) (ls2 := [.ref 64, .int (nI (tws x)), .int (nI c), .int (nI k), .int (nI (hourN a (stD x k) c 0 (a 27) / 4096)), .int (nI (hourN a (stD x k) c (a 7) (a 27) / 4096))]) 5 dX9_weighHour_73 (by decide) rfl rfl rfl ?_
            refine r_aload_n (pc2 := 76) 0 dX9_weighHour_75 rfl rfl rfl rfl ?_
            refine r_getf (pc2 := 79) (v := .ref w2) fX9_74 dX9_weighHour_76 c64 (by decide) rfl rfl ?_
            refine r_iload (pc2 := 81) 4 dX9_weighHour_79 rfl rfl ?_
            refine r_dup2 (pc2 := 82) dX9_weighHour_81 rfl rfl rfl ?_
            refine r_laldN (pc2 := 83) (hourN a (stD x k) c 0 (a 27) / 4096) dX9_weighHour_82 cw2 (by omega) rfl hj1 (by decide) rfl ?_
            refine r_castl (lN (V (hourN a (stD x k) c 0 (a 27) / 4096))) (hg _ hj1) ?_
            refine r_aload_n (pc2 := 84) 0 dX9_weighHour_83 rfl rfl rfl rfl ?_
            refine r_getf (pc2 := 87) (v := .ref w1) fX9_70 dX9_weighHour_84 c64 (by decide) rfl rfl ?_
            refine r_iload_n (pc2 := 88) 3 dX9_weighHour_87 rfl rfl rfl ?_
            refine r_laldN (pc2 := 89) k dX9_weighHour_88 cw1 (by omega) rfl (by omega) (by decide) rfl ?_
            refine r_castl (lN (W k)) (hf k (by omega)) ?_
            refine r_bipush (pc2 := 91) (v := 10) dX9_weighHour_89 (by decide) rfl ?_
            refine r_aload_n (pc2 := 92) 0 dX9_weighHour_91 rfl rfl rfl rfl ?_
            refine r_getf (pc2 := 95) (v := .ref s) fX9_21 dX9_weighHour_92 c64 (by decide) rfl rfl ?_
            refine r_getf (pc2 := 98) (v := .int (nI (b 6))) fX9_375 dX9_weighHour_95 cs hs64 rfl rfl ?_
            refine r_isub (pc2 := 99) dX9_weighHour_98 rfl ?_
            refine r_cast (nI (10 - a 6)) (by rw [← st6]; exact pk_sub (a := 10) h6) ?_
            refine r_i2l (pc2 := 100) dX9_weighHour_99 rfl ?_
            refine r_castl (lN (10 - a 6)) (nI_l (by omega)) ?_
            refine r_lmul (pc2 := 101) dX9_weighHour_100 rfl ?_
            refine r_castl (lN (W k * (10 - a 6))) (lN_mul _ _) ?_
            refine r_ladd (pc2 := 102) dX9_weighHour_101 rfl ?_
            refine r_castl (lN (V (hourN a (stD x k) c 0 (a 27) / 4096) + W k * (10 - a 6))) (lN_add _ _) ?_
            refine r_lastN (pc2 := 103) (hourN a (stD x k) c 0 (a 27) / 4096) dX9_weighHour_102 cw2 (by omega) rfl hj1 (by decide) rfl (fun h z102 o102 cw2 => ?_)
            have c64 := (o102 64 (by omega)).trans c64
            have cw1 := (o102 w1 (by omega)).trans cw1
            have cs := (o102 s (by omega)).trans cs
            have hxw : Ex [w2] _ h := ⟨z102, fun q hq => o102 q (by simpa using hq)⟩
            have hL := hL.ex hxw hoff
            have hQ := hQ.wr hxw (by simp <;> omega)
            have hg1 : ∀ e, e < 10 → vp_updL g (hourN a (stD x k) c 0 (a 27) / 4096) (lN (V (hourN a (stD x k) c 0 (a 27) / 4096) + W k * (10 - a 6))) e = lN ((va_up V (hourN a (stD x k) c 0 (a 27) / 4096) (V (hourN a (stD x k) c 0 (a 27) / 4096) + W k * (10 - a 6))) e) := fun e he => by
              by_cases z : e = (hourN a (stD x k) c 0 (a 27) / 4096)
              · rw [z, va_up_self]; exact if_pos rfl
              · rw [va_up_ne _ _ z]; exact (if_neg z).trans (hg e he)
            refine r_aload_n (pc2 := 104) 0 dX9_weighHour_103 rfl rfl rfl rfl ?_
            refine r_getf (pc2 := 107) (v := .ref w2) fX9_74 dX9_weighHour_104 c64 (by decide) rfl rfl ?_
            refine r_iload (pc2 := 109) 5 dX9_weighHour_107 rfl rfl ?_
            refine r_dup2 (pc2 := 110) dX9_weighHour_109 rfl rfl rfl ?_
            refine r_laldN (pc2 := 111) (hourN a (stD x k) c (a 7) (a 27) / 4096) dX9_weighHour_110 cw2 (by omega) rfl hj2 (by decide) rfl ?_
            refine r_castl (lN ((va_up V (hourN a (stD x k) c 0 (a 27) / 4096) (V (hourN a (stD x k) c 0 (a 27) / 4096) + W k * (10 - a 6))) (hourN a (stD x k) c (a 7) (a 27) / 4096))) (hg1 _ hj2) ?_
            refine r_aload_n (pc2 := 112) 0 dX9_weighHour_111 rfl rfl rfl rfl ?_
            refine r_getf (pc2 := 115) (v := .ref w1) fX9_70 dX9_weighHour_112 c64 (by decide) rfl rfl ?_
            refine r_iload_n (pc2 := 116) 3 dX9_weighHour_115 rfl rfl rfl ?_
            refine r_laldN (pc2 := 117) k dX9_weighHour_116 cw1 (by omega) rfl (by omega) (by decide) rfl ?_
            refine r_castl (lN (W k)) (hf k (by omega)) ?_
            refine r_aload_n (pc2 := 118) 0 dX9_weighHour_117 rfl rfl rfl rfl ?_
            refine r_getf (pc2 := 121) (v := .ref s) fX9_21 dX9_weighHour_118 c64 (by decide) rfl rfl ?_
            refine r_getf (pc2 := 124) (v := .int (nI (b 6))) fX9_375 dX9_weighHour_121 cs hs64 rfl rfl ?_
            refine r_cast (nI (a 6)) (by rw [st6]) ?_
            refine r_i2l (pc2 := 125) dX9_weighHour_124 rfl ?_
            refine r_castl (lN (a 6)) (nI_l (by omega)) ?_
            refine r_lmul (pc2 := 126) dX9_weighHour_125 rfl ?_
            refine r_castl (lN (W k * a 6)) (lN_mul _ _) ?_
            refine r_ladd (pc2 := 127) dX9_weighHour_126 rfl ?_
            refine r_castl (lN ((va_up V (hourN a (stD x k) c 0 (a 27) / 4096) (V (hourN a (stD x k) c 0 (a 27) / 4096) + W k * (10 - a 6))) (hourN a (stD x k) c (a 7) (a 27) / 4096) + W k * a 6)) (lN_add _ _) ?_
            refine r_lastN (pc2 := 128) (hourN a (stD x k) c (a 7) (a 27) / 4096) dX9_weighHour_127 cw2 (by omega) rfl hj2 (by decide) rfl (fun h z127 o127 cw2 => ?_)
            have c64 := (o127 64 (by omega)).trans c64
            have cw1 := (o127 w1 (by omega)).trans cw1
            have cs := (o127 s (by omega)).trans cs
            have hxw : Ex [w2] _ h := ⟨z127, fun q hq => o127 q (by simpa using hq)⟩
            have hL := hL.ex hxw hoff
            have hQ := hQ.wr hxw (by simp <;> omega)
            obtain ⟨x128, e128⟩ : ∃ z : Int32, z = (nI k) + (1) := ⟨_, rfl⟩
            refine r_iinc (pc2 := 131) (ls2 := [.ref 64, .int (nI (tws x)), .int (nI c), .int x128, .int (nI (hourN a (stD x k) c 0 (a 27) / 4096)), .int (nI (hourN a (stD x k) c (a 7) (a 27) / 4096))]) (v := x128) 3 dX9_weighHour_128 rfl (by rw [e128]; rfl) rfl rfl rfl ?_
            refine r_goto (pc2 := 26) dX9_weighHour_131 (by decide) ?_
            rw [e128, nI_1]
            exact ih (k + 1) h (va_up (va_up V (hourN a (stD x k) c 0 (a 27) / 4096) (V (hourN a (stD x k) c 0 (a 27) / 4096) + W k * (10 - a 6))) (hourN a (stD x k) c (a 7) (a 27) / 4096) ((va_up V (hourN a (stD x k) c 0 (a 27) / 4096) (V (hourN a (stD x k) c 0 (a 27) / 4096) + W k * (10 - a 6))) (hourN a (stD x k) c (a 7) (a 27) / 4096) + W k * a 6)) _ _ _ (by omega) (by omega) (fun e he => by
              by_cases z : e = (hourN a (stD x k) c (a 7) (a 27) / 4096)
              · rw [z, va_up_self]; exact if_pos rfl
              · rw [va_up_ne _ _ z]; exact (if_neg z).trans (hg1 e he)) (fun K => by
              rw [sC_up (V := (va_up V (hourN a (stD x k) c 0 (a 27) / 4096) (V (hourN a (stD x k) c 0 (a 27) / 4096) + W k * (10 - a 6)))) (K := K) 10, if_pos hj2, sC_up (V := V) (K := K) 10, if_pos hj1, hV K]
              show _ = _ + (sC (wtS a W x c K) k + wtS a W x c K k)
              have e9 := wtS_k (a := a) (W := W) (x := x) (c := c) (K := K) (show ¬ k = 0 by omega)
              omega) hQ hL c64 cw1 cw2 cs
  refine Cn.go (ls := [.ref 64, .int (nI (tws x)), .int (nI c), .float 0, .float 0, .float 0]) (by decide +kernel) rfl (Nat.le_of_ble_eq_true rfl) ?_
  refine r_aload_n (pc2 := 1) 0 dX9_weighHour_0 rfl rfl rfl rfl ?_
  refine r_getf (pc2 := 4) (v := .ref w2) fX9_74 dX9_weighHour_1 c64 (by decide) rfl rfl ?_
  refine r_lconst (pc2 := 5) (v := 0) dX9_weighHour_4 (by decide) rfl ?_
  refine r_callS0 (pc2 := 8) (As := [.ref w2, .long 0]) (st := []) kX9_364 dX9_weighHour_5 rfl rfl (Nat.le_of_ble_eq_true rfl) (by omega) (c_fillL (z := 0) cw2 (by omega) (by decide)) rfl (fun h hq5 => ?_)
  obtain ⟨hxf, g9, cw2, hg9⟩ := hq5
  have c64 := hxf.get (by simp <;> omega) c64
  have cw1 := hxf.get (by simp <;> omega) cw1
  have cs := hxf.get (by simp <;> omega) cs
  have hL := hL.ex hxf hoff
  have hQ := (GQ.rf (S := [64, 95, 96]) (kd := kd) (h := h0)).wr hxf (by simp <;> omega)
  refine r_aload_n (pc2 := 9) 0 dX9_weighHour_8 rfl rfl rfl rfl ?_
  refine r_getf (pc2 := 12) (v := .ref w2) fX9_74 dX9_weighHour_9 c64 (by decide) rfl rfl ?_
  refine r_iconst (pc2 := 13) (v := 0) dX9_weighHour_12 (by decide) rfl ?_
  refine r_aload_n (pc2 := 14) 0 dX9_weighHour_13 rfl rfl rfl rfl ?_
  refine r_getf (pc2 := 17) (v := .ref w1) fX9_70 dX9_weighHour_14 c64 (by decide) rfl rfl ?_
  refine r_iconst (pc2 := 18) (v := 0) dX9_weighHour_17 (by decide) rfl ?_
  refine r_laldN (pc2 := 19) 0 dX9_weighHour_18 cw1 (by omega) rfl (by decide) (by decide) rfl ?_
  refine r_castl (lN (W 0)) (hf 0 (by decide)) ?_
  refine r_ldc2 (pc2 := 22) (v := 10) qX9_370 dX9_weighHour_19 rfl ?_
  refine r_lmul (pc2 := 23) dX9_weighHour_22 rfl ?_
  refine r_castl (lN (W 0 * 10)) (lN_mul _ 10) ?_
  refine r_lastN (pc2 := 24) 0 dX9_weighHour_23 cw2 (by omega) rfl (by decide) (by decide) rfl (fun h z23 o23 cw2 => ?_)
  have c64 := (o23 64 (by omega)).trans c64
  have cw1 := (o23 w1 (by omega)).trans cw1
  have cs := (o23 s (by omega)).trans cs
  have hxw : Ex [w2] _ h := ⟨z23, fun q hq => o23 q (by simpa using hq)⟩
  have hL := hL.ex hxw hoff
  have hQ := hQ.wr hxw (by simp <;> omega)
  refine r_iconst (pc2 := 25) (v := 1) dX9_weighHour_24 (by decide) rfl ?_
  refine r_cast (nI 1) (rfl) ?_
  refine r_istore_n (pc2 := 26) (ls2 := [.ref 64, .int (nI (tws x)), .int (nI c), .int (nI 1), .float 0, .float 0]) 3 dX9_weighHour_25 rfl (by decide) rfl rfl rfl ?_
  exact loop 9 1 h (va_up (fun _ => 0) 0 (W 0 * 10)) _ _ _ (by omega) (by omega) (fun e he => by
    by_cases z : e = 0
    · rw [z, va_up_self]; exact if_pos rfl
    · rw [va_up_ne _ _ z]; exact (if_neg z).trans (hg9 e he)) (fun K => by
    have q := sC_up (V := fun _ => 0) (K := K) (j := 0) (x := W 0 * 10) 10
    rw [show (fun _ => 0 : Nat → Nat) 0 + W 0 * 10 = W 0 * 10 from Nat.zero_add _, if_pos (by decide), sC_le0 (f := fun e => (fun _ => 0 : Nat → Nat) e * K e) 10 (fun c _ => Nat.zero_mul _), Nat.zero_add] at q
    rw [q, Nat.mul_comm (W 0) 10]
    show _ = _ + (0 + wtS a W x c K 0)
    unfold wtS
    rw [if_pos rfl]
    omega) hQ hL c64 cw1 cw2 cs
set_option maxRecDepth 20000 in
set_option maxHeartbeats 1000000 in
theorem c_weighHours {E : EnvT} {d : Nat} {h0 : Hp} {ns s w1 w2 : Nat} {wk dt : Value} {Z : Nat → Prop} {reg : Nat → FR} {sg kd : Nat} {a b : FR} {nu : Nat → Int64} {un t n p q : Nat} {so : Int32} {vv f g : Nat → Int64} (c64 : h0.1 64 = some (.inr (9, coL s ns un w1 w2 wk dt))) (c76 : h0.1 76 = some (.inr (5, sdL (keepV a)))) (cw1 : h0.1 w1 = some (aL 10 f)) (cw2 : h0.1 w2 = some (aL 10 g)) (hw : (w1 = 95 ∧ w2 = 96) ∨ (w1 = 96 ∧ w2 = 95)) (ct : h0.1 p = some (.inr (7, [.int 0, .int so, .int (nI n), .ref q]))) (cv : h0.1 q = some (aL 40 vv)) (hp : 109 ≤ p ∧ p ≤ 116) (hq : 109 ≤ q ∧ q ≤ 116) (q3 : ∀ j, j < n → vv j = nu (40 * t + j)) (hn40 : n ≤ 40) (hn6 : n ≤ 6) (hV9 : okV (a 3) nu t n) (hC : okC a (sv nu t) n (a 3)) (hD : DV Z h0 reg ns s sg kd b) (hA : AIN a) (hst : Stat a b) (hd : 5 ≤ d) : Cn E mX9_weighHours d [.ref 64, .ref p] h0 (fun r h2 => r = some (.long (lN (10 ^ n))) ∧ ∃ (w3 w4 kd2 : Nat) (W : Nat → Nat) (f2 g2 : Nat → Int64), ((w3 = 95 ∧ w4 = 96) ∨ (w3 = 96 ∧ w4 = 95)) ∧ h2.1 64 = some (.inr (9, coL s ns un w3 w4 wk dt)) ∧ h2.1 w3 = some (aL 10 f2) ∧ h2.1 w4 = some (aL 10 g2) ∧ (∀ e, e < 10 → f2 e = lN (W e)) ∧ sC W 10 = 10 ^ n ∧ (∃ x, ∀ w : Nat → Nat, sC (fun e => W e * gK a (sv nu t) w 0 n (stD x e)) 10 = gK a (sv nu t) w n 0 (packS a)) ∧ DV Z h2 reg ns s sg kd2 b ∧ GQ [64, 95, 96] kd h0 h2 kd2) := by
  have hn0 := hD.n
  have hk0 := hD.k0
  obtain ⟨⟨V0, V1, V2, c82⟩, _⟩ := id hD.1
  obtain ⟨lo, so9, sa, nl, sl, cs⟩ := hD.cs
  have hzs := hD.zs
  have hG := hA.G
  have hp16 := pw16 hA.G
  have loop : ∀ (m k : Nat) (h : Hp) (w1 w2 x : Nat) (W : Nat → Nat) (f g : Nat → Int64) (u6 : Value), k + m = n → LEG a (sv nu t) m k x → ((w1 = 95 ∧ w2 = 96) ∨ (w1 = 96 ∧ w2 = 95)) → (∀ e, e < 10 → f e = lN (W e)) → sC W 10 = 10 ^ k → (∀ w : Nat → Nat, sC (fun e => W e * gK a (sv nu t) w m k (stD x e)) 10 = gK a (sv nu t) w n 0 (packS a)) → ∀ {kd2 : Nat}, GQ [64, 95, 96] kd h0 h kd2 → LQ Z h reg ns s sg (a 27) kd2 b → h.1 64 = some (.inr (9, coL s ns un w1 w2 wk dt)) → h.1 76 = some (.inr (5, sdL (keepV a))) → h.1 w1 = some (aL 10 f) → h.1 w2 = some (aL 10 g) → h.1 p = some (.inr (7, [.int 0, .int so, .int (nI n), .ref q])) → h.1 q = some (aL 40 vv) → Fr E mX9_weighHours d 52 [.ref 64, .ref p, .int (nI (tws x)), .long (lN (10 ^ k)), .float 0, .int (nI k), u6] [] h (fun r h2 => r = some (.long (lN (10 ^ n))) ∧ ∃ (w3 w4 kd2 : Nat) (W : Nat → Nat) (f2 g2 : Nat → Int64), ((w3 = 95 ∧ w4 = 96) ∨ (w3 = 96 ∧ w4 = 95)) ∧ h2.1 64 = some (.inr (9, coL s ns un w3 w4 wk dt)) ∧ h2.1 w3 = some (aL 10 f2) ∧ h2.1 w4 = some (aL 10 g2) ∧ (∀ e, e < 10 → f2 e = lN (W e)) ∧ sC W 10 = 10 ^ n ∧ (∃ x, ∀ w : Nat → Nat, sC (fun e => W e * gK a (sv nu t) w 0 n (stD x e)) 10 = gK a (sv nu t) w n 0 (packS a)) ∧ DV Z h2 reg ns s sg kd2 b ∧ GQ [64, 95, 96] kd h0 h2 kd2) := by
    intro m
    induction m with
    | zero =>
      intro k h w1 w2 x W f g u6 hk hLG hw hf hS hK kd2 hQ hL c64 c76 cw1 cw2 ct cv
      obtain rfl : k = n := by omega
      refine r_iload (pc2 := 54) 5 dX9_weighHours_52 rfl rfl ?_
      refine r_aload_n (pc2 := 55) 1 dX9_weighHours_54 rfl rfl rfl rfl ?_
      refine r_getf (pc2 := 58) (v := .int (nI k)) fX9_217 dX9_weighHours_55 ct (by omega) rfl rfl ?_
      refine r_icmp_ge (tgt := 97) (pc2 := 61) dX9_weighHours_58 (by decide) rfl (fun b58 => ?_) (fun b58 => ?_)
      · skip
        refine r_lload_n (pc2 := 98) 3 dX9_weighHours_97 rfl rfl rfl ?_
        exact r_lret rfl dX9_weighHours_98 ⟨rfl, w1, w2, kd2, W, f, g, hw, c64, cw1, cw2, hf, hS, ⟨x, hK⟩, hL.dv, hQ⟩
      · exact absurd (nI_le (Nat.le_refl _) (by omega)) b58
    | succ m ih =>
      intro k h w1 w2 x W f g u6 hk hLG hw hf hS hK kd2 hQ hL c64 c76 cw1 cw2 ct cv
      have hlt : k < n := by omega
      have hk1 := hL.dv.k0
      have hn1 := hL.dv.n
      have hsv := okV_sv hA.G hV9 hlt
      refine r_iload (pc2 := 54) 5 dX9_weighHours_52 rfl rfl ?_
      refine r_aload_n (pc2 := 55) 1 dX9_weighHours_54 rfl rfl rfl rfl ?_
      refine r_getf (pc2 := 58) (v := .int (nI n)) fX9_217 dX9_weighHours_55 ct (by omega) rfl rfl ?_
      refine r_icmp_ge (tgt := 97) (pc2 := 61) dX9_weighHours_58 (by decide) rfl (fun b58 => ?_) (fun b58 => ?_)
      · exact absurd b58 (nI_ge hlt (by omega))
      · skip
        refine r_aload_n (pc2 := 62) 1 dX9_weighHours_61 rfl rfl rfl rfl ?_
        refine r_iload (pc2 := 64) 5 dX9_weighHours_62 rfl rfl ?_
        refine r_callV1 (pc2 := 67) (As := [.int (nI k)]) (st := []) kX9_220 rfl rfl dX9_weighHours_64 ct (by omega) rfl rfl (Nat.le_of_ble_eq_true rfl) (by omega) ((c_tget ct cv (by omega) (by omega) hlt hn40).mono fun r h2 q => ⟨q.1.trans (by rw [q3 k hlt]), q.2⟩) rfl (fun h2 hq64 => ?_)
        obtain rfl := hq64.symm
        refine r_l2i (pc2 := 68) dX9_weighHours_67 rfl ?_
        refine r_cast (nI (sv nu t k)) (by rw [hsv.1]; exact lN_i _) ?_
        refine r_istore (pc2 := 70) (ls2 := [.ref 64, .ref p, .int (nI (tws x)), .long (lN (10 ^ k)), .float 0, .int (nI k), .int (nI (sv nu t k))]) 6 dX9_weighHours_68 (by decide) rfl rfl rfl ?_
        refine r_aload_n (pc2 := 71) 0 dX9_weighHours_70 rfl rfl rfl rfl ?_
        refine r_iload_n (pc2 := 72) 2 dX9_weighHours_71 rfl rfl rfl ?_
        refine r_iload (pc2 := 74) 6 dX9_weighHours_72 rfl rfl ?_
        refine r_callV0 (pc2 := 77) (As := [.int (nI (tws x)), .int (nI (sv nu t k))]) (st := []) kX9_367 rfl rfl dX9_weighHours_74 c64 (by decide) rfl rfl (Nat.le_of_ble_eq_true rfl) (by omega) (c_weighHour (x := x) (c := (sv nu t k)) c64 cw1 cw2 hw hf (by rw [hS]; exact Nat.le_trans (Nat.pow_le_pow_right (by decide) (show k ≤ 5 by omega)) (by decide)) hL hA hst hLG.1 hsv.2 hLG.ok rfl rfl (by omega)) rfl (fun h hq74 => ?_)
        obtain ⟨V, f2, g2, c64, cw2, cw1, hf2, hV, hL, hQ2⟩ := hq74
        have c76 := hQ2.get (by omega) (by simp <;> omega) (by omega) c76
        have ct := hQ2.get (by omega) (by simp <;> omega) (by omega) ct
        have cv := hQ2.get (by omega) (by simp <;> omega) (by omega) cv
        have hQ := hQ.trans hQ2 hn0
        refine r_iload_n (pc2 := 78) 2 dX9_weighHours_77 rfl rfl rfl ?_
        refine r_iload (pc2 := 80) 6 dX9_weighHours_78 rfl rfl ?_
        refine r_callS1 (pc2 := 83) (As := [.int (nI (sv nu t k))]) (st := [.int (nI (tws x))]) kX9_160 dX9_weighHours_80 rfl rfl (Nat.le_of_ble_eq_true rfl) (by omega) (c_shiftOf (sn := (sv nu t k)) (by omega)) rfl (fun h2 hq80 => ?_)
        obtain rfl := hq80.symm
        refine r_iadd (pc2 := 84) dX9_weighHours_83 rfl ?_
        refine r_cast (nI (tws (hourN a x (sv nu t k) 0 (a 27)))) (by rw [nI_add, tws_hour hA.G hA.C hLG.ok hsv.2]) ?_
        refine r_istore_n (pc2 := 85) (ls2 := [.ref 64, .ref p, .int (nI (tws (hourN a x (sv nu t k) 0 (a 27)))), .long (lN (10 ^ k)), .float 0, .int (nI k), .int (nI (sv nu t k))]) 2 dX9_weighHours_84 rfl (by decide) rfl rfl rfl ?_
        refine r_lload_n (pc2 := 86) 3 dX9_weighHours_85 rfl rfl rfl ?_
        refine r_ldc2 (pc2 := 89) (v := 10) qX9_370 dX9_weighHours_86 rfl ?_
        refine r_lmul (pc2 := 90) dX9_weighHours_89 rfl ?_
        refine r_castl (lN (10 ^ (k + 1))) ((lN_mul _ 10).trans (by rw [Nat.pow_succ])) ?_
        refine r_lstore_n (pc2 := 91) (ls2 := [.ref 64, .ref p, .int (nI (tws (hourN a x (sv nu t k) 0 (a 27)))), .long (lN (10 ^ (k + 1))), .float 0, .int (nI k), .int (nI (sv nu t k))]) 3 dX9_weighHours_90 rfl (by decide) rfl rfl rfl ?_
        obtain ⟨x91, e91⟩ : ∃ z : Int32, z = (nI k) + (1) := ⟨_, rfl⟩
        refine r_iinc (pc2 := 94) (ls2 := [.ref 64, .ref p, .int (nI (tws (hourN a x (sv nu t k) 0 (a 27)))), .long (lN (10 ^ (k + 1))), .float 0, .int x91, .int (nI (sv nu t k))]) (v := x91) 5 dX9_weighHours_91 rfl (by rw [e91]; rfl) rfl rfl rfl ?_
        refine r_goto (pc2 := 52) dX9_weighHours_94 (by decide) ?_
        rw [e91, nI_1]
        exact ih (k + 1) h w2 w1 _ V _ _ _ (by omega) (hLG.step (b := 0) (dr := a 27) hA.G hA.C) (by omega) hf2 (by rw [wt_sum hA.ct.1 hV, hS, Nat.pow_succ, Nat.mul_comm]) (fun w => (wt_step (w := w) (m := m) (i := k) hA.G hA.C hLG.ok hV).trans (hK w)) hQ hL c64 c76 cw2 cw1 ct cv
  refine Cn.go (ls := [.ref 64, .ref p, .float 0, .float 0, .float 0, .float 0, .float 0]) (by decide +kernel) rfl (Nat.le_of_ble_eq_true rfl) ?_
  refine r_aload_n (pc2 := 1) 0 dX9_weighHours_0 rfl rfl rfl rfl ?_
  refine r_getf (pc2 := 4) (v := .ref 82) fX9_55 dX9_weighHours_1 c64 (by decide) rfl rfl ?_
  refine r_aload_n (pc2 := 5) 0 dX9_weighHours_4 rfl rfl rfl rfl ?_
  refine r_getf (pc2 := 8) (v := .ref s) fX9_21 dX9_weighHours_5 c64 (by decide) rfl rfl ?_
  refine r_aload_n (pc2 := 9) 0 dX9_weighHours_8 rfl rfl rfl rfl ?_
  refine r_getf (pc2 := 12) (v := .ref 76) fX9_28 dX9_weighHours_9 c64 (by decide) rfl rfl ?_
  refine r_getf (pc2 := 15) (v := .int (nI ((keepV a) 5))) fX9_127 dX9_weighHours_12 c76 (by decide) rfl rfl ?_
  refine r_callV0 (pc2 := 18) (As := [.ref s, .int (nI ((keepV a) 5))]) (st := []) kX9_130 rfl rfl dX9_weighHours_15 c82 (by decide) rfl rfl (Nat.le_of_ble_eq_true rfl) (by omega) (c_takeQ (dr := (a 27)) hD hA.dr rfl) rfl (fun h hq15 => ?_)
  obtain ⟨kd2, hKQ, hL, hg1⟩ := hq15
  have c64 := hg1.get (by simp <;> omega) (by omega) c64
  have c76 := hg1.get (by simp <;> omega) (by omega) c76
  have cw1 := hg1.get (by simp <;> omega) (by omega) cw1
  have cw2 := hg1.get (by simp <;> omega) (by omega) cw2
  have ct := hg1.get (by simp <;> omega) (by omega) ct
  have cv := hg1.get (by simp <;> omega) (by omega) cv
  have hQ := (GQ.rf (S := [64, 95, 96]) (kd := kd) (h := h0)).tk hKQ hg1 hn0
  have hk2 := hL.dv.k0
  have hn2 := hL.dv.n
  refine r_aload_n (pc2 := 19) 0 dX9_weighHours_18 rfl rfl rfl rfl ?_
  refine r_getf (pc2 := 22) (v := .ref w1) fX9_70 dX9_weighHours_19 c64 (by decide) rfl rfl ?_
  refine r_lconst (pc2 := 23) (v := 0) dX9_weighHours_22 (by decide) rfl ?_
  refine r_callS0 (pc2 := 26) (As := [.ref w1, .long 0]) (st := []) kX9_364 dX9_weighHours_23 rfl rfl (Nat.le_of_ble_eq_true rfl) (by omega) (c_fillL (z := 0) cw1 (by omega) (by decide)) rfl (fun h hq23 => ?_)
  obtain ⟨hxf, g9, cw1, hg9⟩ := hq23
  have c64 := hxf.get (by simp <;> omega) c64
  have c76 := hxf.get (by simp <;> omega) c76
  have cw2 := hxf.get (by simp <;> omega) cw2
  have ct := hxf.get (by simp <;> omega) ct
  have cv := hxf.get (by simp <;> omega) cv
  have hL := hL.ex hxf (hL.dv.offl (by simp <;> omega))
  have hQ := hQ.wr hxf (by simp <;> omega)
  refine r_aload_n (pc2 := 27) 0 dX9_weighHours_26 rfl rfl rfl rfl ?_
  refine r_getf (pc2 := 30) (v := .ref w1) fX9_70 dX9_weighHours_27 c64 (by decide) rfl rfl ?_
  refine r_aload_n (pc2 := 31) 0 dX9_weighHours_30 rfl rfl rfl rfl ?_
  refine r_getf (pc2 := 34) (v := .ref 76) fX9_28 dX9_weighHours_31 c64 (by decide) rfl rfl ?_
  refine r_getf (pc2 := 37) (v := .int (nI ((keepV a) 4))) fX9_137 dX9_weighHours_34 c76 (by decide) rfl rfl ?_
  refine r_lconst (pc2 := 38) (v := 1) dX9_weighHours_37 (by decide) rfl ?_
  refine r_lastN (pc2 := 39) ((keepV a) 4) dX9_weighHours_38 cw1 (by omega) rfl (by have := hA.dp; show a 26 < 10; omega) (by decide) rfl (fun h z38 o38 cw1 => ?_)
  have c64 := (o38 64 (by omega)).trans c64
  have c76 := (o38 76 (by omega)).trans c76
  have cw2 := (o38 w2 (by omega)).trans cw2
  have ct := (o38 p (by omega)).trans ct
  have cv := (o38 q (by omega)).trans cv
  have hxw : Ex [w1] _ h := ⟨z38, fun q hq => o38 q (by simpa using hq)⟩
  have hL := hL.ex hxw (hL.dv.offl (by simp <;> omega))
  have hQ := hQ.wr hxw (by simp <;> omega)
  refine r_aload_n (pc2 := 40) 0 dX9_weighHours_39 rfl rfl rfl rfl ?_
  refine r_getf (pc2 := 43) (v := .ref 76) fX9_28 dX9_weighHours_40 c64 (by decide) rfl rfl ?_
  refine r_getf (pc2 := 46) (v := .int (nI (tow (keepV a)))) fX9_114 dX9_weighHours_43 c76 (by decide) rfl rfl ?_
  refine r_cast (nI (tws (packS a))) (by rw [tow_tws hA]) ?_
  refine r_istore_n (pc2 := 47) (ls2 := [.ref 64, .ref p, .int (nI (tws (packS a))), .float 0, .float 0, .float 0, .float 0]) 2 dX9_weighHours_46 rfl (by decide) rfl rfl rfl ?_
  refine r_lconst (pc2 := 48) (v := 1) dX9_weighHours_47 (by decide) rfl ?_
  refine r_castl (lN (10 ^ 0)) (rfl) ?_
  refine r_lstore_n (pc2 := 49) (ls2 := [.ref 64, .ref p, .int (nI (tws (packS a))), .long (lN (10 ^ 0)), .float 0, .float 0, .float 0]) 3 dX9_weighHours_48 rfl (by decide) rfl rfl rfl ?_
  refine r_iconst (pc2 := 50) (v := 0) dX9_weighHours_49 (by decide) rfl ?_
  refine r_cast (nI 0) (rfl) ?_
  refine r_istore (pc2 := 52) (ls2 := [.ref 64, .ref p, .int (nI (tws (packS a))), .long (lN (10 ^ 0)), .float 0, .int (nI 0), .float 0]) 5 dX9_weighHours_50 (by decide) rfl rfl rfl ?_
  exact loop n 0 h w1 w2 (packS a) (fun e => if e = a 26 then 1 else 0) _ _ _ (by omega) (LEG.now hA hC) hw (fun e he => by
    by_cases z : e = a 26
    · rw [if_pos z]; exact if_pos z
    · rw [if_neg z]; exact (if_neg z).trans (hg9 e he)) (by
    have q := sC_one (K := fun _ => 1) (j := a 26) 10
    rw [if_pos (by have := hA.dp; omega)] at q
    exact (sC_congr 10 (fun e _ => (Nat.mul_one _).symm)).trans q) (fun w => by
    rw [sC_one (K := fun e => gK a (sv nu t) w n 0 (stD (packS a) e)) (j := a 26) 10, if_pos (by have := hA.dp; omega), ← hA.pdep, stD_self]) hQ hL c64 c76 cw1 cw2 ct cv
