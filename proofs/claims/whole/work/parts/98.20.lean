/-! the class: layWalks -/
def WKR (T : List Nat) (Z : Nat → Prop) (s ns w1 w2 : Nat) (wk dt : Value) (h0 : Hp) (kd : Nat) (a : FR) (q kd2 : Nat) (h2 : Hp) : Prop := WQ Z kd2 q ∧ q + 7 < h2.2.1 ∧ (wk = .ref q ∨ (wk = .null ∧ h0.2.1 ≤ q)) ∧ RmE 0 0 h0 h2 wk dt kd (.ref q) dt kd2 ∧ Gx (T ++ (64 :: WS q ++ [82, 87, 88, 89, kd])) h0 h2 ∧ h2.1 64 = some (.inr (9, coL s ns (a 45) w1 w2 (.ref q) dt)) ∧ h2.1 76 = some (.inr (5, sdL (keepV a)))
theorem WKR.step {T S : List Nat} {Z : Nat → Prop} {s ns w1 w2 : Nat} {wk dt : Value} {h0 h1 h2 : Hp} {kd : Nat} {a : FR} {q kd2 : Nat} (x : WKR T Z s ns w1 w2 wk dt h0 kd a q kd2 h1) (g : GQ S kd2 h1 h2 kd2) (hS : ∀ y ∈ S, (q ≤ y ∧ y ≤ q + 7) ∨ (y ∈ T ∧ y ≠ 64 ∧ y ≠ 76)) (hn : 139 ≤ h1.2.1) (hk : kd2 = 0 ∨ 139 ≤ kd2) : WKR T Z s ns w1 w2 wk dt h0 kd a q kd2 h2 := by
  obtain ⟨x1, x2, x3, x4, x5, x6, x7⟩ := x
  have e : h2.2 = h1.2 := by
    rcases g.1 with z | z
    · exact z.2
    · omega
  have hq := x1.1
  have hqk := x1.2.1
  have ns64 : 64 ∉ S ∧ 76 ∉ S := ⟨fun m => by rcases hS _ m with z | z; omega; exact z.2.1 rfl, fun m => by rcases hS _ m with z | z; omega; exact z.2.2 rfl⟩
  refine ⟨x1, by rw [e]; exact x2, x3, ?_, ⟨by rw [e]; exact x5.1, fun y hy hn2 => ?_⟩, g.get (by omega) ns64.1 (by omega) x6, g.get (by omega) ns64.2 (by omega) x7⟩
  · unfold RmE at x4 ⊢
    rw [e]
    exact x4
  · have hl := x5.1
    refine (g.2.2 y (by omega) (fun m => hn2 ?_)).trans (x5.2 y hy hn2)
    rcases List.mem_append.mp m with z | z
    · rcases hS y z with v | v
      · refine List.mem_append_right _ ?_
        simp
        omega
      · exact List.mem_append_left _ v.1
    · refine List.mem_append_right _ ?_
      simp at z ⊢
      rcases x4.2.2.2.1 with v | v <;> omega
theorem WKB.keep {Z : Nat → Prop} {reg : Nat → FR} {ns s sg kd : Nat} {a b : FR} {q : Nat} {go gh : Int32} {Q : List Nat} {Kf : Nat → Nat} {fb : Nat → Int32} {k : Nat} {h : Hp} {rt rh : Nat → Int64} (x : WKB a s q (nI (tws (packS a))) (nI (a 26)) go gh Q Kf fb k h) (hq7 : q + 7 < h.2.1) (crt : h.1 (q + 3) = some (aL 24010 rt)) (crh : h.1 (q + 4) = some (aL 10 rh)) (hrt : ∀ x, x < 24010 → rt x = 0) (hL : LQ Z h reg ns s sg (a 27) kd b) (hA : AIN a) (hst : Stat a b) : WKP Z h reg ns q := by
  obtain ⟨od, nz, sh, ps, op, pa, c1, c2, c3, c4, c5, c6, c7, hB⟩ := x
  have hbk := hL.2.2.2.1
  have hreg := hL.2.2.2.2.1
  have hsg := SG.now hA
  rw [SG_stat hst, okS_stat hst, nxS_stat hst hbk.1, hreg] at hB
  rw [SG_stat hst, hreg] at hsg
  exact ⟨hq7, s, _, _, _, _, _, go, gh, op, pa, fb, od, nz, sh, ps, rt, rh, hL.dv.s64, c1, c2, c3, crt, crh, c4, c5, c6, c7, hrt, Or.inr ⟨sg, a 27, packS a, Q, Kf, k, hreg ▸ hL.2.1, hL.2.2.2.2.2.1, hreg ▸ hbk, ⟨rfl, hA.dr⟩, ⟨rfl, by rw [hA.pdep]⟩, hsg, ⟨rfl, rfl⟩, hB⟩⟩
/-- what layWalks leaves -/
def LWk (T : List Nat) (Z : Nat → Prop) (reg : Nat → FR) (s ns sg w1 w2 : Nat) (wk dt : Value) (h0 : Hp) (kd : Nat) (a b : FR) (v : Value) (h2 : Hp) : Prop := ∃ (q kd2 : Nat) (Q : List Nat) (Kf : Nat → Nat) (fb : Nat → Int32) (k : Nat) (go gh : Int32) (rt rh : Nat → Int64), v = .ref q ∧ WKR T Z s ns w1 w2 wk dt h0 kd a q kd2 h2 ∧ WKB a s q (nI (tws (packS a))) (nI (a 26)) go gh Q Kf fb k h2 ∧ h2.1 (q + 3) = some (aL 24010 rt) ∧ h2.1 (q + 4) = some (aL 10 rh) ∧ (∀ x, x < 24010 → rt x = 0) ∧ LQ Z h2 reg ns s sg (a 27) kd2 b
def MKw (Z : Nat → Prop) (h : Hp) (reg : Nat → FR) (ns kd : Nat) (wk : Value) : Prop := wk = .null ∨ ∃ q : Nat, wk = .ref q ∧ WQ Z kd q ∧ WKP Z h reg ns q
theorem ZP.gx {Z : Nat → Prop} {h h2 : Hp} {kd : Nat} {S : List Nat} (x : ZP Z h kd) (g : Gx S h h2) (hS : ∀ y ∈ S, ¬ Z y) : ∀ y, Z y → h2.1 y = h.1 y := fun y z => g.2 y (x y z).2.2 (fun m => hS y m z)
theorem DV.fresh {Z : Nat → Prop} {h h2 : Hp} {reg : Nat → FR} {ns s sg kd : Nat} {b : FR} {S : List Nat} (x : DV Z h reg ns s sg kd b) (g : Gx S h h2) (hS : OffL Z kd S) (hkl : kd < h.2.1) : DV Z h2 reg ns s sg kd b := by
  obtain ⟨⟨⟨V0, V1, V2, l1⟩, ⟨kn, l2, l2'⟩, ⟨w, l3⟩, ⟨f, l4⟩, l5⟩, x2, x3, x4, x5, x6, x7, x8, x9⟩ := x
  have get : ∀ y, y < h.2.1 → (y = 82 ∨ y = 87 ∨ y = 88 ∨ y = 89 ∨ y = kd) → h2.1 y = h.1 y := fun y hy hv => g.2 y hy (fun m => by
    have := hS y m
    omega)
  refine ⟨⟨⟨V0, V1, V2, (get 82 (by omega) (by omega)).trans l1⟩, ⟨kn, (get 87 (by omega) (by omega)).trans l2, l2'⟩, ⟨w, (get 88 (by omega) (by omega)).trans l3⟩, ⟨f, (get 89 (by omega) (by omega)).trans l4⟩, fun z => ⟨(l5 z).1, ?_⟩⟩, x2.mono (x3.gx g (fun y m => (hS y m).1)), fun y z => ?_, x4, x5, x6, x7, Nat.le_trans x8 g.1, x9⟩
  · obtain ⟨g9, q, r⟩ := (l5 z).2
    exact ⟨g9, (get kd hkl (by omega)).trans q, r⟩
  · have := x3 y z
    exact ⟨this.1, this.2.1, Nat.lt_of_lt_of_le this.2.2 g.1⟩
set_option maxRecDepth 20000 in
set_option maxHeartbeats 1000000 in
theorem c_layWalks {E : EnvT} {d : Nat} {h0 : Hp} {ns s w1 w2 : Nat} {wk dt : Value} {Z : Nat → Prop} {reg : Nat → FR} {sg kd : Nat} {a b : FR} (hN : NW h0 s ns w1 w2 wk dt a) (hD : DV Z h0 reg ns s sg kd b) (hA : AIN a) (hst : Stat a b) (hMK : MKw Z h0 reg ns kd wk) (hkl : kd < h0.2.1) (hd : 3 ≤ d) : Cn E mX9_layWalks d [.ref 64] h0 (fun r h2 => ∃ v, r = some v ∧ LWk [] Z reg s ns sg w1 w2 wk dt h0 kd a b v h2) := by
  obtain ⟨c64, c76, _, _⟩ := id hN
  have hn0 := hD.n
  have hk0 := hD.k0
  have rest : ∀ (q : Nat) (h : Hp), (wk = .ref q ∨ (wk = .null ∧ h0.2.1 ≤ q)) → RmE 0 0 h0 h wk dt kd (.ref q) dt kd → Gx ([] ++ (64 :: WS q ++ [82, 87, 88, 89, kd])) h0 h → WQ Z kd q → DV Z h reg ns s sg kd b → WKP Z h reg ns q → kd < h.2.1 → h.1 64 = some (.inr (9, coL s ns (a 45) w1 w2 (.ref q) dt)) → h.1 76 = some (.inr (5, sdL (keepV a))) → Fr E mX9_layWalks d 22 [.ref 64] [] h (fun r h2 => ∃ v, r = some v ∧ LWk [] Z reg s ns sg w1 w2 wk dt h0 kd a b v h2) := by
    intro q h hwk hRm hGx hWq hD hP hkl c64 c76
    have hn1 := hD.n
    obtain ⟨⟨V0, V1, V2, c82⟩, _⟩ := id hD.1
    obtain ⟨lo, so9, sa, nl, sl, cs⟩ := hD.cs
    refine r_aload_n (pc2 := 23) 0 dX9_layWalks_22 rfl rfl rfl rfl ?_
    refine r_getf (pc2 := 26) (v := .ref 82) fX9_55 dX9_layWalks_23 c64 (by decide) rfl rfl ?_
    refine r_aload_n (pc2 := 27) 0 dX9_layWalks_26 rfl rfl rfl rfl ?_
    refine r_getf (pc2 := 30) (v := .ref s) fX9_21 dX9_layWalks_27 c64 (by decide) rfl rfl ?_
    refine r_aload_n (pc2 := 31) 0 dX9_layWalks_30 rfl rfl rfl rfl ?_
    refine r_getf (pc2 := 34) (v := .ref 76) fX9_28 dX9_layWalks_31 c64 (by decide) rfl rfl ?_
    refine r_getf (pc2 := 37) (v := .int (nI ((keepV a) 5))) fX9_127 dX9_layWalks_34 c76 (by decide) rfl rfl ?_
    refine r_callV0 (pc2 := 40) (As := [.ref s, .int (nI ((keepV a) 5))]) (st := []) kX9_130 rfl rfl dX9_layWalks_37 c82 (by decide) rfl rfl (Nat.le_of_ble_eq_true rfl) (by omega) (c_takeQ (dr := a 27) hD hA.dr rfl) rfl (fun h hq37 => ?_)
    obtain ⟨kd2, hKQ, hL, hg1⟩ := hq37
    have c64 := hg1.get (by simp) (by omega) c64
    have c76 := hg1.get (by simp) (by omega) c76
    have hq7 := hP.1
    have hq139 := hWq.1
    have hk2 := hL.dv.k0
    have hWq2 : WQ Z kd2 q := ⟨hWq.1, by rcases hKQ with z | z; rw [z.1]; exact hWq.2.1; omega, hWq.2.2⟩
    have hP := hP.frame (h2 := h) (fun y h1 h2 => hg1.2 y (by omega) (by simp; omega)) hg1.1 (fun y z => ⟨z, hD.2.2.1.gx hg1 (fun u m => by simp at m; rw [m]; exact fun w => by have := hD.2.2.1 82 w; omega) y z⟩) (fun _ _ => rfl) (Nat.le_refl _)
    have hq139 := hWq.1
    obtain ⟨_, ws, wd, wst, wsd, lk, fd, go, gh, op, pa, fb, od, nz, sh, ps, rt, rh, _, cq, _⟩ := id hP
    have hL9 := hL
    have hw1 : WKR [] Z s ns w1 w2 wk dt h0 kd a q kd2 h := ⟨hWq2, by have := hg1.1; omega, hwk, hRm.trans (hKQ.rm hD.n) hn0, ⟨Nat.le_trans hGx.1 hg1.1, fun y hy hn2 => (hg1.2 y (by have := hGx.1; omega) (fun m => hn2 (by simp at m ⊢; omega))).trans (hGx.2 y hy (fun m => hn2 (by simp at m ⊢; omega)))⟩, c64, c76⟩
    refine r_aload_n (pc2 := 41) 0 dX9_layWalks_40 rfl rfl rfl rfl ?_
    refine r_getf (pc2 := 44) (v := .ref q) fX9_235 dX9_layWalks_41 c64 (by decide) rfl rfl ?_
    refine r_aload_n (pc2 := 45) 0 dX9_layWalks_44 rfl rfl rfl rfl ?_
    refine r_getf (pc2 := 48) (v := .ref 76) fX9_28 dX9_layWalks_45 c64 (by decide) rfl rfl ?_
    refine r_getf (pc2 := 51) (v := .int (nI (tow (keepV a)))) fX9_114 dX9_layWalks_48 c76 (by decide) rfl rfl ?_
    refine r_aload_n (pc2 := 52) 0 dX9_layWalks_51 rfl rfl rfl rfl ?_
    refine r_getf (pc2 := 55) (v := .ref 76) fX9_28 dX9_layWalks_52 c64 (by decide) rfl rfl ?_
    refine r_getf (pc2 := 58) (v := .int (nI ((keepV a) 4))) fX9_137 dX9_layWalks_55 c76 (by decide) rfl rfl ?_
    refine r_callV0 (pc2 := 61) (As := [.int (nI (tow (keepV a))), .int (nI ((keepV a) 4))]) (st := []) kX9_244 rfl rfl dX9_layWalks_58 cq (by omega) rfl rfl (Nat.le_of_ble_eq_true rfl) (by omega) (c_beginAt hP hWq2 hL hA hst (by rw [tow_tws hA]) rfl (by omega)) rfl (fun h hq58 => ?_)
    obtain ⟨Q, Kf, fb, k, go, gh, rt, rh, hWB, crt, crh, hrt, hL, hQ2⟩ := hq58
    have c64 := hQ2.get (by have := hg1.1; omega) (by simp; omega) (by omega) c64
    have c76 := hQ2.get (by have := hg1.1; omega) (by simp; omega) (by omega) c76
    refine r_aload_n (pc2 := 62) 0 dX9_layWalks_61 rfl rfl rfl rfl ?_
    refine r_getf (pc2 := 65) (v := .ref q) fX9_235 dX9_layWalks_62 c64 (by decide) rfl rfl ?_
    exact r_aret rfl (Or.inl ⟨_, rfl⟩) rfl dX9_layWalks_65 ⟨_, rfl, q, kd2, Q, Kf, fb, k, go, gh, rt, rh, rfl, hw1.step hQ2 (fun y m => Or.inl (by simp at m; omega)) hL9.dv.n hL9.dv.k0, hWB, crt, crh, hrt, hL⟩
  rcases hMK with rfl | ⟨q, rfl, hWq, hP⟩
  · obtain ⟨⟨V0, V1, V2, c82⟩, _⟩ := id hD.1
    refine Cn.go (ls := [.ref 64]) (by decide +kernel) rfl (Nat.le_of_ble_eq_true rfl) ?_
    refine r_aload_n (pc2 := 1) 0 dX9_layWalks_0 rfl rfl rfl rfl ?_
    refine r_getf (pc2 := 4) (v := .null) fX9_235 dX9_layWalks_1 c64 (by decide) rfl rfl ?_
    refine r_ifnonnullN (pc2 := 7) dX9_layWalks_4 rfl ?_
    refine r_aload_n (pc2 := 8) 0 dX9_layWalks_7 rfl rfl rfl rfl ?_
    refine r_newX (pc2 := 11) nX9_239 dX9_layWalks_8 rfl (by omega) (fun q h eq zc8 zs8 o8 c_q => ?_)
    have c64 := (o8 64 (by omega)).trans c64
    have c76 := (o8 76 (by omega)).trans c76
    have c82 := (o8 82 (by omega)).trans c82
    refine r_dup (pc2 := 12) dX9_layWalks_11 rfl rfl ?_
    refine r_aload_n (pc2 := 13) 0 dX9_layWalks_12 rfl rfl rfl rfl ?_
    refine r_getf (pc2 := 16) (v := .ref 82) fX9_55 dX9_layWalks_13 c64 (by decide) rfl rfl ?_
    refine r_callI0 (pc2 := 19) (As := [.ref 82]) (st := [.ref q, .ref 64]) kX9_241 dX9_layWalks_16 (by omega) rfl rfl (Nat.le_of_ble_eq_true rfl) (by omega) (c_wkinit (q := q) c_q c82 (by omega) (by omega) (by omega)) rfl (fun h hq16 => ?_)
    obtain ⟨i1, i2, i3, j0, j1, j2, j3, j4, j5, j6, j7⟩ := hq16
    have c64 := i3.get (by simp; omega) (by omega) c64
    have c76 := i3.get (by simp; omega) (by omega) c76
    refine r_putfX (pc2 := 22) [.ref 65, .int (nI ns), .ref s, .ref 76, .ref 77, .ref 78, .int (nI (a 45)), .ref 79, .ref 80, .ref 81, .ref 82, .ref 90, .ref 94, .ref w1, .ref w2, .ref q, dt] fX9_235 dX9_layWalks_19 c64 (by decide) (Nat.le_of_ble_eq_true rfl) (okO (by omega)) rfl rfl (fun h z19 o19 c64 => ?_)
    have c76 := (o19 76 (by decide)).trans c76
    have j0 := (o19 q (by omega)).trans j0
    have hgx : Gx [64] h0 h := ⟨by have := congrArg Prod.fst z19; omega, fun y hy hn => (o19 y (by simpa using hn)).trans ((i3.2 y (by omega) (by simp; omega)).trans (o8 y (by omega)))⟩
    have hhn := congrArg Prod.fst z19
    have hhs := congrArg Prod.snd z19
    have hq8 : ∀ y, q ≤ y → y ≤ q + 7 → ¬ Z y := fun y h1 h2 z => absurd (hD.2.2.1 y z).2.2 (by omega)
    have oq : ∀ y, q ≤ y → h.1 y = _ := fun y hy => o19 y (by omega)
    exact rest q h (Or.inr ⟨rfl, by omega⟩) (by unfold RmE ptC ptS isN; refine ⟨by omega, by simp; omega, by simp; omega, Or.inl rfl, fun _ => by omega⟩) (hgx.mono (by simp)) ⟨by omega, Or.inl (by omega), fun y z => by have := (hD.2.2.1 y z).2.2; omega⟩ (hD.fresh hgx (hD.offl (by simp)) hkl) ⟨by omega, V0.1, 0, -1, 0, 0, 0, 0, 0, 0, 0, fun _ => 0, fun _ => 0, fun _ => 0, fun _ => 0, fun _ => 0, fun _ => 0, fun _ => 0, V0.2, j0, (oq (q + 1) (by omega)).trans j1, (oq (q + 2) (by omega)).trans j2, (oq (q + 3) (by omega)).trans j3, (oq (q + 4) (by omega)).trans j4, (oq (q + 5) (by omega)).trans j5, (oq (q + 6) (by omega)).trans j6, (oq (q + 7) (by omega)).trans j7, ⟨rfl, rfl, rfl⟩, fun _ _ => rfl, Or.inl ⟨rfl, rfl, fun _ _ => rfl⟩⟩ (by omega) c64 c76
  · have hq139 := hWq.1
    refine Cn.go (ls := [.ref 64]) (by decide +kernel) rfl (Nat.le_of_ble_eq_true rfl) ?_
    refine r_aload_n (pc2 := 1) 0 dX9_layWalks_0 rfl rfl rfl rfl ?_
    refine r_getf (pc2 := 4) (v := .ref q) fX9_235 dX9_layWalks_1 c64 (by decide) rfl rfl ?_
    refine r_ifnonnull (tgt := 22) dX9_layWalks_4 (by omega) (by decide) ?_
    exact rest q h0 (Or.inl rfl) ⟨Nat.le_refl _, Nat.le_refl _, Nat.le_refl _, Or.inl rfl, fun z => z⟩ Gx.rf hWq hD hP hkl c64 c76
