/-! the class: walks: depthThen, lookOn, lookAtAll -/
theorem hNz_sB (a : FR) (x c dr : Nat) : ∀ k, hNz a x c 0 dr k = sB (nzW a x dr) c k
  | 0 => rfl
  | k + 1 => by show hNz a x c 0 dr k + _ = sB (nzW a x dr) c k + _; rw [hNz_sB a x c dr k]; rfl
theorem shK_sB (c : Nat) : ∀ k, shK c k = sB (fun g => 7 ^ g) c k
  | 0 => rfl
  | k + 1 => by show shK c k + _ = sB (fun g => 7 ^ g) c k + _; rw [shK_sB c k]
theorem sB_top {w : Nat → Nat} {c G : Nat} (hG : G ≤ 4) (hc : c < 2 ^ G) (hc16 : c < 16) : sB w c 4 = sB w c G := by
  have hb := (lt_bits G hG c hc16).mp hc
  have key : ∀ j, G + j ≤ 4 → sB w c (G + j) = sB w c G := by
    intro j
    induction j with
    | zero => intro _; rfl
    | succ j ih =>
      intro h
      show sB w c (G + j) + (if c.testBit (G + j) = true then w (G + j) else 0) = _
      rw [ih (by omega), hb (G + j) (by omega) (by omega)]
      rfl
  have := key (4 - G) (by omega)
  rwa [show G + (4 - G) = 4 by omega] at this
theorem paK_pc {a : FR} {x c : Nat} (hs : SG a x) (hst : ∀ g, g < a 3 → c.testBit g = true → x / 8 ^ g % 8 < a 1) (hG : a 3 ≤ 4) : ∀ k, k ≤ a 3 → paK a x k + sB (psW a x) c k = pcN (a 1) x c k
  | 0, _ => rfl
  | k + 1, hk => by
    have ih := paK_pc hs hst hG k (by omega)
    have h1 := hs.2.1 k (by omega)
    have h2 := hst k (by omega)
    show (paK a x k + _) + (sB (psW a x) c k + _) = pcN (a 1) x c k + _
    unfold psW at ih ⊢
    by_cases z : c.testBit k = true
    · have h3 := h2 z
      rw [if_pos z, if_pos z, if_pos h3]
      by_cases y : x / 8 ^ k % 8 + 1 = a 1
      · rw [if_pos y, if_pos (by omega)]; omega
      · rw [if_neg y, if_neg (by omega)]; omega
    · rw [if_neg z, if_neg z]
      by_cases y : x / 8 ^ k % 8 < a 1
      · rw [if_pos y, if_neg (by omega)]; omega
      · rw [if_neg y, if_pos (by omega)]; omega
theorem LST2.all {w f} {G op c : Nat} (h : LST2 w G op f 16) (hc : c < 16) (hd : dif c op = 0) : f c = nI (sB w c G) := by
  by_cases z : c = 0
  · subst z; rw [sB_0]; exact h.1
  · exact h.2 c (Nat.pos_of_ne_zero z) hc hd (Or.inl hc)
theorem okS16 {a : FR} {x c : Nat} (hG : a 3 ≤ 4) (ho : okS a x c) : c < 16 := Nat.lt_of_lt_of_le ho.1 (pw16 hG)
set_option maxRecDepth 20000 in
set_option maxHeartbeats 1000000 in
theorem c_wdepth {E : EnvT} {d : Nat} {h0 : Hp} {Z : Nat → Prop} {reg : Nat → FR} {ns s sg kd : Nat} {a b : FR} {q x c : Nat} {wd wst wsd lk fd go gh D C : Int32} {nz ps : Nat → Int32} (cq : h0.1 q = some (.inr (8, wkL q s wd wst wsd lk fd go gh (nI (opK a x (a 3))) (nI (paK a x (a 3)))))) (cnz : h0.1 (q + 5) = some (aI 16 nz)) (cps : h0.1 (q + 7) = some (aI 16 ps)) (hn : LST2 (nzW a x (a 27)) (a 3) (opK a x (a 3)) nz 16) (hp : LST2 (psW a x) (a 3) (opK a x (a 3)) ps 16) (hq : 139 ≤ q) (hL : LQ Z h0 reg ns s sg (a 27) kd b) (hA : AIN a) (hst : Stat a b) (hs : SG a x) (ho : okS a x c) (eD : D = nI (x / 4096)) (eC : C = nI c) (hd : 3 ≤ d) : Cn E mX8_depthThen d [.ref q, .int D, .int C] h0 (fun r h2 => r = some (.int (nI (nxS a x c / 4096))) ∧ Ex [87, 88, 89, kd] h0 h2 ∧ LQ Z h2 reg ns s sg (a 27) kd b) := by
  subst eD eC
  have hG := hA.G
  have hod := okS_dig hs hG ho
  have hc16 := okS16 hG ho
  have hdf := (dif_ok hs hG hod.2 hc16).mpr ho
  have hpc := paK_pc hs hod.1 hG (a 3) (Nat.le_refl _)
  have hpl := pcN_le (a 1) x c (a 3)
  have hnl := hNz_le a x c 0 (a 27) (fun g hg => hA.lo g hg) (a 3) hG
  rw [hNz_sB] at hnl
  have e9 : dpT a (x / 4096) (sB (nzW a x (a 27)) c (a 3)) (popN c) (paK a x (a 3) + sB (psW a x) c (a 3)) (a 27) = nxS a x c / 4096 := by
    rw [nxS_dep hs hG hA.C ho, hNz_sB, hpc, pcN_pc hG hA.C hs.2.1 hod.1]
    rfl
  refine Cn.go (ls := [.ref q, .int (nI (x / 4096)), .int (nI c)]) (by decide +kernel) rfl (Nat.le_of_ble_eq_true rfl) ?_
  refine r_aload_n (pc2 := 1) 0 dX8_depthThen_0 rfl rfl rfl rfl ?_
  refine r_getf (pc2 := 4) (v := .ref 82) fX8_38 dX8_depthThen_1 cq (by omega) rfl rfl ?_
  refine r_iload_n (pc2 := 5) 1 dX8_depthThen_4 rfl rfl rfl ?_
  refine r_aload_n (pc2 := 6) 0 dX8_depthThen_5 rfl rfl rfl rfl ?_
  refine r_getf (pc2 := 9) (v := .ref (q + 5)) fX8_29 dX8_depthThen_6 cq (by omega) rfl rfl ?_
  refine r_iload_n (pc2 := 10) 2 dX8_depthThen_9 rfl rfl rfl ?_
  refine r_ialdN (pc2 := 11) c dX8_depthThen_10 cnz (by omega) rfl hc16 (by decide) rfl ?_
  refine r_cast (nI (sB (nzW a x (a 27)) c (a 3))) (hn.all hc16 hdf) ?_
  refine r_iload_n (pc2 := 12) 2 dX8_depthThen_11 rfl rfl rfl ?_
  refine r_callS1 (pc2 := 15) (As := [.int (nI c)]) (st := [.int (nI (sB (nzW a x (a 27)) c (a 3))), .int (nI (x / 4096)), .ref 82]) kX8_87 dX8_depthThen_12 rfl rfl (Nat.le_of_ble_eq_true rfl) (by omega) (c_bitCount (s := c) (by omega)) rfl (fun h2 hq12 => ?_)
  obtain rfl := hq12.symm
  refine r_aload_n (pc2 := 16) 0 dX8_depthThen_15 rfl rfl rfl rfl ?_
  refine r_getf (pc2 := 19) (v := .int (nI (paK a x (a 3)))) fX8_69 dX8_depthThen_16 cq (by omega) rfl rfl ?_
  refine r_aload_n (pc2 := 20) 0 dX8_depthThen_19 rfl rfl rfl rfl ?_
  refine r_getf (pc2 := 23) (v := .ref (q + 7)) fX8_35 dX8_depthThen_20 cq (by omega) rfl rfl ?_
  refine r_iload_n (pc2 := 24) 2 dX8_depthThen_23 rfl rfl rfl ?_
  refine r_ialdN (pc2 := 25) c dX8_depthThen_24 cps (by omega) rfl hc16 (by decide) rfl ?_
  refine r_cast (nI (sB (psW a x) c (a 3))) (hp.all hc16 hdf) ?_
  refine r_iadd (pc2 := 26) dX8_depthThen_25 rfl ?_
  refine r_cast (nI (paK a x (a 3) + sB (psW a x) c (a 3))) (nI_add _ _) ?_
  refine r_callV1 (pc2 := 29) (As := [.int (nI (x / 4096)), .int (nI (sB (nzW a x (a 27)) c (a 3))), .int (nI (popN c)), .int (nI (paK a x (a 3) + sB (psW a x) c (a 3)))]) (st := []) kX8_93 rfl rfl dX8_depthThen_26 hL.1.1 (by decide) rfl rfl (Nat.le_of_ble_eq_true rfl) (by omega) ((c_thenQ (a := a) (dp := x / 4096) (nz := sB (nzW a x (a 27)) c (a 3)) (st := popN c) (pa := paK a x (a 3) + sB (psW a x) c (a 3)) hL hst hs.dep (by omega) (popN_le c) (by omega) rfl rfl rfl rfl (by omega)).mono fun r h2 z => ⟨z.1.trans (by rw [e9]), z.2⟩) rfl (fun h hq26 => ?_)
  obtain ⟨hxd, hL2⟩ := hq26
  exact r_iret rfl dX8_depthThen_29 ⟨rfl, hxd, hL2⟩
def PreL (Q Q2 : List Nat) : Prop := Q.length ≤ Q2.length ∧ ∀ i, i < Q.length → Q2.getD i 0 = Q.getD i 0
theorem PreL.rf {Q : List Nat} : PreL Q Q := ⟨Nat.le_refl _, fun _ _ => rfl⟩
theorem PreL.trans {Q R T : List Nat} (x : PreL Q R) (y : PreL R T) : PreL Q T := ⟨Nat.le_trans x.1 y.1, fun i hi => (y.2 i (Nat.lt_of_lt_of_le hi x.1)).trans (x.2 i hi)⟩
theorem PreL.add {Q R : List Nat} {t : Nat} (x : PreL Q R) : PreL Q (R ++ [t]) := ⟨by rw [List.length_append]; exact Nat.le_trans x.1 (Nat.le_add_right _ _), fun i hi => (gd_app (Nat.lt_of_lt_of_le hi x.1)).trans (x.2 i hi)⟩
theorem nxS_cst {a : FR} {x c : Nat} (hs : SG a x) (hG : a 3 ≤ 4) (hC : a 1 ≤ 6) (ho : okS a x c) : cst (nxS a x c) = (tws x + shK c 4) * 10 + nxS a x c / 4096 := by
  unfold cst
  rw [show tws (nxS a x c) = tws x + shK c 4 from tws_hour hG hC (okS_dig hs hG ho).1 ho.1]
  omega
theorem cst_injA {a : FR} (hC : a 1 ≤ 6) : ∀ s t, SG a s → SG a t → cst s = cst t → s = t := fun _ _ h1 h2 e => cst_inj h1 h2 hC e
theorem BB.mem {sp ok nx x0 Q Kf fb od k} (h : BB sp ok nx x0 Q Kf fb od k) (inj : ∀ s t, sp s → sp t → cst s = cst t → s = t) {t : Nat} (ht : sp t) (hl : cst t < 24010) (hz : ¬ fb (cst t) = 0) : t ∈ Q := by
  by_cases z : t ∈ Q
  · exact z
  · refine absurd ((h.2.2.2.2.1 _ hl).mpr (fun s hs e => ?_)) hz
    exact z (inj s t (h.2.1 s hs).1 ht e ▸ hs)
theorem pk_div10 {n : Nat} (h : n < 2 ^ 31) : nI n / nI 10 = nI (n / 10) := pk_div (d := 10) h (by decide) (by decide)
theorem rem10 {n : Nat} (h : n < 2 ^ 31) : nI n - nI n / 10 * 10 = nI (n % 10) := pk_rem (d := 10) h (by decide) (by decide)
set_option maxRecDepth 20000 in
set_option maxHeartbeats 1000000 in
theorem c_lookOn {E : EnvT} {d : Nat} {h0 : Hp} {Z : Nat → Prop} {reg : Nat → FR} {ns s sg kd : Nat} {a b : FR} {q : Nat} {wst wsd go gh op pa : Int32} {fb od nz sh ps : Nat → Int32} {Q : List Nat} {Kf : Nat → Nat} {k : Nat} (cq : h0.1 q = some (.inr (8, wkL q s (nI (a 27)) wst wsd (nI k) (nI Q.length) go gh op pa))) (cfb : h0.1 (q + 1) = some (aI 24010 fb)) (cod : h0.1 (q + 2) = some (aI 24010 od)) (cnz : h0.1 (q + 5) = some (aI 16 nz)) (csh : h0.1 (q + 6) = some (aI 16 sh)) (cps : h0.1 (q + 7) = some (aI 16 ps)) (hz0 : nz 0 = 0 ∧ sh 0 = 0 ∧ ps 0 = 0) (hB : BF (SG a) (okS a) (nxS a) (packS a) Q Kf fb od k) (hW : WQ Z kd q) (hq7 : q + 7 < h0.2.1) (hL : LQ Z h0 reg ns s sg (a 27) kd b) (hA : AIN a) (hst : Stat a b) (hk : k < Q.length) (hd : 4 ≤ d) : Cn E mX8_lookOn d [.ref q] h0 (fun r h2 => r = some (.int 1) ∧ ∃ (Q2 : List Nat) (Kf2 : Nat → Nat) (fb2 od2 nz2 sh2 ps2 : Nat → Int32) (op2 pa2 : Int32), h2.1 q = some (.inr (8, wkL q s (nI (a 27)) wst wsd (nI (k + 1)) (nI Q2.length) go gh op2 pa2)) ∧ h2.1 (q + 1) = some (aI 24010 fb2) ∧ h2.1 (q + 2) = some (aI 24010 od2) ∧ h2.1 (q + 5) = some (aI 16 nz2) ∧ h2.1 (q + 6) = some (aI 16 sh2) ∧ h2.1 (q + 7) = some (aI 16 ps2) ∧ (nz2 0 = 0 ∧ sh2 0 = 0 ∧ ps2 0 = 0) ∧ BF (SG a) (okS a) (nxS a) (packS a) Q2 Kf2 fb2 od2 (k + 1) ∧ PreL Q Q2 ∧ LQ Z h2 reg ns s sg (a 27) kd b ∧ GQ [q, q + 1, q + 2, q + 5, q + 6, q + 7] kd h0 h2 kd) := by
  have hG := hA.G
  have hn0 := hL.dv.n
  have hk0 := hL.dv.k0
  have hq139 := hW.1
  have hqk := hW.2.1
  have hQl := hB.1.len (cst_injA hA.C)
  obtain ⟨x, hx⟩ : ∃ x, Q.getD k 0 = x := ⟨_, rfl⟩
  have hs : SG a x := hx ▸ (hB.1.2.1 _ (getD_mem hk)).1
  have hcl : cst x < 24010 := hx ▸ (hB.1.2.1 _ (getD_mem hk)).2
  have hcd := cst_d hs.dep
  have hd9 := hs.dep
  have hop : (opK a x (a 3)) < 16 := Nat.lt_of_lt_of_le (opK_lt a x (a 3)) (pw16 hG)
  by_cases hdz : x / 4096 = 0
  · skip
    refine Cn.go (ls := [.ref q, .float 0, .float 0, .float 0, .float 0, .float 0]) (by decide +kernel) rfl (Nat.le_of_ble_eq_true rfl) ?_
    refine r_aload_n (pc2 := 1) 0 dX8_lookOn_0 rfl rfl rfl rfl ?_
    refine r_getf (pc2 := 4) (v := .int (nI k)) fX8_59 dX8_lookOn_1 cq (by omega) rfl rfl ?_
    refine r_aload_n (pc2 := 5) 0 dX8_lookOn_4 rfl rfl rfl rfl ?_
    refine r_getf (pc2 := 8) (v := .int (nI Q.length)) fX8_56 dX8_lookOn_5 cq (by omega) rfl rfl ?_
    refine r_icmp_lt (tgt := 13) (pc2 := 11) dX8_lookOn_8 (by decide) rfl (fun b8 => ?_) (fun b8 => ?_)
    · skip
      refine r_aload_n (pc2 := 14) 0 dX8_lookOn_13 rfl rfl rfl rfl ?_
      refine r_getf (pc2 := 17) (v := .ref (q + 2)) fX8_19 dX8_lookOn_14 cq (by omega) rfl rfl ?_
      refine r_aload_n (pc2 := 18) 0 dX8_lookOn_17 rfl rfl rfl rfl ?_
      refine r_getf (pc2 := 21) (v := .int (nI k)) fX8_59 dX8_lookOn_18 cq (by omega) rfl rfl ?_
      refine r_ialdN (pc2 := 22) k dX8_lookOn_21 cod (by omega) rfl (by omega) (by decide) rfl ?_
      refine r_cast (nI (cst x)) (hB.1.2.2.2.1 k hk |>.trans (by rw [hx])) ?_
      refine r_istore_n (pc2 := 23) (ls2 := [.ref q, .int (nI (cst x)), .float 0, .float 0, .float 0, .float 0]) 1 dX8_lookOn_22 rfl (by decide) rfl rfl rfl ?_
      refine r_aload_n (pc2 := 24) 0 dX8_lookOn_23 rfl rfl rfl rfl ?_
      refine r_dup (pc2 := 25) dX8_lookOn_24 rfl rfl ?_
      refine r_getf (pc2 := 28) (v := .int (nI k)) fX8_59 dX8_lookOn_25 cq (by omega) rfl rfl ?_
      refine r_iconst (pc2 := 29) (v := 1) dX8_lookOn_28 (by decide) rfl ?_
      refine r_iadd (pc2 := 30) dX8_lookOn_29 rfl ?_
      refine r_cast (nI (k + 1)) (nI_1 _) ?_
      refine r_putfX (pc2 := 33) [.ref 82, .ref s, .int (nI (a 27)), .int wst, .int wsd, .ref (q + 1), .ref (q + 2), .int (nI (k + 1)), .int (nI Q.length), .int go, .int gh, .ref (q + 3), .ref (q + 4), .ref (q + 5), .ref (q + 6), .ref (q + 7), .int op, .int pa] fX8_59 dX8_lookOn_30 cq (by omega) (Nat.le_of_ble_eq_true rfl) rfl rfl rfl (fun h z30 o30 cq => ?_)
      have cfb := (o30 (q + 1) (by omega)).trans cfb
      have cod := (o30 (q + 2) (by omega)).trans cod
      have cnz := (o30 (q + 5) (by omega)).trans cnz
      have csh := (o30 (q + 6) (by omega)).trans csh
      have cps := (o30 (q + 7) (by omega)).trans cps
      have hQ := (GQ.rf (S := [q, q + 1, q + 2, q + 5, q + 6, q + 7]) (kd := kd) (h := h0))
      have hxw : Ex [q] _ h := ⟨z30, fun y hy => o30 y (by simpa using hy)⟩
      have hL := hL.ex hxw (hW.off (by simp))
      have hQ := hQ.wr hxw (by simp)
      refine r_iload_n (pc2 := 34) 1 dX8_lookOn_33 rfl rfl rfl ?_
      refine r_bipush (pc2 := 36) (v := 10) dX8_lookOn_34 (by decide) rfl ?_
      refine r_idiv (pc2 := 37) dX8_lookOn_36 (by decide) rfl ?_
      refine r_cast (nI (tws x)) (by rw [show (10 : Int32) = nI 10 from rfl, pk_div10 (by omega), hcd.2]) ?_
      refine r_istore_n (pc2 := 38) (ls2 := [.ref q, .int (nI (cst x)), .int (nI (tws x)), .float 0, .float 0, .float 0]) 2 dX8_lookOn_37 rfl (by decide) rfl rfl rfl ?_
      refine r_iload_n (pc2 := 39) 1 dX8_lookOn_38 rfl rfl rfl ?_
      refine r_bipush (pc2 := 41) (v := 10) dX8_lookOn_39 (by decide) rfl ?_
      refine r_irem (pc2 := 42) dX8_lookOn_41 (by decide) rfl ?_
      refine r_cast (nI (x / 4096)) (by rw [rem10 (by omega), hcd.1]) ?_
      refine r_istore_n (pc2 := 43) (ls2 := [.ref q, .int (nI (cst x)), .int (nI (tws x)), .int (nI (x / 4096)), .float 0, .float 0]) 3 dX8_lookOn_42 rfl (by decide) rfl rfl rfl ?_
      refine r_iload_n (pc2 := 44) 3 dX8_lookOn_43 rfl rfl rfl ?_
      refine r_if_ne (tgt := 49) (pc2 := 47) dX8_lookOn_44 (by decide) rfl (fun b44 => ?_) (fun b44 => ?_)
      · exact absurd (congrArg nI hdz) b44
      · skip
        refine r_iconst (pc2 := 48) (v := 1) dX8_lookOn_47 (by decide) rfl ?_
        exact r_zret (ty := .boolean) rfl (by decide) dX8_lookOn_48 ⟨rfl, Q, Kf, fb, od, nz, sh, ps, op, pa, cq, cfb, cod, cnz, csh, cps, hz0, (hB.to0 hk |>.skip (Nat.zero_le _) (fun e _ _ o => (okS_dig hs hG (hx ▸ o)).2 hdz)).to, PreL.rf, hL, hQ⟩
    · exact absurd (nI_lt hk (by omega)) b8
  · have loop : ∀ (m c : Nat) (h : Hp) (R : List Nat) (Kg : Nat → Nat) (fb od nz sh ps : Nat → Int32) (u5 : Value), c + m = 16 → PreL Q R → R.getD k 0 = x → BM (SG a) (okS a) (nxS a) (packS a) R Kg fb od k c → LST2 (nzW a x (a 27)) (a 3) (opK a x (a 3)) nz 16 → LST2 (fun g => 7 ^ g) (a 3) (opK a x (a 3)) sh 16 → LST2 (psW a x) (a 3) (opK a x (a 3)) ps 16 → GQ [q, q + 1, q + 2, q + 5, q + 6, q + 7] kd h0 h kd → LQ Z h reg ns s sg (a 27) kd b → h.1 q = some (.inr (8, wkL q s (nI (a 27)) wst wsd (nI (k + 1)) (nI R.length) go gh (nI (opK a x (a 3))) (nI (paK a x (a 3))))) → h.1 (q + 1) = some (aI 24010 fb) → h.1 (q + 2) = some (aI 24010 od) → h.1 (q + 5) = some (aI 16 nz) → h.1 (q + 6) = some (aI 16 sh) → h.1 (q + 7) = some (aI 16 ps) → Fr E mX8_lookOn d 58 [.ref q, .int (nI (cst x)), .int (nI (tws x)), .int (nI (x / 4096)), .int (nI c), u5] [] h (fun r h2 => r = some (.int 1) ∧ ∃ (Q2 : List Nat) (Kf2 : Nat → Nat) (fb2 od2 nz2 sh2 ps2 : Nat → Int32) (op2 pa2 : Int32), h2.1 q = some (.inr (8, wkL q s (nI (a 27)) wst wsd (nI (k + 1)) (nI Q2.length) go gh op2 pa2)) ∧ h2.1 (q + 1) = some (aI 24010 fb2) ∧ h2.1 (q + 2) = some (aI 24010 od2) ∧ h2.1 (q + 5) = some (aI 16 nz2) ∧ h2.1 (q + 6) = some (aI 16 sh2) ∧ h2.1 (q + 7) = some (aI 16 ps2) ∧ (nz2 0 = 0 ∧ sh2 0 = 0 ∧ ps2 0 = 0) ∧ BF (SG a) (okS a) (nxS a) (packS a) Q2 Kf2 fb2 od2 (k + 1) ∧ PreL Q Q2 ∧ LQ Z h2 reg ns s sg (a 27) kd b ∧ GQ [q, q + 1, q + 2, q + 5, q + 6, q + 7] kd h0 h2 kd) := by
      intro m
      induction m with
      | zero =>
        intro c h R Kg fb od nz sh ps u5 hc hP hx hM g1 g2 g3 hQ hL cq cfb cod cnz csh cps
        refine r_iload (pc2 := 60) 4 dX8_lookOn_58 rfl rfl ?_
        refine r_aload_n (pc2 := 61) 0 dX8_lookOn_60 rfl rfl rfl rfl ?_
        refine r_getf (pc2 := 64) (v := .int (nI (opK a x (a 3)))) fX8_66 dX8_lookOn_61 cq (by omega) rfl rfl ?_
        refine r_icmp_gt (tgt := 122) (pc2 := 67) dX8_lookOn_64 (by decide) rfl (fun b64 => ?_) (fun b64 => ?_)
        · skip
          refine r_iconst (pc2 := 123) (v := 1) dX8_lookOn_122 (by decide) rfl ?_
          exact r_zret (ty := .boolean) rfl (by decide) dX8_lookOn_123 ⟨rfl, R, Kg, fb, od, nz, sh, ps, _, _, cq, cfb, cod, cnz, csh, cps, ⟨g1.1, g2.1, g3.1⟩, (hM.skip (by omega) (fun e h1 h2 o => by have o := (dif_ok hs hG hdz h2).mpr (hx ▸ o); have := dif_le2 e h2 _ hop o; omega)).to, hP, hL, hQ⟩
        · exact absurd (nI_lt (by omega) (by omega)) b64
      | succ m ih =>
        intro c h R Kg fb od nz sh ps u5 hc hP hx hM g1 g2 g3 hQ hL cq cfb cod cnz csh cps
        have hc16 : c < 16 := by omega
        by_cases hgt : (opK a x (a 3)) < c
        · skip
          refine r_iload (pc2 := 60) 4 dX8_lookOn_58 rfl rfl ?_
          refine r_aload_n (pc2 := 61) 0 dX8_lookOn_60 rfl rfl rfl rfl ?_
          refine r_getf (pc2 := 64) (v := .int (nI (opK a x (a 3)))) fX8_66 dX8_lookOn_61 cq (by omega) rfl rfl ?_
          refine r_icmp_gt (tgt := 122) (pc2 := 67) dX8_lookOn_64 (by decide) rfl (fun b64 => ?_) (fun b64 => ?_)
          · skip
            refine r_iconst (pc2 := 123) (v := 1) dX8_lookOn_122 (by decide) rfl ?_
            exact r_zret (ty := .boolean) rfl (by decide) dX8_lookOn_123 ⟨rfl, R, Kg, fb, od, nz, sh, ps, _, _, cq, cfb, cod, cnz, csh, cps, ⟨g1.1, g2.1, g3.1⟩, (hM.skip (by omega) (fun e h1 h2 o => by have o := (dif_ok hs hG hdz h2).mpr (hx ▸ o); have := dif_le2 e h2 _ hop o; omega)).to, hP, hL, hQ⟩
          · exact absurd (nI_lt (by omega) (by omega)) b64
        · by_cases hdf : dif c (opK a x (a 3)) = 0
          · have ho : okS a x c := (dif_ok hs hG hdz hc16).mp hdf
            have hts : SG a (nxS a x c) := hs.next hG hA.C ho
            have hct : cst (nxS a x c) < 24010 := cst_lt hts hA.C
            by_cases hfz : fb (cst (nxS a x c)) = 0
            · have hRl : R.length < 24010 := by
                have hM2 := hM.add hc16 (by rw [hx]; exact ho) (by rw [hx]; exact hts) (by rw [hx]; exact hct) (by rw [hx]; exact hfz)
                have := hM2.1.len (cst_injA hA.C)
                rw [List.length_append] at this
                exact this
              refine r_iload (pc2 := 60) 4 dX8_lookOn_58 rfl rfl ?_
              refine r_aload_n (pc2 := 61) 0 dX8_lookOn_60 rfl rfl rfl rfl ?_
              refine r_getf (pc2 := 64) (v := .int (nI (opK a x (a 3)))) fX8_66 dX8_lookOn_61 cq (by omega) rfl rfl ?_
              refine r_icmp_gt (tgt := 122) (pc2 := 67) dX8_lookOn_64 (by decide) rfl (fun b64 => ?_) (fun b64 => ?_)
              · exact absurd b64 (nI_nlt (by omega) (by omega))
              · skip
                refine r_iload (pc2 := 69) 4 dX8_lookOn_67 rfl rfl ?_
                refine r_aload_n (pc2 := 70) 0 dX8_lookOn_69 rfl rfl rfl rfl ?_
                refine r_getf (pc2 := 73) (v := .int (nI (opK a x (a 3)))) fX8_66 dX8_lookOn_70 cq (by omega) rfl rfl ?_
                refine r_iconst (pc2 := 74) (v := -1) dX8_lookOn_73 (by decide) rfl ?_
                refine r_ixor (pc2 := 75) dX8_lookOn_74 rfl ?_
                refine r_iand (pc2 := 76) dX8_lookOn_75 rfl ?_
                refine r_cast (nI (dif c (opK a x (a 3)))) (dif_nI c (by omega) _ hop) ?_
                refine r_if_ne (tgt := 116) (pc2 := 79) dX8_lookOn_76 (by decide) rfl (fun b76 => ?_) (fun b76 => ?_)
                · exact absurd (congrArg nI hdf) b76
                · skip
                  refine r_iload_n (pc2 := 80) 2 dX8_lookOn_79 rfl rfl rfl ?_
                  refine r_aload_n (pc2 := 81) 0 dX8_lookOn_80 rfl rfl rfl rfl ?_
                  refine r_getf (pc2 := 84) (v := .ref (q + 6)) fX8_32 dX8_lookOn_81 cq (by omega) rfl rfl ?_
                  refine r_iload (pc2 := 86) 4 dX8_lookOn_84 rfl rfl ?_
                  refine r_ialdN (pc2 := 87) c dX8_lookOn_86 csh (by omega) rfl (by omega) (by decide) rfl ?_
                  refine r_cast (nI (shK c 4)) (by rw [g2.all (by omega) hdf, shK_sB, sB_top hG ho.1 (by omega)]) ?_
                  refine r_iadd (pc2 := 88) dX8_lookOn_87 rfl ?_
                  refine r_cast (nI (tws x + shK c 4)) (nI_add _ _) ?_
                  refine r_bipush (pc2 := 90) (v := 10) dX8_lookOn_88 (by decide) rfl ?_
                  refine r_imul (pc2 := 91) dX8_lookOn_90 rfl ?_
                  refine r_cast (nI ((tws x + shK c 4) * 10)) (pk_mul _ 10) ?_
                  refine r_aload_n (pc2 := 92) 0 dX8_lookOn_91 rfl rfl rfl rfl ?_
                  refine r_iload_n (pc2 := 93) 3 dX8_lookOn_92 rfl rfl rfl ?_
                  refine r_iload (pc2 := 95) 4 dX8_lookOn_93 rfl rfl ?_
                  refine r_callV1 (pc2 := 98) (As := [.int (nI (x / 4096)), .int (nI c)]) (st := [.int (nI ((tws x + shK c 4) * 10))]) kX8_100 rfl rfl dX8_lookOn_95 cq (by omega) rfl rfl (Nat.le_of_ble_eq_true rfl) (by omega) (c_wdepth (x := x) (c := c) cq cnz cps g1 g3 hq139 hL hA hst hs ho rfl rfl (by omega)) rfl (fun h hq95 => ?_)
                  obtain ⟨hxd, hL⟩ := hq95
                  have cq := hxd.get (by simp <;> omega) cq
                  have cfb := hxd.get (by simp <;> omega) cfb
                  have cod := hxd.get (by simp <;> omega) cod
                  have cnz := hxd.get (by simp <;> omega) cnz
                  have csh := hxd.get (by simp <;> omega) csh
                  have cps := hxd.get (by simp <;> omega) cps
                  have hQ := hQ.dp hxd
                  refine r_iadd (pc2 := 99) dX8_lookOn_98 rfl ?_
                  refine r_cast (nI (cst (nxS a x c))) (by rw [nI_add, nxS_cst hs hG hA.C ho]) ?_
                  refine r_istore (pc2 := 101) (ls2 := [.ref q, .int (nI (cst x)), .int (nI (tws x)), .int (nI (x / 4096)), .int (nI c), .int (nI (cst (nxS a x c)))]) 5 dX8_lookOn_99 (by decide) rfl rfl rfl ?_
                  refine r_aload_n (pc2 := 102) 0 dX8_lookOn_101 rfl rfl rfl rfl ?_
                  refine r_iload (pc2 := 104) 5 dX8_lookOn_102 rfl rfl ?_
                  refine r_bipush (pc2 := 106) (v := 16) dX8_lookOn_104 (by decide) rfl ?_
                  refine r_iload_n (pc2 := 107) 1 dX8_lookOn_106 rfl rfl rfl ?_
                  refine r_imul (pc2 := 108) dX8_lookOn_107 rfl ?_
                  refine r_cast (nI (16 * cst x)) (pk_mul 16 _) ?_
                  refine r_iload (pc2 := 110) 4 dX8_lookOn_108 rfl rfl ?_
                  refine r_iadd (pc2 := 111) dX8_lookOn_110 rfl ?_
                  refine r_cast (nI (16 * cst x + c)) (nI_add _ _) ?_
                  refine r_iconst (pc2 := 112) (v := 1) dX8_lookOn_111 (by decide) rfl ?_
                  refine r_iadd (pc2 := 113) dX8_lookOn_112 rfl ?_
                  refine r_cast (nI (16 * cst x + c + 1)) (nI_1 _) ?_
                  refine r_callV0 (pc2 := 116) (As := [.int (nI (cst (nxS a x c))), .int (nI (16 * cst x + c + 1))]) (st := []) kX8_62 rfl rfl dX8_lookOn_113 cq (by omega) rfl rfl (Nat.le_of_ble_eq_true rfl) (by omega) (c_find1 (x := cst (nxS a x c)) cq cfb cod hq139 hct rfl hRl hfz) rfl (fun h hq113 => ?_)
                  obtain ⟨hxf, cq, cfb, cod⟩ := hq113
                  have cnz := hxf.get (by simp) cnz
                  have csh := hxf.get (by simp) csh
                  have cps := hxf.get (by simp) cps
                  have hL := hL.ex hxf (hW.off (by simp))
                  have hQ := hQ.wr hxf (by simp)
                  obtain ⟨x116, e116⟩ : ∃ z : Int32, z = (nI c) + (1) := ⟨_, rfl⟩
                  refine r_iinc (pc2 := 119) (ls2 := [.ref q, .int (nI (cst x)), .int (nI (tws x)), .int (nI (x / 4096)), .int x116, .int (nI (cst (nxS a x c)))]) (v := x116) 4 dX8_lookOn_116 rfl (by rw [e116]; rfl) rfl rfl rfl ?_
                  refine r_goto (pc2 := 58) dX8_lookOn_119 (by decide) ?_
                  rw [e116, nI_1]
                  have hM2 := hM.add hc16 (by rw [hx]; exact ho) (by rw [hx]; exact hts) (by rw [hx]; exact hct) (by rw [hx]; exact hfz)
                  rw [hx] at hM2
                  exact ih (c + 1) h _ _ _ _ nz sh ps _ (by omega) hP.add ((gd_app hM.2.1).trans hx) hM2 g1 g2 g3 hQ hL (by rw [List.length_append]; exact cq) cfb cod cnz csh cps
            · skip
              refine r_iload (pc2 := 60) 4 dX8_lookOn_58 rfl rfl ?_
              refine r_aload_n (pc2 := 61) 0 dX8_lookOn_60 rfl rfl rfl rfl ?_
              refine r_getf (pc2 := 64) (v := .int (nI (opK a x (a 3)))) fX8_66 dX8_lookOn_61 cq (by omega) rfl rfl ?_
              refine r_icmp_gt (tgt := 122) (pc2 := 67) dX8_lookOn_64 (by decide) rfl (fun b64 => ?_) (fun b64 => ?_)
              · exact absurd b64 (nI_nlt (by omega) (by omega))
              · skip
                refine r_iload (pc2 := 69) 4 dX8_lookOn_67 rfl rfl ?_
                refine r_aload_n (pc2 := 70) 0 dX8_lookOn_69 rfl rfl rfl rfl ?_
                refine r_getf (pc2 := 73) (v := .int (nI (opK a x (a 3)))) fX8_66 dX8_lookOn_70 cq (by omega) rfl rfl ?_
                refine r_iconst (pc2 := 74) (v := -1) dX8_lookOn_73 (by decide) rfl ?_
                refine r_ixor (pc2 := 75) dX8_lookOn_74 rfl ?_
                refine r_iand (pc2 := 76) dX8_lookOn_75 rfl ?_
                refine r_cast (nI (dif c (opK a x (a 3)))) (dif_nI c (by omega) _ hop) ?_
                refine r_if_ne (tgt := 116) (pc2 := 79) dX8_lookOn_76 (by decide) rfl (fun b76 => ?_) (fun b76 => ?_)
                · exact absurd (congrArg nI hdf) b76
                · skip
                  refine r_iload_n (pc2 := 80) 2 dX8_lookOn_79 rfl rfl rfl ?_
                  refine r_aload_n (pc2 := 81) 0 dX8_lookOn_80 rfl rfl rfl rfl ?_
                  refine r_getf (pc2 := 84) (v := .ref (q + 6)) fX8_32 dX8_lookOn_81 cq (by omega) rfl rfl ?_
                  refine r_iload (pc2 := 86) 4 dX8_lookOn_84 rfl rfl ?_
                  refine r_ialdN (pc2 := 87) c dX8_lookOn_86 csh (by omega) rfl (by omega) (by decide) rfl ?_
                  refine r_cast (nI (shK c 4)) (by rw [g2.all (by omega) hdf, shK_sB, sB_top hG ho.1 (by omega)]) ?_
                  refine r_iadd (pc2 := 88) dX8_lookOn_87 rfl ?_
                  refine r_cast (nI (tws x + shK c 4)) (nI_add _ _) ?_
                  refine r_bipush (pc2 := 90) (v := 10) dX8_lookOn_88 (by decide) rfl ?_
                  refine r_imul (pc2 := 91) dX8_lookOn_90 rfl ?_
                  refine r_cast (nI ((tws x + shK c 4) * 10)) (pk_mul _ 10) ?_
                  refine r_aload_n (pc2 := 92) 0 dX8_lookOn_91 rfl rfl rfl rfl ?_
                  refine r_iload_n (pc2 := 93) 3 dX8_lookOn_92 rfl rfl rfl ?_
                  refine r_iload (pc2 := 95) 4 dX8_lookOn_93 rfl rfl ?_
                  refine r_callV1 (pc2 := 98) (As := [.int (nI (x / 4096)), .int (nI c)]) (st := [.int (nI ((tws x + shK c 4) * 10))]) kX8_100 rfl rfl dX8_lookOn_95 cq (by omega) rfl rfl (Nat.le_of_ble_eq_true rfl) (by omega) (c_wdepth (x := x) (c := c) cq cnz cps g1 g3 hq139 hL hA hst hs ho rfl rfl (by omega)) rfl (fun h hq95 => ?_)
                  obtain ⟨hxd, hL⟩ := hq95
                  have cq := hxd.get (by simp <;> omega) cq
                  have cfb := hxd.get (by simp <;> omega) cfb
                  have cod := hxd.get (by simp <;> omega) cod
                  have cnz := hxd.get (by simp <;> omega) cnz
                  have csh := hxd.get (by simp <;> omega) csh
                  have cps := hxd.get (by simp <;> omega) cps
                  have hQ := hQ.dp hxd
                  refine r_iadd (pc2 := 99) dX8_lookOn_98 rfl ?_
                  refine r_cast (nI (cst (nxS a x c))) (by rw [nI_add, nxS_cst hs hG hA.C ho]) ?_
                  refine r_istore (pc2 := 101) (ls2 := [.ref q, .int (nI (cst x)), .int (nI (tws x)), .int (nI (x / 4096)), .int (nI c), .int (nI (cst (nxS a x c)))]) 5 dX8_lookOn_99 (by decide) rfl rfl rfl ?_
                  refine r_aload_n (pc2 := 102) 0 dX8_lookOn_101 rfl rfl rfl rfl ?_
                  refine r_iload (pc2 := 104) 5 dX8_lookOn_102 rfl rfl ?_
                  refine r_bipush (pc2 := 106) (v := 16) dX8_lookOn_104 (by decide) rfl ?_
                  refine r_iload_n (pc2 := 107) 1 dX8_lookOn_106 rfl rfl rfl ?_
                  refine r_imul (pc2 := 108) dX8_lookOn_107 rfl ?_
                  refine r_cast (nI (16 * cst x)) (pk_mul 16 _) ?_
                  refine r_iload (pc2 := 110) 4 dX8_lookOn_108 rfl rfl ?_
                  refine r_iadd (pc2 := 111) dX8_lookOn_110 rfl ?_
                  refine r_cast (nI (16 * cst x + c)) (nI_add _ _) ?_
                  refine r_iconst (pc2 := 112) (v := 1) dX8_lookOn_111 (by decide) rfl ?_
                  refine r_iadd (pc2 := 113) dX8_lookOn_112 rfl ?_
                  refine r_cast (nI (16 * cst x + c + 1)) (nI_1 _) ?_
                  refine r_callV0 (pc2 := 116) (As := [.int (nI (cst (nxS a x c))), .int (nI (16 * cst x + c + 1))]) (st := []) kX8_62 rfl rfl dX8_lookOn_113 cq (by omega) rfl rfl (Nat.le_of_ble_eq_true rfl) (by omega) (c_find0 (x := cst (nxS a x c)) cq cfb cod hq139 hct rfl hfz) rfl (fun h2 hq113 => ?_)
                  obtain rfl := hq113.symm
                  obtain ⟨x116, e116⟩ : ∃ z : Int32, z = (nI c) + (1) := ⟨_, rfl⟩
                  refine r_iinc (pc2 := 119) (ls2 := [.ref q, .int (nI (cst x)), .int (nI (tws x)), .int (nI (x / 4096)), .int x116, .int (nI (cst (nxS a x c)))]) (v := x116) 4 dX8_lookOn_116 rfl (by rw [e116]; rfl) rfl rfl rfl ?_
                  refine r_goto (pc2 := 58) dX8_lookOn_119 (by decide) ?_
                  rw [e116, nI_1]
                  exact ih (c + 1) h R Kg fb od nz sh ps _ (by omega) hP hx (hM.old (by rw [hx]; exact hM.1.mem (cst_injA hA.C) hts hct hfz)) g1 g2 g3 hQ hL cq cfb cod cnz csh cps
          · skip
            refine r_iload (pc2 := 60) 4 dX8_lookOn_58 rfl rfl ?_
            refine r_aload_n (pc2 := 61) 0 dX8_lookOn_60 rfl rfl rfl rfl ?_
            refine r_getf (pc2 := 64) (v := .int (nI (opK a x (a 3)))) fX8_66 dX8_lookOn_61 cq (by omega) rfl rfl ?_
            refine r_icmp_gt (tgt := 122) (pc2 := 67) dX8_lookOn_64 (by decide) rfl (fun b64 => ?_) (fun b64 => ?_)
            · exact absurd b64 (nI_nlt (by omega) (by omega))
            · skip
              refine r_iload (pc2 := 69) 4 dX8_lookOn_67 rfl rfl ?_
              refine r_aload_n (pc2 := 70) 0 dX8_lookOn_69 rfl rfl rfl rfl ?_
              refine r_getf (pc2 := 73) (v := .int (nI (opK a x (a 3)))) fX8_66 dX8_lookOn_70 cq (by omega) rfl rfl ?_
              refine r_iconst (pc2 := 74) (v := -1) dX8_lookOn_73 (by decide) rfl ?_
              refine r_ixor (pc2 := 75) dX8_lookOn_74 rfl ?_
              refine r_iand (pc2 := 76) dX8_lookOn_75 rfl ?_
              refine r_cast (nI (dif c (opK a x (a 3)))) (dif_nI c (by omega) _ hop) ?_
              refine r_if_ne (tgt := 116) (pc2 := 79) dX8_lookOn_76 (by decide) rfl (fun b76 => ?_) (fun b76 => ?_)
              · skip
                obtain ⟨x116, e116⟩ : ∃ z : Int32, z = (nI c) + (1) := ⟨_, rfl⟩
                refine r_iinc (pc2 := 119) (ls2 := [.ref q, .int (nI (cst x)), .int (nI (tws x)), .int (nI (x / 4096)), .int x116, u5]) (v := x116) 4 dX8_lookOn_116 rfl (by rw [e116]; rfl) rfl rfl rfl ?_
                refine r_goto (pc2 := 58) dX8_lookOn_119 (by decide) ?_
                rw [e116, nI_1]
                exact ih (c + 1) h R Kg fb od nz sh ps _ (by omega) hP hx (hM.no (by rw [hx]; exact fun o => hdf ((dif_ok hs hG hdz (by omega)).mpr o))) g1 g2 g3 hQ hL cq cfb cod cnz csh cps
              · exact absurd (nI_z0 (by have := dif_le c (opK a x (a 3)); omega) b76) hdf
    refine Cn.go (ls := [.ref q, .float 0, .float 0, .float 0, .float 0, .float 0]) (by decide +kernel) rfl (Nat.le_of_ble_eq_true rfl) ?_
    refine r_aload_n (pc2 := 1) 0 dX8_lookOn_0 rfl rfl rfl rfl ?_
    refine r_getf (pc2 := 4) (v := .int (nI k)) fX8_59 dX8_lookOn_1 cq (by omega) rfl rfl ?_
    refine r_aload_n (pc2 := 5) 0 dX8_lookOn_4 rfl rfl rfl rfl ?_
    refine r_getf (pc2 := 8) (v := .int (nI Q.length)) fX8_56 dX8_lookOn_5 cq (by omega) rfl rfl ?_
    refine r_icmp_lt (tgt := 13) (pc2 := 11) dX8_lookOn_8 (by decide) rfl (fun b8 => ?_) (fun b8 => ?_)
    · skip
      refine r_aload_n (pc2 := 14) 0 dX8_lookOn_13 rfl rfl rfl rfl ?_
      refine r_getf (pc2 := 17) (v := .ref (q + 2)) fX8_19 dX8_lookOn_14 cq (by omega) rfl rfl ?_
      refine r_aload_n (pc2 := 18) 0 dX8_lookOn_17 rfl rfl rfl rfl ?_
      refine r_getf (pc2 := 21) (v := .int (nI k)) fX8_59 dX8_lookOn_18 cq (by omega) rfl rfl ?_
      refine r_ialdN (pc2 := 22) k dX8_lookOn_21 cod (by omega) rfl (by omega) (by decide) rfl ?_
      refine r_cast (nI (cst x)) (hB.1.2.2.2.1 k hk |>.trans (by rw [hx])) ?_
      refine r_istore_n (pc2 := 23) (ls2 := [.ref q, .int (nI (cst x)), .float 0, .float 0, .float 0, .float 0]) 1 dX8_lookOn_22 rfl (by decide) rfl rfl rfl ?_
      refine r_aload_n (pc2 := 24) 0 dX8_lookOn_23 rfl rfl rfl rfl ?_
      refine r_dup (pc2 := 25) dX8_lookOn_24 rfl rfl ?_
      refine r_getf (pc2 := 28) (v := .int (nI k)) fX8_59 dX8_lookOn_25 cq (by omega) rfl rfl ?_
      refine r_iconst (pc2 := 29) (v := 1) dX8_lookOn_28 (by decide) rfl ?_
      refine r_iadd (pc2 := 30) dX8_lookOn_29 rfl ?_
      refine r_cast (nI (k + 1)) (nI_1 _) ?_
      refine r_putfX (pc2 := 33) [.ref 82, .ref s, .int (nI (a 27)), .int wst, .int wsd, .ref (q + 1), .ref (q + 2), .int (nI (k + 1)), .int (nI Q.length), .int go, .int gh, .ref (q + 3), .ref (q + 4), .ref (q + 5), .ref (q + 6), .ref (q + 7), .int op, .int pa] fX8_59 dX8_lookOn_30 cq (by omega) (Nat.le_of_ble_eq_true rfl) rfl rfl rfl (fun h z30 o30 cq => ?_)
      have cfb := (o30 (q + 1) (by omega)).trans cfb
      have cod := (o30 (q + 2) (by omega)).trans cod
      have cnz := (o30 (q + 5) (by omega)).trans cnz
      have csh := (o30 (q + 6) (by omega)).trans csh
      have cps := (o30 (q + 7) (by omega)).trans cps
      have hQ := (GQ.rf (S := [q, q + 1, q + 2, q + 5, q + 6, q + 7]) (kd := kd) (h := h0))
      have hxw : Ex [q] _ h := ⟨z30, fun y hy => o30 y (by simpa using hy)⟩
      have hL := hL.ex hxw (hW.off (by simp))
      have hQ := hQ.wr hxw (by simp)
      refine r_iload_n (pc2 := 34) 1 dX8_lookOn_33 rfl rfl rfl ?_
      refine r_bipush (pc2 := 36) (v := 10) dX8_lookOn_34 (by decide) rfl ?_
      refine r_idiv (pc2 := 37) dX8_lookOn_36 (by decide) rfl ?_
      refine r_cast (nI (tws x)) (by rw [show (10 : Int32) = nI 10 from rfl, pk_div10 (by omega), hcd.2]) ?_
      refine r_istore_n (pc2 := 38) (ls2 := [.ref q, .int (nI (cst x)), .int (nI (tws x)), .float 0, .float 0, .float 0]) 2 dX8_lookOn_37 rfl (by decide) rfl rfl rfl ?_
      refine r_iload_n (pc2 := 39) 1 dX8_lookOn_38 rfl rfl rfl ?_
      refine r_bipush (pc2 := 41) (v := 10) dX8_lookOn_39 (by decide) rfl ?_
      refine r_irem (pc2 := 42) dX8_lookOn_41 (by decide) rfl ?_
      refine r_cast (nI (x / 4096)) (by rw [rem10 (by omega), hcd.1]) ?_
      refine r_istore_n (pc2 := 43) (ls2 := [.ref q, .int (nI (cst x)), .int (nI (tws x)), .int (nI (x / 4096)), .float 0, .float 0]) 3 dX8_lookOn_42 rfl (by decide) rfl rfl rfl ?_
      refine r_iload_n (pc2 := 44) 3 dX8_lookOn_43 rfl rfl rfl ?_
      refine r_if_ne (tgt := 49) (pc2 := 47) dX8_lookOn_44 (by decide) rfl (fun b44 => ?_) (fun b44 => ?_)
      · skip
        refine r_aload_n (pc2 := 50) 0 dX8_lookOn_49 rfl rfl rfl rfl ?_
        refine r_iload_n (pc2 := 51) 2 dX8_lookOn_50 rfl rfl rfl ?_
        refine r_iload_n (pc2 := 52) 3 dX8_lookOn_51 rfl rfl rfl ?_
        refine r_callV0 (pc2 := 55) (As := [.int (nI (tws x)), .int (nI (x / 4096))]) (st := []) kX8_97 rfl rfl dX8_lookOn_52 cq (by omega) rfl rfl (Nat.le_of_ble_eq_true rfl) (by omega) (c_laySets (x := x) cq cnz csh cps hz0 hW hL hA hst hs rfl rfl (by omega)) rfl (fun h hq52 => ?_)
        obtain ⟨nz, sh, ps, cq, cnz, csh, cps, g1, g2, g3, hL, hQ2⟩ := hq52
        have cfb := hQ2.get (by have := hQ.2.1; omega) (by simp) (by omega) cfb
        have cod := hQ2.get (by have := hQ.2.1; omega) (by simp) (by omega) cod
        have hQ := hQ.trans (hQ2.mono (by simp)) hn0
        refine r_iconst (pc2 := 56) (v := 0) dX8_lookOn_55 (by decide) rfl ?_
        refine r_cast (nI 0) (rfl) ?_
        refine r_istore (pc2 := 58) (ls2 := [.ref q, .int (nI (cst x)), .int (nI (tws x)), .int (nI (x / 4096)), .int (nI 0), .float 0]) 4 dX8_lookOn_56 (by decide) rfl rfl rfl ?_
        exact loop 16 0 h Q Kf fb od nz sh ps (.float 0) (by omega) PreL.rf hx (hB.to0 hk) g1 g2 g3 hQ hL cq cfb cod cnz csh cps
      · exact absurd (nI_z0 (by omega) b44) hdz
    · exact absurd (nI_lt hk (by omega)) b8
