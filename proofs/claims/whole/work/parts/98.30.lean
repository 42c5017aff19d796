/-! the class: bestGoer; dares kept, made, begun -/
theorem dF_stat {a c : FR} (e1 : a 1 = c 1) (e3 : a 3 = c 3) (en : nxS a = nxS c) : ∀ m, dF a m = dF c m
  | 0 => rfl
  | m + 1 => funext fun s => funext fun o => by
    show dOne (dF a m) a s o = dOne (dF c m) c s o
    rw [dF_stat e1 e3 en m]
    unfold dOne dBy dOp
    rw [e1, e3, en]
theorem dV_stat {a c b : FR} (h : Stat a b) (h2 : Stat c b) (hb : AOK b) (e : a 27 = c 27) : dV a = dV c := funext fun s => funext fun o => by
  have e1 : a 1 = c 1 := (h 1 (by omega)).trans (h2 1 (by omega)).symm
  have e3 : a 3 = c 3 := (h 3 (by omega)).trans (h2 3 (by omega)).symm
  have en : nxS a = nxS c := by rw [nxS_stat h hb, nxS_stat h2 hb, e]
  unfold dV dmu dOp
  rw [dF_stat e1 e3 en, e1, e3]
theorem ownS_stat {a c : FR} (e3 : a 3 = c 3) (st f : Nat) : ownS a st f = ownS c st f := by unfold ownS sd; rw [e3]
theorem dFnd_all {o G : Nat} {F : Nat → Int32} {v : Int32} (ho : ∀ g, G ≤ g → o.testBit g = false) : ∀ m g, g + m = G → ∀ j, dFnd o F v (m + j) g = dFnd o F v m g
  | 0, g, hg, j => by
    have key : ∀ j g, G ≤ g → dFnd o F v j g = -1 := by
      intro j
      induction j with
      | zero => intro g _; rfl
      | succ j ih =>
        intro g hg
        unfold dFnd
        rw [ho g hg, if_neg (fun z => by cases z.1)]
        exact ih (g + 1) (by omega)
    rw [Nat.zero_add, key j g (by omega)]
    rfl
  | m + 1, g, hg, j => by
    rw [show m + 1 + j = (m + j) + 1 by omega]
    unfold dFnd
    rw [dFnd_all ho m (g + 1) (by omega) j]
def DKf (Z : Nat → Prop) (h : Hp) (reg : Nat → FR) (ns ws : Nat) (wd : Int32) (sp : Nat) (fs kn : Nat → Int32) : Prop := fs 0 = -1 ∨ ∃ (sgw st : Nat) (c : FR), StO Z h ws sgw (reg sgw) ∧ sgw ≤ ns ∧ LK (reg sgw) ∧ Stat c (reg sgw) ∧ (wd = nI (c 27) ∧ c 27 ≤ 9) ∧ (fs 0 = nI st ∧ st < 2 ^ (c 3)) ∧ fs 1 = nI (ownS c st 1) ∧ KnV c st sp kn
/-- dares as they lie between calls -/
def DRP (Z : Nat → Prop) (h : Hp) (reg : Nat → FR) (ns q cnt : Nat) : Prop := q + 2 < h.2.1 ∧ ∃ (ws : Nat) (wd : Int32) (sp : Nat) (fs kn : Nat → Int32), 64 ≤ ws ∧ sp ≤ cnt ∧ h.1 q = some (.inr (0, drL q ws wd (nI sp))) ∧ h.1 (q + 1) = some (aI 2 fs) ∧ h.1 (q + 2) = some (aI 48020 kn) ∧ KnB kn sp ∧ DKf Z h reg ns ws wd sp fs kn
theorem DKf.frame {Z Z2 : Nat → Prop} {h h2 : Hp} {reg reg2 : Nat → FR} {ns ns2 ws : Nat} {wd : Int32} {sp : Nat} {fs kn : Nat → Int32} (x : DKf Z h reg ns ws wd sp fs kn) (e : ∀ y, Z y → Z2 y ∧ h2.1 y = h.1 y) (er : ∀ j, j ≤ ns → reg2 j = reg j) (en : ns ≤ ns2) : DKf Z2 h2 reg2 ns2 ws wd sp fs kn := by
  rcases x with x | ⟨sgw, st, c, x1, x2, x3, x4, x5⟩
  · exact Or.inl x
  · refine Or.inr ⟨sgw, st, c, ?_, by omega, ?_, ?_, x5⟩
    · rw [er sgw x2]; exact (x1.mono (fun y z => (e y z).2)).zmono (fun y z => (e y z).1)
    · rw [er sgw x2]; exact x3
    · rw [er sgw x2]; exact x4
theorem DRP.frame {Z Z2 : Nat → Prop} {h h2 : Hp} {reg reg2 : Nat → FR} {ns ns2 q cnt cnt2 : Nat} (x : DRP Z h reg ns q cnt) (hq : ∀ y, q ≤ y → y ≤ q + 2 → h2.1 y = h.1 y) (hl : h.2.1 ≤ h2.2.1) (e : ∀ y, Z y → Z2 y ∧ h2.1 y = h.1 y) (er : ∀ j, j ≤ ns → reg2 j = reg j) (en : ns ≤ ns2) (ec : cnt ≤ cnt2) : DRP Z2 h2 reg2 ns2 q cnt2 := by
  obtain ⟨x0, ws, wd, sp, fs, kn, x1, x2, x3, x4, x5, x6, x7⟩ := x
  exact ⟨by omega, ws, wd, sp, fs, kn, x1, by omega, (hq _ (by omega) (by omega)).trans x3, (hq _ (by omega) (by omega)).trans x4, (hq _ (by omega) (by omega)).trans x5, x6, x7.frame e er en⟩
theorem DRI.keep {Z : Nat → Prop} {reg : Nat → FR} {ns s sg kd : Nat} {a b : FR} {q st sp : Nat} {kn : Nat → Int32} {h : Hp} {cnt : Nat} (x : DRI Z reg ns s sg kd a b q st sp kn h) (hX : DCx Z reg ns s sg kd a b q st sp) (hq : q + 2 < h.2.1) (hc : sp ≤ cnt) : DRP Z h reg ns q cnt := by
  obtain ⟨x1, ⟨f, x2, f0, f1⟩, x4, x5, x6, hL⟩ := x
  have hreg := hL.2.2.2.2.1
  exact ⟨hq, s, _, sp, f, kn, hL.dv.s64, hc, x1, x2, x4, x5, Or.inr ⟨sg, st, a, hreg ▸ hL.2.1, hL.2.2.2.2.2.1, hreg ▸ hL.2.2.2.1, hreg ▸ hX.2.1, ⟨rfl, hX.1.dr⟩, ⟨f0, hX.2.2.2.1⟩, f1, x6⟩⟩
set_option maxRecDepth 20000 in
set_option maxHeartbeats 1000000 in
theorem c_bestGoer {E : EnvT} {Z : Nat → Prop} {reg : Nat → FR} {ns s sg kd : Nat} {a b : FR} {q st sp : Nat} {d x : Nat} {h9 : Hp} {kn : Nat → Int32} (hX : DCx Z reg ns s sg kd a b q st sp) (hs : SG a x) (hdz : x / 4096 ≠ 0) (hd : 86 ≤ d) (hI : DRI Z reg ns s sg kd a b q st sp kn h9) : Cn E mX0_bestGoer d [.ref q, .int (nI (tws x)), .int (nI (x / 4096))] h9 (QDr Z reg ns s sg kd a b q st sp (dFnd (dOp a x st) (fun g => dBy (dV a) a x (2 ^ g) st) (dV a x st) (a 3) 0) h9) := by
  obtain ⟨cq, ⟨fs, csd, hf0, hf1⟩, ckn, hKB, hKV, hL⟩ := id hI
  obtain ⟨hA, hst, hW, hst9, hsp⟩ := id hX
  have hq139 := hW.1
  have hqk := hW.2.1
  have hqs := hW.2.2 s hL.2.2.2.2.2.2.2.2.1
  have hG := hA.G
  have hC6 := hA.C
  have hk0 := hL.dv.k0
  have hzs := hL.dv.zs
  have hs64 := hL.dv.s64
  have hd9 := hs.dep
  have htl := hs.tl hC6
  have hcl := cst_lt hs hC6
  have hp16 := pw16 hG
  have hpl : pastN (a 1) x (a 3) < 2 ^ (a 3) := pastN_lt _ _ _
  obtain ⟨lo, so9, sa, nl, sl, cs⟩ := hL.dv.cs
  have hL9 := hL
  have ho16 : (dOp a x st) < 16 := dOp_lt (by omega)
  have hob := (lt_bits (a 3) hG _ ho16).mp (Nat.lt_of_le_of_lt (dif_le _ _) hst9)
  have hE : dFnd (dOp a x st) (fun g => dBy (dV a) a x (2 ^ g) st) (dV a x st) (a 3) 0 = dFnd (dOp a x st) (fun g => dBy (dV a) a x (2 ^ g) st) (dV a x st) 4 0 := by
    have e9 := dFnd_all (o := (dOp a x st)) (F := (fun g => dBy (dV a) a x (2 ^ g) st)) (v := dV a x st) (fun g hg => Nat.testBit_lt_two_pow (Nat.lt_of_lt_of_le (Nat.lt_of_le_of_lt (dif_le _ _) hst9) (Nat.pow_le_pow_right (by decide) hg))) (a 3) 0 (by omega) (4 - a 3)
    rw [show a 3 + (4 - a 3) = 4 by omega] at e9
    exact e9.symm
  have loop : ∀ (m g : Nat) (h : Hp) (kn : Nat → Int32) (B : Int32), g + m = 4 → ((dOp a x st) ≠ 0 → B = dV a x st) → dFnd (dOp a x st) (fun g => dBy (dV a) a x (2 ^ g) st) (dV a x st) (a 3) 0 = dFnd (dOp a x st) (fun g => dBy (dV a) a x (2 ^ g) st) (dV a x st) m g → DRI Z reg ns s sg kd a b q st sp kn h → GQ [q + 2] kd h9 h kd → Fr E mX0_bestGoer d 39 [.ref q, .int (nI (tws x)), .int (nI (x / 4096)), .int (nI (dOp a x st)), .int B, .int (nI g)] [] h (QDr Z reg ns s sg kd a b q st sp (dFnd (dOp a x st) (fun g => dBy (dV a) a x (2 ^ g) st) (dV a x st) (a 3) 0) h9) := by
    intro m
    induction m with
    | zero =>
      intro g h kn B hg hBv hT hI hQ
      obtain rfl : g = 4 := by omega
      obtain ⟨cq, _⟩ := id hI
      refine r_iload (pc2 := 41) 5 dX0_bestGoer_39 rfl rfl ?_
      refine r_iconst (pc2 := 42) (v := 4) dX0_bestGoer_41 (by decide) rfl ?_
      refine r_icmp_ge (tgt := 79) (pc2 := 45) dX0_bestGoer_42 (by decide) rfl (fun b42 => ?_) (fun b42 => ?_)
      · skip
        refine r_iconst (pc2 := 80) (v := -1) dX0_bestGoer_79 (by decide) rfl ?_
        exact r_iret rfl dX0_bestGoer_80 ⟨by rw [hT]; rfl, kn, hI, hQ⟩
      · exact absurd (by decide) b42
    | succ m ih =>
      intro g h kn B hg hBv hT hI hQ
      have hlt : g < 4 := by omega
      obtain ⟨cq, _⟩ := id hI
      by_cases hb : (dOp a x st).testBit g = true
      · have hopn : (dOp a x st) ≠ 0 := fun z => by rw [z, Nat.zero_testBit] at hb; cases hb
        have hgG : g < a 3 := by
          rcases Nat.lt_or_ge g (a 3) with z | z
          · exact z
          · rw [hob g z hlt] at hb; cases hb
        have hok := okS_g hG (by omega) hgG hb hdz
        by_cases heq : dBy (dV a) a x (2 ^ g) st = dV a x st
        · skip
          refine r_iload (pc2 := 41) 5 dX0_bestGoer_39 rfl rfl ?_
          refine r_iconst (pc2 := 42) (v := 4) dX0_bestGoer_41 (by decide) rfl ?_
          refine r_icmp_ge (tgt := 79) (pc2 := 45) dX0_bestGoer_42 (by decide) rfl (fun b42 => ?_) (fun b42 => ?_)
          · exact absurd b42 (nI_ge (b := 4) hlt (by decide))
          · skip
            refine r_iload_n (pc2 := 46) 3 dX0_bestGoer_45 rfl rfl rfl ?_
            refine r_iload (pc2 := 48) 5 dX0_bestGoer_46 rfl rfl ?_
            refine r_ishr (pc2 := 49) dX0_bestGoer_48 rfl ?_
            refine r_iconst (pc2 := 50) (v := 1) dX0_bestGoer_49 (by decide) rfl ?_
            refine r_iand (pc2 := 51) dX0_bestGoer_50 rfl ?_
            refine r_iconst (pc2 := 52) (v := 1) dX0_bestGoer_51 (by decide) rfl ?_
            refine r_icmp_ne (tgt := 73) (pc2 := 55) dX0_bestGoer_52 (by decide) rfl (fun b52 => ?_) (fun b52 => ?_)
            · exact absurd ((bit16 _ ho16 g hlt).mpr hb) b52
            · skip
              refine r_aload_n (pc2 := 56) 0 dX0_bestGoer_55 rfl rfl rfl rfl ?_
              refine r_iload_n (pc2 := 57) 1 dX0_bestGoer_56 rfl rfl rfl ?_
              refine r_iload_n (pc2 := 58) 2 dX0_bestGoer_57 rfl rfl rfl ?_
              refine r_iconst (pc2 := 59) (v := 0) dX0_bestGoer_58 (by decide) rfl ?_
              refine r_iload (pc2 := 61) 5 dX0_bestGoer_59 rfl rfl ?_
              refine r_iconst (pc2 := 62) (v := 0) dX0_bestGoer_61 (by decide) rfl ?_
              refine r_callV1 (pc2 := 65) (As := [.int (nI (tws x)), .int (nI (x / 4096)), .int 0, .int (nI g), .int 0]) (st := []) kX0_54 rfl rfl dX0_bestGoer_62 cq (by omega) rfl rfl (Nat.le_of_ble_eq_true rfl) (by omega) (c_byStep0 hX hs hgG hok (by omega) hI) rfl (fun h hq62 => ?_)
              obtain ⟨kn2, hI2, hQ2⟩ := hq62
              refine r_iload (pc2 := 67) 4 dX0_bestGoer_65 rfl rfl ?_
              refine r_icmp_ne (tgt := 73) (pc2 := 70) dX0_bestGoer_67 (by decide) rfl (fun b67 => ?_) (fun b67 => ?_)
              · exact absurd (heq.trans (hBv hopn).symm) b67
              · skip
                refine r_iload (pc2 := 72) 5 dX0_bestGoer_70 rfl rfl ?_
                exact r_iret rfl dX0_bestGoer_72 ⟨by rw [hT]; exact congrArg (fun z => some (Value.int z)) (if_pos ⟨hb, heq⟩).symm, kn2, hI2, hQ.trans hQ2 hL9.dv.n⟩
        · skip
          refine r_iload (pc2 := 41) 5 dX0_bestGoer_39 rfl rfl ?_
          refine r_iconst (pc2 := 42) (v := 4) dX0_bestGoer_41 (by decide) rfl ?_
          refine r_icmp_ge (tgt := 79) (pc2 := 45) dX0_bestGoer_42 (by decide) rfl (fun b42 => ?_) (fun b42 => ?_)
          · exact absurd b42 (nI_ge (b := 4) hlt (by decide))
          · skip
            refine r_iload_n (pc2 := 46) 3 dX0_bestGoer_45 rfl rfl rfl ?_
            refine r_iload (pc2 := 48) 5 dX0_bestGoer_46 rfl rfl ?_
            refine r_ishr (pc2 := 49) dX0_bestGoer_48 rfl ?_
            refine r_iconst (pc2 := 50) (v := 1) dX0_bestGoer_49 (by decide) rfl ?_
            refine r_iand (pc2 := 51) dX0_bestGoer_50 rfl ?_
            refine r_iconst (pc2 := 52) (v := 1) dX0_bestGoer_51 (by decide) rfl ?_
            refine r_icmp_ne (tgt := 73) (pc2 := 55) dX0_bestGoer_52 (by decide) rfl (fun b52 => ?_) (fun b52 => ?_)
            · exact absurd ((bit16 _ ho16 g hlt).mpr hb) b52
            · skip
              refine r_aload_n (pc2 := 56) 0 dX0_bestGoer_55 rfl rfl rfl rfl ?_
              refine r_iload_n (pc2 := 57) 1 dX0_bestGoer_56 rfl rfl rfl ?_
              refine r_iload_n (pc2 := 58) 2 dX0_bestGoer_57 rfl rfl rfl ?_
              refine r_iconst (pc2 := 59) (v := 0) dX0_bestGoer_58 (by decide) rfl ?_
              refine r_iload (pc2 := 61) 5 dX0_bestGoer_59 rfl rfl ?_
              refine r_iconst (pc2 := 62) (v := 0) dX0_bestGoer_61 (by decide) rfl ?_
              refine r_callV1 (pc2 := 65) (As := [.int (nI (tws x)), .int (nI (x / 4096)), .int 0, .int (nI g), .int 0]) (st := []) kX0_54 rfl rfl dX0_bestGoer_62 cq (by omega) rfl rfl (Nat.le_of_ble_eq_true rfl) (by omega) (c_byStep0 hX hs hgG hok (by omega) hI) rfl (fun h hq62 => ?_)
              obtain ⟨kn2, hI2, hQ2⟩ := hq62
              refine r_iload (pc2 := 67) 4 dX0_bestGoer_65 rfl rfl ?_
              refine r_icmp_ne (tgt := 73) (pc2 := 70) dX0_bestGoer_67 (by decide) rfl (fun b67 => ?_) (fun b67 => ?_)
              · skip
                obtain ⟨x73, e73⟩ : ∃ z : Int32, z = (nI g) + (1) := ⟨_, rfl⟩
                refine r_iinc (pc2 := 76) (ls2 := [.ref q, .int (nI (tws x)), .int (nI (x / 4096)), .int (nI (dOp a x st)), .int B, .int x73]) (v := x73) 5 dX0_bestGoer_73 rfl (by rw [e73]; rfl) rfl rfl rfl ?_
                refine r_goto (pc2 := 39) dX0_bestGoer_76 (by decide) ?_
                rw [e73, nI_1]
                exact ih (g + 1) h kn2 B (by omega) hBv (by rw [hT]; exact if_neg (fun z => heq z.2)) hI2 (hQ.trans hQ2 hL9.dv.n)
              · exact absurd (b67.trans (hBv hopn)) heq
      · skip
        refine r_iload (pc2 := 41) 5 dX0_bestGoer_39 rfl rfl ?_
        refine r_iconst (pc2 := 42) (v := 4) dX0_bestGoer_41 (by decide) rfl ?_
        refine r_icmp_ge (tgt := 79) (pc2 := 45) dX0_bestGoer_42 (by decide) rfl (fun b42 => ?_) (fun b42 => ?_)
        · exact absurd b42 (nI_ge (b := 4) hlt (by decide))
        · skip
          refine r_iload_n (pc2 := 46) 3 dX0_bestGoer_45 rfl rfl rfl ?_
          refine r_iload (pc2 := 48) 5 dX0_bestGoer_46 rfl rfl ?_
          refine r_ishr (pc2 := 49) dX0_bestGoer_48 rfl ?_
          refine r_iconst (pc2 := 50) (v := 1) dX0_bestGoer_49 (by decide) rfl ?_
          refine r_iand (pc2 := 51) dX0_bestGoer_50 rfl ?_
          refine r_iconst (pc2 := 52) (v := 1) dX0_bestGoer_51 (by decide) rfl ?_
          refine r_icmp_ne (tgt := 73) (pc2 := 55) dX0_bestGoer_52 (by decide) rfl (fun b52 => ?_) (fun b52 => ?_)
          · skip
            obtain ⟨x73, e73⟩ : ∃ z : Int32, z = (nI g) + (1) := ⟨_, rfl⟩
            refine r_iinc (pc2 := 76) (ls2 := [.ref q, .int (nI (tws x)), .int (nI (x / 4096)), .int (nI (dOp a x st)), .int B, .int x73]) (v := x73) 5 dX0_bestGoer_73 rfl (by rw [e73]; rfl) rfl rfl rfl ?_
            refine r_goto (pc2 := 39) dX0_bestGoer_76 (by decide) ?_
            rw [e73, nI_1]
            exact ih (g + 1) h kn B (by omega) hBv (by rw [hT]; exact if_neg (fun z => hb z.1)) hI hQ
          · exact absurd ((bit16 _ ho16 g hlt).mp b52) hb
  by_cases hop : (dOp a x st) = 0
  · skip
    refine Cn.go (ls := [.ref q, .int (nI (tws x)), .int (nI (x / 4096)), .float 0, .float 0, .float 0]) (by decide +kernel) rfl (Nat.le_of_ble_eq_true rfl) ?_
    refine r_aload_n (pc2 := 1) 0 dX0_bestGoer_0 rfl rfl rfl rfl ?_
    refine r_getf (pc2 := 4) (v := .ref (q + 1)) fX0_9 dX0_bestGoer_1 cq (by omega) rfl rfl ?_
    refine r_iconst (pc2 := 5) (v := 0) dX0_bestGoer_4 (by decide) rfl ?_
    refine r_ialdN (pc2 := 6) 0 dX0_bestGoer_5 csd (by omega) rfl (by decide) (by decide) rfl ?_
    refine r_cast (nI st) (hf0) ?_
    refine r_aload_n (pc2 := 7) 0 dX0_bestGoer_6 rfl rfl rfl rfl ?_
    refine r_getf (pc2 := 10) (v := .ref s) fX0_29 dX0_bestGoer_7 cq (by omega) rfl rfl ?_
    refine r_iload_n (pc2 := 11) 1 dX0_bestGoer_10 rfl rfl rfl ?_
    refine r_callV1 (pc2 := 14) (As := [.int (nI (tws x))]) (st := [.int (nI st)]) kX0_43 rfl rfl dX0_bestGoer_11 cs hs64 rfl rfl (Nat.le_of_ble_eq_true rfl) (by omega) (c_pastQ (s := x) hL.dv hst hs.2.1 rfl) rfl (fun h2 hq11 => ?_)
    obtain rfl := hq11.symm
    refine r_iconst (pc2 := 15) (v := -1) dX0_bestGoer_14 (by decide) rfl ?_
    refine r_ixor (pc2 := 16) dX0_bestGoer_15 rfl ?_
    refine r_iand (pc2 := 17) dX0_bestGoer_16 rfl ?_
    refine r_cast (nI (dOp a x st)) (dif_nI _ (by omega) _ (by omega)) ?_
    refine r_istore_n (pc2 := 18) (ls2 := [.ref q, .int (nI (tws x)), .int (nI (x / 4096)), .int (nI (dOp a x st)), .float 0, .float 0]) 3 dX0_bestGoer_17 rfl (by decide) rfl rfl rfl ?_
    refine r_iload_n (pc2 := 19) 3 dX0_bestGoer_18 rfl rfl rfl ?_
    refine r_if_ne (tgt := 26) (pc2 := 22) dX0_bestGoer_19 (by decide) rfl (fun b19 => ?_) (fun b19 => ?_)
    · exact absurd (congrArg nI hop) b19
    · skip
      refine r_iconst (pc2 := 23) (v := 0) dX0_bestGoer_22 (by decide) rfl ?_
      refine r_goto (pc2 := 34) dX0_bestGoer_23 (by decide) ?_
      refine r_istore (pc2 := 36) (ls2 := [.ref q, .int (nI (tws x)), .int (nI (x / 4096)), .int (nI (dOp a x st)), .int 0, .float 0]) 4 dX0_bestGoer_34 (by decide) rfl rfl rfl ?_
      refine r_iconst (pc2 := 37) (v := 0) dX0_bestGoer_36 (by decide) rfl ?_
      refine r_cast (nI 0) (rfl) ?_
      refine r_istore (pc2 := 39) (ls2 := [.ref q, .int (nI (tws x)), .int (nI (x / 4096)), .int (nI (dOp a x st)), .int 0, .int (nI 0)]) 5 dX0_bestGoer_37 (by decide) rfl rfl rfl ?_
      exact loop 4 0 h9 kn 0 (by omega) (fun z => absurd hop z) hE hI GQ.rf
  · skip
    refine Cn.go (ls := [.ref q, .int (nI (tws x)), .int (nI (x / 4096)), .float 0, .float 0, .float 0]) (by decide +kernel) rfl (Nat.le_of_ble_eq_true rfl) ?_
    refine r_aload_n (pc2 := 1) 0 dX0_bestGoer_0 rfl rfl rfl rfl ?_
    refine r_getf (pc2 := 4) (v := .ref (q + 1)) fX0_9 dX0_bestGoer_1 cq (by omega) rfl rfl ?_
    refine r_iconst (pc2 := 5) (v := 0) dX0_bestGoer_4 (by decide) rfl ?_
    refine r_ialdN (pc2 := 6) 0 dX0_bestGoer_5 csd (by omega) rfl (by decide) (by decide) rfl ?_
    refine r_cast (nI st) (hf0) ?_
    refine r_aload_n (pc2 := 7) 0 dX0_bestGoer_6 rfl rfl rfl rfl ?_
    refine r_getf (pc2 := 10) (v := .ref s) fX0_29 dX0_bestGoer_7 cq (by omega) rfl rfl ?_
    refine r_iload_n (pc2 := 11) 1 dX0_bestGoer_10 rfl rfl rfl ?_
    refine r_callV1 (pc2 := 14) (As := [.int (nI (tws x))]) (st := [.int (nI st)]) kX0_43 rfl rfl dX0_bestGoer_11 cs hs64 rfl rfl (Nat.le_of_ble_eq_true rfl) (by omega) (c_pastQ (s := x) hL.dv hst hs.2.1 rfl) rfl (fun h2 hq11 => ?_)
    obtain rfl := hq11.symm
    refine r_iconst (pc2 := 15) (v := -1) dX0_bestGoer_14 (by decide) rfl ?_
    refine r_ixor (pc2 := 16) dX0_bestGoer_15 rfl ?_
    refine r_iand (pc2 := 17) dX0_bestGoer_16 rfl ?_
    refine r_cast (nI (dOp a x st)) (dif_nI _ (by omega) _ (by omega)) ?_
    refine r_istore_n (pc2 := 18) (ls2 := [.ref q, .int (nI (tws x)), .int (nI (x / 4096)), .int (nI (dOp a x st)), .float 0, .float 0]) 3 dX0_bestGoer_17 rfl (by decide) rfl rfl rfl ?_
    refine r_iload_n (pc2 := 19) 3 dX0_bestGoer_18 rfl rfl rfl ?_
    refine r_if_ne (tgt := 26) (pc2 := 22) dX0_bestGoer_19 (by decide) rfl (fun b19 => ?_) (fun b19 => ?_)
    · skip
      refine r_aload_n (pc2 := 27) 0 dX0_bestGoer_26 rfl rfl rfl rfl ?_
      refine r_iload_n (pc2 := 28) 1 dX0_bestGoer_27 rfl rfl rfl ?_
      refine r_iload_n (pc2 := 29) 2 dX0_bestGoer_28 rfl rfl rfl ?_
      refine r_iconst (pc2 := 30) (v := 0) dX0_bestGoer_29 (by decide) rfl ?_
      refine r_iconst (pc2 := 31) (v := 0) dX0_bestGoer_30 (by decide) rfl ?_
      refine r_callV1 (pc2 := 34) (As := [.int (nI (tws x)), .int (nI (x / 4096)), .int 0, .int 0]) (st := []) kX0_47 rfl rfl dX0_bestGoer_31 cq (by omega) rfl rfl (Nat.le_of_ble_eq_true rfl) (by omega) (c_bestOf0 hX hs hdz hop (by omega) hI) rfl (fun h hq31 => ?_)
      obtain ⟨kn2, hI2, hQ2⟩ := hq31
      refine r_topi (fun x34 e34 => ?_)
      refine r_istore (pc2 := 36) (ls2 := [.ref q, .int (nI (tws x)), .int (nI (x / 4096)), .int (nI (dOp a x st)), .int x34, .float 0]) 4 dX0_bestGoer_34 (by decide) rfl rfl rfl ?_
      refine r_iconst (pc2 := 37) (v := 0) dX0_bestGoer_36 (by decide) rfl ?_
      refine r_cast (nI 0) (rfl) ?_
      refine r_istore (pc2 := 39) (ls2 := [.ref q, .int (nI (tws x)), .int (nI (x / 4096)), .int (nI (dOp a x st)), .int x34, .int (nI 0)]) 5 dX0_bestGoer_37 (by decide) rfl rfl rfl ?_
      rw [e34]
      exact loop 4 0 h kn2 _ (by omega) (fun _ => rfl) hE hI2 hQ2
    · exact absurd (nI_z0 (by omega) b19) hop
set_option maxRecDepth 20000 in
set_option maxHeartbeats 1000000 in
theorem c_drinit {E : EnvT} {d : Nat} {h0 : Hp} {q : Nat} {V0 : GV} {V1 V2 V4 : Value} (cq : h0.1 q = some (.inr (0, [.null, .null, .int 0, .null, .int 0, .null]))) (c82 : h0.1 82 = some (.inr (2, [.ref V0.1, V1, V2, .ref 87, V4, .ref 88, .ref 89]))) (hq : 139 ≤ q) (hn : h0.2.1 = q + 1) (hd : 1 ≤ d) : Cn E mX0_init d [.ref q, .ref 82] h0 (fun r h2 => r = none ∧ h2.2.1 = q + 3 ∧ h2.2.2 = h0.2.2 + 48022 ∧ Gx [q] h0 h2 ∧ h2.1 q = some (.inr (0, drL q V0.1 0 0)) ∧ h2.1 (q + 1) = some (aI 2 (upd (fun _ => 0) 0 (-1))) ∧ h2.1 (q + 2) = some (aI 48020 (fun _ => 0))) := by
  have hgx : Gx [q] h0 h0 := Gx.rf
  have hV0 := V0.2
  refine Cn.go (ls := [.ref q, .ref 82]) (by decide +kernel) rfl (Nat.le_of_ble_eq_true rfl) ?_
  refine r_aload_n (pc2 := 1) 0 dX0_init_0 rfl rfl rfl rfl ?_
  refine r_objInit (pc2 := 4) oX0_3 dX0_init_1 (by omega) (Nat.le_of_ble_eq_true rfl) (by omega) rfl ?_
  refine r_aload_n (pc2 := 5) 0 dX0_init_4 rfl rfl rfl rfl ?_
  refine r_iconst (pc2 := 6) (v := 2) dX0_init_5 (by decide) rfl ?_
  refine r_newiX (pc2 := 8) (N := 2) aC_int dX0_init_6 (by decide) (by decide) (by decide) rfl (by omega) (fun n1 h en1 zc6 zs6 o6 c_n1 => ?_)
  have cq := (o6 q (by omega)).trans cq
  have c82 := (o6 82 (by omega)).trans c82
  have hgx := hgx.fresh (a := n1) (by have := hgx.1; omega) o6 (by omega)
  refine r_putFX (pc2 := 11) [.null, .null, .int 0, .ref n1, .int 0, .null] FX0_9 rfl dX0_init_8 cq (by omega) (Nat.le_of_ble_eq_true rfl) (okA (by omega)) rfl rfl (fun h z8 o8 cq => ?_)
  have c82 := (o8 82 (by omega)).trans c82
  have c_n1 := (o8 n1 (by omega)).trans c_n1
  have hgx := hgx.step (a := q) (by simp) o8 z8
  have y1z8 := congrArg Prod.fst z8
  have y2z8 := congrArg Prod.snd z8
  refine r_aload_n (pc2 := 12) 0 dX0_init_11 rfl rfl rfl rfl ?_
  refine r_ldc (pc2 := 14) (v := 48020) qX0_15 dX0_init_12 rfl ?_
  refine r_newiX (pc2 := 16) (N := 48020) aC_int dX0_init_14 (by decide) (by decide) (by decide) rfl (by omega) (fun n2 h en2 zc14 zs14 o14 c_n2 => ?_)
  have cq := (o14 q (by omega)).trans cq
  have c82 := (o14 82 (by omega)).trans c82
  have c_n1 := (o14 n1 (by omega)).trans c_n1
  have hgx := hgx.fresh (a := n2) (by have := hgx.1; omega) o14 (by omega)
  refine r_putFX (pc2 := 19) [.null, .null, .int 0, .ref n1, .int 0, .ref n2] FX0_16 rfl dX0_init_16 cq (by omega) (Nat.le_of_ble_eq_true rfl) (okA (by omega)) rfl rfl (fun h z16 o16 cq => ?_)
  have c82 := (o16 82 (by omega)).trans c82
  have c_n1 := (o16 n1 (by omega)).trans c_n1
  have c_n2 := (o16 n2 (by omega)).trans c_n2
  have hgx := hgx.step (a := q) (by simp) o16 z16
  have y1z16 := congrArg Prod.fst z16
  have y2z16 := congrArg Prod.snd z16
  refine r_aload_n (pc2 := 20) 0 dX0_init_19 rfl rfl rfl rfl ?_
  refine r_aload_n (pc2 := 21) 1 dX0_init_20 rfl rfl rfl rfl ?_
  refine r_putFX (pc2 := 24) [.ref 82, .null, .int 0, .ref n1, .int 0, .ref n2] FX0_19 rfl dX0_init_21 cq (by omega) (Nat.le_of_ble_eq_true rfl) rfl rfl rfl (fun h z21 o21 cq => ?_)
  have c82 := (o21 82 (by omega)).trans c82
  have c_n1 := (o21 n1 (by omega)).trans c_n1
  have c_n2 := (o21 n2 (by omega)).trans c_n2
  have hgx := hgx.step (a := q) (by simp) o21 z21
  have y1z21 := congrArg Prod.fst z21
  have y2z21 := congrArg Prod.snd z21
  refine r_aload_n (pc2 := 25) 0 dX0_init_24 rfl rfl rfl rfl ?_
  refine r_aload_n (pc2 := 26) 1 dX0_init_25 rfl rfl rfl rfl ?_
  refine r_getf (pc2 := 29) (v := .ref V0.1) fX0_23 dX0_init_26 c82 (by decide) rfl rfl ?_
  refine r_putfX (pc2 := 32) [.ref 82, .ref V0.1, .int 0, .ref n1, .int 0, .ref n2] fX0_29 dX0_init_29 cq (by omega) (Nat.le_of_ble_eq_true rfl) (okO V0.2) rfl rfl (fun h z29 o29 cq => ?_)
  have c82 := (o29 82 (by omega)).trans c82
  have c_n1 := (o29 n1 (by omega)).trans c_n1
  have c_n2 := (o29 n2 (by omega)).trans c_n2
  have hgx := hgx.step (a := q) (by simp) o29 z29
  have y1z29 := congrArg Prod.fst z29
  have y2z29 := congrArg Prod.snd z29
  refine r_aload_n (pc2 := 33) 0 dX0_init_32 rfl rfl rfl rfl ?_
  refine r_getf (pc2 := 36) (v := .ref n1) fX0_9 dX0_init_33 cq (by omega) rfl rfl ?_
  refine r_iconst (pc2 := 37) (v := 0) dX0_init_36 (by decide) rfl ?_
  refine r_iconst (pc2 := 38) (v := -1) dX0_init_37 (by decide) rfl ?_
  have hgx9 := hgx
  have hgx : Gx [q, n1] h0 h := hgx.mono (by simp)
  refine r_iastN (pc2 := 39) 0 dX0_init_38 c_n1 (by omega) rfl (by decide) (by decide) rfl (fun h z38 o38 c_n1 => ?_)
  have cq := (o38 q (by omega)).trans cq
  have c82 := (o38 82 (by omega)).trans c82
  have c_n2 := (o38 n2 (by omega)).trans c_n2
  have hgx := hgx.step (a := n1) (by simp) o38 z38
  have y1z38 := congrArg Prod.fst z38
  have y2z38 := congrArg Prod.snd z38
  obtain rfl : n1 = q + 1 := by omega
  obtain rfl : n2 = q + 2 := by omega
  exact r_vret rfl dX0_init_39 ⟨rfl, by omega, by omega, ⟨by omega, fun y hy hn => (o38 y (by omega)).trans (hgx9.2 y hy hn)⟩, cq, c_n1, c_n2⟩
