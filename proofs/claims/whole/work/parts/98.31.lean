/-! the class: side, daring, dares -/
set_option maxRecDepth 20000 in
set_option maxHeartbeats 1000000 in
theorem c_side {E : EnvT} {d : Nat} {h0 : Hp} {Z : Nat → Prop} {reg : Nat → FR} {ns s sg kd : Nat} {a b : FR} {q st cnt : Nat} {T : Int32} (hP : DRP Z h0 reg ns q cnt) (hW : WD Z kd q) (hL : LQ Z h0 reg ns s sg (a 27) kd b) (hA : AIN a) (hst : Stat a b) (hst9 : st < 2 ^ (a 3)) (hc : cnt < 9000) (eT : T = nI st) : Cn E mX0_side d [.ref q, .int T] h0 (fun r h2 => r = none ∧ ∃ (sp : Nat) (kn : Nat → Int32), DRI Z reg ns s sg kd a b q st sp kn h2 ∧ sp ≤ cnt + 1 ∧ GQ [q, q + 1] kd h0 h2 kd) := by
  subst eT
  obtain ⟨hq2, ws, wd, sp, fs, kn, hws, hspc, cq, csd, ckn, hKB, hF⟩ := hP
  have hq139 := hW.1
  have hqk := hW.2.1
  have hqs := hW.2.2 s hL.2.2.2.2.2.2.2.2.1
  have hG := hA.G
  have hC6 := hA.C
  have hp16 := pw16 hG
  have hp0 : 0 < 2 ^ (a 3) := Nat.pow_pos (by decide)
  have hs64 := hL.dv.s64
  have hzs := hL.dv.zs
  have hns := hL.2.2.2.2.2.2.1
  have hsgn := hL.2.2.2.2.2.1
  have st3 : a 3 = b 3 := hst 3 (by omega)
  have c82 := hL.1.1
  obtain ⟨lo, so9, sa, nl, sl, cs⟩ := hL.dv.cs
  by_cases hne : ws = s ∧ wd = nI (a 27) ∧ fs 0 = nI st
  · obtain ⟨e1, rfl, e3⟩ := hne
    have e1 := e1.symm
    subst e1
    rcases hF with f1 | ⟨sgw, st2, c, f1, f2, f3, f4, ⟨f5, f5b⟩, ⟨f6, f6b⟩, f7, f8⟩
    · exact absurd (e3.symm.trans f1) (nI_nm1 (by omega))
    · have e2 : sg = sgw := (f1.same hL.2.1 (by omega) (by omega)).symm
      subst e2
      have hreg := hL.2.2.2.2.1
      rw [← hreg] at f3 f4
      have e27 : a 27 = c 27 := (nI_eq (by have := hA.dr; omega) (by omega)).mp f5
      have ec3 : a 3 = c 3 := (hst 3 (by omega)).trans (f4 3 (by omega)).symm
      have est : st = st2 := (nI_eq (by omega) (by have := pw16 (a := c) (by omega); omega)).mp (e3.symm.trans f6)
      subst est
      have e5 : fs 1 = nI (ownS a st 1) := by rw [ownS_stat ec3]; exact f7
      have hKV : KnV a st sp kn := fun x9 f9 hx9 => by
        rw [dV_stat hst f4 f3.1 e27, ownS_stat ec3]
        exact f8 x9 f9 (by rw [SG_stat f4, ← SG_stat hst]; exact hx9)
      have e3 : fs 0 = nI (ownS a st 0) := e3
      refine Cn.go (ls := [.ref q, .int (nI st)]) (by decide +kernel) rfl (Nat.le_of_ble_eq_true rfl) ?_
      refine r_aload_n (pc2 := 1) 0 dX0_side_0 rfl rfl rfl rfl ?_
      refine r_getf (pc2 := 4) (v := .ref s) fX0_29 dX0_side_1 cq (by omega) rfl rfl ?_
      refine r_aload_n (pc2 := 5) 0 dX0_side_4 rfl rfl rfl rfl ?_
      refine r_getf (pc2 := 8) (v := .ref 82) fX0_19 dX0_side_5 cq (by omega) rfl rfl ?_
      refine r_getf (pc2 := 11) (v := .ref s) fX0_23 dX0_side_8 c82 (by decide) rfl rfl ?_
      refine r_acmp_ne (tgt := 38) (pc2 := 14) dX0_side_11 hs64 hs64 (by decide) rfl (fun b11 => ?_) (fun b11 => ?_)
      · exact absurd rfl b11
      · skip
        refine r_aload_n (pc2 := 15) 0 dX0_side_14 rfl rfl rfl rfl ?_
        refine r_getf (pc2 := 18) (v := .int (nI (a 27))) fX0_30 dX0_side_15 cq (by omega) rfl rfl ?_
        refine r_aload_n (pc2 := 19) 0 dX0_side_18 rfl rfl rfl rfl ?_
        refine r_getf (pc2 := 22) (v := .ref 82) fX0_19 dX0_side_19 cq (by omega) rfl rfl ?_
        refine r_getf (pc2 := 25) (v := .int (nI (a 27))) fX0_34 dX0_side_22 c82 (by decide) rfl rfl ?_
        refine r_icmp_ne (tgt := 38) (pc2 := 28) dX0_side_25 (by decide) rfl (fun b25 => ?_) (fun b25 => ?_)
        · exact absurd rfl b25
        · skip
          refine r_aload_n (pc2 := 29) 0 dX0_side_28 rfl rfl rfl rfl ?_
          refine r_getf (pc2 := 32) (v := .ref (q + 1)) fX0_9 dX0_side_29 cq (by omega) rfl rfl ?_
          refine r_iconst (pc2 := 33) (v := 0) dX0_side_32 (by decide) rfl ?_
          refine r_ialdN (pc2 := 34) 0 dX0_side_33 csd (by omega) rfl (by decide) (by decide) rfl ?_
          refine r_iload_n (pc2 := 35) 1 dX0_side_34 rfl rfl rfl ?_
          refine r_icmp_eq (tgt := 98) (pc2 := 38) dX0_side_35 (by decide) rfl (fun b35 => ?_) (fun b35 => ?_)
          · skip
            exact r_vret rfl dX0_side_98 ⟨rfl, sp, kn, ⟨cq, ⟨fs, csd, e3, e5⟩, ckn, hKB, hKV, hL⟩, by omega, GQ.rf⟩
          · exact absurd e3 b35
  · have anew : Fr E mX0_side d 38 [.ref q, .int (nI st)] [] h0 (fun r h2 => r = none ∧ ∃ (sp : Nat) (kn : Nat → Int32), DRI Z reg ns s sg kd a b q st sp kn h2 ∧ sp ≤ cnt + 1 ∧ GQ [q, q + 1] kd h0 h2 kd) := by
      skip
      refine r_aload_n (pc2 := 39) 0 dX0_side_38 rfl rfl rfl rfl ?_
      refine r_aload_n (pc2 := 40) 0 dX0_side_39 rfl rfl rfl rfl ?_
      refine r_getf (pc2 := 43) (v := .ref 82) fX0_19 dX0_side_40 cq (by omega) rfl rfl ?_
      refine r_getf (pc2 := 46) (v := .ref s) fX0_23 dX0_side_43 c82 (by decide) rfl rfl ?_
      refine r_putfX (pc2 := 49) [.ref 82, .ref s, .int wd, .ref (q + 1), .int (nI sp), .ref (q + 2)] fX0_29 dX0_side_46 cq (by omega) (Nat.le_of_ble_eq_true rfl) (okO hs64) rfl rfl (fun h z46 o46 cq => ?_)
      have csd := (o46 (q + 1) (by omega)).trans csd
      have ckn := (o46 (q + 2) (by omega)).trans ckn
      have c82 := (o46 82 (by omega)).trans c82
      have cs := (o46 s (by omega)).trans cs
      have hQ := (GQ.rf (S := [q, q + 1]) (kd := kd) (h := h0))
      have hxw : Ex [q] _ h := ⟨z46, fun y hy => o46 y (by simpa using hy)⟩
      have hL := hL.ex hxw (hW.off (by simp))
      have hQ := hQ.wr hxw (by simp)
      refine r_aload_n (pc2 := 50) 0 dX0_side_49 rfl rfl rfl rfl ?_
      refine r_aload_n (pc2 := 51) 0 dX0_side_50 rfl rfl rfl rfl ?_
      refine r_getf (pc2 := 54) (v := .ref 82) fX0_19 dX0_side_51 cq (by omega) rfl rfl ?_
      refine r_getf (pc2 := 57) (v := .int (nI (a 27))) fX0_34 dX0_side_54 c82 (by decide) rfl rfl ?_
      refine r_putfX (pc2 := 60) [.ref 82, .ref s, .int (nI (a 27)), .ref (q + 1), .int (nI sp), .ref (q + 2)] fX0_30 dX0_side_57 cq (by omega) (Nat.le_of_ble_eq_true rfl) rfl rfl rfl (fun h z57 o57 cq => ?_)
      have csd := (o57 (q + 1) (by omega)).trans csd
      have ckn := (o57 (q + 2) (by omega)).trans ckn
      have c82 := (o57 82 (by omega)).trans c82
      have cs := (o57 s (by omega)).trans cs
      have hxw : Ex [q] _ h := ⟨z57, fun y hy => o57 y (by simpa using hy)⟩
      have hL := hL.ex hxw (hW.off (by simp))
      have hQ := hQ.wr hxw (by simp)
      refine r_aload_n (pc2 := 61) 0 dX0_side_60 rfl rfl rfl rfl ?_
      refine r_getf (pc2 := 64) (v := .ref (q + 1)) fX0_9 dX0_side_61 cq (by omega) rfl rfl ?_
      refine r_iconst (pc2 := 65) (v := 0) dX0_side_64 (by decide) rfl ?_
      refine r_iload_n (pc2 := 66) 1 dX0_side_65 rfl rfl rfl ?_
      refine r_iastN (pc2 := 67) 0 dX0_side_66 csd (by omega) rfl (by decide) (by decide) rfl (fun h z66 o66 csd => ?_)
      have cq := (o66 q (by omega)).trans cq
      have ckn := (o66 (q + 2) (by omega)).trans ckn
      have c82 := (o66 82 (by omega)).trans c82
      have cs := (o66 s (by omega)).trans cs
      have hxw : Ex [q + 1] _ h := ⟨z66, fun y hy => o66 y (by simpa using hy)⟩
      have hL := hL.ex hxw (hW.off (by simp))
      have hQ := hQ.wr hxw (by simp)
      refine r_aload_n (pc2 := 68) 0 dX0_side_67 rfl rfl rfl rfl ?_
      refine r_getf (pc2 := 71) (v := .ref (q + 1)) fX0_9 dX0_side_68 cq (by omega) rfl rfl ?_
      refine r_iconst (pc2 := 72) (v := 1) dX0_side_71 (by decide) rfl ?_
      refine r_iconst (pc2 := 73) (v := 1) dX0_side_72 (by decide) rfl ?_
      refine r_aload_n (pc2 := 74) 0 dX0_side_73 rfl rfl rfl rfl ?_
      refine r_getf (pc2 := 77) (v := .ref s) fX0_29 dX0_side_74 cq (by omega) rfl rfl ?_
      refine r_getf (pc2 := 80) (v := .int (nI (b 3))) fX0_35 dX0_side_77 cs hs64 rfl rfl ?_
      refine r_ishl (pc2 := 81) dX0_side_80 rfl ?_
      refine r_cast (nI (2 ^ (a 3))) (by rw [← st3]; exact shl1 _ (by omega)) ?_
      refine r_iconst (pc2 := 82) (v := 1) dX0_side_81 (by decide) rfl ?_
      refine r_isub (pc2 := 83) dX0_side_82 rfl ?_
      refine r_cast (nI (2 ^ (a 3) - 1)) (pm1 (by omega)) ?_
      refine r_iload_n (pc2 := 84) 1 dX0_side_83 rfl rfl rfl ?_
      refine r_iconst (pc2 := 85) (v := -1) dX0_side_84 (by decide) rfl ?_
      refine r_ixor (pc2 := 86) dX0_side_85 rfl ?_
      refine r_iand (pc2 := 87) dX0_side_86 rfl ?_
      refine r_cast (nI (dif (2 ^ (a 3) - 1) st)) (dif_nI _ (pw_lt (a 3) (by omega)) _ (by omega)) ?_
      refine r_iastN (pc2 := 88) 1 dX0_side_87 csd (by omega) rfl (by decide) (by decide) rfl (fun h z87 o87 csd => ?_)
      have cq := (o87 q (by omega)).trans cq
      have ckn := (o87 (q + 2) (by omega)).trans ckn
      have c82 := (o87 82 (by omega)).trans c82
      have cs := (o87 s (by omega)).trans cs
      have hxw : Ex [q + 1] _ h := ⟨z87, fun y hy => o87 y (by simpa using hy)⟩
      have hL := hL.ex hxw (hW.off (by simp))
      have hQ := hQ.wr hxw (by simp)
      refine r_aload_n (pc2 := 89) 0 dX0_side_88 rfl rfl rfl rfl ?_
      refine r_dup (pc2 := 90) dX0_side_89 rfl rfl ?_
      refine r_getf (pc2 := 93) (v := .int (nI sp)) fX0_40 dX0_side_90 cq (by omega) rfl rfl ?_
      refine r_iconst (pc2 := 94) (v := 1) dX0_side_93 (by decide) rfl ?_
      refine r_iadd (pc2 := 95) dX0_side_94 rfl ?_
      refine r_cast (nI (sp + 1)) (nI_1 _) ?_
      refine r_putfX (pc2 := 98) [.ref 82, .ref s, .int (nI (a 27)), .ref (q + 1), .int (nI (sp + 1)), .ref (q + 2)] fX0_40 dX0_side_95 cq (by omega) (Nat.le_of_ble_eq_true rfl) rfl rfl rfl (fun h z95 o95 cq => ?_)
      have csd := (o95 (q + 1) (by omega)).trans csd
      have ckn := (o95 (q + 2) (by omega)).trans ckn
      have c82 := (o95 82 (by omega)).trans c82
      have cs := (o95 s (by omega)).trans cs
      have hxw : Ex [q] _ h := ⟨z95, fun y hy => o95 y (by simpa using hy)⟩
      have hL := hL.ex hxw (hW.off (by simp))
      have hQ := hQ.wr hxw (by simp)
      exact r_vret rfl dX0_side_98 ⟨rfl, sp + 1, kn, ⟨cq, ⟨_, csd, (if_neg (by decide)).trans (if_pos rfl), if_pos rfl⟩, ckn, fun p hp => by obtain ⟨k, v, k1, k2, k3⟩ := hKB p hp; exact ⟨k, v, k1, k2, by omega⟩, fun x9 f9 hx9 hd9 hf9 he => by
  obtain ⟨k, v, k1, k2, k3⟩ := hKB (2 * cst x9 + f9) (by have := cst_lt hx9 hC6; omega)
  rw [k1, sh2 (by omega) k2] at he
  have := (nI_eq (by omega) (by omega)).mp he
  omega, hL⟩, by omega, hQ⟩
    refine Cn.go (ls := [.ref q, .int (nI st)]) (by decide +kernel) rfl (Nat.le_of_ble_eq_true rfl) ?_
    refine r_aload_n (pc2 := 1) 0 dX0_side_0 rfl rfl rfl rfl ?_
    refine r_getf (pc2 := 4) (v := .ref ws) fX0_29 dX0_side_1 cq (by omega) rfl rfl ?_
    refine r_aload_n (pc2 := 5) 0 dX0_side_4 rfl rfl rfl rfl ?_
    refine r_getf (pc2 := 8) (v := .ref 82) fX0_19 dX0_side_5 cq (by omega) rfl rfl ?_
    refine r_getf (pc2 := 11) (v := .ref s) fX0_23 dX0_side_8 c82 (by decide) rfl rfl ?_
    refine r_acmp_ne (tgt := 38) (pc2 := 14) dX0_side_11 hws hs64 (by decide) rfl (fun b11 => ?_) (fun b11 => ?_)
    · skip
      exact anew
    · skip
      refine r_aload_n (pc2 := 15) 0 dX0_side_14 rfl rfl rfl rfl ?_
      refine r_getf (pc2 := 18) (v := .int wd) fX0_30 dX0_side_15 cq (by omega) rfl rfl ?_
      refine r_aload_n (pc2 := 19) 0 dX0_side_18 rfl rfl rfl rfl ?_
      refine r_getf (pc2 := 22) (v := .ref 82) fX0_19 dX0_side_19 cq (by omega) rfl rfl ?_
      refine r_getf (pc2 := 25) (v := .int (nI (a 27))) fX0_34 dX0_side_22 c82 (by decide) rfl rfl ?_
      refine r_icmp_ne (tgt := 38) (pc2 := 28) dX0_side_25 (by decide) rfl (fun b25 => ?_) (fun b25 => ?_)
      · skip
        exact anew
      · skip
        refine r_aload_n (pc2 := 29) 0 dX0_side_28 rfl rfl rfl rfl ?_
        refine r_getf (pc2 := 32) (v := .ref (q + 1)) fX0_9 dX0_side_29 cq (by omega) rfl rfl ?_
        refine r_iconst (pc2 := 33) (v := 0) dX0_side_32 (by decide) rfl ?_
        refine r_ialdN (pc2 := 34) 0 dX0_side_33 csd (by omega) rfl (by decide) (by decide) rfl ?_
        refine r_iload_n (pc2 := 35) 1 dX0_side_34 rfl rfl rfl ?_
        refine r_icmp_eq (tgt := 98) (pc2 := 38) dX0_side_35 (by decide) rfl (fun b35 => ?_) (fun b35 => ?_)
        · exact absurd ⟨b11, b25, b35⟩ hne
        · skip
          exact anew
def drIn (dt : Value) (y : Nat) : Prop := ∃ q : Nat, dt = .ref q ∧ q ≤ y ∧ y ≤ q + 2
def MKd (Z : Nat → Prop) (h : Hp) (reg : Nat → FR) (ns kd : Nat) (dt : Value) (cnt : Nat) : Prop := dt = .null ∨ ∃ q : Nat, dt = .ref q ∧ WD Z kd q ∧ DRP Z h reg ns q cnt
def DKR (Z : Nat → Prop) (s ns w1 w2 : Nat) (wk dt : Value) (h0 : Hp) (kd : Nat) (a : FR) (q kd2 : Nat) (h2 : Hp) : Prop := WD Z kd2 q ∧ q + 2 < h2.2.1 ∧ (dt = .ref q ∨ (dt = .null ∧ h0.2.1 ≤ q)) ∧ RmE 0 0 h0 h2 wk dt kd wk (.ref q) kd2 ∧ Gx (64 :: [q, q + 1, q + 2] ++ [82, 87, 88, 89, kd]) h0 h2 ∧ h2.1 64 = some (.inr (9, coL s ns (a 45) w1 w2 wk (.ref q))) ∧ h2.1 76 = some (.inr (5, sdL (keepV a)))
theorem DKR.step {S : List Nat} {Z : Nat → Prop} {s ns w1 w2 : Nat} {wk dt : Value} {h0 h1 h2 : Hp} {kd : Nat} {a : FR} {q kd2 : Nat} (x : DKR Z s ns w1 w2 wk dt h0 kd a q kd2 h1) (g : GQ S kd2 h1 h2 kd2) (hS : ∀ y ∈ S, q ≤ y ∧ y ≤ q + 2) (hn : 139 ≤ h1.2.1) (hk : kd2 = 0 ∨ 139 ≤ kd2) : DKR Z s ns w1 w2 wk dt h0 kd a q kd2 h2 := by
  obtain ⟨x1, x2, x3, x4, x5, x6, x7⟩ := x
  have e : h2.2 = h1.2 := by
    rcases g.1 with z | z
    · exact z.2
    · omega
  have hq := x1.1
  have hqk := x1.2.1
  have ns64 : 64 ∉ S ∧ 76 ∉ S := ⟨fun m => by have := hS _ m; omega, fun m => by have := hS _ m; omega⟩
  refine ⟨x1, by rw [e]; exact x2, x3, ?_, ⟨by rw [e]; exact x5.1, fun y hy hn2 => ?_⟩, g.get (by omega) ns64.1 (by omega) x6, g.get (by omega) ns64.2 (by omega) x7⟩
  · unfold RmE at x4 ⊢
    rw [e]
    exact x4
  · have hl := x5.1
    refine (g.2.2 y (by omega) (fun m => hn2 ?_)).trans (x5.2 y hy hn2)
    rcases List.mem_append.mp m with z | z
    · have v := hS y z
      simp
      omega
    · simp at z ⊢
      rcases x4.2.2.2.1 with v | v <;> omega
def LDk (Z : Nat → Prop) (reg : Nat → FR) (s ns sg w1 w2 : Nat) (wk dt : Value) (h0 : Hp) (kd : Nat) (a b : FR) (st cnt : Nat) (v : Value) (h2 : Hp) : Prop := ∃ (q kd2 sp : Nat) (kn : Nat → Int32), v = .ref q ∧ DKR Z s ns w1 w2 wk dt h0 kd a q kd2 h2 ∧ DRI Z reg ns s sg kd2 a b q st sp kn h2 ∧ sp ≤ cnt + 1
set_option maxRecDepth 20000 in
set_option maxHeartbeats 1000000 in
theorem c_layDares {E : EnvT} {d : Nat} {h0 : Hp} {ns s w1 w2 : Nat} {wk dt : Value} {Z : Nat → Prop} {reg : Nat → FR} {sg kd : Nat} {a b : FR} {st cnt : Nat} (hN : NW h0 s ns w1 w2 wk dt a) (hD : DV Z h0 reg ns s sg kd b) (hA : AIN a) (hst : Stat a b) (hMK : MKd Z h0 reg ns kd dt cnt) (hc : cnt < 9000) (hkl : kd < h0.2.1) (hst9 : st < 2 ^ (a 3)) (hd : 3 ≤ d) : Cn E mX9_layDares d [.ref 64, .int (nI st)] h0 (fun r h2 => ∃ v, r = some v ∧ LDk Z reg s ns sg w1 w2 wk dt h0 kd a b st cnt v h2) := by
  obtain ⟨c64, c76, _, _⟩ := id hN
  have hn0 := hD.n
  have hk0 := hD.k0
  have rest : ∀ (q : Nat) (h : Hp), (dt = .ref q ∨ (dt = .null ∧ h0.2.1 ≤ q)) → RmE 0 0 h0 h wk dt kd wk (.ref q) kd → Gx (64 :: [q, q + 1, q + 2] ++ [82, 87, 88, 89, kd]) h0 h → WD Z kd q → DV Z h reg ns s sg kd b → DRP Z h reg ns q cnt → kd < h.2.1 → h.1 64 = some (.inr (9, coL s ns (a 45) w1 w2 wk (.ref q))) → h.1 76 = some (.inr (5, sdL (keepV a))) → Fr E mX9_layDares d 22 [.ref 64, .int (nI st)] [] h (fun r h2 => ∃ v, r = some v ∧ LDk Z reg s ns sg w1 w2 wk dt h0 kd a b st cnt v h2) := by
    intro q h hdt hRm hGx hWq hD hP hkl c64 c76
    have hn1 := hD.n
    obtain ⟨⟨V0, V1, V2, c82⟩, _⟩ := id hD.1
    obtain ⟨lo, so9, sa, nl, sl, cs⟩ := hD.cs
    refine r_aload_n (pc2 := 23) 0 dX9_layDares_22 rfl rfl rfl rfl ?_
    refine r_getf (pc2 := 26) (v := .ref 82) fX9_55 dX9_layDares_23 c64 (by decide) rfl rfl ?_
    refine r_aload_n (pc2 := 27) 0 dX9_layDares_26 rfl rfl rfl rfl ?_
    refine r_getf (pc2 := 30) (v := .ref s) fX9_21 dX9_layDares_27 c64 (by decide) rfl rfl ?_
    refine r_aload_n (pc2 := 31) 0 dX9_layDares_30 rfl rfl rfl rfl ?_
    refine r_getf (pc2 := 34) (v := .ref 76) fX9_28 dX9_layDares_31 c64 (by decide) rfl rfl ?_
    refine r_getf (pc2 := 37) (v := .int (nI ((keepV a) 5))) fX9_127 dX9_layDares_34 c76 (by decide) rfl rfl ?_
    refine r_callV0 (pc2 := 40) (As := [.ref s, .int (nI ((keepV a) 5))]) (st := []) kX9_130 rfl rfl dX9_layDares_37 c82 (by decide) rfl rfl (Nat.le_of_ble_eq_true rfl) (by omega) (c_takeQ (dr := a 27) hD hA.dr rfl) rfl (fun h hq37 => ?_)
    obtain ⟨kd2, hKQ, hL, hg1⟩ := hq37
    have c64 := hg1.get (by simp) (by omega) c64
    have c76 := hg1.get (by simp) (by omega) c76
    have hq2 := hP.1
    have hq139 := hWq.1
    have hk2 := hL.dv.k0
    have hWq2 : WD Z kd2 q := ⟨hWq.1, by rcases hKQ with z | z; rw [z.1]; exact hWq.2.1; omega, hWq.2.2⟩
    have hP := hP.frame (h2 := h) (cnt2 := cnt) (fun y h1 h2 => hg1.2 y (by omega) (by simp; omega)) hg1.1 (fun y z => ⟨z, hD.2.2.1.gx hg1 (fun u m => by simp at m; rw [m]; exact fun w => by have := hD.2.2.1 82 w; omega) y z⟩) (fun _ _ => rfl) (Nat.le_refl _) (Nat.le_refl _)
    obtain ⟨_, ws, wd, sp, fs, kn, _, _, cq, _⟩ := id hP
    have hL9 := hL
    have hw1 : DKR Z s ns w1 w2 wk dt h0 kd a q kd2 h := ⟨hWq2, by have := hg1.1; omega, hdt, hRm.trans (hKQ.rm hD.n) hn0, ⟨Nat.le_trans hGx.1 hg1.1, fun y hy hn2 => (hg1.2 y (by have := hGx.1; omega) (fun m => hn2 (by simp at m ⊢; omega))).trans (hGx.2 y hy (fun m => hn2 (by simp at m ⊢; omega)))⟩, c64, c76⟩
    refine r_aload_n (pc2 := 41) 0 dX9_layDares_40 rfl rfl rfl rfl ?_
    refine r_getf (pc2 := 44) (v := .ref q) fX9_337 dX9_layDares_41 c64 (by decide) rfl rfl ?_
    refine r_iload_n (pc2 := 45) 1 dX9_layDares_44 rfl rfl rfl ?_
    refine r_callV0 (pc2 := 48) (As := [.int (nI st)]) (st := []) kX9_344 rfl rfl dX9_layDares_45 cq (by omega) rfl rfl (Nat.le_of_ble_eq_true rfl) (by omega) (c_side hP hWq2 hL hA hst hst9 hc rfl) rfl (fun h hq45 => ?_)
    obtain ⟨sp2, kn2, hI, hsp2, hQ2⟩ := hq45
    have c64 := hQ2.get (by have := hg1.1; omega) (by simp; omega) (by omega) c64
    refine r_aload_n (pc2 := 49) 0 dX9_layDares_48 rfl rfl rfl rfl ?_
    refine r_getf (pc2 := 52) (v := .ref q) fX9_337 dX9_layDares_49 c64 (by decide) rfl rfl ?_
    exact r_aret rfl (Or.inl ⟨_, rfl⟩) rfl dX9_layDares_52 ⟨_, rfl, q, kd2, sp2, kn2, rfl, hw1.step hQ2 (fun y m => by simp at m; omega) hL9.dv.n hL9.dv.k0, hI, hsp2⟩
  rcases hMK with rfl | ⟨q, rfl, hWq, hP⟩
  · obtain ⟨⟨V0, V1, V2, c82⟩, _⟩ := id hD.1
    refine Cn.go (ls := [.ref 64, .int (nI st)]) (by decide +kernel) rfl (Nat.le_of_ble_eq_true rfl) ?_
    refine r_aload_n (pc2 := 1) 0 dX9_layDares_0 rfl rfl rfl rfl ?_
    refine r_getf (pc2 := 4) (v := .null) fX9_337 dX9_layDares_1 c64 (by decide) rfl rfl ?_
    refine r_ifnonnullN (pc2 := 7) dX9_layDares_4 rfl ?_
    refine r_aload_n (pc2 := 8) 0 dX9_layDares_7 rfl rfl rfl rfl ?_
    refine r_newX (pc2 := 11) nX9_341 dX9_layDares_8 rfl (by omega) (fun q h eq zc8 zs8 o8 c_q => ?_)
    have c64 := (o8 64 (by omega)).trans c64
    have c76 := (o8 76 (by omega)).trans c76
    have c82 := (o8 82 (by omega)).trans c82
    refine r_dup (pc2 := 12) dX9_layDares_11 rfl rfl ?_
    refine r_aload_n (pc2 := 13) 0 dX9_layDares_12 rfl rfl rfl rfl ?_
    refine r_getf (pc2 := 16) (v := .ref 82) fX9_55 dX9_layDares_13 c64 (by decide) rfl rfl ?_
    refine r_callI0 (pc2 := 19) (As := [.ref 82]) (st := [.ref q, .ref 64]) kX9_343 dX9_layDares_16 (by omega) rfl rfl (Nat.le_of_ble_eq_true rfl) (by omega) (c_drinit (q := q) c_q c82 (by omega) (by omega) (by omega)) rfl (fun h hq16 => ?_)
    obtain ⟨i1, i2, i3, j0, j1, j2⟩ := hq16
    have c64 := i3.get (by simp; omega) (by omega) c64
    have c76 := i3.get (by simp; omega) (by omega) c76
    refine r_putfX (pc2 := 22) [.ref 65, .int (nI ns), .ref s, .ref 76, .ref 77, .ref 78, .int (nI (a 45)), .ref 79, .ref 80, .ref 81, .ref 82, .ref 90, .ref 94, .ref w1, .ref w2, wk, .ref q] fX9_337 dX9_layDares_19 c64 (by decide) (Nat.le_of_ble_eq_true rfl) (okO (by omega)) rfl rfl (fun h z19 o19 c64 => ?_)
    have c76 := (o19 76 (by decide)).trans c76
    have j0 := (o19 q (by omega)).trans j0
    have hgx : Gx [64] h0 h := ⟨by have := congrArg Prod.fst z19; omega, fun y hy hn => (o19 y (by simpa using hn)).trans ((i3.2 y (by omega) (by simp; omega)).trans (o8 y (by omega)))⟩
    have hhn := congrArg Prod.fst z19
    have hhs := congrArg Prod.snd z19
    have oq : ∀ y, q ≤ y → h.1 y = _ := fun y hy => o19 y (by omega)
    exact rest q h (Or.inr ⟨rfl, by omega⟩) (by unfold RmE ptC ptS isN; refine ⟨by omega, by simp; omega, by simp; omega, Or.inl rfl, fun _ => by omega⟩) (hgx.mono (by simp)) ⟨by omega, Or.inl (by omega), fun y z => by have := (hD.2.2.1 y z).2.2; omega⟩ (hD.fresh hgx (hD.offl (by simp)) hkl) ⟨by omega, V0.1, 0, 0, _, fun _ => 0, V0.2, Nat.zero_le _, j0, (oq (q + 1) (by omega)).trans j1, (oq (q + 2) (by omega)).trans j2, fun p hp => ⟨0, 0, rfl, by decide, Nat.le_refl _⟩, Or.inl (if_pos rfl)⟩ (by omega) c64 c76
  · have hq139 := hWq.1
    refine Cn.go (ls := [.ref 64, .int (nI st)]) (by decide +kernel) rfl (Nat.le_of_ble_eq_true rfl) ?_
    refine r_aload_n (pc2 := 1) 0 dX9_layDares_0 rfl rfl rfl rfl ?_
    refine r_getf (pc2 := 4) (v := .ref q) fX9_337 dX9_layDares_1 c64 (by decide) rfl rfl ?_
    refine r_ifnonnull (tgt := 22) dX9_layDares_4 (by omega) (by decide) ?_
    exact rest q h0 (Or.inl rfl) ⟨Nat.le_refl _, Nat.le_refl _, Nat.le_refl _, Or.inl rfl, fun z => z⟩ Gx.rf hWq hD hP hkl c64 c76
def FrD (dt : Value) (kd : Nat) (h0 h2 : Hp) : Prop := h0.2.1 ≤ h2.2.1 ∧ ∀ y, y < h0.2.1 → y ≠ 64 → ¬ drIn dt y → (y ≠ 82 ∧ y ≠ 87 ∧ y ≠ 88 ∧ y ≠ 89 ∧ y ≠ kd) → h2.1 y = h0.1 y
def QDk (Z : Nat → Prop) (reg : Nat → FR) (s ns sg w1 w2 : Nat) (wk dt : Value) (h0 : Hp) (kd : Nat) (a b : FR) (cnt : Nat) (r0 : Value) : Option Value → Hp → Prop := fun r h2 => r = some r0 ∧ ∃ (dt2 : Value) (kd2 : Nat), RmE 0 0 h0 h2 wk dt kd wk dt2 kd2 ∧ MKd Z h2 reg ns kd2 dt2 (cnt + 1) ∧ DV Z h2 reg ns s sg kd2 b ∧ FrD dt kd h0 h2 ∧ NW h2 s ns w1 w2 wk dt2 a
theorem MKd.more {Z : Nat → Prop} {h : Hp} {reg : Nat → FR} {ns kd cnt cnt2 : Nat} {dt : Value} (x : MKd Z h reg ns kd dt cnt) (e : cnt ≤ cnt2) : MKd Z h reg ns kd dt cnt2 := by
  rcases x with x | ⟨q, x1, x2, x3⟩
  · exact Or.inl x
  · exact Or.inr ⟨q, x1, x2, x3.frame (fun _ _ _ => rfl) (Nat.le_refl _) (fun y z => ⟨z, rfl⟩) (fun _ _ => rfl) (Nat.le_refl _) e⟩
theorem QDk.same {Z : Nat → Prop} {reg : Nat → FR} {s ns sg w1 w2 : Nat} {wk dt : Value} {h0 : Hp} {kd : Nat} {a b : FR} {cnt : Nat} {r0 : Value} (hM : MKd Z h0 reg ns kd dt cnt) (hD : DV Z h0 reg ns s sg kd b) (hN : NW h0 s ns w1 w2 wk dt a) : QDk Z reg s ns sg w1 w2 wk dt h0 kd a b cnt r0 (some r0) h0 := ⟨rfl, dt, kd, RmE.rf, hM.more (by omega), hD, ⟨Nat.le_refl _, fun _ _ _ _ _ => rfl⟩, hN⟩
theorem DKR.fin {Z : Nat → Prop} {reg : Nat → FR} {s ns sg w1 w2 : Nat} {wk dt : Value} {h0 h1 h2 : Hp} {kd : Nat} {a b : FR} {r0 : Value} {q kd2 st sp cnt : Nat} {kn kn2 : Nat → Int32} (hR : DKR Z s ns w1 w2 wk dt h0 kd a q kd2 h1) (hI1 : DRI Z reg ns s sg kd2 a b q st sp kn h1) (hX : DCx Z reg ns s sg kd2 a b q st sp) (hQ : GQ [q + 2] kd2 h1 h2 kd2) (hI : DRI Z reg ns s sg kd2 a b q st sp kn2 h2) (hsp : sp ≤ cnt + 1) (hN : NW h0 s ns w1 w2 wk dt a) (hn0 : 139 ≤ h0.2.1) (hk0 : kd = 0 ∨ 139 ≤ kd) : QDk Z reg s ns sg w1 w2 wk dt h0 kd a b cnt r0 (some r0) h2 := by
  have hL1 := hI1.2.2.2.2.2
  have hL2 := hI.2.2.2.2.2
  have hA := hX.1
  have hS := hR.step hQ (fun y m => by simp at m; omega) hL1.dv.n hL1.dv.k0
  obtain ⟨s1, s2, s3, s4, s5, s6, s7⟩ := hS
  have hq139 := s1.1
  have hF : FrD dt kd h0 h2 := ⟨s5.1, fun y hy h64 hw h5 => s5.2 y hy (fun m => by
    rcases s3 with v | v
    · exact hw ⟨q, v, by simp at m; omega, by simp at m; omega⟩
    · simp at m; omega)⟩
  have hw0 : ∀ y, y < 139 → ¬ drIn dt y := fun y hy ⟨q9, e9, l9, _⟩ => by
    rcases s3 with v | v
    · rw [v] at e9; have e8 : q = q9 := Value.ref.inj e9; omega
    · rw [v.1] at e9; cases e9
  refine ⟨rfl, .ref q, kd2, s4, Or.inr ⟨q, rfl, s1, hI.keep hX s2 hsp⟩, hL2.dv, hF, s6, s7, hN.2.2.1.ex (hF.2 77 (by omega) (by omega) (hw0 77 (by omega)) (by omega)), hN.2.2.2.frame hA.nd (fun y hy => hF.2 y (by omega) (by omega) (hw0 y (by omega)) (by omega))⟩
set_option maxRecDepth 20000 in
set_option maxHeartbeats 1000000 in
theorem cl_daring {E : EnvT} {d : Nat} {h0 : Hp} {ns s w1 w2 : Nat} {wk dt : Value} {Z : Nat → Prop} {reg : Nat → FR} {sg kd : Nat} {a b : FR} {cnt : Nat} {y : Int32} (hN : NW h0 s ns w1 w2 wk dt a) (hD : DV Z h0 reg ns s sg kd b) (hA : AIN a) (hst : Stat a b) (hMK : MKd Z h0 reg ns kd dt cnt) (hc : cnt < 9000) (hkl : kd < h0.2.1) (hd : 90 ≤ d) : Cn E mX9_daring d [.ref 64, .int y] h0 (QDk Z reg s ns sg w1 w2 wk dt h0 kd a b cnt (.int (daringF a y))) := by
  obtain ⟨c64, c76, _, _⟩ := id hN
  have hn0 := hD.n
  have hk0 := hD.k0
  have hs64 := hD.s64
  have hG9 := hD.G
  have hG := hA.G
  have hp16 := pw16 hA.G
  have st3 : a 3 = b 3 := hst 3 (by omega)
  obtain ⟨lo, so9, sa, nl, sl, cs⟩ := hD.cs
  by_cases hv : vS (a 3) y.toInt64
  · by_cases hz : a 26 = 0
    · skip
      refine Cn.go (ls := [.ref 64, .int y]) (by decide +kernel) rfl (Nat.le_of_ble_eq_true rfl) ?_
      refine r_aload_n (pc2 := 1) 0 dX9_daring_0 rfl rfl rfl rfl ?_
      refine r_iload_n (pc2 := 2) 1 dX9_daring_1 rfl rfl rfl ?_
      refine r_i2l (pc2 := 3) dX9_daring_2 rfl ?_
      refine r_callV1 (pc2 := 6) (As := [.long (Int32.toInt64 y)]) (st := []) kX9_144 rfl rfl dX9_daring_3 c64 (by decide) rfl rfl (Nat.le_of_ble_eq_true rfl) (by omega) ((c_isSetC c64 cs hs64 hG9).mono fun r h2 q => ⟨q.1.trans (by rw [← st3, if_pos hv]), q.2⟩) rfl (fun h2 hq3 => ?_)
      obtain rfl := hq3.symm
      refine r_if_ne (tgt := 12) (pc2 := 9) dX9_daring_6 (by decide) rfl (fun b6 => ?_) (fun b6 => ?_)
      · skip
        refine r_aload_n (pc2 := 13) 0 dX9_daring_12 rfl rfl rfl rfl ?_
        refine r_getf (pc2 := 16) (v := .ref 76) fX9_28 dX9_daring_13 c64 (by decide) rfl rfl ?_
        refine r_getf (pc2 := 19) (v := .int (nI ((keepV a) 4))) fX9_137 dX9_daring_16 c76 (by decide) rfl rfl ?_
        refine r_if_ne (tgt := 25) (pc2 := 22) dX9_daring_19 (by decide) rfl (fun b19 => ?_) (fun b19 => ?_)
        · exact absurd (congrArg nI hz) b19
        · skip
          refine r_bipush (pc2 := 24) (v := -5) dX9_daring_22 (by decide) rfl ?_
          exact r_iret rfl dX9_daring_24 (by rw [show daringF a y = -5 by unfold daringF ndF; rw [if_pos hv, if_pos hz, if_neg (by decide)]]; exact QDk.same hMK hD hN)
      · exact absurd b6 (by decide)
    · obtain ⟨t, ht1, ht16, rfl⟩ := vS_i hA.G hv
      refine Cn.go (ls := [.ref 64, .int (nI t)]) (by decide +kernel) rfl (Nat.le_of_ble_eq_true rfl) ?_
      refine r_aload_n (pc2 := 1) 0 dX9_daring_0 rfl rfl rfl rfl ?_
      refine r_iload_n (pc2 := 2) 1 dX9_daring_1 rfl rfl rfl ?_
      refine r_i2l (pc2 := 3) dX9_daring_2 rfl ?_
      refine r_callV1 (pc2 := 6) (As := [.long (Int32.toInt64 (nI t))]) (st := []) kX9_144 rfl rfl dX9_daring_3 c64 (by decide) rfl rfl (Nat.le_of_ble_eq_true rfl) (by omega) ((c_isSetC c64 cs hs64 hG9).mono fun r h2 q => ⟨q.1.trans (by rw [← st3, if_pos hv]), q.2⟩) rfl (fun h2 hq3 => ?_)
      obtain rfl := hq3.symm
      refine r_if_ne (tgt := 12) (pc2 := 9) dX9_daring_6 (by decide) rfl (fun b6 => ?_) (fun b6 => ?_)
      · skip
        refine r_aload_n (pc2 := 13) 0 dX9_daring_12 rfl rfl rfl rfl ?_
        refine r_getf (pc2 := 16) (v := .ref 76) fX9_28 dX9_daring_13 c64 (by decide) rfl rfl ?_
        refine r_getf (pc2 := 19) (v := .int (nI ((keepV a) 4))) fX9_137 dX9_daring_16 c76 (by decide) rfl rfl ?_
        refine r_if_ne (tgt := 25) (pc2 := 22) dX9_daring_19 (by decide) rfl (fun b19 => ?_) (fun b19 => ?_)
        · skip
          refine r_aload_n (pc2 := 26) 0 dX9_daring_25 rfl rfl rfl rfl ?_
          refine r_iload_n (pc2 := 27) 1 dX9_daring_26 rfl rfl rfl ?_
          refine r_callV2 (pc2 := 30) (As := [.int (nI t)]) (st := []) kX9_347 rfl rfl dX9_daring_27 c64 (by decide) rfl rfl (Nat.le_of_ble_eq_true rfl) (by omega) (c_layDares (st := t) (cnt := cnt) hN hD hA hst hMK hc hkl ht1 (by omega)) rfl (fun v27 h hq27 => ?_)
          obtain ⟨q, kd2, sp, kn, rfl, hR, hI, hsp⟩ := hq27
          obtain ⟨cq, _⟩ := id hI
          have c64 := hR.2.2.2.2.2.1
          have c76 := hR.2.2.2.2.2.2
          have hq139 := hR.1.1
          have hX : DCx Z reg ns s sg kd2 a b q t sp := ⟨hA, hst, hR.1, ht1, by omega⟩
          refine r_aload_n (pc2 := 31) 0 dX9_daring_30 rfl rfl rfl rfl ?_
          refine r_getf (pc2 := 34) (v := .ref 76) fX9_28 dX9_daring_31 c64 (by decide) rfl rfl ?_
          refine r_getf (pc2 := 37) (v := .int (nI (tow (keepV a)))) fX9_114 dX9_daring_34 c76 (by decide) rfl rfl ?_
          refine r_cast (nI (tws (packS a))) (by rw [tow_tws hA]) ?_
          refine r_aload_n (pc2 := 38) 0 dX9_daring_37 rfl rfl rfl rfl ?_
          refine r_getf (pc2 := 41) (v := .ref 76) fX9_28 dX9_daring_38 c64 (by decide) rfl rfl ?_
          refine r_getf (pc2 := 44) (v := .int (nI ((keepV a) 4))) fX9_137 dX9_daring_41 c76 (by decide) rfl rfl ?_
          refine r_cast (nI (packS a / 4096)) (by rw [hA.pdep]; rfl) ?_
          refine r_iconst (pc2 := 45) (v := 0) dX9_daring_44 (by decide) rfl ?_
          refine r_iconst (pc2 := 46) (v := 0) dX9_daring_45 (by decide) rfl ?_
          refine r_callV1 (pc2 := 49) (As := [.int (nI (tws (packS a))), .int (nI (packS a / 4096)), .int 0, .int 0]) (st := []) kX9_351 rfl rfl dX9_daring_46 cq (by omega) rfl rfl (Nat.le_of_ble_eq_true rfl) (by omega) (c_outcome hX (SG.now hA) (by rw [hA.pdep]; exact hz) (by omega) hI) rfl (fun h hq46 => ?_)
          obtain ⟨kn2, hI2, hQ2⟩ := hq46
          exact r_iret rfl dX9_daring_49 (by rw [show daringF a (nI t) = (dV a (packS a) t) by unfold daringF ndF; rw [if_pos hv, if_neg hz, if_pos rfl, nI_clamp (by omega)]]; exact hR.fin hI hX hQ2 hI2 hsp hN hn0 hk0)
        · exact absurd (nI_z0 (by have := hA.dp; omega) (show nI (a 26) = 0 from b19)) hz
      · exact absurd b6 (by decide)
  · skip
    refine Cn.go (ls := [.ref 64, .int y]) (by decide +kernel) rfl (Nat.le_of_ble_eq_true rfl) ?_
    refine r_aload_n (pc2 := 1) 0 dX9_daring_0 rfl rfl rfl rfl ?_
    refine r_iload_n (pc2 := 2) 1 dX9_daring_1 rfl rfl rfl ?_
    refine r_i2l (pc2 := 3) dX9_daring_2 rfl ?_
    refine r_callV1 (pc2 := 6) (As := [.long (Int32.toInt64 y)]) (st := []) kX9_144 rfl rfl dX9_daring_3 c64 (by decide) rfl rfl (Nat.le_of_ble_eq_true rfl) (by omega) ((c_isSetC c64 cs hs64 hG9).mono fun r h2 q => ⟨q.1.trans (by rw [← st3, if_neg hv]), q.2⟩) rfl (fun h2 hq3 => ?_)
    obtain rfl := hq3.symm
    refine r_if_ne (tgt := 12) (pc2 := 9) dX9_daring_6 (by decide) rfl (fun b6 => ?_) (fun b6 => ?_)
    · exact absurd b6 (by decide)
    · skip
      refine r_bipush (pc2 := 11) (v := -3) dX9_daring_9 (by decide) rfl ?_
      exact r_iret rfl dX9_daring_11 (by rw [show daringF a y = -3 by unfold daringF ndF; rw [if_neg hv, if_neg (by decide)]]; exact QDk.same hMK hD hN)
set_option maxRecDepth 20000 in
set_option maxHeartbeats 1000000 in
theorem cl_dares {E : EnvT} {d : Nat} {h0 : Hp} {ns s w1 w2 : Nat} {wk dt : Value} {Z : Nat → Prop} {reg : Nat → FR} {sg kd : Nat} {a b : FR} {cnt : Nat} {y : Int32} (hN : NW h0 s ns w1 w2 wk dt a) (hD : DV Z h0 reg ns s sg kd b) (hA : AIN a) (hst : Stat a b) (hMK : MKd Z h0 reg ns kd dt cnt) (hc : cnt < 9000) (hkl : kd < h0.2.1) (hd : 90 ≤ d) : Cn E mX9_dares d [.ref 64, .int y] h0 (QDk Z reg s ns sg w1 w2 wk dt h0 kd a b cnt (.int (daresF a y))) := by
  obtain ⟨c64, c76, _, _⟩ := id hN
  have hn0 := hD.n
  have hk0 := hD.k0
  have hs64 := hD.s64
  have hG9 := hD.G
  have hG := hA.G
  have hp16 := pw16 hA.G
  have st3 : a 3 = b 3 := hst 3 (by omega)
  obtain ⟨lo, so9, sa, nl, sl, cs⟩ := hD.cs
  by_cases hv : vS (a 3) y.toInt64
  · by_cases hz : a 26 = 0
    · skip
      refine Cn.go (ls := [.ref 64, .int y]) (by decide +kernel) rfl (Nat.le_of_ble_eq_true rfl) ?_
      refine r_aload_n (pc2 := 1) 0 dX9_dares_0 rfl rfl rfl rfl ?_
      refine r_iload_n (pc2 := 2) 1 dX9_dares_1 rfl rfl rfl ?_
      refine r_i2l (pc2 := 3) dX9_dares_2 rfl ?_
      refine r_callV1 (pc2 := 6) (As := [.long (Int32.toInt64 y)]) (st := []) kX9_144 rfl rfl dX9_dares_3 c64 (by decide) rfl rfl (Nat.le_of_ble_eq_true rfl) (by omega) ((c_isSetC c64 cs hs64 hG9).mono fun r h2 q => ⟨q.1.trans (by rw [← st3, if_pos hv]), q.2⟩) rfl (fun h2 hq3 => ?_)
      obtain rfl := hq3.symm
      refine r_if_ne (tgt := 12) (pc2 := 9) dX9_dares_6 (by decide) rfl (fun b6 => ?_) (fun b6 => ?_)
      · skip
        refine r_aload_n (pc2 := 13) 0 dX9_dares_12 rfl rfl rfl rfl ?_
        refine r_getf (pc2 := 16) (v := .ref 76) fX9_28 dX9_dares_13 c64 (by decide) rfl rfl ?_
        refine r_getf (pc2 := 19) (v := .int (nI ((keepV a) 4))) fX9_137 dX9_dares_16 c76 (by decide) rfl rfl ?_
        refine r_if_ne (tgt := 25) (pc2 := 22) dX9_dares_19 (by decide) rfl (fun b19 => ?_) (fun b19 => ?_)
        · exact absurd (congrArg nI hz) b19
        · skip
          refine r_bipush (pc2 := 24) (v := -5) dX9_dares_22 (by decide) rfl ?_
          exact r_iret rfl dX9_dares_24 (by rw [show daresF a y = -5 by unfold daresF ndF; rw [if_pos hv, if_pos hz, if_neg (by decide)]]; exact QDk.same hMK hD hN)
      · exact absurd b6 (by decide)
    · obtain ⟨t, ht1, ht16, rfl⟩ := vS_i hA.G hv
      refine Cn.go (ls := [.ref 64, .int (nI t)]) (by decide +kernel) rfl (Nat.le_of_ble_eq_true rfl) ?_
      refine r_aload_n (pc2 := 1) 0 dX9_dares_0 rfl rfl rfl rfl ?_
      refine r_iload_n (pc2 := 2) 1 dX9_dares_1 rfl rfl rfl ?_
      refine r_i2l (pc2 := 3) dX9_dares_2 rfl ?_
      refine r_callV1 (pc2 := 6) (As := [.long (Int32.toInt64 (nI t))]) (st := []) kX9_144 rfl rfl dX9_dares_3 c64 (by decide) rfl rfl (Nat.le_of_ble_eq_true rfl) (by omega) ((c_isSetC c64 cs hs64 hG9).mono fun r h2 q => ⟨q.1.trans (by rw [← st3, if_pos hv]), q.2⟩) rfl (fun h2 hq3 => ?_)
      obtain rfl := hq3.symm
      refine r_if_ne (tgt := 12) (pc2 := 9) dX9_dares_6 (by decide) rfl (fun b6 => ?_) (fun b6 => ?_)
      · skip
        refine r_aload_n (pc2 := 13) 0 dX9_dares_12 rfl rfl rfl rfl ?_
        refine r_getf (pc2 := 16) (v := .ref 76) fX9_28 dX9_dares_13 c64 (by decide) rfl rfl ?_
        refine r_getf (pc2 := 19) (v := .int (nI ((keepV a) 4))) fX9_137 dX9_dares_16 c76 (by decide) rfl rfl ?_
        refine r_if_ne (tgt := 25) (pc2 := 22) dX9_dares_19 (by decide) rfl (fun b19 => ?_) (fun b19 => ?_)
        · skip
          refine r_aload_n (pc2 := 26) 0 dX9_dares_25 rfl rfl rfl rfl ?_
          refine r_iload_n (pc2 := 27) 1 dX9_dares_26 rfl rfl rfl ?_
          refine r_callV2 (pc2 := 30) (As := [.int (nI t)]) (st := []) kX9_347 rfl rfl dX9_dares_27 c64 (by decide) rfl rfl (Nat.le_of_ble_eq_true rfl) (by omega) (c_layDares (st := t) (cnt := cnt) hN hD hA hst hMK hc hkl ht1 (by omega)) rfl (fun v27 h hq27 => ?_)
          obtain ⟨q, kd2, sp, kn, rfl, hR, hI, hsp⟩ := hq27
          obtain ⟨cq, _⟩ := id hI
          have c64 := hR.2.2.2.2.2.1
          have c76 := hR.2.2.2.2.2.2
          have hq139 := hR.1.1
          have hX : DCx Z reg ns s sg kd2 a b q t sp := ⟨hA, hst, hR.1, ht1, by omega⟩
          refine r_aload_n (pc2 := 31) 0 dX9_dares_30 rfl rfl rfl rfl ?_
          refine r_getf (pc2 := 34) (v := .ref 76) fX9_28 dX9_dares_31 c64 (by decide) rfl rfl ?_
          refine r_getf (pc2 := 37) (v := .int (nI (tow (keepV a)))) fX9_114 dX9_dares_34 c76 (by decide) rfl rfl ?_
          refine r_cast (nI (tws (packS a))) (by rw [tow_tws hA]) ?_
          refine r_aload_n (pc2 := 38) 0 dX9_dares_37 rfl rfl rfl rfl ?_
          refine r_getf (pc2 := 41) (v := .ref 76) fX9_28 dX9_dares_38 c64 (by decide) rfl rfl ?_
          refine r_getf (pc2 := 44) (v := .int (nI ((keepV a) 4))) fX9_137 dX9_dares_41 c76 (by decide) rfl rfl ?_
          refine r_cast (nI (packS a / 4096)) (by rw [hA.pdep]; rfl) ?_
          refine r_callV1 (pc2 := 47) (As := [.int (nI (tws (packS a))), .int (nI (packS a / 4096))]) (st := []) kX9_354 rfl rfl dX9_dares_44 cq (by omega) rfl rfl (Nat.le_of_ble_eq_true rfl) (by omega) (c_bestGoer hX (SG.now hA) (by rw [hA.pdep]; exact hz) (by omega) hI) rfl (fun h hq44 => ?_)
          obtain ⟨kn2, hI2, hQ2⟩ := hq44
          exact r_iret rfl dX9_dares_47 (by rw [show daresF a (nI t) = (dFnd (dOp a (packS a) t) (fun g => dBy (dV a) a (packS a) (2 ^ g) t) (dV a (packS a) t) (a 3) 0) by unfold daresF ndF; rw [if_pos hv, if_neg hz, if_pos rfl, nI_clamp (by omega)]]; exact hR.fin hI hX hQ2 hI2 hsp hN hn0 hk0)
        · exact absurd (nI_z0 (by have := hA.dp; omega) (show nI (a 26) = 0 from b19)) hz
      · exact absurd b6 (by decide)
  · skip
    refine Cn.go (ls := [.ref 64, .int y]) (by decide +kernel) rfl (Nat.le_of_ble_eq_true rfl) ?_
    refine r_aload_n (pc2 := 1) 0 dX9_dares_0 rfl rfl rfl rfl ?_
    refine r_iload_n (pc2 := 2) 1 dX9_dares_1 rfl rfl rfl ?_
    refine r_i2l (pc2 := 3) dX9_dares_2 rfl ?_
    refine r_callV1 (pc2 := 6) (As := [.long (Int32.toInt64 y)]) (st := []) kX9_144 rfl rfl dX9_dares_3 c64 (by decide) rfl rfl (Nat.le_of_ble_eq_true rfl) (by omega) ((c_isSetC c64 cs hs64 hG9).mono fun r h2 q => ⟨q.1.trans (by rw [← st3, if_neg hv]), q.2⟩) rfl (fun h2 hq3 => ?_)
    obtain rfl := hq3.symm
    refine r_if_ne (tgt := 12) (pc2 := 9) dX9_dares_6 (by decide) rfl (fun b6 => ?_) (fun b6 => ?_)
    · exact absurd b6 (by decide)
    · skip
      refine r_bipush (pc2 := 11) (v := -3) dX9_dares_9 (by decide) rfl ?_
      exact r_iret rfl dX9_dares_11 (by rw [show daresF a y = -3 by unfold daresF ndF; rw [if_neg hv, if_neg (by decide)]]; exact QDk.same hMK hD hN)
