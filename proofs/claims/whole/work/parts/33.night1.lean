/-! nights, hours -/
def nightT : Nat → Int32 → (Nat → Nat) → Nat → Nat × (Nat → Nat)
  | 0, _, a, n => (n, a)
  | m + 1, x, a, n => if whyD a (lN (drawK x)) = 0 then nightT m (drawX x) (doesN a (drawK x)) (n + 1) else nightT m (drawX x) a n
theorem nightT_ok : ∀ (m : Nat) (x : Int32) (a : Nat → Nat) (n : Nat), AIN a → AIN (nightT m x a n).2 ∧ n ≤ (nightT m x a n).1 ∧ (nightT m x a n).1 ≤ n + m ∧ ((nightT m x a n).1 = n → (nightT m x a n).2 = a) := by
  intro m
  induction m with
  | zero => intro x a n hA; exact ⟨hA, Nat.le_refl _, Nat.le_refl _, fun _ => rfl⟩
  | succ m ih =>
    intro x a n hA
    unfold nightT
    split
    · rename_i h
      obtain ⟨h1, h2, h3, h4⟩ := ih (drawX x) _ (n + 1) (hA.does h (drawK_lt x))
      exact ⟨h1, by omega, by omega, fun q => by omega⟩
    · obtain ⟨h1, h2, h3, h4⟩ := ih (drawX x) a n hA
      exact ⟨h1, by omega, by omega, h4⟩
def nightF (a : Nat → Nat) (x y : Int32) : Int32 := if inR 1 40 y then nI (nightT y.toNatClampNeg x a 0).1 else -3
def nightA (a : Nat → Nat) (x y : Int32) : Nat → Nat := if inR 1 40 y ∧ (nightT y.toNatClampNeg x a 0).1 ≠ 0 then notesN (nightT y.toNatClampNeg x a 0).2 (keepV a) else a
set_option maxRecDepth 20000 in
set_option maxHeartbeats 1000000 in
theorem ref_night {E : EnvT} {d : Nat} {h0 : Hp} {v : Nat → Int32} {a : Nat → Nat} {hi : Nat → Int32} {tp : Nat → Nat} {rs rm : Nat → Int32} {nu : Nat → Int64} {x y : Int32} (hR : RS h0 v a hi tp rs rm nu) (hA : AIN a) (hd : 7 ≤ d) : Cn E mX10_night d [.ref 117, .int x, .int y] h0 (RP (.int (nightF a x y)) h0 v (nightA a x y) hi tp rs rm nu) := by
  obtain ⟨k117, k118, k119, k120, ⟨f121, k121⟩, ⟨f122, k122⟩, ⟨f123, k123⟩, ⟨f124, k124⟩, ⟨f125, k125⟩, ⟨f126, k126⟩, ⟨f127, k127⟩, ⟨f128, k128⟩, ⟨f129, k129⟩, ⟨f130, k130⟩, ⟨f131, k131⟩, ⟨f132, k132⟩, ⟨f133, k133⟩, ⟨f134, k134⟩, ⟨f135, k135⟩, k136, k137, k138⟩ := hR
  have c117 := k117
  have c118 := k118
  have c122 := k122
  have c123 := k123
  have c124 := k124
  have hx : Ex [117, 118, 122, 123, 124] h0 h0 := Ex.rf
  by_cases hv : inR 1 40 y
  · obtain ⟨y, y0, y1, rfl⟩ := inR_of (by decide) (by decide) hv
    have eF : nightF a x (nI y) = nI (nightT y x a 0).1 := by rw [nightF, if_pos hv, nI_clamp (by omega)]
    have eA0 : (nightT y x a 0).1 = 0 → nightA a x (nI y) = a := fun q => by rw [nightA, nI_clamp (by omega), if_neg (fun z => z.2 q)]
    have eA1 : (nightT y x a 0).1 ≠ 0 → nightA a x (nI y) = notesN (nightT y x a 0).2 (keepV a) := fun q => by rw [nightA, nI_clamp (by omega), if_pos ⟨hv, q⟩]
    have loop : ∀ (m k n : Nat) (xx : Int32) (b : Nat → Nat) (h1 : Hp) (f w : Nat → Int32) (u : Value), k + m = y → n ≤ k → AIN b → nightT y x a 0 = nightT m xx b n → (n = 0 → b = a) → Ex [117, 118, 122, 123, 124] h0 h1 → h1.1 117 = some (mO (upd (upd v 0 0) 20 xx)) → h1.1 118 = some (aI 3531 (nA b)) → h1.1 122 = some (aI 900 f) → h1.1 123 = some (aI 9 w) → h1.1 124 = some (aI 23 ((fillN f124 0 23 (fun i => nI (a (22 + i)))))) → Fr E mX10_night d 34 [.ref 117, .int x, .int (nI y), .int (nI n), .int (nI k), u] [] h1 (RP (.int (nightF a x (nI y))) h0 v (nightA a x (nI y)) hi tp rs rm nu) := by
      intro m
      induction m with
      | zero =>
        intro k n xx b h f w u hk hnk hB hT hba hx c117 c118 c122 c123 c124
        obtain rfl : k = y := by omega
        have hT : nightT k x a 0 = (n, b) := hT
        by_cases hn0 : n = 0
        · skip
          refine r_iload (pc2 := 36) 4 dX10_night_34 rfl rfl ?_
          refine r_iload_n (pc2 := 37) 2 dX10_night_36 rfl rfl rfl ?_
          refine r_icmp_ge (tgt := 74) (pc2 := 40) dX10_night_37 (by decide) rfl (fun b37 => ?_) (fun b37 => ?_)
          · skip
            refine r_iload_n (pc2 := 75) 3 dX10_night_74 rfl rfl rfl ?_
            refine r_if_le (tgt := 82) (pc2 := 78) dX10_night_75 (by decide) rfl (fun b75 => ?_) (fun b75 => ?_)
            · skip
              refine r_iload_n (pc2 := 83) 3 dX10_night_82 rfl rfl rfl ?_
              have c118 : h.1 118 = some (aI 3531 (nA a)) := by rw [c118, hba hn0]
              rw [eA0 (by rw [hT]; exact hn0)]
              exact r_iret rfl dX10_night_83 ⟨by rw [eF, hT], (upd (upd v 0 0) 20 xx), ⟨rfl, rfl, rfl⟩, ⟨c117, c118, hx.get (by decide) k119, hx.get (by decide) k120, ⟨_, hx.get (by decide) k121⟩, ⟨_, c122⟩, ⟨_, c123⟩, ⟨_, c124⟩, ⟨_, hx.get (by decide) k125⟩, ⟨_, hx.get (by decide) k126⟩, ⟨_, hx.get (by decide) k127⟩, ⟨_, hx.get (by decide) k128⟩, ⟨_, hx.get (by decide) k129⟩, ⟨_, hx.get (by decide) k130⟩, ⟨_, hx.get (by decide) k131⟩, ⟨_, hx.get (by decide) k132⟩, ⟨_, hx.get (by decide) k133⟩, ⟨_, hx.get (by decide) k134⟩, ⟨_, hx.get (by decide) k135⟩, hx.get (by decide) k136, hx.get (by decide) k137, hx.get (by decide) k138⟩, hx.mono (by decide)⟩
            · exact absurd (by rw [hn0]; decide) b75
          · exact absurd (nI_le (Nat.le_refl _) (by omega)) b37
        · skip
          refine r_iload (pc2 := 36) 4 dX10_night_34 rfl rfl ?_
          refine r_iload_n (pc2 := 37) 2 dX10_night_36 rfl rfl rfl ?_
          refine r_icmp_ge (tgt := 74) (pc2 := 40) dX10_night_37 (by decide) rfl (fun b37 => ?_) (fun b37 => ?_)
          · skip
            refine r_iload_n (pc2 := 75) 3 dX10_night_74 rfl rfl rfl ?_
            refine r_if_le (tgt := 82) (pc2 := 78) dX10_night_75 (by decide) rfl (fun b75 => ?_) (fun b75 => ?_)
            · exact absurd b75 (nI_nle (by omega) (by omega))
            · skip
              refine r_aload_n (pc2 := 79) 0 dX10_night_78 rfl rfl rfl rfl ?_
              refine r_callV0 (pc2 := 82) (As := []) (st := []) kX10_285 rfl rfl dX10_night_79 c117 (by decide) rfl rfl (Nat.le_of_ble_eq_true rfl) (by omega) (c_notes (w := keepV a) c117 c118 c124 keepV_hw hB.nd) rfl (fun h hq79 => ?_)
              obtain ⟨hxn, c118⟩ := hq79
              have c117 := hxn.get (by decide) c117
              have c122 := hxn.get (by decide) c122
              have c123 := hxn.get (by decide) c123
              have c124 := hxn.get (by decide) c124
              have hx := hx.trans hxn (by decide)
              refine r_iload_n (pc2 := 83) 3 dX10_night_82 rfl rfl rfl ?_
              rw [eA1 (by rw [hT]; exact hn0), hT]
              exact r_iret rfl dX10_night_83 ⟨by rw [eF, hT], (upd (upd v 0 0) 20 xx), ⟨rfl, rfl, rfl⟩, ⟨c117, c118, hx.get (by decide) k119, hx.get (by decide) k120, ⟨_, hx.get (by decide) k121⟩, ⟨_, c122⟩, ⟨_, c123⟩, ⟨_, c124⟩, ⟨_, hx.get (by decide) k125⟩, ⟨_, hx.get (by decide) k126⟩, ⟨_, hx.get (by decide) k127⟩, ⟨_, hx.get (by decide) k128⟩, ⟨_, hx.get (by decide) k129⟩, ⟨_, hx.get (by decide) k130⟩, ⟨_, hx.get (by decide) k131⟩, ⟨_, hx.get (by decide) k132⟩, ⟨_, hx.get (by decide) k133⟩, ⟨_, hx.get (by decide) k134⟩, ⟨_, hx.get (by decide) k135⟩, hx.get (by decide) k136, hx.get (by decide) k137, hx.get (by decide) k138⟩, hx.mono (by decide)⟩
          · exact absurd (nI_le (Nat.le_refl _) (by omega)) b37
      | succ m ih =>
        intro k n xx b h f w u hk hnk hB hT hba hx c117 c118 c122 c123 c124
        have hlt : k < y := by omega
        by_cases hw : whyD b (lN (drawK xx)) = 0
        · have hT2 : nightT y x a 0 = nightT m (drawX xx) (doesN b (drawK xx)) (n + 1) := by rw [hT, nightT, if_pos hw]
          refine r_iload (pc2 := 36) 4 dX10_night_34 rfl rfl ?_
          refine r_iload_n (pc2 := 37) 2 dX10_night_36 rfl rfl rfl ?_
          refine r_icmp_ge (tgt := 74) (pc2 := 40) dX10_night_37 (by decide) rfl (fun b37 => ?_) (fun b37 => ?_)
          · exact absurd b37 (nI_ge hlt (by omega))
          · skip
            refine r_aload_n (pc2 := 41) 0 dX10_night_40 rfl rfl rfl rfl ?_
            refine r_callV1 (pc2 := 44) (As := []) (st := []) kX10_341 rfl rfl dX10_night_41 c117 (by decide) rfl rfl (Nat.le_of_ble_eq_true rfl) (by omega) (c_drawn c117 (by omega)) rfl (fun h hq41 => ?_)
            obtain ⟨hxd, c117⟩ := hq41
            have c118 := hxd.get (by decide) c118
            have c122 := hxd.get (by decide) c122
            have c123 := hxd.get (by decide) c123
            have c124 := hxd.get (by decide) c124
            have hx := hx.trans hxd (by decide)
            have c117 : h.1 117 = some (mO (upd (upd v 0 0) 20 (drawX xx))) := by rw [c117]; exact congrArg (fun z => some (mO z)) (upd_upd (upd v 0 0) 20 _ _)
            refine r_istore (pc2 := 46) (ls2 := [.ref 117, .int x, .int (nI y), .int (nI n), .int (nI k), .int (nI (drawK xx))]) 5 dX10_night_44 (by decide) rfl rfl rfl ?_
            refine r_aload_n (pc2 := 47) 0 dX10_night_46 rfl rfl rfl rfl ?_
            refine r_iload (pc2 := 49) 5 dX10_night_47 rfl rfl ?_
            refine r_i2l (pc2 := 50) dX10_night_49 rfl ?_
            refine r_castl (lN (drawK xx)) (nI_l (by have := drawK_lt xx; omega)) ?_
            refine r_callV1 (pc2 := 53) (As := [.long (lN (drawK xx))]) (st := []) kX10_314 rfl rfl dX10_night_50 c117 (by decide) rfl rfl (Nat.le_of_ble_eq_true rfl) (by omega) (c_whyNot (x := lN (drawK xx)) c117 c118 hB (by omega)) rfl (fun h2 hq50 => ?_)
            subst hq50
            refine r_if_eq (tgt := 59) (pc2 := 56) dX10_night_53 (by decide) rfl (fun b53 => ?_) (fun b53 => ?_)
            · skip
              refine r_aload_n (pc2 := 60) 0 dX10_night_59 rfl rfl rfl rfl ?_
              refine r_iload (pc2 := 62) 5 dX10_night_60 rfl rfl ?_
              refine r_callV0 (pc2 := 65) (As := [.int (nI (drawK xx))]) (st := []) kX10_318 rfl rfl dX10_night_62 c117 (by decide) rfl rfl (Nat.le_of_ble_eq_true rfl) (by omega) (c_does (k := drawK xx) c117 c118 c122 c123 hB (drawK_lt xx) hw (by omega)) rfl (fun h hq62 => ?_)
              obtain ⟨hxg, c118, ⟨f2, c122⟩, ⟨w2, c123⟩⟩ := hq62
              have c117 := hxg.get (by decide) c117
              have c124 := hxg.get (by decide) c124
              have hx := hx.trans hxg (by decide)
              obtain ⟨x65, e65⟩ : ∃ z : Int32, z = (nI n) + (1) := ⟨_, rfl⟩
              refine r_iinc (pc2 := 68) (ls2 := [.ref 117, .int x, .int (nI y), .int x65, .int (nI k), .int (nI (drawK xx))]) (v := x65) 3 dX10_night_65 rfl (by rw [e65]; rfl) rfl rfl rfl ?_
              obtain ⟨x68, e68⟩ : ∃ z : Int32, z = (nI k) + (1) := ⟨_, rfl⟩
              refine r_iinc (pc2 := 71) (ls2 := [.ref 117, .int x, .int (nI y), .int x65, .int x68, .int (nI (drawK xx))]) (v := x68) 4 dX10_night_68 rfl (by rw [e68]; rfl) rfl rfl rfl ?_
              refine r_goto (pc2 := 34) dX10_night_71 (by decide) ?_
              rw [e65, e68, nI_1, nI_1]
              exact ih (k + 1) (n + 1) _ _ h _ _ _ (by omega) (by omega) (hB.does hw (drawK_lt xx)) hT2 (fun q => by omega) hx c117 c118 c122 c123 c124
            · exact absurd (by rw [hw]; rfl) b53
        · have hT2 : nightT y x a 0 = nightT m (drawX xx) b n := by rw [hT, nightT, if_neg hw]
          refine r_iload (pc2 := 36) 4 dX10_night_34 rfl rfl ?_
          refine r_iload_n (pc2 := 37) 2 dX10_night_36 rfl rfl rfl ?_
          refine r_icmp_ge (tgt := 74) (pc2 := 40) dX10_night_37 (by decide) rfl (fun b37 => ?_) (fun b37 => ?_)
          · exact absurd b37 (nI_ge hlt (by omega))
          · skip
            refine r_aload_n (pc2 := 41) 0 dX10_night_40 rfl rfl rfl rfl ?_
            refine r_callV1 (pc2 := 44) (As := []) (st := []) kX10_341 rfl rfl dX10_night_41 c117 (by decide) rfl rfl (Nat.le_of_ble_eq_true rfl) (by omega) (c_drawn c117 (by omega)) rfl (fun h hq41 => ?_)
            obtain ⟨hxd, c117⟩ := hq41
            have c118 := hxd.get (by decide) c118
            have c122 := hxd.get (by decide) c122
            have c123 := hxd.get (by decide) c123
            have c124 := hxd.get (by decide) c124
            have hx := hx.trans hxd (by decide)
            have c117 : h.1 117 = some (mO (upd (upd v 0 0) 20 (drawX xx))) := by rw [c117]; exact congrArg (fun z => some (mO z)) (upd_upd (upd v 0 0) 20 _ _)
            refine r_istore (pc2 := 46) (ls2 := [.ref 117, .int x, .int (nI y), .int (nI n), .int (nI k), .int (nI (drawK xx))]) 5 dX10_night_44 (by decide) rfl rfl rfl ?_
            refine r_aload_n (pc2 := 47) 0 dX10_night_46 rfl rfl rfl rfl ?_
            refine r_iload (pc2 := 49) 5 dX10_night_47 rfl rfl ?_
            refine r_i2l (pc2 := 50) dX10_night_49 rfl ?_
            refine r_castl (lN (drawK xx)) (nI_l (by have := drawK_lt xx; omega)) ?_
            refine r_callV1 (pc2 := 53) (As := [.long (lN (drawK xx))]) (st := []) kX10_314 rfl rfl dX10_night_50 c117 (by decide) rfl rfl (Nat.le_of_ble_eq_true rfl) (by omega) (c_whyNot (x := lN (drawK xx)) c117 c118 hB (by omega)) rfl (fun h2 hq50 => ?_)
            subst hq50
            refine r_if_eq (tgt := 59) (pc2 := 56) dX10_night_53 (by decide) rfl (fun b53 => ?_) (fun b53 => ?_)
            · exact absurd (nI_z0 (Nat.lt_of_lt_of_le (whyD_lt _ _) (by decide)) b53) hw
            · skip
              refine r_goto (pc2 := 68) dX10_night_56 (by decide) ?_
              obtain ⟨x68, e68⟩ : ∃ z : Int32, z = (nI k) + (1) := ⟨_, rfl⟩
              refine r_iinc (pc2 := 71) (ls2 := [.ref 117, .int x, .int (nI y), .int (nI n), .int x68, .int (nI (drawK xx))]) (v := x68) 4 dX10_night_68 rfl (by rw [e68]; rfl) rfl rfl rfl ?_
              refine r_goto (pc2 := 34) dX10_night_71 (by decide) ?_
              rw [e68, nI_1]
              exact ih (k + 1) n _ _ _ _ _ _ (by omega) (by omega) hB hT2 hba hx c117 c118 c122 c123 c124
    refine Cn.go (ls := [.ref 117, .int x, .int (nI y), .float 0, .float 0, .float 0]) (by decide +kernel) rfl (Nat.le_of_ble_eq_true rfl) ?_
    refine r_aload_n (pc2 := 1) 0 dX10_night_0 rfl rfl rfl rfl ?_
    refine r_iconst (pc2 := 2) (v := 0) dX10_night_1 (by decide) rfl ?_
    refine r_putfX (pc2 := 5) (moL (upd v 0 0)) fX10_1 dX10_night_2 c117 (by decide) (Nat.le_of_ble_eq_true rfl) rfl rfl rfl (fun h z2 o2 c117 => ?_)
    have c118 := (o2 118 (by decide)).trans c118
    have c122 := (o2 122 (by decide)).trans c122
    have c123 := (o2 123 (by decide)).trans c123
    have c124 := (o2 124 (by decide)).trans c124
    have hx := hx.step (a := 117) (by decide) z2 o2
    refine r_iload_n (pc2 := 6) 2 dX10_night_5 rfl rfl rfl ?_
    refine r_i2l (pc2 := 7) dX10_night_6 rfl ?_
    refine r_lconst (pc2 := 8) (v := 1) dX10_night_7 (by decide) rfl ?_
    refine r_ldc2 (pc2 := 11) (v := 40) qX10_339 dX10_night_8 rfl ?_
    refine r_callS1 (pc2 := 14) (As := [.long (Int32.toInt64 (nI y)), .long 1, .long 40]) (st := []) kX10_152 dX10_night_11 rfl rfl (Nat.le_of_ble_eq_true rfl) (by omega) (c_within (Int32.toInt64 (nI y)) 1 40) rfl (fun h2 hq11 => ?_)
    subst hq11
    refine r_if_ne (tgt := 20) (pc2 := 17) dX10_night_14 (by decide) rfl (fun b14 => ?_) (fun b14 => ?_)
    · skip
      refine r_aload_n (pc2 := 21) 0 dX10_night_20 rfl rfl rfl rfl ?_
      refine r_callV0 (pc2 := 24) (As := []) (st := []) kX10_279 rfl rfl dX10_night_21 c117 (by decide) rfl rfl (Nat.le_of_ble_eq_true rfl) (by omega) (c_keeps c117 c118 c124) rfl (fun h hq21 => ?_)
      obtain ⟨hxk, c124⟩ := hq21
      have c117 := hxk.get (by decide) c117
      have c118 := hxk.get (by decide) c118
      have c122 := hxk.get (by decide) c122
      have c123 := hxk.get (by decide) c123
      have hx := hx.trans hxk (by decide)
      refine r_aload_n (pc2 := 25) 0 dX10_night_24 rfl rfl rfl rfl ?_
      refine r_iload_n (pc2 := 26) 1 dX10_night_25 rfl rfl rfl ?_
      refine r_putfX (pc2 := 29) (moL (upd (upd v 0 0) 20 x)) fX10_333 dX10_night_26 c117 (by decide) (Nat.le_of_ble_eq_true rfl) rfl rfl rfl (fun h z26 o26 c117 => ?_)
      have c118 := (o26 118 (by decide)).trans c118
      have c122 := (o26 122 (by decide)).trans c122
      have c123 := (o26 123 (by decide)).trans c123
      have c124 := (o26 124 (by decide)).trans c124
      have hx := hx.step (a := 117) (by decide) z26 o26
      refine r_iconst (pc2 := 30) (v := 0) dX10_night_29 (by decide) rfl ?_
      refine r_istore_n (pc2 := 31) (ls2 := [.ref 117, .int x, .int (nI y), .int 0, .float 0, .float 0]) 3 dX10_night_30 rfl (by decide) rfl rfl rfl ?_
      refine r_iconst (pc2 := 32) (v := 0) dX10_night_31 (by decide) rfl ?_
      refine r_istore (pc2 := 34) (ls2 := [.ref 117, .int x, .int (nI y), .int 0, .int 0, .float 0]) 4 dX10_night_32 (by decide) rfl rfl rfl ?_
      exact loop y 0 0 x a h _ _ _ (by omega) (Nat.le_refl _) hA rfl (fun _ => rfl) hx c117 c118 c122 c123 c124
    · exact absurd b14 (if1 hv)
  · have eA : nightA a x y = a := by rw [nightA, if_neg (fun z => hv z.1)]
    rw [eA]
    refine Cn.go (ls := [.ref 117, .int x, .int y, .float 0, .float 0, .float 0]) (by decide +kernel) rfl (Nat.le_of_ble_eq_true rfl) ?_
    refine r_aload_n (pc2 := 1) 0 dX10_night_0 rfl rfl rfl rfl ?_
    refine r_iconst (pc2 := 2) (v := 0) dX10_night_1 (by decide) rfl ?_
    refine r_putfX (pc2 := 5) (moL (upd v 0 0)) fX10_1 dX10_night_2 c117 (by decide) (Nat.le_of_ble_eq_true rfl) rfl rfl rfl (fun h z2 o2 c117 => ?_)
    have c118 := (o2 118 (by decide)).trans c118
    have c122 := (o2 122 (by decide)).trans c122
    have c123 := (o2 123 (by decide)).trans c123
    have c124 := (o2 124 (by decide)).trans c124
    have hx := hx.step (a := 117) (by decide) z2 o2
    refine r_iload_n (pc2 := 6) 2 dX10_night_5 rfl rfl rfl ?_
    refine r_i2l (pc2 := 7) dX10_night_6 rfl ?_
    refine r_lconst (pc2 := 8) (v := 1) dX10_night_7 (by decide) rfl ?_
    refine r_ldc2 (pc2 := 11) (v := 40) qX10_339 dX10_night_8 rfl ?_
    refine r_callS1 (pc2 := 14) (As := [.long (Int32.toInt64 y), .long 1, .long 40]) (st := []) kX10_152 dX10_night_11 rfl rfl (Nat.le_of_ble_eq_true rfl) (by omega) (c_within (Int32.toInt64 y) 1 40) rfl (fun h2 hq11 => ?_)
    subst hq11
    refine r_if_ne (tgt := 20) (pc2 := 17) dX10_night_14 (by decide) rfl (fun b14 => ?_) (fun b14 => ?_)
    · exact absurd (if0 hv) b14
    · skip
      refine r_bipush (pc2 := 19) (v := -3) dX10_night_17 (by decide) rfl ?_
      exact r_iret rfl dX10_night_19 ⟨by rw [nightF, if_neg hv], (upd v 0 0), ⟨rfl, rfl, rfl⟩, ⟨c117, c118, hx.get (by decide) k119, hx.get (by decide) k120, ⟨_, hx.get (by decide) k121⟩, ⟨_, c122⟩, ⟨_, c123⟩, ⟨_, c124⟩, ⟨_, hx.get (by decide) k125⟩, ⟨_, hx.get (by decide) k126⟩, ⟨_, hx.get (by decide) k127⟩, ⟨_, hx.get (by decide) k128⟩, ⟨_, hx.get (by decide) k129⟩, ⟨_, hx.get (by decide) k130⟩, ⟨_, hx.get (by decide) k131⟩, ⟨_, hx.get (by decide) k132⟩, ⟨_, hx.get (by decide) k133⟩, ⟨_, hx.get (by decide) k134⟩, ⟨_, hx.get (by decide) k135⟩, hx.get (by decide) k136, hx.get (by decide) k137, hx.get (by decide) k138⟩, hx.mono (by decide)⟩
