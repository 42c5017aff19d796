/-! image, restore, hints -/
def imgF (x : Int32) : Int32 := if inR 0 1 x then 0 else -2
def imgA (a : Nat → Nat) (x : Int32) : Nat → Nat := if inR 0 1 x then fillN a (1177 * (x.toNatClampNeg + 1)) 1177 a else a
def imgH (hi : Nat → Int32) (x : Int32) : Nat → Int32 := if inR 0 1 x then upd hi x.toNatClampNeg 1 else hi
def rstN (a : Nat → Nat) (i : Nat) : Nat → Nat := va_up (fillN a 0 1177 (fun k => a (1177 * (i + 1) + k))) 45 0
abbrev rstC (hi : Nat → Int32) (x : Int32) : Prop := inR 0 1 x ∧ hi x.toNatClampNeg ≠ 0
def rstF (hi : Nat → Int32) (x : Int32) : Int32 := if inR 0 1 x then (if hi x.toNatClampNeg = 0 then -5 else 0) else -2
def rstA (a : Nat → Nat) (hi : Nat → Int32) (x : Int32) : Nat → Nat := if rstC hi x then rstN a x.toNatClampNeg else a
theorem fillN_sv {a : Nat → Nat} {off k : Nat} {g : Nat → Nat} {y : Nat} (h : y = g k) : va_up (fillN a off k g) (off + k) y = fillN a off (k + 1) g := by rw [h, fillN_s]
theorem fillN_sv0 {a : Nat → Nat} {k : Nat} {g : Nat → Nat} {y : Nat} (h : y = g k) : va_up (fillN a 0 k g) k y = fillN a 0 (k + 1) g := by rw [h, fillN_s0]
set_option maxRecDepth 20000 in
set_option maxHeartbeats 1000000 in
theorem ref_image {E : EnvT} {d : Nat} {h0 : Hp} {v : Nat → Int32} {a : Nat → Nat} {hi : Nat → Int32} {tp : Nat → Nat} {rs rm : Nat → Int32} {nu : Nat → Int64} {x : Int32} (hR : RS h0 v a hi tp rs rm nu) (hd : 1 ≤ d) : Cn E mX10_image d [.ref 117, .int x] h0 (RP (.int (imgF x)) h0 v (imgA a x) (imgH hi x) tp rs rm nu) := by
  obtain ⟨k117, k118, k119, k120, ⟨f121, k121⟩, ⟨f122, k122⟩, ⟨f123, k123⟩, ⟨f124, k124⟩, ⟨f125, k125⟩, ⟨f126, k126⟩, ⟨f127, k127⟩, ⟨f128, k128⟩, ⟨f129, k129⟩, ⟨f130, k130⟩, ⟨f131, k131⟩, ⟨f132, k132⟩, ⟨f133, k133⟩, ⟨f134, k134⟩, ⟨f135, k135⟩, k136, k137, k138⟩ := hR
  have c117 := k117
  have c118 := k118
  have c119 := k119
  have hx : Ex [117, 118, 119] h0 h0 := Ex.rf
  by_cases hv : inR 0 1 x
  · have hF : (some (.int 0) : Option Value) = some (.int (imgF x)) := by rw [imgF, if_pos hv]
    rw [imgA, imgH, if_pos hv, if_pos hv]
    obtain ⟨i, i0, i1, rfl⟩ := inR_of (by decide) (by decide) hv
    rw [nI_clamp (by omega)]
    obtain ⟨hi2, hh2⟩ : ∃ z : Nat → Int32, z = upd hi i 1 := ⟨_, rfl⟩
    rw [← hh2]
    have loop : ∀ (m k : Nat) (h1 : Hp), k + m = 1177 → Ex [117, 118, 119] h0 h1 → h1.1 117 = some (mO (upd v 0 0)) → h1.1 118 = some (aI 3531 (nA (fillN a (1177 * (i + 1)) k a))) → h1.1 119 = some (aZ 2 hi) → Fr E mX10_image d 20 [.ref 117, .int (nI i), .int (nI k)] [] h1 (RP (.int (imgF (nI i))) h0 v (fillN a (1177 * (i + 1)) 1177 a) hi2 tp rs rm nu) := by
      intro m
      induction m with
      | zero =>
        intro k h hk hx c117 c118 c119
        obtain rfl : k = 1177 := by omega
        refine r_iload_n (pc2 := 21) 2 dX10_image_20 rfl rfl rfl ?_
        refine r_sipush (pc2 := 24) (v := 1177) dX10_image_21 (by decide) rfl ?_
        refine r_icmp_ge (tgt := 53) (pc2 := 27) dX10_image_24 (by decide) rfl (fun b24 => ?_) (fun b24 => ?_)
        · skip
          refine r_aload_n (pc2 := 54) 0 dX10_image_53 rfl rfl rfl rfl ?_
          refine r_getf (pc2 := 57) (v := .ref 119) fX10_17 dX10_image_54 c117 (by decide) rfl rfl ?_
          refine r_iload_n (pc2 := 58) 1 dX10_image_57 rfl rfl rfl ?_
          refine r_iconst (pc2 := 59) (v := 1) dX10_image_58 (by decide) rfl ?_
          refine r_zastN (pc2 := 60) i dX10_image_59 c119 (by decide) rfl (by omega) (by decide) rfl (fun h z59 o59 c119 => ?_)
          have c117 := (o59 117 (by decide)).trans c117
          have c118 := (o59 118 (by decide)).trans c118
          have hx := hx.step (a := 119) (by decide) z59 o59
          rw [show upd hi i (1 &&& 1) = hi2 from hh2.symm] at c119
          refine r_iconst (pc2 := 61) (v := 0) dX10_image_60 (by decide) rfl ?_
          exact r_iret rfl dX10_image_61 ⟨hF, (upd v 0 0), ⟨rfl, rfl, rfl⟩, ⟨c117, c118, c119, hx.get (by decide) k120, ⟨_, hx.get (by decide) k121⟩, ⟨_, hx.get (by decide) k122⟩, ⟨_, hx.get (by decide) k123⟩, ⟨_, hx.get (by decide) k124⟩, ⟨_, hx.get (by decide) k125⟩, ⟨_, hx.get (by decide) k126⟩, ⟨_, hx.get (by decide) k127⟩, ⟨_, hx.get (by decide) k128⟩, ⟨_, hx.get (by decide) k129⟩, ⟨_, hx.get (by decide) k130⟩, ⟨_, hx.get (by decide) k131⟩, ⟨_, hx.get (by decide) k132⟩, ⟨_, hx.get (by decide) k133⟩, ⟨_, hx.get (by decide) k134⟩, ⟨_, hx.get (by decide) k135⟩, hx.get (by decide) k136, hx.get (by decide) k137, hx.get (by decide) k138⟩, hx.mono (by decide)⟩
        · exact absurd (nI_le (a := 1177) (b := 1177) (Nat.le_refl _) (by decide)) b24
      | succ m ih =>
        intro k h hk hx c117 c118 c119
        have hlt : k < 1177 := by omega
        refine r_iload_n (pc2 := 21) 2 dX10_image_20 rfl rfl rfl ?_
        refine r_sipush (pc2 := 24) (v := 1177) dX10_image_21 (by decide) rfl ?_
        refine r_icmp_ge (tgt := 53) (pc2 := 27) dX10_image_24 (by decide) rfl (fun b24 => ?_) (fun b24 => ?_)
        · exact absurd b24 (nI_ge (b := 1177) hlt (by decide))
        · skip
          refine r_aload_n (pc2 := 28) 0 dX10_image_27 rfl rfl rfl rfl ?_
          refine r_getf (pc2 := 31) (v := .ref 118) fX10_13 dX10_image_28 c117 (by decide) rfl rfl ?_
          refine r_sipush (pc2 := 34) (v := 1177) dX10_image_31 (by decide) rfl ?_
          refine r_iload_n (pc2 := 35) 1 dX10_image_34 rfl rfl rfl ?_
          refine r_iconst (pc2 := 36) (v := 1) dX10_image_35 (by decide) rfl ?_
          refine r_iadd (pc2 := 37) dX10_image_36 rfl ?_
          refine r_cast (nI (i + 1)) (nI_1 _) ?_
          refine r_imul (pc2 := 38) dX10_image_37 rfl ?_
          refine r_cast (nI (1177 * (i + 1))) (pk_mul 1177 _) ?_
          refine r_iload_n (pc2 := 39) 2 dX10_image_38 rfl rfl rfl ?_
          refine r_iadd (pc2 := 40) dX10_image_39 rfl ?_
          refine r_cast (nI (1177 * (i + 1) + k)) (nI_add _ _) ?_
          refine r_aload_n (pc2 := 41) 0 dX10_image_40 rfl rfl rfl rfl ?_
          refine r_getf (pc2 := 44) (v := .ref 118) fX10_13 dX10_image_41 c117 (by decide) rfl rfl ?_
          refine r_iload_n (pc2 := 45) 2 dX10_image_44 rfl rfl rfl ?_
          refine r_ialdA (pc2 := 46) k dX10_image_45 c118 (by decide) rfl (by omega) (by decide) rfl ?_
          refine r_iastN (pc2 := 47) (1177 * (i + 1) + k) dX10_image_46 c118 (by decide) rfl (by omega) (by decide) rfl (fun h z46 o46 c118 => ?_)
          rw [upd_nA] at c118
          have c117 := (o46 117 (by decide)).trans c117
          have c119 := (o46 119 (by decide)).trans c119
          have hx := hx.step (a := 118) (by decide) z46 o46
          obtain ⟨x47, e47⟩ : ∃ z : Int32, z = (nI k) + (1) := ⟨_, rfl⟩
          refine r_iinc (pc2 := 50) (ls2 := [.ref 117, .int (nI i), .int x47]) (v := x47) 2 dX10_image_47 rfl (by rw [e47]; rfl) rfl rfl rfl ?_
          refine r_goto (pc2 := 20) dX10_image_50 (by decide) ?_
          rw [e47, nI_1]
          rw [fillN_sv (fillN_out (by omega))] at c118
          exact ih (k + 1) h (by omega) hx c117 c118 c119
    refine Cn.go (ls := [.ref 117, .int (nI i), .float 0]) (by decide +kernel) rfl (Nat.le_of_ble_eq_true rfl) ?_
    refine r_aload_n (pc2 := 1) 0 dX10_image_0 rfl rfl rfl rfl ?_
    refine r_iconst (pc2 := 2) (v := 0) dX10_image_1 (by decide) rfl ?_
    refine r_putfX (pc2 := 5) (moL (upd v 0 0)) fX10_1 dX10_image_2 c117 (by decide) (Nat.le_of_ble_eq_true rfl) rfl rfl rfl (fun h z2 o2 c117 => ?_)
    have c118 := (o2 118 (by decide)).trans c118
    have c119 := (o2 119 (by decide)).trans c119
    have hx := hx.step (a := 117) (by decide) z2 o2
    refine r_iload_n (pc2 := 6) 1 dX10_image_5 rfl rfl rfl ?_
    refine r_i2l (pc2 := 7) dX10_image_6 rfl ?_
    refine r_lconst (pc2 := 8) (v := 0) dX10_image_7 (by decide) rfl ?_
    refine r_lconst (pc2 := 9) (v := 1) dX10_image_8 (by decide) rfl ?_
    refine r_callS1 (pc2 := 12) (As := [.long (Int32.toInt64 (nI i)), .long 0, .long 1]) (st := []) kX10_152 dX10_image_9 rfl rfl (Nat.le_of_ble_eq_true rfl) (by omega) (c_within (Int32.toInt64 (nI i)) 0 1) rfl (fun h2 hq9 => ?_)
    subst hq9
    refine r_if_ne (tgt := 18) (pc2 := 15) dX10_image_12 (by decide) rfl (fun b12 => ?_) (fun b12 => ?_)
    · skip
      refine r_iconst (pc2 := 19) (v := 0) dX10_image_18 (by decide) rfl ?_
      refine r_istore_n (pc2 := 20) (ls2 := [.ref 117, .int (nI i), .int 0]) 2 dX10_image_19 rfl (by decide) rfl rfl rfl ?_
      rw [← fillN_0 a (1177 * (i + 1)) a] at c118
      exact loop 1177 0 _ (by omega) hx c117 c118 c119
    · exact absurd b12 (if1 hv)
  · rw [imgA, imgH, if_neg hv, if_neg hv]
    refine Cn.go (ls := [.ref 117, .int x, .float 0]) (by decide +kernel) rfl (Nat.le_of_ble_eq_true rfl) ?_
    refine r_aload_n (pc2 := 1) 0 dX10_image_0 rfl rfl rfl rfl ?_
    refine r_iconst (pc2 := 2) (v := 0) dX10_image_1 (by decide) rfl ?_
    refine r_putfX (pc2 := 5) (moL (upd v 0 0)) fX10_1 dX10_image_2 c117 (by decide) (Nat.le_of_ble_eq_true rfl) rfl rfl rfl (fun h z2 o2 c117 => ?_)
    have c118 := (o2 118 (by decide)).trans c118
    have c119 := (o2 119 (by decide)).trans c119
    have hx := hx.step (a := 117) (by decide) z2 o2
    refine r_iload_n (pc2 := 6) 1 dX10_image_5 rfl rfl rfl ?_
    refine r_i2l (pc2 := 7) dX10_image_6 rfl ?_
    refine r_lconst (pc2 := 8) (v := 0) dX10_image_7 (by decide) rfl ?_
    refine r_lconst (pc2 := 9) (v := 1) dX10_image_8 (by decide) rfl ?_
    refine r_callS1 (pc2 := 12) (As := [.long (Int32.toInt64 x), .long 0, .long 1]) (st := []) kX10_152 dX10_image_9 rfl rfl (Nat.le_of_ble_eq_true rfl) (by omega) (c_within (Int32.toInt64 x) 0 1) rfl (fun h2 hq9 => ?_)
    subst hq9
    refine r_if_ne (tgt := 18) (pc2 := 15) dX10_image_12 (by decide) rfl (fun b12 => ?_) (fun b12 => ?_)
    · exact absurd (if0 hv) b12
    · skip
      refine r_bipush (pc2 := 17) (v := -2) dX10_image_15 (by decide) rfl ?_
      exact r_iret rfl dX10_image_17 ⟨by rw [imgF, if_neg hv], (upd v 0 0), ⟨rfl, rfl, rfl⟩, ⟨c117, c118, c119, hx.get (by decide) k120, ⟨_, hx.get (by decide) k121⟩, ⟨_, hx.get (by decide) k122⟩, ⟨_, hx.get (by decide) k123⟩, ⟨_, hx.get (by decide) k124⟩, ⟨_, hx.get (by decide) k125⟩, ⟨_, hx.get (by decide) k126⟩, ⟨_, hx.get (by decide) k127⟩, ⟨_, hx.get (by decide) k128⟩, ⟨_, hx.get (by decide) k129⟩, ⟨_, hx.get (by decide) k130⟩, ⟨_, hx.get (by decide) k131⟩, ⟨_, hx.get (by decide) k132⟩, ⟨_, hx.get (by decide) k133⟩, ⟨_, hx.get (by decide) k134⟩, ⟨_, hx.get (by decide) k135⟩, hx.get (by decide) k136, hx.get (by decide) k137, hx.get (by decide) k138⟩, hx.mono (by decide)⟩
set_option maxRecDepth 20000 in
set_option maxHeartbeats 1000000 in
theorem ref_restore {E : EnvT} {d : Nat} {h0 : Hp} {v : Nat → Int32} {a : Nat → Nat} {hi : Nat → Int32} {tp : Nat → Nat} {rs rm : Nat → Int32} {nu : Nat → Int64} {x : Int32} (hR : RS h0 v a hi tp rs rm nu) (hd : 1 ≤ d) : Cn E mX10_restore d [.ref 117, .int x] h0 (RP (.int (rstF hi x)) h0 v (rstA a hi x) hi tp rs rm nu) := by
  obtain ⟨k117, k118, k119, k120, ⟨f121, k121⟩, ⟨f122, k122⟩, ⟨f123, k123⟩, ⟨f124, k124⟩, ⟨f125, k125⟩, ⟨f126, k126⟩, ⟨f127, k127⟩, ⟨f128, k128⟩, ⟨f129, k129⟩, ⟨f130, k130⟩, ⟨f131, k131⟩, ⟨f132, k132⟩, ⟨f133, k133⟩, ⟨f134, k134⟩, ⟨f135, k135⟩, k136, k137, k138⟩ := hR
  have c117 := k117
  have c118 := k118
  have c119 := k119
  have hx : Ex [117, 118, 119] h0 h0 := Ex.rf
  by_cases hv : inR 0 1 x
  · obtain ⟨i, i0, i1, rfl⟩ := inR_of (by decide) (by decide) hv
    by_cases hz : hi i = 0
    · have hc : ¬ rstC hi (nI i) := fun q => q.2 (by rw [nI_clamp (by omega)]; exact hz)
      rw [rstA, if_neg hc]
      refine Cn.go (ls := [.ref 117, .int (nI i), .float 0]) (by decide +kernel) rfl (Nat.le_of_ble_eq_true rfl) ?_
      refine r_aload_n (pc2 := 1) 0 dX10_restore_0 rfl rfl rfl rfl ?_
      refine r_iconst (pc2 := 2) (v := 0) dX10_restore_1 (by decide) rfl ?_
      refine r_putfX (pc2 := 5) (moL (upd v 0 0)) fX10_1 dX10_restore_2 c117 (by decide) (Nat.le_of_ble_eq_true rfl) rfl rfl rfl (fun h z2 o2 c117 => ?_)
      have c118 := (o2 118 (by decide)).trans c118
      have c119 := (o2 119 (by decide)).trans c119
      have hx := hx.step (a := 117) (by decide) z2 o2
      refine r_iload_n (pc2 := 6) 1 dX10_restore_5 rfl rfl rfl ?_
      refine r_i2l (pc2 := 7) dX10_restore_6 rfl ?_
      refine r_lconst (pc2 := 8) (v := 0) dX10_restore_7 (by decide) rfl ?_
      refine r_lconst (pc2 := 9) (v := 1) dX10_restore_8 (by decide) rfl ?_
      refine r_callS1 (pc2 := 12) (As := [.long (Int32.toInt64 (nI i)), .long 0, .long 1]) (st := []) kX10_152 dX10_restore_9 rfl rfl (Nat.le_of_ble_eq_true rfl) (by omega) (c_within (Int32.toInt64 (nI i)) 0 1) rfl (fun h2 hq9 => ?_)
      subst hq9
      refine r_if_ne (tgt := 18) (pc2 := 15) dX10_restore_12 (by decide) rfl (fun b12 => ?_) (fun b12 => ?_)
      · skip
        refine r_aload_n (pc2 := 19) 0 dX10_restore_18 rfl rfl rfl rfl ?_
        refine r_getf (pc2 := 22) (v := .ref 119) fX10_17 dX10_restore_19 c117 (by decide) rfl rfl ?_
        refine r_iload_n (pc2 := 23) 1 dX10_restore_22 rfl rfl rfl ?_
        refine r_zaldN (pc2 := 24) i dX10_restore_23 c119 (by decide) rfl (by omega) (by decide) rfl ?_
        refine r_if_ne (tgt := 30) (pc2 := 27) dX10_restore_24 (by decide) rfl (fun b24 => ?_) (fun b24 => ?_)
        · exact absurd hz b24
        · skip
          refine r_bipush (pc2 := 29) (v := -5) dX10_restore_27 (by decide) rfl ?_
          exact r_iret rfl dX10_restore_29 ⟨by rw [rstF, if_pos hv, nI_clamp (by omega), if_pos hz], (upd v 0 0), ⟨rfl, rfl, rfl⟩, ⟨c117, c118, c119, hx.get (by decide) k120, ⟨_, hx.get (by decide) k121⟩, ⟨_, hx.get (by decide) k122⟩, ⟨_, hx.get (by decide) k123⟩, ⟨_, hx.get (by decide) k124⟩, ⟨_, hx.get (by decide) k125⟩, ⟨_, hx.get (by decide) k126⟩, ⟨_, hx.get (by decide) k127⟩, ⟨_, hx.get (by decide) k128⟩, ⟨_, hx.get (by decide) k129⟩, ⟨_, hx.get (by decide) k130⟩, ⟨_, hx.get (by decide) k131⟩, ⟨_, hx.get (by decide) k132⟩, ⟨_, hx.get (by decide) k133⟩, ⟨_, hx.get (by decide) k134⟩, ⟨_, hx.get (by decide) k135⟩, hx.get (by decide) k136, hx.get (by decide) k137, hx.get (by decide) k138⟩, hx.mono (by decide)⟩
      · exact absurd b12 (if1 hv)
    · have hc : rstC hi (nI i) := ⟨hv, by rw [nI_clamp (by omega)]; exact hz⟩
      have hF : (some (.int 0) : Option Value) = some (.int (rstF hi (nI i))) := by rw [rstF, if_pos hv, nI_clamp (by omega), if_neg hz]
      rw [rstA, if_pos hc, nI_clamp (by omega)]
      have loop : ∀ (m k : Nat) (h1 : Hp), k + m = 1177 → Ex [117, 118, 119] h0 h1 → h1.1 117 = some (mO (upd v 0 0)) → h1.1 118 = some (aI 3531 (nA (fillN a 0 k (fun k => a (1177 * (i + 1) + k))))) → h1.1 119 = some (aZ 2 hi) → Fr E mX10_restore d 32 [.ref 117, .int (nI i), .int (nI k)] [] h1 (RP (.int (rstF hi (nI i))) h0 v (rstN a i) hi tp rs rm nu) := by
        intro m
        induction m with
        | zero =>
          intro k h hk hx c117 c118 c119
          obtain rfl : k = 1177 := by omega
          refine r_iload_n (pc2 := 33) 2 dX10_restore_32 rfl rfl rfl ?_
          refine r_sipush (pc2 := 36) (v := 1177) dX10_restore_33 (by decide) rfl ?_
          refine r_icmp_ge (tgt := 65) (pc2 := 39) dX10_restore_36 (by decide) rfl (fun b36 => ?_) (fun b36 => ?_)
          · skip
            refine r_aload_n (pc2 := 66) 0 dX10_restore_65 rfl rfl rfl rfl ?_
            refine r_getf (pc2 := 69) (v := .ref 118) fX10_13 dX10_restore_66 c117 (by decide) rfl rfl ?_
            refine r_bipush (pc2 := 71) (v := 45) dX10_restore_69 (by decide) rfl ?_
            refine r_iconst (pc2 := 72) (v := 0) dX10_restore_71 (by decide) rfl ?_
            refine r_cast (nI 0) rfl ?_
            refine r_iastN (pc2 := 73) 45 dX10_restore_72 c118 (by decide) rfl (by decide) (by decide) rfl (fun h z72 o72 c118 => ?_)
            rw [upd_nA] at c118
            have c117 := (o72 117 (by decide)).trans c117
            have c119 := (o72 119 (by decide)).trans c119
            have hx := hx.step (a := 118) (by decide) z72 o72
            refine r_iconst (pc2 := 74) (v := 0) dX10_restore_73 (by decide) rfl ?_
            exact r_iret rfl dX10_restore_74 ⟨hF, (upd v 0 0), ⟨rfl, rfl, rfl⟩, ⟨c117, c118, c119, hx.get (by decide) k120, ⟨_, hx.get (by decide) k121⟩, ⟨_, hx.get (by decide) k122⟩, ⟨_, hx.get (by decide) k123⟩, ⟨_, hx.get (by decide) k124⟩, ⟨_, hx.get (by decide) k125⟩, ⟨_, hx.get (by decide) k126⟩, ⟨_, hx.get (by decide) k127⟩, ⟨_, hx.get (by decide) k128⟩, ⟨_, hx.get (by decide) k129⟩, ⟨_, hx.get (by decide) k130⟩, ⟨_, hx.get (by decide) k131⟩, ⟨_, hx.get (by decide) k132⟩, ⟨_, hx.get (by decide) k133⟩, ⟨_, hx.get (by decide) k134⟩, ⟨_, hx.get (by decide) k135⟩, hx.get (by decide) k136, hx.get (by decide) k137, hx.get (by decide) k138⟩, hx.mono (by decide)⟩
          · exact absurd (nI_le (a := 1177) (b := 1177) (Nat.le_refl _) (by decide)) b36
        | succ m ih =>
          intro k h hk hx c117 c118 c119
          have hlt : k < 1177 := by omega
          refine r_iload_n (pc2 := 33) 2 dX10_restore_32 rfl rfl rfl ?_
          refine r_sipush (pc2 := 36) (v := 1177) dX10_restore_33 (by decide) rfl ?_
          refine r_icmp_ge (tgt := 65) (pc2 := 39) dX10_restore_36 (by decide) rfl (fun b36 => ?_) (fun b36 => ?_)
          · exact absurd b36 (nI_ge (b := 1177) hlt (by decide))
          · skip
            refine r_aload_n (pc2 := 40) 0 dX10_restore_39 rfl rfl rfl rfl ?_
            refine r_getf (pc2 := 43) (v := .ref 118) fX10_13 dX10_restore_40 c117 (by decide) rfl rfl ?_
            refine r_iload_n (pc2 := 44) 2 dX10_restore_43 rfl rfl rfl ?_
            refine r_aload_n (pc2 := 45) 0 dX10_restore_44 rfl rfl rfl rfl ?_
            refine r_getf (pc2 := 48) (v := .ref 118) fX10_13 dX10_restore_45 c117 (by decide) rfl rfl ?_
            refine r_sipush (pc2 := 51) (v := 1177) dX10_restore_48 (by decide) rfl ?_
            refine r_iload_n (pc2 := 52) 1 dX10_restore_51 rfl rfl rfl ?_
            refine r_iconst (pc2 := 53) (v := 1) dX10_restore_52 (by decide) rfl ?_
            refine r_iadd (pc2 := 54) dX10_restore_53 rfl ?_
            refine r_cast (nI (i + 1)) (nI_1 _) ?_
            refine r_imul (pc2 := 55) dX10_restore_54 rfl ?_
            refine r_cast (nI (1177 * (i + 1))) (pk_mul 1177 _) ?_
            refine r_iload_n (pc2 := 56) 2 dX10_restore_55 rfl rfl rfl ?_
            refine r_iadd (pc2 := 57) dX10_restore_56 rfl ?_
            refine r_cast (nI (1177 * (i + 1) + k)) (nI_add _ _) ?_
            refine r_ialdA (pc2 := 58) (1177 * (i + 1) + k) dX10_restore_57 c118 (by decide) rfl (by omega) (by decide) rfl ?_
            refine r_iastN (pc2 := 59) k dX10_restore_58 c118 (by decide) rfl (by omega) (by decide) rfl (fun h z58 o58 c118 => ?_)
            rw [upd_nA] at c118
            have c117 := (o58 117 (by decide)).trans c117
            have c119 := (o58 119 (by decide)).trans c119
            have hx := hx.step (a := 118) (by decide) z58 o58
            obtain ⟨x59, e59⟩ : ∃ z : Int32, z = (nI k) + (1) := ⟨_, rfl⟩
            refine r_iinc (pc2 := 62) (ls2 := [.ref 117, .int (nI i), .int x59]) (v := x59) 2 dX10_restore_59 rfl (by rw [e59]; rfl) rfl rfl rfl ?_
            refine r_goto (pc2 := 32) dX10_restore_62 (by decide) ?_
            rw [e59, nI_1]
            rw [fillN_sv0 (g := fun k => a (1177 * (i + 1) + k)) (show fillN a 0 k (fun k => a (1177 * (i + 1) + k)) (1177 * (i + 1) + k) = a (1177 * (i + 1) + k) from fillN_out (by omega))] at c118
            exact ih (k + 1) h (by omega) hx c117 c118 c119
      refine Cn.go (ls := [.ref 117, .int (nI i), .float 0]) (by decide +kernel) rfl (Nat.le_of_ble_eq_true rfl) ?_
      refine r_aload_n (pc2 := 1) 0 dX10_restore_0 rfl rfl rfl rfl ?_
      refine r_iconst (pc2 := 2) (v := 0) dX10_restore_1 (by decide) rfl ?_
      refine r_putfX (pc2 := 5) (moL (upd v 0 0)) fX10_1 dX10_restore_2 c117 (by decide) (Nat.le_of_ble_eq_true rfl) rfl rfl rfl (fun h z2 o2 c117 => ?_)
      have c118 := (o2 118 (by decide)).trans c118
      have c119 := (o2 119 (by decide)).trans c119
      have hx := hx.step (a := 117) (by decide) z2 o2
      refine r_iload_n (pc2 := 6) 1 dX10_restore_5 rfl rfl rfl ?_
      refine r_i2l (pc2 := 7) dX10_restore_6 rfl ?_
      refine r_lconst (pc2 := 8) (v := 0) dX10_restore_7 (by decide) rfl ?_
      refine r_lconst (pc2 := 9) (v := 1) dX10_restore_8 (by decide) rfl ?_
      refine r_callS1 (pc2 := 12) (As := [.long (Int32.toInt64 (nI i)), .long 0, .long 1]) (st := []) kX10_152 dX10_restore_9 rfl rfl (Nat.le_of_ble_eq_true rfl) (by omega) (c_within (Int32.toInt64 (nI i)) 0 1) rfl (fun h2 hq9 => ?_)
      subst hq9
      refine r_if_ne (tgt := 18) (pc2 := 15) dX10_restore_12 (by decide) rfl (fun b12 => ?_) (fun b12 => ?_)
      · skip
        refine r_aload_n (pc2 := 19) 0 dX10_restore_18 rfl rfl rfl rfl ?_
        refine r_getf (pc2 := 22) (v := .ref 119) fX10_17 dX10_restore_19 c117 (by decide) rfl rfl ?_
        refine r_iload_n (pc2 := 23) 1 dX10_restore_22 rfl rfl rfl ?_
        refine r_zaldN (pc2 := 24) i dX10_restore_23 c119 (by decide) rfl (by omega) (by decide) rfl ?_
        refine r_if_ne (tgt := 30) (pc2 := 27) dX10_restore_24 (by decide) rfl (fun b24 => ?_) (fun b24 => ?_)
        · skip
          refine r_iconst (pc2 := 31) (v := 0) dX10_restore_30 (by decide) rfl ?_
          refine r_istore_n (pc2 := 32) (ls2 := [.ref 117, .int (nI i), .int 0]) 2 dX10_restore_31 rfl (by decide) rfl rfl rfl ?_
          rw [← fillN_0 a 0 (fun k => a (1177 * (i + 1) + k))] at c118
          exact loop 1177 0 _ (by omega) hx c117 c118 c119
        · exact absurd b24 hz
      · exact absurd b12 (if1 hv)
  · have hc : ¬ rstC hi x := fun q => hv q.1
    rw [rstA, if_neg hc]
    refine Cn.go (ls := [.ref 117, .int x, .float 0]) (by decide +kernel) rfl (Nat.le_of_ble_eq_true rfl) ?_
    refine r_aload_n (pc2 := 1) 0 dX10_restore_0 rfl rfl rfl rfl ?_
    refine r_iconst (pc2 := 2) (v := 0) dX10_restore_1 (by decide) rfl ?_
    refine r_putfX (pc2 := 5) (moL (upd v 0 0)) fX10_1 dX10_restore_2 c117 (by decide) (Nat.le_of_ble_eq_true rfl) rfl rfl rfl (fun h z2 o2 c117 => ?_)
    have c118 := (o2 118 (by decide)).trans c118
    have c119 := (o2 119 (by decide)).trans c119
    have hx := hx.step (a := 117) (by decide) z2 o2
    refine r_iload_n (pc2 := 6) 1 dX10_restore_5 rfl rfl rfl ?_
    refine r_i2l (pc2 := 7) dX10_restore_6 rfl ?_
    refine r_lconst (pc2 := 8) (v := 0) dX10_restore_7 (by decide) rfl ?_
    refine r_lconst (pc2 := 9) (v := 1) dX10_restore_8 (by decide) rfl ?_
    refine r_callS1 (pc2 := 12) (As := [.long (Int32.toInt64 x), .long 0, .long 1]) (st := []) kX10_152 dX10_restore_9 rfl rfl (Nat.le_of_ble_eq_true rfl) (by omega) (c_within (Int32.toInt64 x) 0 1) rfl (fun h2 hq9 => ?_)
    subst hq9
    refine r_if_ne (tgt := 18) (pc2 := 15) dX10_restore_12 (by decide) rfl (fun b12 => ?_) (fun b12 => ?_)
    · exact absurd (if0 hv) b12
    · skip
      refine r_bipush (pc2 := 17) (v := -2) dX10_restore_15 (by decide) rfl ?_
      exact r_iret rfl dX10_restore_17 ⟨by rw [rstF, if_neg hv], (upd v 0 0), ⟨rfl, rfl, rfl⟩, ⟨c117, c118, c119, hx.get (by decide) k120, ⟨_, hx.get (by decide) k121⟩, ⟨_, hx.get (by decide) k122⟩, ⟨_, hx.get (by decide) k123⟩, ⟨_, hx.get (by decide) k124⟩, ⟨_, hx.get (by decide) k125⟩, ⟨_, hx.get (by decide) k126⟩, ⟨_, hx.get (by decide) k127⟩, ⟨_, hx.get (by decide) k128⟩, ⟨_, hx.get (by decide) k129⟩, ⟨_, hx.get (by decide) k130⟩, ⟨_, hx.get (by decide) k131⟩, ⟨_, hx.get (by decide) k132⟩, ⟨_, hx.get (by decide) k133⟩, ⟨_, hx.get (by decide) k134⟩, ⟨_, hx.get (by decide) k135⟩, hx.get (by decide) k136, hx.get (by decide) k137, hx.get (by decide) k138⟩, hx.mono (by decide)⟩
def pop8 (s : Nat) : Nat := s % 2 + s / 2 % 2 + s / 4 % 2 + s / 8 % 2 + s / 16 % 2 + s / 32 % 2 + s / 64 % 2 + s / 128 % 2
theorem bitsF_8 : ∀ s, s < 256 → bitsF (nI s) 10 = nI (pop8 s) := by decide +kernel
theorem pop8_le (s : Nat) : pop8 s ≤ 8 := by unfold pop8; omega
def hSum (f : Nat → Nat) : Nat → Nat
  | 0 => 0
  | k + 1 => hSum f k + pop8 (f k)
theorem hSum_le (f : Nat → Nat) : ∀ k, hSum f k ≤ 8 * k
  | 0 => Nat.le_refl _
  | k + 1 => by have := hSum_le f k; have := pop8_le (f k); unfold hSum; omega
def hintsF (a : Nat → Nat) (x : Int32) : Int32 := if inR 0 1 x then nI (hSum (fun p => a ((if x = 1 then 29 else 37) + p)) 8 / 2) else -2
set_option maxRecDepth 20000 in
set_option maxHeartbeats 1000000 in
theorem ref_hints {E : EnvT} {d : Nat} {h0 : Hp} {v : Nat → Int32} {a : Nat → Nat} {hi : Nat → Int32} {tp : Nat → Nat} {rs rm : Nat → Int32} {nu : Nat → Int64} {x : Int32} (hR : RS h0 v a hi tp rs rm nu) (hA : AIN a) (hd : 1 ≤ d) : Cn E mX10_hints d [.ref 117, .int x] h0 (RP (.int (hintsF a x)) h0 v a hi tp rs rm nu) := by
  obtain ⟨k117, k118, k119, k120, ⟨f121, k121⟩, ⟨f122, k122⟩, ⟨f123, k123⟩, ⟨f124, k124⟩, ⟨f125, k125⟩, ⟨f126, k126⟩, ⟨f127, k127⟩, ⟨f128, k128⟩, ⟨f129, k129⟩, ⟨f130, k130⟩, ⟨f131, k131⟩, ⟨f132, k132⟩, ⟨f133, k133⟩, ⟨f134, k134⟩, ⟨f135, k135⟩, k136, k137, k138⟩ := hR
  have c117 := k117
  have c118 := k118
  have hx : Ex [117, 118] h0 h0 := Ex.rf
  by_cases hv : inR 0 1 x
  · obtain ⟨i, i0, i1, rfl⟩ := inR_of (by decide) (by decide) hv
    rcases (show i = 0 ∨ i = 1 by omega) with rfl | rfl
    · have hF : (some (.int (nI (hSum (fun p => a (37 + p)) 8) / 2)) : Option Value) = some (.int (hintsF a 0)) := by
        have hs8 := hSum_le (fun p => a (37 + p)) 8
        rw [hintsF, if_pos (show inR 0 1 0 from hv), show nI (hSum (fun p => a (37 + p)) 8) / 2 = nI (hSum (fun p => a (37 + p)) 8 / 2) from pk_div (d := 2) (by omega) (by decide) (by decide)]; rfl
      have loop : ∀ (m k : Nat) (h1 : Hp), k + m = 8 → Ex [117, 118] h0 h1 → h1.1 117 = some (mO (upd v 0 0)) → h1.1 118 = some (aI 3531 (nA a)) → Fr E mX10_hints d 22 [.ref 117, .int 0, .int (nI (hSum (fun p => a (37 + p)) k)), .int (nI k)] [] h1 (RP (.int (hintsF a 0)) h0 v a hi tp rs rm nu) := by
        intro m
        induction m with
        | zero =>
          intro k h hk hx c117 c118
          obtain rfl : k = 8 := by omega
          have hs8 := hSum_le (fun p => a (37 + p)) 8
          refine r_iload_n (pc2 := 23) 3 dX10_hints_22 rfl rfl rfl ?_
          refine r_bipush (pc2 := 25) (v := 8) dX10_hints_23 (by decide) rfl ?_
          refine r_icmp_ge (tgt := 59) (pc2 := 28) dX10_hints_25 (by decide) rfl (fun b25 => ?_) (fun b25 => ?_)
          · skip
            refine r_iload_n (pc2 := 60) 2 dX10_hints_59 rfl rfl rfl ?_
            refine r_iconst (pc2 := 61) (v := 2) dX10_hints_60 (by decide) rfl ?_
            refine r_idiv (pc2 := 62) dX10_hints_61 (by decide) rfl ?_
            exact r_iret rfl dX10_hints_62 ⟨hF, (upd v 0 0), ⟨rfl, rfl, rfl⟩, ⟨c117, c118, hx.get (by decide) k119, hx.get (by decide) k120, ⟨_, hx.get (by decide) k121⟩, ⟨_, hx.get (by decide) k122⟩, ⟨_, hx.get (by decide) k123⟩, ⟨_, hx.get (by decide) k124⟩, ⟨_, hx.get (by decide) k125⟩, ⟨_, hx.get (by decide) k126⟩, ⟨_, hx.get (by decide) k127⟩, ⟨_, hx.get (by decide) k128⟩, ⟨_, hx.get (by decide) k129⟩, ⟨_, hx.get (by decide) k130⟩, ⟨_, hx.get (by decide) k131⟩, ⟨_, hx.get (by decide) k132⟩, ⟨_, hx.get (by decide) k133⟩, ⟨_, hx.get (by decide) k134⟩, ⟨_, hx.get (by decide) k135⟩, hx.get (by decide) k136, hx.get (by decide) k137, hx.get (by decide) k138⟩, hx.mono (by decide)⟩
          · exact absurd (nI_le (a := 8) (b := 8) (Nat.le_refl _) (by decide)) b25
        | succ m ih =>
          intro k h hk hx c117 c118
          have hlt : k < 8 := by omega
          have hbk := hA.ub k hlt
          refine r_iload_n (pc2 := 23) 3 dX10_hints_22 rfl rfl rfl ?_
          refine r_bipush (pc2 := 25) (v := 8) dX10_hints_23 (by decide) rfl ?_
          refine r_icmp_ge (tgt := 59) (pc2 := 28) dX10_hints_25 (by decide) rfl (fun b25 => ?_) (fun b25 => ?_)
          · exact absurd b25 (nI_ge (b := 8) hlt (by decide))
          · skip
            refine r_iload_n (pc2 := 29) 2 dX10_hints_28 rfl rfl rfl ?_
            refine r_aload_n (pc2 := 30) 0 dX10_hints_29 rfl rfl rfl rfl ?_
            refine r_getf (pc2 := 33) (v := .ref 118) fX10_13 dX10_hints_30 c117 (by decide) rfl rfl ?_
            refine r_iload_n (pc2 := 34) 1 dX10_hints_33 rfl rfl rfl ?_
            refine r_iconst (pc2 := 35) (v := 1) dX10_hints_34 (by decide) rfl ?_
            refine r_icmp_ne (tgt := 43) (pc2 := 38) dX10_hints_35 (by decide) rfl (fun b35 => ?_) (fun b35 => ?_)
            · skip
              refine r_bipush (pc2 := 45) (v := 37) dX10_hints_43 (by decide) rfl ?_
              refine r_iload_n (pc2 := 46) 3 dX10_hints_45 rfl rfl rfl ?_
              refine r_iadd (pc2 := 47) dX10_hints_46 rfl ?_
              refine r_cast (nI (37 + k)) (nI_add 37 k) ?_
              refine r_ialdA (pc2 := 48) (37 + k) dX10_hints_47 c118 (by decide) rfl (by omega) (by decide) rfl ?_
              refine r_callS1 (pc2 := 51) (As := [.int (nI (a (37 + k)))]) (st := [.int (nI (hSum (fun p => a (37 + p)) k))]) kX10_253 dX10_hints_48 rfl rfl (Nat.le_of_ble_eq_true rfl) (by omega) (c_bitsOf (nI (a (37 + k)))) rfl (fun h2 hq48 => ?_)
              subst hq48
              refine r_cast (nI (pop8 (a (37 + k)))) (bitsF_8 _ hbk) ?_
              refine r_iadd (pc2 := 52) dX10_hints_51 rfl ?_
              refine r_cast (nI (hSum (fun p => a (37 + p)) (k + 1))) (nI_add _ _) ?_
              refine r_istore_n (pc2 := 53) (ls2 := [.ref 117, .int 0, .int (nI (hSum (fun p => a (37 + p)) (k + 1))), .int (nI k)]) 2 dX10_hints_52 rfl (by decide) rfl rfl rfl ?_
              obtain ⟨x53, e53⟩ : ∃ z : Int32, z = (nI k) + (1) := ⟨_, rfl⟩
              refine r_iinc (pc2 := 56) (ls2 := [.ref 117, .int 0, .int (nI (hSum (fun p => a (37 + p)) (k + 1))), .int x53]) (v := x53) 3 dX10_hints_53 rfl (by rw [e53]; rfl) rfl rfl rfl ?_
              refine r_goto (pc2 := 22) dX10_hints_56 (by decide) ?_
              rw [e53, nI_1]
              exact ih (k + 1) _ (by omega) hx c117 c118
            · exact absurd b35 (by decide)
      refine Cn.go (ls := [.ref 117, .int 0, .float 0, .float 0]) (by decide +kernel) rfl (Nat.le_of_ble_eq_true rfl) ?_
      refine r_aload_n (pc2 := 1) 0 dX10_hints_0 rfl rfl rfl rfl ?_
      refine r_iconst (pc2 := 2) (v := 0) dX10_hints_1 (by decide) rfl ?_
      refine r_putfX (pc2 := 5) (moL (upd v 0 0)) fX10_1 dX10_hints_2 c117 (by decide) (Nat.le_of_ble_eq_true rfl) rfl rfl rfl (fun h z2 o2 c117 => ?_)
      have c118 := (o2 118 (by decide)).trans c118
      have hx := hx.step (a := 117) (by decide) z2 o2
      refine r_iload_n (pc2 := 6) 1 dX10_hints_5 rfl rfl rfl ?_
      refine r_i2l (pc2 := 7) dX10_hints_6 rfl ?_
      refine r_lconst (pc2 := 8) (v := 0) dX10_hints_7 (by decide) rfl ?_
      refine r_lconst (pc2 := 9) (v := 1) dX10_hints_8 (by decide) rfl ?_
      refine r_callS1 (pc2 := 12) (As := [.long (Int32.toInt64 0), .long 0, .long 1]) (st := []) kX10_152 dX10_hints_9 rfl rfl (Nat.le_of_ble_eq_true rfl) (by omega) (c_within (Int32.toInt64 0) 0 1) rfl (fun h2 hq9 => ?_)
      subst hq9
      refine r_if_ne (tgt := 18) (pc2 := 15) dX10_hints_12 (by decide) rfl (fun b12 => ?_) (fun b12 => ?_)
      · skip
        refine r_iconst (pc2 := 19) (v := 0) dX10_hints_18 (by decide) rfl ?_
        refine r_istore_n (pc2 := 20) (ls2 := [.ref 117, .int 0, .int 0, .float 0]) 2 dX10_hints_19 rfl (by decide) rfl rfl rfl ?_
        refine r_iconst (pc2 := 21) (v := 0) dX10_hints_20 (by decide) rfl ?_
        refine r_istore_n (pc2 := 22) (ls2 := [.ref 117, .int 0, .int 0, .int 0]) 3 dX10_hints_21 rfl (by decide) rfl rfl rfl ?_
        exact loop 8 0 _ (by omega) hx c117 c118
      · exact absurd b12 (if1 hv)
    · have hF : (some (.int (nI (hSum (fun p => a (29 + p)) 8) / 2)) : Option Value) = some (.int (hintsF a 1)) := by
        have hs8 := hSum_le (fun p => a (29 + p)) 8
        rw [hintsF, if_pos (show inR 0 1 1 from hv), show nI (hSum (fun p => a (29 + p)) 8) / 2 = nI (hSum (fun p => a (29 + p)) 8 / 2) from pk_div (d := 2) (by omega) (by decide) (by decide)]; rfl
      have loop : ∀ (m k : Nat) (h1 : Hp), k + m = 8 → Ex [117, 118] h0 h1 → h1.1 117 = some (mO (upd v 0 0)) → h1.1 118 = some (aI 3531 (nA a)) → Fr E mX10_hints d 22 [.ref 117, .int 1, .int (nI (hSum (fun p => a (29 + p)) k)), .int (nI k)] [] h1 (RP (.int (hintsF a 1)) h0 v a hi tp rs rm nu) := by
        intro m
        induction m with
        | zero =>
          intro k h hk hx c117 c118
          obtain rfl : k = 8 := by omega
          have hs8 := hSum_le (fun p => a (29 + p)) 8
          refine r_iload_n (pc2 := 23) 3 dX10_hints_22 rfl rfl rfl ?_
          refine r_bipush (pc2 := 25) (v := 8) dX10_hints_23 (by decide) rfl ?_
          refine r_icmp_ge (tgt := 59) (pc2 := 28) dX10_hints_25 (by decide) rfl (fun b25 => ?_) (fun b25 => ?_)
          · skip
            refine r_iload_n (pc2 := 60) 2 dX10_hints_59 rfl rfl rfl ?_
            refine r_iconst (pc2 := 61) (v := 2) dX10_hints_60 (by decide) rfl ?_
            refine r_idiv (pc2 := 62) dX10_hints_61 (by decide) rfl ?_
            exact r_iret rfl dX10_hints_62 ⟨hF, (upd v 0 0), ⟨rfl, rfl, rfl⟩, ⟨c117, c118, hx.get (by decide) k119, hx.get (by decide) k120, ⟨_, hx.get (by decide) k121⟩, ⟨_, hx.get (by decide) k122⟩, ⟨_, hx.get (by decide) k123⟩, ⟨_, hx.get (by decide) k124⟩, ⟨_, hx.get (by decide) k125⟩, ⟨_, hx.get (by decide) k126⟩, ⟨_, hx.get (by decide) k127⟩, ⟨_, hx.get (by decide) k128⟩, ⟨_, hx.get (by decide) k129⟩, ⟨_, hx.get (by decide) k130⟩, ⟨_, hx.get (by decide) k131⟩, ⟨_, hx.get (by decide) k132⟩, ⟨_, hx.get (by decide) k133⟩, ⟨_, hx.get (by decide) k134⟩, ⟨_, hx.get (by decide) k135⟩, hx.get (by decide) k136, hx.get (by decide) k137, hx.get (by decide) k138⟩, hx.mono (by decide)⟩
          · exact absurd (nI_le (a := 8) (b := 8) (Nat.le_refl _) (by decide)) b25
        | succ m ih =>
          intro k h hk hx c117 c118
          have hlt : k < 8 := by omega
          have hbk := hA.bd k hlt
          refine r_iload_n (pc2 := 23) 3 dX10_hints_22 rfl rfl rfl ?_
          refine r_bipush (pc2 := 25) (v := 8) dX10_hints_23 (by decide) rfl ?_
          refine r_icmp_ge (tgt := 59) (pc2 := 28) dX10_hints_25 (by decide) rfl (fun b25 => ?_) (fun b25 => ?_)
          · exact absurd b25 (nI_ge (b := 8) hlt (by decide))
          · skip
            refine r_iload_n (pc2 := 29) 2 dX10_hints_28 rfl rfl rfl ?_
            refine r_aload_n (pc2 := 30) 0 dX10_hints_29 rfl rfl rfl rfl ?_
            refine r_getf (pc2 := 33) (v := .ref 118) fX10_13 dX10_hints_30 c117 (by decide) rfl rfl ?_
            refine r_iload_n (pc2 := 34) 1 dX10_hints_33 rfl rfl rfl ?_
            refine r_iconst (pc2 := 35) (v := 1) dX10_hints_34 (by decide) rfl ?_
            refine r_icmp_ne (tgt := 43) (pc2 := 38) dX10_hints_35 (by decide) rfl (fun b35 => ?_) (fun b35 => ?_)
            · exact absurd b35 (by decide)
            · skip
              refine r_bipush (pc2 := 40) (v := 29) dX10_hints_38 (by decide) rfl ?_
              refine r_goto (pc2 := 45) dX10_hints_40 (by decide) ?_
              refine r_iload_n (pc2 := 46) 3 dX10_hints_45 rfl rfl rfl ?_
              refine r_iadd (pc2 := 47) dX10_hints_46 rfl ?_
              refine r_cast (nI (29 + k)) (nI_add 29 k) ?_
              refine r_ialdA (pc2 := 48) (29 + k) dX10_hints_47 c118 (by decide) rfl (by omega) (by decide) rfl ?_
              refine r_callS1 (pc2 := 51) (As := [.int (nI (a (29 + k)))]) (st := [.int (nI (hSum (fun p => a (29 + p)) k))]) kX10_253 dX10_hints_48 rfl rfl (Nat.le_of_ble_eq_true rfl) (by omega) (c_bitsOf (nI (a (29 + k)))) rfl (fun h2 hq48 => ?_)
              subst hq48
              refine r_cast (nI (pop8 (a (29 + k)))) (bitsF_8 _ hbk) ?_
              refine r_iadd (pc2 := 52) dX10_hints_51 rfl ?_
              refine r_cast (nI (hSum (fun p => a (29 + p)) (k + 1))) (nI_add _ _) ?_
              refine r_istore_n (pc2 := 53) (ls2 := [.ref 117, .int 1, .int (nI (hSum (fun p => a (29 + p)) (k + 1))), .int (nI k)]) 2 dX10_hints_52 rfl (by decide) rfl rfl rfl ?_
              obtain ⟨x53, e53⟩ : ∃ z : Int32, z = (nI k) + (1) := ⟨_, rfl⟩
              refine r_iinc (pc2 := 56) (ls2 := [.ref 117, .int 1, .int (nI (hSum (fun p => a (29 + p)) (k + 1))), .int x53]) (v := x53) 3 dX10_hints_53 rfl (by rw [e53]; rfl) rfl rfl rfl ?_
              refine r_goto (pc2 := 22) dX10_hints_56 (by decide) ?_
              rw [e53, nI_1]
              exact ih (k + 1) _ (by omega) hx c117 c118
      refine Cn.go (ls := [.ref 117, .int 1, .float 0, .float 0]) (by decide +kernel) rfl (Nat.le_of_ble_eq_true rfl) ?_
      refine r_aload_n (pc2 := 1) 0 dX10_hints_0 rfl rfl rfl rfl ?_
      refine r_iconst (pc2 := 2) (v := 0) dX10_hints_1 (by decide) rfl ?_
      refine r_putfX (pc2 := 5) (moL (upd v 0 0)) fX10_1 dX10_hints_2 c117 (by decide) (Nat.le_of_ble_eq_true rfl) rfl rfl rfl (fun h z2 o2 c117 => ?_)
      have c118 := (o2 118 (by decide)).trans c118
      have hx := hx.step (a := 117) (by decide) z2 o2
      refine r_iload_n (pc2 := 6) 1 dX10_hints_5 rfl rfl rfl ?_
      refine r_i2l (pc2 := 7) dX10_hints_6 rfl ?_
      refine r_lconst (pc2 := 8) (v := 0) dX10_hints_7 (by decide) rfl ?_
      refine r_lconst (pc2 := 9) (v := 1) dX10_hints_8 (by decide) rfl ?_
      refine r_callS1 (pc2 := 12) (As := [.long (Int32.toInt64 1), .long 0, .long 1]) (st := []) kX10_152 dX10_hints_9 rfl rfl (Nat.le_of_ble_eq_true rfl) (by omega) (c_within (Int32.toInt64 1) 0 1) rfl (fun h2 hq9 => ?_)
      subst hq9
      refine r_if_ne (tgt := 18) (pc2 := 15) dX10_hints_12 (by decide) rfl (fun b12 => ?_) (fun b12 => ?_)
      · skip
        refine r_iconst (pc2 := 19) (v := 0) dX10_hints_18 (by decide) rfl ?_
        refine r_istore_n (pc2 := 20) (ls2 := [.ref 117, .int 1, .int 0, .float 0]) 2 dX10_hints_19 rfl (by decide) rfl rfl rfl ?_
        refine r_iconst (pc2 := 21) (v := 0) dX10_hints_20 (by decide) rfl ?_
        refine r_istore_n (pc2 := 22) (ls2 := [.ref 117, .int 1, .int 0, .int 0]) 3 dX10_hints_21 rfl (by decide) rfl rfl rfl ?_
        exact loop 8 0 _ (by omega) hx c117 c118
      · exact absurd b12 (if1 hv)
  · skip
    refine Cn.go (ls := [.ref 117, .int x, .float 0, .float 0]) (by decide +kernel) rfl (Nat.le_of_ble_eq_true rfl) ?_
    refine r_aload_n (pc2 := 1) 0 dX10_hints_0 rfl rfl rfl rfl ?_
    refine r_iconst (pc2 := 2) (v := 0) dX10_hints_1 (by decide) rfl ?_
    refine r_putfX (pc2 := 5) (moL (upd v 0 0)) fX10_1 dX10_hints_2 c117 (by decide) (Nat.le_of_ble_eq_true rfl) rfl rfl rfl (fun h z2 o2 c117 => ?_)
    have c118 := (o2 118 (by decide)).trans c118
    have hx := hx.step (a := 117) (by decide) z2 o2
    refine r_iload_n (pc2 := 6) 1 dX10_hints_5 rfl rfl rfl ?_
    refine r_i2l (pc2 := 7) dX10_hints_6 rfl ?_
    refine r_lconst (pc2 := 8) (v := 0) dX10_hints_7 (by decide) rfl ?_
    refine r_lconst (pc2 := 9) (v := 1) dX10_hints_8 (by decide) rfl ?_
    refine r_callS1 (pc2 := 12) (As := [.long (Int32.toInt64 x), .long 0, .long 1]) (st := []) kX10_152 dX10_hints_9 rfl rfl (Nat.le_of_ble_eq_true rfl) (by omega) (c_within (Int32.toInt64 x) 0 1) rfl (fun h2 hq9 => ?_)
    subst hq9
    refine r_if_ne (tgt := 18) (pc2 := 15) dX10_hints_12 (by decide) rfl (fun b12 => ?_) (fun b12 => ?_)
    · exact absurd (if0 hv) b12
    · skip
      refine r_bipush (pc2 := 17) (v := -2) dX10_hints_15 (by decide) rfl ?_
      exact r_iret rfl dX10_hints_17 ⟨by rw [hintsF, if_neg hv], (upd v 0 0), ⟨rfl, rfl, rfl⟩, ⟨c117, c118, hx.get (by decide) k119, hx.get (by decide) k120, ⟨_, hx.get (by decide) k121⟩, ⟨_, hx.get (by decide) k122⟩, ⟨_, hx.get (by decide) k123⟩, ⟨_, hx.get (by decide) k124⟩, ⟨_, hx.get (by decide) k125⟩, ⟨_, hx.get (by decide) k126⟩, ⟨_, hx.get (by decide) k127⟩, ⟨_, hx.get (by decide) k128⟩, ⟨_, hx.get (by decide) k129⟩, ⟨_, hx.get (by decide) k130⟩, ⟨_, hx.get (by decide) k131⟩, ⟨_, hx.get (by decide) k132⟩, ⟨_, hx.get (by decide) k133⟩, ⟨_, hx.get (by decide) k134⟩, ⟨_, hx.get (by decide) k135⟩, hx.get (by decide) k136, hx.get (by decide) k137, hx.get (by decide) k138⟩, hx.mono (by decide)⟩
