/-! feed; images keep -/
def selV (x1 x2 x3 x4 x5 : Int32) (k : Nat) : Int32 := if k < 4 then x1 else if k < 8 then x2 else if k < 12 then x3 else if k < 16 then x4 else x5
def btN (x : Int32) (j : Nat) : Nat := (x.toInt / 2 ^ (24 - 8 * j) % 256).toNat
theorem btN_lt (x : Int32) (j : Nat) : btN x j < 256 := by unfold btN; omega
theorem i32_nI (y : Int32) : y = nI y.toBitVec.toNat := by
  apply Int32.toBitVec_inj.mp
  show _ = BitVec.ofNat 32 _
  rw [BitVec.ofNat_toNat, BitVec.setWidth_eq]
theorem and255 (y : Int32) : y &&& 255 = nI (y.toInt % 256).toNat := by
  have h1 : y &&& 255 = nI (y.toBitVec.toNat % 256) := by
    have := pk_andN (n := y.toBitVec.toNat) (BitVec.isLt _) (m := 255) 8 (by decide)
    rw [← i32_nI] at this
    exact this
  have h2 : y.toInt % 256 = ((y.toBitVec.toNat % 256 : Nat) : Int) := by
    have : y.toInt = y.toBitVec.toInt := rfl
    rw [this, BitVec.toInt_eq_toNat_cond]
    split <;> omega
  rw [h1, h2, Int.toNat_natCast]
theorem sh_bt (x : Int32) : ∀ j, j < 4 → (x >>> ((24 - 8 * nI j) &&& 31)) &&& 255 = nI (btN x j) := by
  intro j hj
  rw [and255]
  match j, hj with
  | 0, _ => rw [pk_shr x _ 24 (by decide), Int.shiftRight_eq_div_pow]; rfl
  | 1, _ => rw [pk_shr x _ 16 (by decide), Int.shiftRight_eq_div_pow]; rfl
  | 2, _ => rw [pk_shr x _ 8 (by decide), Int.shiftRight_eq_div_pow]; rfl
  | 3, _ => rw [pk_shr x _ 0 (by decide), Int.shiftRight_eq_div_pow]; rfl
def feedB (x1 x2 x3 x4 x5 : Int32) : Nat → Nat := fun k => btN (selV x1 x2 x3 x4 x5 k) (k % 4)
theorem sh_bt2 (x : Int32) (k : Nat) (hk : k < 20) : (x >>> ((24 - 8 * (nI k - nI k / 4 * 4)) &&& 31)) &&& 255 = nI (btN x (k % 4)) := by
  rw [show nI k - nI k / 4 * 4 = nI (k % 4) from pk_rem (d := 4) (by omega) (by decide) (by decide)]
  exact sh_bt x _ (Nat.mod_lt _ (by decide))
def feedF (t : Nat) : Int32 := if t + 20 ≤ 900 then nI (t + 20) else -5
def feedT (t : Nat) : Nat := if t + 20 ≤ 900 then t + 20 else t
def feedP (tp : Nat → Nat) (t : Nat) (x1 x2 x3 x4 x5 : Int32) : Nat → Nat := if t + 20 ≤ 900 then fillN tp t 20 (feedB x1 x2 x3 x4 x5) else tp
theorem bsel {x1 x2 x3 x4 x5 : Int32} {k : Nat} (n : Nat) (hk : k < 20) : True := trivial
set_option maxRecDepth 20000 in
set_option maxHeartbeats 1000000 in
theorem ref_feed {E : EnvT} {d : Nat} {h0 : Hp} {v : Nat → Int32} {a : Nat → Nat} {hi : Nat → Int32} {tp : Nat → Nat} {rs rm : Nat → Int32} {nu : Nat → Int64} {t : Nat} {x1 x2 x3 x4 x5 : Int32} (hR : RS h0 v a hi tp rs rm nu) (h5 : v 5 = nI t) (ht9 : t ≤ 900) : Cn E mX10_feed d [.ref 117, .int x1, .int x2, .int x3, .int x4, .int x5] h0 (RPV (.int (feedF t)) h0 (nI (feedT t)) (v 13) (v 14) a hi (feedP tp t x1 x2 x3 x4 x5) rs rm nu) := by
  obtain ⟨k117, k118, k119, k120, ⟨f121, k121⟩, ⟨f122, k122⟩, ⟨f123, k123⟩, ⟨f124, k124⟩, ⟨f125, k125⟩, ⟨f126, k126⟩, ⟨f127, k127⟩, ⟨f128, k128⟩, ⟨f129, k129⟩, ⟨f130, k130⟩, ⟨f131, k131⟩, ⟨f132, k132⟩, ⟨f133, k133⟩, ⟨f134, k134⟩, ⟨f135, k135⟩, k136, k137, k138⟩ := hR
  have c117 := k117
  have c120 := k120
  have hx : Ex [117, 120] h0 h0 := Ex.rf
  have c117v : h0.1 117 = some (mO v) := c117
  by_cases ht : t + 20 ≤ 900
  · rw [feedP, if_pos ht]
    have loop : ∀ (m k : Nat) (h1 : Hp) (u : Value), k + m = 20 → Ex [117, 120] h0 h1 → h1.1 117 = some (mO (upd (upd v 0 0) 5 (nI (t + k)))) → h1.1 120 = some (aI 900 (nA (fillN tp t k (feedB x1 x2 x3 x4 x5)))) → Fr E mX10_feed d 24 [.ref 117, .int x1, .int x2, .int x3, .int x4, .int x5, .int (nI k), u] [] h1 (RPV (.int (feedF t)) h0 (nI (feedT t)) (v 13) (v 14) a hi (fillN tp t 20 (feedB x1 x2 x3 x4 x5)) rs rm nu) := by
      intro m
      induction m with
      | zero =>
        intro k h u hk hx c117 c120
        obtain rfl : k = 20 := by omega
        refine r_iload (pc2 := 26) 6 dX10_feed_24 rfl rfl ?_
        refine r_bipush (pc2 := 28) (v := 20) dX10_feed_26 (by decide) rfl ?_
        refine r_icmp_ge (tgt := 121) (pc2 := 31) dX10_feed_28 (by decide) rfl (fun b28 => ?_) (fun b28 => ?_)
        · skip
          refine r_aload_n (pc2 := 122) 0 dX10_feed_121 rfl rfl rfl rfl ?_
          refine r_getf (pc2 := 125) (v := .int (nI (t + 20))) fX10_90 dX10_feed_122 c117 (by decide) rfl rfl ?_
          exact r_iret rfl dX10_feed_125 ⟨by rw [feedF, if_pos ht], (upd (upd v 0 0) 5 (nI (t + 20))), ⟨by first | rfl | exact h5 | (rw [feedT, if_pos ht]; rfl) , rfl, rfl⟩, ⟨c117, hx.get (by decide) k118, hx.get (by decide) k119, c120, ⟨_, hx.get (by decide) k121⟩, ⟨_, hx.get (by decide) k122⟩, ⟨_, hx.get (by decide) k123⟩, ⟨_, hx.get (by decide) k124⟩, ⟨_, hx.get (by decide) k125⟩, ⟨_, hx.get (by decide) k126⟩, ⟨_, hx.get (by decide) k127⟩, ⟨_, hx.get (by decide) k128⟩, ⟨_, hx.get (by decide) k129⟩, ⟨_, hx.get (by decide) k130⟩, ⟨_, hx.get (by decide) k131⟩, ⟨_, hx.get (by decide) k132⟩, ⟨_, hx.get (by decide) k133⟩, ⟨_, hx.get (by decide) k134⟩, ⟨_, hx.get (by decide) k135⟩, hx.get (by decide) k136, hx.get (by decide) k137, hx.get (by decide) k138⟩, hx.mono (by decide)⟩
        · exact absurd (show nI 20 ≤ nI 20 from nI_le (Nat.le_refl _) (by decide)) b28
      | succ m ih =>
        intro k h u hk hx c117 c120
        have hlt : k < 20 := by omega
        refine r_iload (pc2 := 26) 6 dX10_feed_24 rfl rfl ?_
        refine r_bipush (pc2 := 28) (v := 20) dX10_feed_26 (by decide) rfl ?_
        refine r_icmp_ge (tgt := 121) (pc2 := 31) dX10_feed_28 (by decide) rfl (fun b28 => ?_) (fun b28 => ?_)
        · exact absurd b28 (nI_ge (b := 20) hlt (by decide))
        · skip
          refine r_iload (pc2 := 33) 6 dX10_feed_31 rfl rfl ?_
          refine r_iconst (pc2 := 34) (v := 4) dX10_feed_33 (by decide) rfl ?_
          refine r_icmp_ge (tgt := 41) (pc2 := 37) dX10_feed_34 (by decide) rfl (fun b34 => ?_) (fun b34 => ?_)
          · skip
            refine r_iload (pc2 := 43) 6 dX10_feed_41 rfl rfl ?_
            refine r_bipush (pc2 := 45) (v := 8) dX10_feed_43 (by decide) rfl ?_
            refine r_icmp_ge (tgt := 52) (pc2 := 48) dX10_feed_45 (by decide) rfl (fun b45 => ?_) (fun b45 => ?_)
            · skip
              refine r_iload (pc2 := 54) 6 dX10_feed_52 rfl rfl ?_
              refine r_bipush (pc2 := 56) (v := 12) dX10_feed_54 (by decide) rfl ?_
              refine r_icmp_ge (tgt := 63) (pc2 := 59) dX10_feed_56 (by decide) rfl (fun b56 => ?_) (fun b56 => ?_)
              · skip
                refine r_iload (pc2 := 65) 6 dX10_feed_63 rfl rfl ?_
                refine r_bipush (pc2 := 67) (v := 16) dX10_feed_65 (by decide) rfl ?_
                refine r_icmp_ge (tgt := 75) (pc2 := 70) dX10_feed_67 (by decide) rfl (fun b67 => ?_) (fun b67 => ?_)
                · skip
                  refine r_iload (pc2 := 77) 5 dX10_feed_75 rfl rfl ?_
                  refine r_cast (selV x1 x2 x3 x4 x5 k) (by rw [selV, if_neg (fun q => absurd (show nI 4 ≤ nI k from b34) (nI_ge (b := 4) q (by decide))), if_neg (fun q => absurd (show nI 8 ≤ nI k from b45) (nI_ge (b := 8) q (by decide))), if_neg (fun q => absurd (show nI 12 ≤ nI k from b56) (nI_ge (b := 12) q (by decide))), if_neg (fun q => absurd (show nI 16 ≤ nI k from b67) (nI_ge (b := 16) q (by decide)))]) ?_
                  refine r_topi (fun x77 e77 => ?_)
                  refine r_istore (pc2 := 79) (ls2 := [.ref 117, .int x1, .int x2, .int x3, .int x4, .int x5, .int (nI k), .int x77]) 7 dX10_feed_77 (by decide) rfl rfl rfl ?_
                  refine r_aload_n (pc2 := 80) 0 dX10_feed_79 rfl rfl rfl rfl ?_
                  refine r_getf (pc2 := 83) (v := .ref 120) fX10_21 dX10_feed_80 c117 (by decide) rfl rfl ?_
                  refine r_aload_n (pc2 := 84) 0 dX10_feed_83 rfl rfl rfl rfl ?_
                  refine r_getf (pc2 := 87) (v := .int (nI (t + k))) fX10_90 dX10_feed_84 c117 (by decide) rfl rfl ?_
                  refine r_iload (pc2 := 89) 7 dX10_feed_87 rfl rfl ?_
                  refine r_bipush (pc2 := 91) (v := 24) dX10_feed_89 (by decide) rfl ?_
                  refine r_bipush (pc2 := 93) (v := 8) dX10_feed_91 (by decide) rfl ?_
                  refine r_iload (pc2 := 95) 6 dX10_feed_93 rfl rfl ?_
                  refine r_iconst (pc2 := 96) (v := 4) dX10_feed_95 (by decide) rfl ?_
                  refine r_irem (pc2 := 97) dX10_feed_96 (by decide) rfl ?_
                  refine r_imul (pc2 := 98) dX10_feed_97 rfl ?_
                  refine r_isub (pc2 := 99) dX10_feed_98 rfl ?_
                  refine r_ishr (pc2 := 100) dX10_feed_99 rfl ?_
                  refine r_sipush (pc2 := 103) (v := 255) dX10_feed_100 (by decide) rfl ?_
                  refine r_iand (pc2 := 104) dX10_feed_103 rfl ?_
                  refine r_cast (nI (feedB x1 x2 x3 x4 x5 k)) (by rw [e77]; exact sh_bt2 _ k hlt) ?_
                  refine r_iastN (pc2 := 105) (t + k) dX10_feed_104 c120 (by decide) rfl (by omega) (by decide) rfl (fun h z104 o104 c120 => ?_)
                  rw [upd_nA] at c120
                  have c117 := (o104 117 (by decide)).trans c117
                  have hx := hx.step (a := 120) (by decide) z104 o104
                  refine r_aload_n (pc2 := 106) 0 dX10_feed_105 rfl rfl rfl rfl ?_
                  refine r_dup (pc2 := 107) dX10_feed_106 rfl rfl ?_
                  refine r_getf (pc2 := 110) (v := .int (nI (t + k))) fX10_90 dX10_feed_107 c117 (by decide) rfl rfl ?_
                  refine r_iconst (pc2 := 111) (v := 1) dX10_feed_110 (by decide) rfl ?_
                  refine r_iadd (pc2 := 112) dX10_feed_111 rfl ?_
                  refine r_cast (nI (t + k + 1)) (nI_1 _) ?_
                  refine r_putfX (pc2 := 115) (moL (upd (upd (upd v 0 0) 5 (nI (t + k))) 5 (nI (t + k + 1)))) fX10_90 dX10_feed_112 c117 (by decide) (Nat.le_of_ble_eq_true rfl) rfl rfl rfl (fun h z112 o112 c117 => ?_)
                  have c120 := (o112 120 (by decide)).trans c120
                  have hx := hx.step (a := 117) (by decide) z112 o112
                  obtain ⟨x115, e115⟩ : ∃ z : Int32, z = (nI k) + (1) := ⟨_, rfl⟩
                  refine r_iinc (pc2 := 118) (ls2 := [.ref 117, .int x1, .int x2, .int x3, .int x4, .int x5, .int x115, .int x77]) (v := x115) 6 dX10_feed_115 rfl (by rw [e115]; rfl) rfl rfl rfl ?_
                  refine r_goto (pc2 := 24) dX10_feed_118 (by decide) ?_
                  rw [e115, nI_1]
                  rw [fillN_sv rfl] at c120
                  rw [upd_upd] at c117
                  exact ih (k + 1) h _ (by omega) hx c117 c120
                · skip
                  refine r_iload (pc2 := 72) 4 dX10_feed_70 rfl rfl ?_
                  refine r_goto (pc2 := 77) dX10_feed_72 (by decide) ?_
                  refine r_cast (selV x1 x2 x3 x4 x5 k) (by rw [selV, if_neg (fun q => absurd (show nI 4 ≤ nI k from b34) (nI_ge (b := 4) q (by decide))), if_neg (fun q => absurd (show nI 8 ≤ nI k from b45) (nI_ge (b := 8) q (by decide))), if_neg (fun q => absurd (show nI 12 ≤ nI k from b56) (nI_ge (b := 12) q (by decide))), if_pos (Nat.lt_of_not_le (fun q => b67 (nI_le (a := 16) q (by omega))))]) ?_
                  refine r_topi (fun x77 e77 => ?_)
                  refine r_istore (pc2 := 79) (ls2 := [.ref 117, .int x1, .int x2, .int x3, .int x4, .int x5, .int (nI k), .int x77]) 7 dX10_feed_77 (by decide) rfl rfl rfl ?_
                  refine r_aload_n (pc2 := 80) 0 dX10_feed_79 rfl rfl rfl rfl ?_
                  refine r_getf (pc2 := 83) (v := .ref 120) fX10_21 dX10_feed_80 c117 (by decide) rfl rfl ?_
                  refine r_aload_n (pc2 := 84) 0 dX10_feed_83 rfl rfl rfl rfl ?_
                  refine r_getf (pc2 := 87) (v := .int (nI (t + k))) fX10_90 dX10_feed_84 c117 (by decide) rfl rfl ?_
                  refine r_iload (pc2 := 89) 7 dX10_feed_87 rfl rfl ?_
                  refine r_bipush (pc2 := 91) (v := 24) dX10_feed_89 (by decide) rfl ?_
                  refine r_bipush (pc2 := 93) (v := 8) dX10_feed_91 (by decide) rfl ?_
                  refine r_iload (pc2 := 95) 6 dX10_feed_93 rfl rfl ?_
                  refine r_iconst (pc2 := 96) (v := 4) dX10_feed_95 (by decide) rfl ?_
                  refine r_irem (pc2 := 97) dX10_feed_96 (by decide) rfl ?_
                  refine r_imul (pc2 := 98) dX10_feed_97 rfl ?_
                  refine r_isub (pc2 := 99) dX10_feed_98 rfl ?_
                  refine r_ishr (pc2 := 100) dX10_feed_99 rfl ?_
                  refine r_sipush (pc2 := 103) (v := 255) dX10_feed_100 (by decide) rfl ?_
                  refine r_iand (pc2 := 104) dX10_feed_103 rfl ?_
                  refine r_cast (nI (feedB x1 x2 x3 x4 x5 k)) (by rw [e77]; exact sh_bt2 _ k hlt) ?_
                  refine r_iastN (pc2 := 105) (t + k) dX10_feed_104 c120 (by decide) rfl (by omega) (by decide) rfl (fun h z104 o104 c120 => ?_)
                  rw [upd_nA] at c120
                  have c117 := (o104 117 (by decide)).trans c117
                  have hx := hx.step (a := 120) (by decide) z104 o104
                  refine r_aload_n (pc2 := 106) 0 dX10_feed_105 rfl rfl rfl rfl ?_
                  refine r_dup (pc2 := 107) dX10_feed_106 rfl rfl ?_
                  refine r_getf (pc2 := 110) (v := .int (nI (t + k))) fX10_90 dX10_feed_107 c117 (by decide) rfl rfl ?_
                  refine r_iconst (pc2 := 111) (v := 1) dX10_feed_110 (by decide) rfl ?_
                  refine r_iadd (pc2 := 112) dX10_feed_111 rfl ?_
                  refine r_cast (nI (t + k + 1)) (nI_1 _) ?_
                  refine r_putfX (pc2 := 115) (moL (upd (upd (upd v 0 0) 5 (nI (t + k))) 5 (nI (t + k + 1)))) fX10_90 dX10_feed_112 c117 (by decide) (Nat.le_of_ble_eq_true rfl) rfl rfl rfl (fun h z112 o112 c117 => ?_)
                  have c120 := (o112 120 (by decide)).trans c120
                  have hx := hx.step (a := 117) (by decide) z112 o112
                  obtain ⟨x115, e115⟩ : ∃ z : Int32, z = (nI k) + (1) := ⟨_, rfl⟩
                  refine r_iinc (pc2 := 118) (ls2 := [.ref 117, .int x1, .int x2, .int x3, .int x4, .int x5, .int x115, .int x77]) (v := x115) 6 dX10_feed_115 rfl (by rw [e115]; rfl) rfl rfl rfl ?_
                  refine r_goto (pc2 := 24) dX10_feed_118 (by decide) ?_
                  rw [e115, nI_1]
                  rw [fillN_sv rfl] at c120
                  rw [upd_upd] at c117
                  exact ih (k + 1) h _ (by omega) hx c117 c120
              · skip
                refine r_iload_n (pc2 := 60) 3 dX10_feed_59 rfl rfl rfl ?_
                refine r_goto (pc2 := 77) dX10_feed_60 (by decide) ?_
                refine r_cast (selV x1 x2 x3 x4 x5 k) (by rw [selV, if_neg (fun q => absurd (show nI 4 ≤ nI k from b34) (nI_ge (b := 4) q (by decide))), if_neg (fun q => absurd (show nI 8 ≤ nI k from b45) (nI_ge (b := 8) q (by decide))), if_pos (Nat.lt_of_not_le (fun q => b56 (nI_le (a := 12) q (by omega))))]) ?_
                refine r_topi (fun x77 e77 => ?_)
                refine r_istore (pc2 := 79) (ls2 := [.ref 117, .int x1, .int x2, .int x3, .int x4, .int x5, .int (nI k), .int x77]) 7 dX10_feed_77 (by decide) rfl rfl rfl ?_
                refine r_aload_n (pc2 := 80) 0 dX10_feed_79 rfl rfl rfl rfl ?_
                refine r_getf (pc2 := 83) (v := .ref 120) fX10_21 dX10_feed_80 c117 (by decide) rfl rfl ?_
                refine r_aload_n (pc2 := 84) 0 dX10_feed_83 rfl rfl rfl rfl ?_
                refine r_getf (pc2 := 87) (v := .int (nI (t + k))) fX10_90 dX10_feed_84 c117 (by decide) rfl rfl ?_
                refine r_iload (pc2 := 89) 7 dX10_feed_87 rfl rfl ?_
                refine r_bipush (pc2 := 91) (v := 24) dX10_feed_89 (by decide) rfl ?_
                refine r_bipush (pc2 := 93) (v := 8) dX10_feed_91 (by decide) rfl ?_
                refine r_iload (pc2 := 95) 6 dX10_feed_93 rfl rfl ?_
                refine r_iconst (pc2 := 96) (v := 4) dX10_feed_95 (by decide) rfl ?_
                refine r_irem (pc2 := 97) dX10_feed_96 (by decide) rfl ?_
                refine r_imul (pc2 := 98) dX10_feed_97 rfl ?_
                refine r_isub (pc2 := 99) dX10_feed_98 rfl ?_
                refine r_ishr (pc2 := 100) dX10_feed_99 rfl ?_
                refine r_sipush (pc2 := 103) (v := 255) dX10_feed_100 (by decide) rfl ?_
                refine r_iand (pc2 := 104) dX10_feed_103 rfl ?_
                refine r_cast (nI (feedB x1 x2 x3 x4 x5 k)) (by rw [e77]; exact sh_bt2 _ k hlt) ?_
                refine r_iastN (pc2 := 105) (t + k) dX10_feed_104 c120 (by decide) rfl (by omega) (by decide) rfl (fun h z104 o104 c120 => ?_)
                rw [upd_nA] at c120
                have c117 := (o104 117 (by decide)).trans c117
                have hx := hx.step (a := 120) (by decide) z104 o104
                refine r_aload_n (pc2 := 106) 0 dX10_feed_105 rfl rfl rfl rfl ?_
                refine r_dup (pc2 := 107) dX10_feed_106 rfl rfl ?_
                refine r_getf (pc2 := 110) (v := .int (nI (t + k))) fX10_90 dX10_feed_107 c117 (by decide) rfl rfl ?_
                refine r_iconst (pc2 := 111) (v := 1) dX10_feed_110 (by decide) rfl ?_
                refine r_iadd (pc2 := 112) dX10_feed_111 rfl ?_
                refine r_cast (nI (t + k + 1)) (nI_1 _) ?_
                refine r_putfX (pc2 := 115) (moL (upd (upd (upd v 0 0) 5 (nI (t + k))) 5 (nI (t + k + 1)))) fX10_90 dX10_feed_112 c117 (by decide) (Nat.le_of_ble_eq_true rfl) rfl rfl rfl (fun h z112 o112 c117 => ?_)
                have c120 := (o112 120 (by decide)).trans c120
                have hx := hx.step (a := 117) (by decide) z112 o112
                obtain ⟨x115, e115⟩ : ∃ z : Int32, z = (nI k) + (1) := ⟨_, rfl⟩
                refine r_iinc (pc2 := 118) (ls2 := [.ref 117, .int x1, .int x2, .int x3, .int x4, .int x5, .int x115, .int x77]) (v := x115) 6 dX10_feed_115 rfl (by rw [e115]; rfl) rfl rfl rfl ?_
                refine r_goto (pc2 := 24) dX10_feed_118 (by decide) ?_
                rw [e115, nI_1]
                rw [fillN_sv rfl] at c120
                rw [upd_upd] at c117
                exact ih (k + 1) h _ (by omega) hx c117 c120
            · skip
              refine r_iload_n (pc2 := 49) 2 dX10_feed_48 rfl rfl rfl ?_
              refine r_goto (pc2 := 77) dX10_feed_49 (by decide) ?_
              refine r_cast (selV x1 x2 x3 x4 x5 k) (by rw [selV, if_neg (fun q => absurd (show nI 4 ≤ nI k from b34) (nI_ge (b := 4) q (by decide))), if_pos (Nat.lt_of_not_le (fun q => b45 (nI_le (a := 8) q (by omega))))]) ?_
              refine r_topi (fun x77 e77 => ?_)
              refine r_istore (pc2 := 79) (ls2 := [.ref 117, .int x1, .int x2, .int x3, .int x4, .int x5, .int (nI k), .int x77]) 7 dX10_feed_77 (by decide) rfl rfl rfl ?_
              refine r_aload_n (pc2 := 80) 0 dX10_feed_79 rfl rfl rfl rfl ?_
              refine r_getf (pc2 := 83) (v := .ref 120) fX10_21 dX10_feed_80 c117 (by decide) rfl rfl ?_
              refine r_aload_n (pc2 := 84) 0 dX10_feed_83 rfl rfl rfl rfl ?_
              refine r_getf (pc2 := 87) (v := .int (nI (t + k))) fX10_90 dX10_feed_84 c117 (by decide) rfl rfl ?_
              refine r_iload (pc2 := 89) 7 dX10_feed_87 rfl rfl ?_
              refine r_bipush (pc2 := 91) (v := 24) dX10_feed_89 (by decide) rfl ?_
              refine r_bipush (pc2 := 93) (v := 8) dX10_feed_91 (by decide) rfl ?_
              refine r_iload (pc2 := 95) 6 dX10_feed_93 rfl rfl ?_
              refine r_iconst (pc2 := 96) (v := 4) dX10_feed_95 (by decide) rfl ?_
              refine r_irem (pc2 := 97) dX10_feed_96 (by decide) rfl ?_
              refine r_imul (pc2 := 98) dX10_feed_97 rfl ?_
              refine r_isub (pc2 := 99) dX10_feed_98 rfl ?_
              refine r_ishr (pc2 := 100) dX10_feed_99 rfl ?_
              refine r_sipush (pc2 := 103) (v := 255) dX10_feed_100 (by decide) rfl ?_
              refine r_iand (pc2 := 104) dX10_feed_103 rfl ?_
              refine r_cast (nI (feedB x1 x2 x3 x4 x5 k)) (by rw [e77]; exact sh_bt2 _ k hlt) ?_
              refine r_iastN (pc2 := 105) (t + k) dX10_feed_104 c120 (by decide) rfl (by omega) (by decide) rfl (fun h z104 o104 c120 => ?_)
              rw [upd_nA] at c120
              have c117 := (o104 117 (by decide)).trans c117
              have hx := hx.step (a := 120) (by decide) z104 o104
              refine r_aload_n (pc2 := 106) 0 dX10_feed_105 rfl rfl rfl rfl ?_
              refine r_dup (pc2 := 107) dX10_feed_106 rfl rfl ?_
              refine r_getf (pc2 := 110) (v := .int (nI (t + k))) fX10_90 dX10_feed_107 c117 (by decide) rfl rfl ?_
              refine r_iconst (pc2 := 111) (v := 1) dX10_feed_110 (by decide) rfl ?_
              refine r_iadd (pc2 := 112) dX10_feed_111 rfl ?_
              refine r_cast (nI (t + k + 1)) (nI_1 _) ?_
              refine r_putfX (pc2 := 115) (moL (upd (upd (upd v 0 0) 5 (nI (t + k))) 5 (nI (t + k + 1)))) fX10_90 dX10_feed_112 c117 (by decide) (Nat.le_of_ble_eq_true rfl) rfl rfl rfl (fun h z112 o112 c117 => ?_)
              have c120 := (o112 120 (by decide)).trans c120
              have hx := hx.step (a := 117) (by decide) z112 o112
              obtain ⟨x115, e115⟩ : ∃ z : Int32, z = (nI k) + (1) := ⟨_, rfl⟩
              refine r_iinc (pc2 := 118) (ls2 := [.ref 117, .int x1, .int x2, .int x3, .int x4, .int x5, .int x115, .int x77]) (v := x115) 6 dX10_feed_115 rfl (by rw [e115]; rfl) rfl rfl rfl ?_
              refine r_goto (pc2 := 24) dX10_feed_118 (by decide) ?_
              rw [e115, nI_1]
              rw [fillN_sv rfl] at c120
              rw [upd_upd] at c117
              exact ih (k + 1) h _ (by omega) hx c117 c120
          · skip
            refine r_iload_n (pc2 := 38) 1 dX10_feed_37 rfl rfl rfl ?_
            refine r_goto (pc2 := 77) dX10_feed_38 (by decide) ?_
            refine r_cast (selV x1 x2 x3 x4 x5 k) (by rw [selV, if_pos (Nat.lt_of_not_le (fun q => b34 (nI_le (a := 4) q (by omega))))]) ?_
            refine r_topi (fun x77 e77 => ?_)
            refine r_istore (pc2 := 79) (ls2 := [.ref 117, .int x1, .int x2, .int x3, .int x4, .int x5, .int (nI k), .int x77]) 7 dX10_feed_77 (by decide) rfl rfl rfl ?_
            refine r_aload_n (pc2 := 80) 0 dX10_feed_79 rfl rfl rfl rfl ?_
            refine r_getf (pc2 := 83) (v := .ref 120) fX10_21 dX10_feed_80 c117 (by decide) rfl rfl ?_
            refine r_aload_n (pc2 := 84) 0 dX10_feed_83 rfl rfl rfl rfl ?_
            refine r_getf (pc2 := 87) (v := .int (nI (t + k))) fX10_90 dX10_feed_84 c117 (by decide) rfl rfl ?_
            refine r_iload (pc2 := 89) 7 dX10_feed_87 rfl rfl ?_
            refine r_bipush (pc2 := 91) (v := 24) dX10_feed_89 (by decide) rfl ?_
            refine r_bipush (pc2 := 93) (v := 8) dX10_feed_91 (by decide) rfl ?_
            refine r_iload (pc2 := 95) 6 dX10_feed_93 rfl rfl ?_
            refine r_iconst (pc2 := 96) (v := 4) dX10_feed_95 (by decide) rfl ?_
            refine r_irem (pc2 := 97) dX10_feed_96 (by decide) rfl ?_
            refine r_imul (pc2 := 98) dX10_feed_97 rfl ?_
            refine r_isub (pc2 := 99) dX10_feed_98 rfl ?_
            refine r_ishr (pc2 := 100) dX10_feed_99 rfl ?_
            refine r_sipush (pc2 := 103) (v := 255) dX10_feed_100 (by decide) rfl ?_
            refine r_iand (pc2 := 104) dX10_feed_103 rfl ?_
            refine r_cast (nI (feedB x1 x2 x3 x4 x5 k)) (by rw [e77]; exact sh_bt2 _ k hlt) ?_
            refine r_iastN (pc2 := 105) (t + k) dX10_feed_104 c120 (by decide) rfl (by omega) (by decide) rfl (fun h z104 o104 c120 => ?_)
            rw [upd_nA] at c120
            have c117 := (o104 117 (by decide)).trans c117
            have hx := hx.step (a := 120) (by decide) z104 o104
            refine r_aload_n (pc2 := 106) 0 dX10_feed_105 rfl rfl rfl rfl ?_
            refine r_dup (pc2 := 107) dX10_feed_106 rfl rfl ?_
            refine r_getf (pc2 := 110) (v := .int (nI (t + k))) fX10_90 dX10_feed_107 c117 (by decide) rfl rfl ?_
            refine r_iconst (pc2 := 111) (v := 1) dX10_feed_110 (by decide) rfl ?_
            refine r_iadd (pc2 := 112) dX10_feed_111 rfl ?_
            refine r_cast (nI (t + k + 1)) (nI_1 _) ?_
            refine r_putfX (pc2 := 115) (moL (upd (upd (upd v 0 0) 5 (nI (t + k))) 5 (nI (t + k + 1)))) fX10_90 dX10_feed_112 c117 (by decide) (Nat.le_of_ble_eq_true rfl) rfl rfl rfl (fun h z112 o112 c117 => ?_)
            have c120 := (o112 120 (by decide)).trans c120
            have hx := hx.step (a := 117) (by decide) z112 o112
            obtain ⟨x115, e115⟩ : ∃ z : Int32, z = (nI k) + (1) := ⟨_, rfl⟩
            refine r_iinc (pc2 := 118) (ls2 := [.ref 117, .int x1, .int x2, .int x3, .int x4, .int x5, .int x115, .int x77]) (v := x115) 6 dX10_feed_115 rfl (by rw [e115]; rfl) rfl rfl rfl ?_
            refine r_goto (pc2 := 24) dX10_feed_118 (by decide) ?_
            rw [e115, nI_1]
            rw [fillN_sv rfl] at c120
            rw [upd_upd] at c117
            exact ih (k + 1) h _ (by omega) hx c117 c120
    refine Cn.go (ls := [.ref 117, .int x1, .int x2, .int x3, .int x4, .int x5, .float 0, .float 0]) (by decide +kernel) rfl (Nat.le_of_ble_eq_true rfl) ?_
    refine r_aload_n (pc2 := 1) 0 dX10_feed_0 rfl rfl rfl rfl ?_
    refine r_iconst (pc2 := 2) (v := 0) dX10_feed_1 (by decide) rfl ?_
    refine r_putfX (pc2 := 5) (moL (upd v 0 0)) fX10_1 dX10_feed_2 c117 (by decide) (Nat.le_of_ble_eq_true rfl) rfl rfl rfl (fun h z2 o2 c117 => ?_)
    have c120 := (o2 120 (by decide)).trans c120
    have hx := hx.step (a := 117) (by decide) z2 o2
    refine r_aload_n (pc2 := 6) 0 dX10_feed_5 rfl rfl rfl rfl ?_
    refine r_getf (pc2 := 9) (v := .int ((upd v 0 0) 5)) fX10_90 dX10_feed_6 c117 (by decide) rfl rfl ?_
    refine r_cast (nI t) (h5) ?_
    refine r_bipush (pc2 := 11) (v := 20) dX10_feed_9 (by decide) rfl ?_
    refine r_iadd (pc2 := 12) dX10_feed_11 rfl ?_
    refine r_cast (nI (t + 20)) (nI_add t 20) ?_
    refine r_sipush (pc2 := 15) (v := 900) dX10_feed_12 (by decide) rfl ?_
    refine r_icmp_le (tgt := 21) (pc2 := 18) dX10_feed_15 (by decide) rfl (fun b15 => ?_) (fun b15 => ?_)
    · skip
      refine r_iconst (pc2 := 22) (v := 0) dX10_feed_21 (by decide) rfl ?_
      refine r_istore (pc2 := 24) (ls2 := [.ref 117, .int x1, .int x2, .int x3, .int x4, .int x5, .int 0, .float 0]) 6 dX10_feed_22 (by decide) rfl rfl rfl ?_
      rw [← fillN_0 tp t (feedB x1 x2 x3 x4 x5)] at c120
      have c117 : h.1 117 = some (mO (upd (upd v 0 0) 5 (nI (t + 0)))) := by
        rw [c117]; refine congrArg (fun z => some (mO z)) (funext fun j => ?_)
        by_cases q : j = 5
        · rw [q]; show v 5 = _; rw [h5]; rfl
        · exact (if_neg q).symm
      exact loop 20 0 _ _ (by omega) hx c117 c120
    · exact absurd ((nI_leI (by omega) (by decide)).mpr ht) b15
  · rw [feedP, if_neg ht, feedT, if_neg ht]
    refine Cn.go (ls := [.ref 117, .int x1, .int x2, .int x3, .int x4, .int x5, .float 0, .float 0]) (by decide +kernel) rfl (Nat.le_of_ble_eq_true rfl) ?_
    refine r_aload_n (pc2 := 1) 0 dX10_feed_0 rfl rfl rfl rfl ?_
    refine r_iconst (pc2 := 2) (v := 0) dX10_feed_1 (by decide) rfl ?_
    refine r_putfX (pc2 := 5) (moL (upd v 0 0)) fX10_1 dX10_feed_2 c117 (by decide) (Nat.le_of_ble_eq_true rfl) rfl rfl rfl (fun h z2 o2 c117 => ?_)
    have c120 := (o2 120 (by decide)).trans c120
    have hx := hx.step (a := 117) (by decide) z2 o2
    refine r_aload_n (pc2 := 6) 0 dX10_feed_5 rfl rfl rfl rfl ?_
    refine r_getf (pc2 := 9) (v := .int ((upd v 0 0) 5)) fX10_90 dX10_feed_6 c117 (by decide) rfl rfl ?_
    refine r_cast (nI t) (h5) ?_
    refine r_bipush (pc2 := 11) (v := 20) dX10_feed_9 (by decide) rfl ?_
    refine r_iadd (pc2 := 12) dX10_feed_11 rfl ?_
    refine r_cast (nI (t + 20)) (nI_add t 20) ?_
    refine r_sipush (pc2 := 15) (v := 900) dX10_feed_12 (by decide) rfl ?_
    refine r_icmp_le (tgt := 21) (pc2 := 18) dX10_feed_15 (by decide) rfl (fun b15 => ?_) (fun b15 => ?_)
    · exact absurd b15 (fun q => ht ((nI_leI (by omega) (by decide)).mp q))
    · skip
      refine r_bipush (pc2 := 20) (v := -5) dX10_feed_18 (by decide) rfl ?_
      exact r_iret rfl dX10_feed_20 ⟨by rw [feedF, if_neg ht], (upd v 0 0), ⟨by first | rfl | exact h5 | (rw [feedT, if_pos ht]; rfl) , rfl, rfl⟩, ⟨c117, hx.get (by decide) k118, hx.get (by decide) k119, c120, ⟨_, hx.get (by decide) k121⟩, ⟨_, hx.get (by decide) k122⟩, ⟨_, hx.get (by decide) k123⟩, ⟨_, hx.get (by decide) k124⟩, ⟨_, hx.get (by decide) k125⟩, ⟨_, hx.get (by decide) k126⟩, ⟨_, hx.get (by decide) k127⟩, ⟨_, hx.get (by decide) k128⟩, ⟨_, hx.get (by decide) k129⟩, ⟨_, hx.get (by decide) k130⟩, ⟨_, hx.get (by decide) k131⟩, ⟨_, hx.get (by decide) k132⟩, ⟨_, hx.get (by decide) k133⟩, ⟨_, hx.get (by decide) k134⟩, ⟨_, hx.get (by decide) k135⟩, hx.get (by decide) k136, hx.get (by decide) k137, hx.get (by decide) k138⟩, hx.mono (by decide)⟩
