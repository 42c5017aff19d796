/-! the law -/
theorem and63 (x : Int32) : ∃ k : Nat, k < 64 ∧ x &&& 63 = nI k := by
  refine ⟨(x &&& 63).toBitVec.toNat, ?_, i32_nI _⟩
  rw [Int32.toBitVec_and, BitVec.toNat_and]
  exact Nat.lt_of_le_of_lt Nat.and_le_right (by decide)
theorem n_6 {n : Nat} (h : 6 ≤ n) : nI n - 6 = nI (n - 6) := by
  have e : nI n = nI (n - 6) + 6 := by
    rw [show nI (n - 6) + 6 = nI (n - 6 + 6) from nI_add _ 6, Nat.sub_add_cancel h]
  rw [e, Int32.add_sub_cancel]
theorem go_y {n c : Nat} (hn : n ≤ 3072) (h : 6 * c + 6 ≤ n) : ¬ nI n - 6 < nI (6 * c) := by
  rw [n_6 (by omega)]
  exact nI_nlt (by omega) (by omega)
theorem go_n {n c : Nat} (hn : n ≤ 3072) (h0 : 6 * c ≤ n) (h : ¬ 6 * c + 6 ≤ n) : nI n - 6 < nI (6 * c) := by
  by_cases h6 : 6 ≤ n
  · rw [n_6 h6]
    exact nI_lt (by omega) (by omega)
  · obtain rfl : c = 0 := by omega
    rcases (by omega : n = 0 ∨ n = 1 ∨ n = 2 ∨ n = 3 ∨ n = 4 ∨ n = 5) with rfl | rfl | rfl | rfl | rfl | rfl <;> decide
set_option maxRecDepth 20000 in
set_option maxHeartbeats 1000000 in
theorem law_loop {E : EnvT} (hn : e_n E ≤ 3072) : ∀ (m c : Nat) (h : Hp), m + c = 513 → 6 * c ≤ e_n E → JS h c → Fr E mL 656 18 [.ref 61, .ref 64, .ref 117, .int (nI (6 * c))] [] h (fun r hE => r = some (.int 1) ∧ hE.2.1 ≤ 400064 ∧ hE.2.2 ≤ 5000000) := by
  intro m
  induction m with
  | zero => intro c h hm h6c _; omega
  | succ m ih =>
    intro c h hm h6c hJ
    by_cases hgo : 6 * c + 6 ≤ e_n E
    · have rest : ∀ h2 : Hp, JS h2 (c + 1) → Fr E mL 656 1273 [.ref 61, .ref 64, .ref 117, .int (nI (6 * c))] [] h2 (fun r hE => r = some (.int 1) ∧ hE.2.1 ≤ 400064 ∧ hE.2.2 ≤ 5000000) := by
        intro h2 hJ2
        obtain ⟨xi, e1273⟩ : ∃ z : Int32, z = (nI (6 * c)) + (6) := ⟨_, rfl⟩
        refine r_iinc (pc2 := 1276) (ls2 := [.ref 61, .ref 64, .ref 117, .int xi]) (v := xi) 3 dL_law_1273 rfl (by rw [e1273]; rfl) rfl rfl rfl ?_
        refine r_goto (pc2 := 18) dL_law_1276 (by decide) ?_
        rw [show xi = nI (6 * (c + 1)) from e1273.trans (by rw [show (6 * (c + 1)) = 6 * c + 6 by omega]; exact nI_add _ 6)]
        exact ih (c + 1) h2 (by omega) (by omega) hJ2
      have sw : Fr E mL 656 33 [.ref 61, .ref 64, .ref 117, .int (nI (6 * c))] [.int (e_s E (6 * c) &&& 63)] h (fun r hE => r = some (.int 1) ∧ hE.2.1 ≤ 400064 ∧ hE.2.2 ≤ 5000000) := by
        obtain ⟨k, hk, hv⟩ := and63 (e_s E (6 * c))
        rw [hv]
        clear hv
        revert hk
        match k with
        | 0 => intro _; exact r_tsw (pc2 := 0) (tgt := 204) (off := 171) dL_law_33 (by decide) (by decide) (by decide) (by decide) (lw_feed hgo hn hJ rest)
        | 1 => intro _; exact r_tsw (pc2 := 0) (tgt := 267) (off := 234) dL_law_33 (by decide) (by decide) (by decide) (by decide) (lw_street hgo hn hJ rest)
        | 2 => intro _; exact r_tsw (pc2 := 0) (tgt := 290) (off := 257) dL_law_33 (by decide) (by decide) (by decide) (by decide) (lw_fault hgo hn hJ rest)
        | 3 => intro _; exact r_tsw (pc2 := 0) (tgt := 313) (off := 280) dL_law_33 (by decide) (by decide) (by decide) (by decide) (lw_goer hgo hn hJ rest)
        | 4 => intro _; exact r_tsw (pc2 := 0) (tgt := 346) (off := 313) dL_law_33 (by decide) (by decide) (by decide) (by decide) (lw_by hgo hn hJ rest)
        | 5 => intro _; exact r_tsw (pc2 := 0) (tgt := 369) (off := 336) dL_law_33 (by decide) (by decide) (by decide) (by decide) (lw_hour hgo hn hJ rest)
        | 6 => intro _; exact r_tsw (pc2 := 0) (tgt := 392) (off := 359) dL_law_33 (by decide) (by decide) (by decide) (by decide) (lw_hours hgo hn hJ rest)
        | 7 => intro _; exact r_tsw (pc2 := 0) (tgt := 415) (off := 382) dL_law_33 (by decide) (by decide) (by decide) (by decide) (lw_hint hgo hn hJ rest)
        | 8 => intro _; exact r_tsw (pc2 := 0) (tgt := 458) (off := 425) dL_law_33 (by decide) (by decide) (by decide) (by decide) (lw_draught hgo hn hJ rest)
        | 9 => intro _; exact r_tsw (pc2 := 0) (tgt := 481) (off := 448) dL_law_33 (by decide) (by decide) (by decide) (by decide) (lw_undo hgo hn hJ rest)
        | 10 => intro _; exact r_tsw (pc2 := 0) (tgt := 504) (off := 471) dL_law_33 (by decide) (by decide) (by decide) (by decide) (lw_judge hgo hn hJ rest)
        | 11 => intro _; exact r_tsw (pc2 := 0) (tgt := 537) (off := 504) dL_law_33 (by decide) (by decide) (by decide) (by decide) (lw_perform hgo hn hJ rest)
        | 12 => intro _; exact r_tsw (pc2 := 0) (tgt := 560) (off := 527) dL_law_33 (by decide) (by decide) (by decide) (by decide) (lw_night hgo hn hJ rest)
        | 13 => intro _; exact r_tsw (pc2 := 0) (tgt := 593) (off := 560) dL_law_33 (by decide) (by decide) (by decide) (by decide) (lw_soonest hgo hn hJ rest)
        | 14 => intro _; exact r_tsw (pc2 := 0) (tgt := 616) (off := 583) dL_law_33 (by decide) (by decide) (by decide) (by decide) (lw_way hgo hn hJ rest)
        | 15 => intro _; exact r_tsw (pc2 := 0) (tgt := 649) (off := 616) dL_law_33 (by decide) (by decide) (by decide) (by decide) (lw_rows hgo hn hJ rest)
        | 16 => intro _; exact r_tsw (pc2 := 0) (tgt := 683) (off := 650) dL_law_33 (by decide) (by decide) (by decide) (by decide) (lw_can hgo hn hJ rest)
        | 17 => intro _; exact r_tsw (pc2 := 0) (tgt := 696) (off := 663) dL_law_33 (by decide) (by decide) (by decide) (by decide) (lw_most hgo hn hJ rest)
        | 18 => intro _; exact r_tsw (pc2 := 0) (tgt := 719) (off := 686) dL_law_33 (by decide) (by decide) (by decide) (by decide) (lw_deepest hgo hn hJ rest)
        | 19 => intro _; exact r_tsw (pc2 := 0) (tgt := 732) (off := 699) dL_law_33 (by decide) (by decide) (by decide) (by decide) (lw_atOnce hgo hn hJ rest)
        | 20 => intro _; exact r_tsw (pc2 := 0) (tgt := 745) (off := 712) dL_law_33 (by decide) (by decide) (by decide) (by decide) (lw_stands hgo hn hJ rest)
        | 21 => intro _; exact r_tsw (pc2 := 0) (tgt := 758) (off := 725) dL_law_33 (by decide) (by decide) (by decide) (by decide) (lw_ways hgo hn hJ rest)
        | 22 => intro _; exact r_tsw (pc2 := 0) (tgt := 771) (off := 738) dL_law_33 (by decide) (by decide) (by decide) (by decide) (lw_first hgo hn hJ rest)
        | 23 => intro _; exact r_tsw (pc2 := 0) (tgt := 794) (off := 761) dL_law_33 (by decide) (by decide) (by decide) (by decide) (lw_surely hgo hn hJ rest)
        | 24 => intro _; exact r_tsw (pc2 := 0) (tgt := 817) (off := 784) dL_law_33 (by decide) (by decide) (by decide) (by decide) (lw_odds hgo hn hJ rest)
        | 25 => intro _; exact r_tsw (pc2 := 0) (tgt := 860) (off := 827) dL_law_33 (by decide) (by decide) (by decide) (by decide) (lw_clause hgo hn hJ rest)
        | 26 => intro _; exact r_tsw (pc2 := 0) (tgt := 873) (off := 840) dL_law_33 (by decide) (by decide) (by decide) (by decide) (lw_hints hgo hn hJ rest)
        | 27 => intro _; exact r_tsw (pc2 := 0) (tgt := 896) (off := 863) dL_law_33 (by decide) (by decide) (by decide) (by decide) (lw_draughts hgo hn hJ rest)
        | 28 => intro _; exact r_tsw (pc2 := 0) (tgt := 919) (off := 886) dL_law_33 (by decide) (by decide) (by decide) (by decide) (lw_attempt hgo hn hJ rest)
        | 29 => intro _; exact r_tsw (pc2 := 0) (tgt := 942) (off := 909) dL_law_33 (by decide) (by decide) (by decide) (by decide) (lw_daring hgo hn hJ rest)
        | 30 => intro _; exact r_tsw (pc2 := 0) (tgt := 965) (off := 932) dL_law_33 (by decide) (by decide) (by decide) (by decide) (lw_dares hgo hn hJ rest)
        | 31 => intro _; exact r_tsw (pc2 := 0) (tgt := 988) (off := 955) dL_law_33 (by decide) (by decide) (by decide) (by decide) (lw_chance hgo hn hJ rest)
        | 32 => intro _; exact r_tsw (pc2 := 0) (tgt := 1021) (off := 988) dL_law_33 (by decide) (by decide) (by decide) (by decide) (lw_mean hgo hn hJ rest)
        | 33 => intro _; exact r_tsw (pc2 := 0) (tgt := 1054) (off := 1021) dL_law_33 (by decide) (by decide) (by decide) (by decide) (lw_numbers hgo hn hJ rest)
        | 34 => intro _; exact r_tsw (pc2 := 0) (tgt := 1097) (off := 1064) dL_law_33 (by decide) (by decide) (by decide) (by decide) (lw_write hgo hn hJ rest)
        | 35 => intro _; exact r_tsw (pc2 := 0) (tgt := 1171) (off := 1138) dL_law_33 (by decide) (by decide) (by decide) (by decide) (lw_lists hgo hn hJ rest)
        | 36 => intro _; exact r_tsw (pc2 := 0) (tgt := 1204) (off := 1171) dL_law_33 (by decide) (by decide) (by decide) (by decide) (lw_image hgo hn hJ rest)
        | 37 => intro _; exact r_tsw (pc2 := 0) (tgt := 1227) (off := 1194) dL_law_33 (by decide) (by decide) (by decide) (by decide) (lw_restore hgo hn hJ rest)
        | 38 => intro _; exact r_tsw (pc2 := 0) (tgt := 1250) (off := 1217) dL_law_33 (by decide) (by decide) (by decide) (by decide) (lw_count hgo hn hJ rest)
        | k + 39 =>
          intro hk
          exact r_tswD (pc2 := 0) (tgt := 1273) dL_law_33 (Or.inr (by rw [nI_toInt (by omega)]; omega)) (by decide) (rest h hJ.up)
      refine r_iload_n (pc2 := 19) 3 dL_law_18 rfl rfl rfl ?_
      refine r_aload_n (pc2 := 20) 0 dL_law_19 rfl rfl rfl rfl ?_
      refine r_slen (pc2 := 21) dL_law_20 rfl ?_
      refine r_bipush (pc2 := 23) (v := 6) dL_law_21 (by decide) rfl ?_
      refine r_isub (pc2 := 24) dL_law_23 rfl ?_
      refine r_icmp_gt (tgt := 1279) (pc2 := 27) dL_law_24 (by decide) rfl (fun b24 => ?_) (fun b24 => ?_)
      · exact absurd b24 (go_y hn hgo)
      · skip
        refine r_aload_n (pc2 := 28) 0 dL_law_27 rfl rfl rfl rfl ?_
        refine r_iload_n (pc2 := 29) 3 dL_law_28 rfl rfl rfl ?_
        refine r_sldN (pc2 := 30) (6 * c) dL_law_29 rfl (by omega) (by omega) rfl ?_
        refine r_bipush (pc2 := 32) (v := 63) dL_law_30 (by decide) rfl ?_
        refine r_iand (pc2 := 33) dL_law_32 rfl ?_
        exact sw
    · skip
      refine r_iload_n (pc2 := 19) 3 dL_law_18 rfl rfl rfl ?_
      refine r_aload_n (pc2 := 20) 0 dL_law_19 rfl rfl rfl rfl ?_
      refine r_slen (pc2 := 21) dL_law_20 rfl ?_
      refine r_bipush (pc2 := 23) (v := 6) dL_law_21 (by decide) rfl ?_
      refine r_isub (pc2 := 24) dL_law_23 rfl ?_
      refine r_icmp_gt (tgt := 1279) (pc2 := 27) dL_law_24 (by decide) rfl (fun b24 => ?_) (fun b24 => ?_)
      · skip
        refine r_iconst (pc2 := 1280) (v := 1) dL_law_1279 (by decide) rfl ?_
        exact r_zret (ty := .boolean) rfl (by decide) dL_law_1280 ⟨rfl, hJ.room (by omega)⟩
      · exact absurd (go_n hn h6c hgo) b24
set_option maxRecDepth 20000 in
set_option maxHeartbeats 1000000 in
theorem law_ok : LawOK := by
  intro E hn
  have hS1 : (h00 (e_n E) (e_s E)).2.1 = 64 := rfl
  have hS2 : (h00 (e_n E) (e_s E)).2.2 = 0 := rfl
  generalize h00 (e_n E) (e_s E) = hS at hS1 hS2 ⊢
  refine r_newX (pc2 := 3) nL_7 dL_law_0 rfl (by omega) (fun q0 h eq0 zc0 zs0 o0 c_q0 => ?_)
  obtain rfl : q0 = 64 := by omega
  have c64 := c_q0
  refine r_dup (pc2 := 4) dL_law_3 rfl rfl ?_
  refine r_callI0 (pc2 := 7) (As := []) (st := [.ref 64]) kL_9 dL_law_4 (by decide) rfl rfl (Nat.le_of_ble_eq_true rfl) (by omega) (c_new c64 (by omega) (by decide)) rfl (fun h hq4 => ?_)
  obtain ⟨w1, w2, hW⟩ := hq4
  refine r_astore_n (pc2 := 8) (ls2 := [.ref 61, .ref 64, .float 0, .float 0]) 1 dL_law_7 rfl (by decide) rfl rfl rfl rfl ?_
  refine r_newX (pc2 := 11) nL_10 dL_law_8 rfl (by omega) (fun q8 h eq8 zc8 zs8 o8 c_q8 => ?_)
  obtain rfl : q8 = 117 := by omega
  have c117 := c_q8
  have hW := hW.fr (fun q a1 a2 => o8 q (by omega))
  refine r_dup (pc2 := 12) dL_law_11 rfl rfl ?_
  refine r_callI0 (pc2 := 15) (As := []) (st := [.ref 117]) kL_12 dL_law_12 (by decide) rfl rfl (Nat.le_of_ble_eq_true rfl) (by omega) (c_model c117 (by omega) (by decide)) rfl (fun h hq12 => ?_)
  obtain ⟨w3, w4, hg, hRS⟩ := hq12
  have hW := hW.fr (fun q a1 a2 => hg.2 q (by omega) (by simp <;> omega))
  refine r_astore_n (pc2 := 16) (ls2 := [.ref 61, .ref 64, .ref 117, .float 0]) 2 dL_law_15 rfl (by decide) rfl rfl rfl rfl ?_
  refine r_iconst (pc2 := 17) (v := 0) dL_law_16 (by decide) rfl ?_
  refine r_cast (nI (6 * 0)) (rfl) ?_
  refine r_istore_n (pc2 := 18) (ls2 := [.ref 61, .ref 64, .ref 117, .int (nI (6 * 0))]) 3 dL_law_17 rfl (by decide) rfl rfl rfl ?_
  exact law_loop hn 513 0 h rfl (by omega) (js0 hW hRS w3 (by omega))
