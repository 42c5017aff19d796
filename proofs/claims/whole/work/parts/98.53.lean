/-! a new object of the class -/
/-- what the constructor leaves, its stands for undoing, images and trays aside -/
def NEWa (h : Hp) : Prop := h.1 65 = some (.inr (3, [.int 0, .int (-1), .int 0, .ref 66, .int 0, .int 0, .int 0, .int 0, .int 0, .int 0, .int 0, .ref 67, .int 0, .ref 68])) ∧ h.1 66 = some (aB 900 (fun _ => 0)) ∧ h.1 67 = some (aI 900 (fun _ => 0)) ∧ h.1 72 = some (.inr (6, uwL 0 (fun j => if j = 1 then 1 else 0) 72 .null .null)) ∧ h.1 73 = some (aI 4 (fun _ => 0)) ∧ h.1 74 = some (aI 4 (fun _ => 0)) ∧ h.1 75 = some (.inr (5, [.int 0, .int 9, .long 0, .long 0, .int 0, .int 0])) ∧ h.1 77 = some (.inr (5, [.int 0, .int 0, .long 0, .long 0, .int 0, .int 0])) ∧ h.1 79 = some (aR 5 2 (fun _ => none)) ∧ h.1 82 = some (.inr (2, [.ref 83, .int 0, .int 0, .ref 87, .null, .ref 88, .ref 89])) ∧ h.1 87 = some (aI 280 (fun _ => 0)) ∧ h.1 88 = some (aI 6 (fun _ => 0)) ∧ h.1 89 = some (aI 64 (fun _ => 0)) ∧ h.1 90 = some (.inr (4, [.int 0, .ref 91, .int (-1), .long 0, .long 0, .ref 92, .ref 93])) ∧ h.1 91 = some (aI 8 (fun _ => 0)) ∧ h.1 92 = some (aI 8 (fun _ => 0)) ∧ h.1 93 = some (aI 64 (fun _ => 0)) ∧ h.1 94 = some (aI 10 (fun _ => 0)) ∧ h.1 95 = some (aL 10 (fun _ => 0)) ∧ h.1 96 = some (aL 10 (fun _ => 0))
def c64L : List Value := [.ref 65, .int 0, .ref 72, .ref 76, .ref 77, .ref 78, .int 0, .ref 79, .ref 80, .ref 81, .ref 82, .ref 90, .ref 94, .ref 95, .ref 96, .null, .null]
theorem NEWa.frame {h h2 : Hp} (x : NEWa h) (e : ∀ q, 65 ≤ q → q < 97 → q ≠ 76 → q ≠ 78 → q ≠ 80 → q ≠ 81 → h2.1 q = h.1 q) : NEWa h2 := by
  have e9 : ∀ (q : Nat) (v : Option va_E), 65 ≤ q → q < 97 → q ≠ 76 → q ≠ 78 → q ≠ 80 → q ≠ 81 → h.1 q = v → h2.1 q = v := fun q v a1 a2 a3 a4 a5 a6 c => (e q a1 a2 a3 a4 a5 a6).trans c
  obtain ⟨a1, a2, a3, a4, a5, a6, a7, a8, a9, a10, a11, a12, a13, a14, a15, a16, a17, a18, a19, a20⟩ := x
  exact ⟨e9 _ _ (by decide) (by decide) (by decide) (by decide) (by decide) (by decide) a1, e9 _ _ (by decide) (by decide) (by decide) (by decide) (by decide) (by decide) a2, e9 _ _ (by decide) (by decide) (by decide) (by decide) (by decide) (by decide) a3, e9 _ _ (by decide) (by decide) (by decide) (by decide) (by decide) (by decide) a4, e9 _ _ (by decide) (by decide) (by decide) (by decide) (by decide) (by decide) a5, e9 _ _ (by decide) (by decide) (by decide) (by decide) (by decide) (by decide) a6, e9 _ _ (by decide) (by decide) (by decide) (by decide) (by decide) (by decide) a7, e9 _ _ (by decide) (by decide) (by decide) (by decide) (by decide) (by decide) a8, e9 _ _ (by decide) (by decide) (by decide) (by decide) (by decide) (by decide) a9, e9 _ _ (by decide) (by decide) (by decide) (by decide) (by decide) (by decide) a10, e9 _ _ (by decide) (by decide) (by decide) (by decide) (by decide) (by decide) a11, e9 _ _ (by decide) (by decide) (by decide) (by decide) (by decide) (by decide) a12, e9 _ _ (by decide) (by decide) (by decide) (by decide) (by decide) (by decide) a13, e9 _ _ (by decide) (by decide) (by decide) (by decide) (by decide) (by decide) a14, e9 _ _ (by decide) (by decide) (by decide) (by decide) (by decide) (by decide) a15, e9 _ _ (by decide) (by decide) (by decide) (by decide) (by decide) (by decide) a16, e9 _ _ (by decide) (by decide) (by decide) (by decide) (by decide) (by decide) a17, e9 _ _ (by decide) (by decide) (by decide) (by decide) (by decide) (by decide) a18, e9 _ _ (by decide) (by decide) (by decide) (by decide) (by decide) (by decide) a19, e9 _ _ (by decide) (by decide) (by decide) (by decide) (by decide) (by decide) a20⟩
def fU (b i : Nat) : Nat → Option Nat := fun j => if j < i then some (b + j) else none
theorem fU_s (b i : Nat) : va_up (fU b i) i (some (b + i)) = fU b (i + 1) := by
  funext j
  unfold fU
  by_cases h : j = i
  · rw [h, va_up_self, if_pos (by omega)]
  · rw [va_up_ne _ _ h]
    by_cases h2 : j < i
    · rw [if_pos h2, if_pos (by omega)]
    · rw [if_neg h2, if_neg (by omega)]
def fT (i : Nat) : Nat → Option Nat := fun j => if j < i then some (109 + 2 * j) else none
theorem fT_s (i : Nat) : va_up (fT i) i (some (109 + 2 * i)) = fT (i + 1) := by
  funext j
  unfold fT
  by_cases h : j = i
  · rw [h, va_up_self, if_pos (by omega)]
  · rw [va_up_ne _ _ h]
    by_cases h2 : j < i
    · rw [if_pos h2, if_pos (by omega)]
    · rw [if_neg h2, if_neg (by omega)]
def NEW (h : Hp) : Prop := NEWa h ∧ h.1 64 = some (.inr (9, c64L)) ∧ h.1 76 = some (.inr (5, [.int 0, .int 9, .long 0, .long 0, .int 0, .int 0])) ∧ h.1 78 = some (aR 4 10 (fU 97 10)) ∧ (∀ j, j < 10 → h.1 (97 + j) = some (.inr (5, [.int 0, .int 0, .long 0, .long 0, .int 0, .int 0]))) ∧ h.1 80 = some (aR 4 2 (fU 107 2)) ∧ (∀ j, j < 2 → h.1 (107 + j) = some (.inr (5, [.int 0, .int 0, .long 0, .long 0, .int 0, .int 0]))) ∧ h.1 81 = some (aR 6 4 (fT 4)) ∧ ∀ t, t < 4 → h.1 (109 + 2 * t) = some (.inr (7, [.int 1, .int 0, .int 0, .ref (109 + 2 * t + 1)])) ∧ h.1 (109 + 2 * t + 1) = some (aL 40 (fun _ => 0))
theorem fU_0 (b : Nat) : (fun _ => none) = fU b 0 := by
  funext j
  exact (if_neg (Nat.not_lt_zero j)).symm
theorem fT_0 : (fun _ => none) = fT 0 := by
  funext j
  exact (if_neg (Nat.not_lt_zero j)).symm
set_option maxRecDepth 20000 in
set_option maxHeartbeats 1000000 in
theorem c_new {E : EnvT} {d : Nat} {h0 : Hp} (c64 : h0.1 64 = some (.inr (9, [.null, .int 0, .null, .null, .null, .null, .int 0, .null, .null, .null, .null, .null, .null, .null, .null, .null, .null]))) (hn : h0.2.1 = 65) (hd : 5 ≤ d) : Cn E mX9_init d [.ref 64] h0 (fun r h2 => r = none ∧ h2.2.1 = 117 ∧ h2.2.2 ≤ h0.2.2 + 5000 ∧ NEW h2) := by
  have l1 : ∀ (hb : Hp), hb.2.1 = 97 → (∀ (h : Hp), Gx [78] hb h → h.1 64 = some (.inr (9, c64L)) → h.1 78 = some (aR 4 10 (fU 97 10)) → (∀ j, j < 10 → h.1 (97 + j) = some (.inr (5, [.int 0, .int 0, .long 0, .long 0, .int 0, .int 0]))) → h.2.1 = 107 → h.2.2 ≤ hb.2.2 + 60 → Fr E mX9_init d 155 [.ref 64, .int (nI 10)] [] h (fun r h2 => r = none ∧ h2.2.1 = 117 ∧ h2.2.2 ≤ h0.2.2 + 5000 ∧ NEW h2)) → ∀ (m i : Nat) (h : Hp), i + m = 10 → h.2.1 = 97 + 1 * i → h.2.2 ≤ hb.2.2 + 6 * i → Gx [78] hb h → h.1 64 = some (.inr (9, c64L)) → h.1 78 = some (aR 4 10 (fU 97 i)) → (∀ j, j < i → h.1 (97 + j) = some (.inr (5, [.int 0, .int 0, .long 0, .long 0, .int 0, .int 0]))) → Fr E mX9_init d 130 [.ref 64, .int (nI i)] [] h (fun r h2 => r = none ∧ h2.2.1 = 117 ∧ h2.2.2 ≤ h0.2.2 + 5000 ∧ NEW h2) := by
    intro hb hb1 fin m
    induction m with
    | zero =>
      intro i h hm h1 h2 hgx c64 c78 hst
      obtain rfl : i = 10 := by omega
      refine r_iload_n (pc2 := 131) 1 dX9_init_130 rfl rfl rfl ?_
      refine r_bipush (pc2 := 133) (v := 10) dX9_init_131 (by decide) rfl ?_
      refine r_icmp_ge (tgt := 155) (pc2 := 136) dX9_init_133 (by decide) rfl (fun b133 => ?_) (fun b133 => ?_)
      · skip
        exact fin h hgx c64 c78 hst (by omega) (by omega)
      · exact absurd (nI_le (a := 10) (b := 10) (by omega) (by omega)) b133
    | succ m ih =>
      intro i h hm h1 h2 hgx c64 c78 hst
      have hlt : i < 10 := by omega
      refine r_iload_n (pc2 := 131) 1 dX9_init_130 rfl rfl rfl ?_
      refine r_bipush (pc2 := 133) (v := 10) dX9_init_131 (by decide) rfl ?_
      refine r_icmp_ge (tgt := 155) (pc2 := 136) dX9_init_133 (by decide) rfl (fun b133 => ?_) (fun b133 => ?_)
      · exact absurd b133 (nI_ge (b := 10) hlt (by decide))
      · skip
        refine r_aload_n (pc2 := 137) 0 dX9_init_136 rfl rfl rfl rfl ?_
        refine r_getf (pc2 := 140) (v := .ref 78) fX9_35 dX9_init_137 c64 (by decide) rfl rfl ?_
        refine r_iload_n (pc2 := 141) 1 dX9_init_140 rfl rfl rfl ?_
        refine r_newX (pc2 := 144) nX9_25 dX9_init_141 rfl (by omega) (fun q h eq zc141 zs141 o141 c_q => ?_)
        have c64 := (o141 64 (by omega)).trans c64
        have c78 := (o141 78 (by omega)).trans c78
        have hgx := hgx.fresh (a := q) (by have := hgx.1; omega) o141 (by omega)
        refine r_dup (pc2 := 145) dX9_init_144 rfl rfl ?_
        refine r_callI0 (pc2 := 148) (As := []) (st := [.ref q, .int (nI i), .ref 78]) kX9_27 dX9_init_145 (by omega) rfl rfl (Nat.le_of_ble_eq_true rfl) (by omega) (c_stand0 c_q (by omega) (by omega)) rfl (fun h2 hq145 => ?_)
        obtain rfl := hq145.symm
        refine r_aastX (pc2 := 149) dX9_init_148 c78 rfl (fun _ => rfl) (by decide) (nI_vp (j := i) rfl (by omega) (by decide)).1 (nI_clamp (by omega)) c_q (by omega) rfl (fun h z148 o148 c78 => ?_)
        have c64 := (o148 64 (by decide)).trans c64
        have c_q := (o148 q (by omega)).trans c_q
        have hgx := hgx.step (a := 78) (by simp) o148 z148
        have y1z148 := congrArg Prod.fst z148
        have y2z148 := congrArg Prod.snd z148
        obtain ⟨xi, e149⟩ : ∃ z : Int32, z = (nI i) + (1) := ⟨_, rfl⟩
        refine r_iinc (pc2 := 152) (ls2 := [.ref 64, .int xi]) (v := xi) 1 dX9_init_149 rfl (by rw [e149]; rfl) rfl rfl rfl ?_
        refine r_goto (pc2 := 130) dX9_init_152 (by decide) ?_
        rw [show xi = nI (i + 1) from e149.trans (nI_1 _)]
        obtain rfl : q = 97 + i := by omega
        rw [fU_s] at c78
        exact ih (i + 1) h (by omega) (by omega) (by omega) hgx c64 c78 (fun j hj => by
          by_cases ej : j = i
          · rw [ej]; exact c_q
          · have w1 : h.1 (97 + j) = _ := (o148 (97 + j) (by omega)).trans ((o141 (97 + j) (by omega)).trans (hst j (by omega)))
            exact w1)
  have l2 : ∀ (hb : Hp), hb.2.1 = 107 → (∀ (h : Hp), Gx [80] hb h → h.1 64 = some (.inr (9, c64L)) → h.1 80 = some (aR 4 2 (fU 107 2)) → (∀ j, j < 2 → h.1 (107 + j) = some (.inr (5, [.int 0, .int 0, .long 0, .long 0, .int 0, .int 0]))) → h.2.1 = 109 → h.2.2 ≤ hb.2.2 + 12 → Fr E mX9_init d 181 [.ref 64, .int (nI 2)] [] h (fun r h2 => r = none ∧ h2.2.1 = 117 ∧ h2.2.2 ≤ h0.2.2 + 5000 ∧ NEW h2)) → ∀ (m i : Nat) (h : Hp), i + m = 2 → h.2.1 = 107 + 1 * i → h.2.2 ≤ hb.2.2 + 6 * i → Gx [80] hb h → h.1 64 = some (.inr (9, c64L)) → h.1 80 = some (aR 4 2 (fU 107 i)) → (∀ j, j < i → h.1 (107 + j) = some (.inr (5, [.int 0, .int 0, .long 0, .long 0, .int 0, .int 0]))) → Fr E mX9_init d 157 [.ref 64, .int (nI i)] [] h (fun r h2 => r = none ∧ h2.2.1 = 117 ∧ h2.2.2 ≤ h0.2.2 + 5000 ∧ NEW h2) := by
    intro hb hb1 fin m
    induction m with
    | zero =>
      intro i h hm h1 h2 hgx c64 c80 hst
      obtain rfl : i = 2 := by omega
      refine r_iload_n (pc2 := 158) 1 dX9_init_157 rfl rfl rfl ?_
      refine r_iconst (pc2 := 159) (v := 2) dX9_init_158 (by decide) rfl ?_
      refine r_icmp_ge (tgt := 181) (pc2 := 162) dX9_init_159 (by decide) rfl (fun b159 => ?_) (fun b159 => ?_)
      · skip
        exact fin h hgx c64 c80 hst (by omega) (by omega)
      · exact absurd (nI_le (a := 2) (b := 2) (by omega) (by omega)) b159
    | succ m ih =>
      intro i h hm h1 h2 hgx c64 c80 hst
      have hlt : i < 2 := by omega
      refine r_iload_n (pc2 := 158) 1 dX9_init_157 rfl rfl rfl ?_
      refine r_iconst (pc2 := 159) (v := 2) dX9_init_158 (by decide) rfl ?_
      refine r_icmp_ge (tgt := 181) (pc2 := 162) dX9_init_159 (by decide) rfl (fun b159 => ?_) (fun b159 => ?_)
      · exact absurd b159 (nI_ge (b := 2) hlt (by decide))
      · skip
        refine r_aload_n (pc2 := 163) 0 dX9_init_162 rfl rfl rfl rfl ?_
        refine r_getf (pc2 := 166) (v := .ref 80) fX9_43 dX9_init_163 c64 (by decide) rfl rfl ?_
        refine r_iload_n (pc2 := 167) 1 dX9_init_166 rfl rfl rfl ?_
        refine r_newX (pc2 := 170) nX9_25 dX9_init_167 rfl (by omega) (fun q h eq zc167 zs167 o167 c_q => ?_)
        have c64 := (o167 64 (by omega)).trans c64
        have c80 := (o167 80 (by omega)).trans c80
        have hgx := hgx.fresh (a := q) (by have := hgx.1; omega) o167 (by omega)
        refine r_dup (pc2 := 171) dX9_init_170 rfl rfl ?_
        refine r_callI0 (pc2 := 174) (As := []) (st := [.ref q, .int (nI i), .ref 80]) kX9_27 dX9_init_171 (by omega) rfl rfl (Nat.le_of_ble_eq_true rfl) (by omega) (c_stand0 c_q (by omega) (by omega)) rfl (fun h2 hq171 => ?_)
        obtain rfl := hq171.symm
        refine r_aastX (pc2 := 175) dX9_init_174 c80 rfl (fun _ => rfl) (by decide) (nI_vp (j := i) rfl (by omega) (by decide)).1 (nI_clamp (by omega)) c_q (by omega) rfl (fun h z174 o174 c80 => ?_)
        have c64 := (o174 64 (by decide)).trans c64
        have c_q := (o174 q (by omega)).trans c_q
        have hgx := hgx.step (a := 80) (by simp) o174 z174
        have y1z174 := congrArg Prod.fst z174
        have y2z174 := congrArg Prod.snd z174
        obtain ⟨xi, e175⟩ : ∃ z : Int32, z = (nI i) + (1) := ⟨_, rfl⟩
        refine r_iinc (pc2 := 178) (ls2 := [.ref 64, .int xi]) (v := xi) 1 dX9_init_175 rfl (by rw [e175]; rfl) rfl rfl rfl ?_
        refine r_goto (pc2 := 157) dX9_init_178 (by decide) ?_
        rw [show xi = nI (i + 1) from e175.trans (nI_1 _)]
        obtain rfl : q = 107 + i := by omega
        rw [fU_s] at c80
        exact ih (i + 1) h (by omega) (by omega) (by omega) hgx c64 c80 (fun j hj => by
          by_cases ej : j = i
          · rw [ej]; exact c_q
          · have w1 : h.1 (107 + j) = _ := (o174 (107 + j) (by omega)).trans ((o167 (107 + j) (by omega)).trans (hst j (by omega)))
            exact w1)
  have l3 : ∀ (hb : Hp), hb.2.1 = 109 → (∀ (h : Hp), Gx [81] hb h → h.1 64 = some (.inr (9, c64L)) → h.1 81 = some (aR 6 4 (fT 4)) → (∀ j, j < 4 → h.1 (109 + 2 * j) = some (.inr (7, [.int 1, .int 0, .int 0, .ref (109 + 2 * j + 1)])) ∧ h.1 (109 + 2 * j + 1) = some (aL 40 (fun _ => 0))) → h.2.1 = 117 → h.2.2 ≤ hb.2.2 + 176 → Fr E mX9_init d 207 [.ref 64, .int (nI 4)] [] h (fun r h2 => r = none ∧ h2.2.1 = 117 ∧ h2.2.2 ≤ h0.2.2 + 5000 ∧ NEW h2)) → ∀ (m i : Nat) (h : Hp), i + m = 4 → h.2.1 = 109 + 2 * i → h.2.2 ≤ hb.2.2 + 44 * i → Gx [81] hb h → h.1 64 = some (.inr (9, c64L)) → h.1 81 = some (aR 6 4 (fT i)) → (∀ j, j < i → h.1 (109 + 2 * j) = some (.inr (7, [.int 1, .int 0, .int 0, .ref (109 + 2 * j + 1)])) ∧ h.1 (109 + 2 * j + 1) = some (aL 40 (fun _ => 0))) → Fr E mX9_init d 183 [.ref 64, .int (nI i)] [] h (fun r h2 => r = none ∧ h2.2.1 = 117 ∧ h2.2.2 ≤ h0.2.2 + 5000 ∧ NEW h2) := by
    intro hb hb1 fin m
    induction m with
    | zero =>
      intro i h hm h1 h2 hgx c64 c81 hst
      obtain rfl : i = 4 := by omega
      refine r_iload_n (pc2 := 184) 1 dX9_init_183 rfl rfl rfl ?_
      refine r_iconst (pc2 := 185) (v := 4) dX9_init_184 (by decide) rfl ?_
      refine r_icmp_ge (tgt := 207) (pc2 := 188) dX9_init_185 (by decide) rfl (fun b185 => ?_) (fun b185 => ?_)
      · skip
        exact fin h hgx c64 c81 hst (by omega) (by omega)
      · exact absurd (nI_le (a := 4) (b := 4) (by omega) (by omega)) b185
    | succ m ih =>
      intro i h hm h1 h2 hgx c64 c81 hst
      have hlt : i < 4 := by omega
      obtain ⟨hO, ehO⟩ : ∃ z : Hp, z = h := ⟨_, rfl⟩
      subst ehO
      refine r_iload_n (pc2 := 184) 1 dX9_init_183 rfl rfl rfl ?_
      refine r_iconst (pc2 := 185) (v := 4) dX9_init_184 (by decide) rfl ?_
      refine r_icmp_ge (tgt := 207) (pc2 := 188) dX9_init_185 (by decide) rfl (fun b185 => ?_) (fun b185 => ?_)
      · exact absurd b185 (nI_ge (b := 4) hlt (by decide))
      · skip
        refine r_aload_n (pc2 := 189) 0 dX9_init_188 rfl rfl rfl rfl ?_
        refine r_getf (pc2 := 192) (v := .ref 81) fX9_48 dX9_init_189 c64 (by decide) rfl rfl ?_
        refine r_iload_n (pc2 := 193) 1 dX9_init_192 rfl rfl rfl ?_
        refine r_newX (pc2 := 196) nX9_46 dX9_init_193 rfl (by omega) (fun q h eq zc193 zs193 o193 c_q => ?_)
        have c64 := (o193 64 (by omega)).trans c64
        have c81 := (o193 81 (by omega)).trans c81
        have hgx := hgx.fresh (a := q) (by have := hgx.1; omega) o193 (by omega)
        refine r_dup (pc2 := 197) dX9_init_196 rfl rfl ?_
        refine r_callI0 (pc2 := 200) (As := []) (st := [.ref q, .int (nI i), .ref 81]) kX9_77 dX9_init_197 (by omega) rfl rfl (Nat.le_of_ble_eq_true rfl) (by omega) (c_tray0 c_q (by omega) (by omega) (by omega)) rfl (fun h hq197 => ?_)
        obtain ⟨w1, w2, hgt, c_q, c_v⟩ := hq197
        have c64 := hgt.get (by simp <;> omega) (by omega) c64
        have c81 := hgt.get (by simp <;> omega) (by omega) c81
        have hgx := hgx.tr hgt (by simp <;> omega)
        refine r_aastX (pc2 := 201) dX9_init_200 c81 rfl (fun _ => rfl) (by decide) (nI_vp (j := i) rfl (by omega) (by decide)).1 (nI_clamp (by omega)) c_q (by omega) rfl (fun h z200 o200 c81 => ?_)
        have c64 := (o200 64 (by decide)).trans c64
        have c_q := (o200 q (by omega)).trans c_q
        have hgx := hgx.step (a := 81) (by simp) o200 z200
        have y1z200 := congrArg Prod.fst z200
        have y2z200 := congrArg Prod.snd z200
        obtain ⟨xi, e201⟩ : ∃ z : Int32, z = (nI i) + (1) := ⟨_, rfl⟩
        refine r_iinc (pc2 := 204) (ls2 := [.ref 64, .int xi]) (v := xi) 1 dX9_init_201 rfl (by rw [e201]; rfl) rfl rfl rfl ?_
        refine r_goto (pc2 := 183) dX9_init_204 (by decide) ?_
        rw [show xi = nI (i + 1) from e201.trans (nI_1 _)]
        obtain rfl : q = 109 + 2 * i := by omega
        rw [fT_s] at c81
        exact ih (i + 1) h (by omega) (by omega) (by omega) hgx c64 c81 (fun j hj => by
          by_cases ej : j = i
          · rw [ej]; exact ⟨c_q, (o200 _ (by omega)).trans c_v⟩
          · have w9 : ∀ y, 109 ≤ y → y < 109 + 2 * i → h.1 y = hO.1 y := fun y y1 y2 => (o200 y (by omega)).trans ((hgt.2 y (by omega) (by simp <;> omega)).trans (o193 y (by omega)))
            obtain ⟨u1, u2⟩ := hst j (by omega)
            exact ⟨(w9 _ (by omega) (by omega)).trans u1, (w9 _ (by omega) (by omega)).trans u2⟩)
  have lp1 : ∀ h : Hp, NEWa h → h.1 64 = some (.inr (9, c64L)) → aSt h 76 → h.1 78 = some (aR 4 10 (fun _ => none)) → h.1 80 = some (aR 4 2 (fun _ => none)) → h.1 81 = some (aR 6 4 (fun _ => none)) → h.2.1 = 97 → h.2.2 ≤ h0.2.2 + 3000 → Fr E mX9_init d 130 [.ref 64, .int (nI 0)] [] h (fun r h2 => r = none ∧ h2.2.1 = 117 ∧ h2.2.2 ≤ h0.2.2 + 5000 ∧ NEW h2) := by
    intro hA0 hA c64 ⟨y0, y1, y2, y3, y4, y5, c76⟩ c78 c80 c81 hA1 hA2
    rw [fU_0 97] at c78
    rw [fU_0 107] at c80
    rw [fT_0] at c81
    refine l1 hA0 hA1 (fun hB g1 c64 e78 e97 hB1 hB2 => ?_) 10 0 hA0 rfl hA1 (Nat.le_refl _) Gx.rf c64 c78 (fun j hj => absurd hj (Nat.not_lt_zero _))
    refine r_iconst (pc2 := 156) (v := 0) dX9_init_155 (by decide) rfl ?_
    refine r_cast (nI 0) (rfl) ?_
    refine r_istore_n (pc2 := 157) (ls2 := [.ref 64, .int (nI 0)]) 1 dX9_init_156 rfl (by decide) rfl rfl rfl ?_
    refine l2 hB hB1 (fun hC g2 c64 c80 e107 hC1 hC2 => ?_) 2 0 hB rfl hB1 (Nat.le_refl _) Gx.rf c64 (g1.get (by decide) (by omega) c80) (fun j hj => absurd hj (Nat.not_lt_zero _))
    refine r_iconst (pc2 := 182) (v := 0) dX9_init_181 (by decide) rfl ?_
    refine r_cast (nI 0) (rfl) ?_
    refine r_istore_n (pc2 := 183) (ls2 := [.ref 64, .int (nI 0)]) 1 dX9_init_182 rfl (by decide) rfl rfl rfl ?_
    refine l3 hC hC1 (fun hD g3 c64 c81 e109 hn3 hD2 => ?_) 4 0 hC rfl hC1 (Nat.le_refl _) Gx.rf c64 (g2.get (by decide) (by omega) (g1.get (by decide) (by omega) c81)) (fun j hj => absurd hj (Nat.not_lt_zero _))
    have c76 := g3.get (by decide) (by omega) (g2.get (by decide) (by omega) (g1.get (by decide) (by omega) c76))
    have k65 : ∀ q, 65 ≤ q → q < 97 → q ≠ 78 → q ≠ 80 → q ≠ 81 → hD.1 q = hA0.1 q := fun q b1 b2 b3 b4 b5 => (g3.2 q (by omega) (by simp <;> omega)).trans ((g2.2 q (by omega) (by simp <;> omega)).trans (g1.2 q (by omega) (by simp <;> omega)))
    have e78 := g3.get (by decide) (by omega) (g2.get (by decide) (by omega) e78)
    have e97 := fun j hj => g3.get (by simp <;> omega) (by omega) (g2.get (by simp <;> omega) (by omega) (e97 j hj))
    have e80 := g3.get (by decide) (by omega) c80
    have e107 := fun j hj => g3.get (by simp <;> omega) (by omega) (e107 j hj)
    have e81 := c81
    have c72 := (k65 72 (by decide) (by decide) (by decide) (by decide) (by decide)).trans hA.2.2.2.1
    have c75 := (k65 75 (by decide) (by decide) (by decide) (by decide) (by decide)).trans hA.2.2.2.2.2.2.1
    refine r_aload_n (pc2 := 208) 0 dX9_init_207 rfl rfl rfl rfl ?_
    refine r_getf (pc2 := 211) (v := .ref 76) fX9_28 dX9_init_208 c64 (by decide) rfl rfl ?_
    refine r_aload_n (pc2 := 212) 0 dX9_init_211 rfl rfl rfl rfl ?_
    refine r_getf (pc2 := 215) (v := .ref 72) fX9_21 dX9_init_212 c64 (by decide) rfl rfl ?_
    refine r_getf (pc2 := 218) (v := .ref 75) fX9_78 dX9_init_215 c72 (by decide) rfl rfl ?_
    refine r_callV0 (pc2 := 221) (As := [.ref 75]) (st := []) kX9_81 rfl rfl dX9_init_218 c76 (by decide) rfl rfl (Nat.le_of_ble_eq_true rfl) (by omega) (c_become (p := 76) (q := 75) c76 c75 (by decide) (by decide) (by decide)) rfl (fun h hq218 => ?_)
    obtain ⟨hxb, c76⟩ := hq218
    have c64 := hxb.get (by decide) c64
    have c72 := hxb.get (by decide) c72
    have c75 := hxb.get (by decide) c75
    exact r_vret rfl dX9_init_221 ⟨rfl, by rw [hxb.1]; exact hn3, by rw [hxb.1]; omega, hA.frame (fun q b1 b2 b3 b4 b5 b6 => (hxb.2 q (by simp <;> omega)).trans (k65 q b1 b2 b4 b5 b6)), c64, c76, hxb.get (by decide) e78, fun j hj => hxb.get (by simp <;> omega) (e97 j hj), hxb.get (by decide) e80, fun j hj => hxb.get (by simp <;> omega) (e107 j hj), hxb.get (by decide) e81, fun t ht => ⟨hxb.get (by simp <;> omega) (e109 t ht).1, hxb.get (by simp <;> omega) (e109 t ht).2⟩⟩
  have hgx : Gx [64] h0 h0 := Gx.rf
  refine Cn.go (ls := [.ref 64, .float 0]) (by decide +kernel) rfl (Nat.le_of_ble_eq_true rfl) ?_
  refine r_aload_n (pc2 := 1) 0 dX9_init_0 rfl rfl rfl rfl ?_
  refine r_objInit (pc2 := 4) oX9_1 dX9_init_1 (by decide) (Nat.le_of_ble_eq_true rfl) (by omega) rfl ?_
  refine r_aload_n (pc2 := 5) 0 dX9_init_4 rfl rfl rfl rfl ?_
  refine r_newX (pc2 := 8) nX9_7 dX9_init_5 rfl (by omega) (fun q5 h eq5 zc5 zs5 o5 c_q5 => ?_)
  have c64 := (o5 64 (by omega)).trans c64
  have hgx := hgx.fresh (a := q5) (by have := hgx.1; omega) o5 (by omega)
  obtain rfl : q5 = 65 := by omega
  have c65 := c_q5
  refine r_dup (pc2 := 9) dX9_init_8 rfl rfl ?_
  refine r_callI0 (pc2 := 12) (As := []) (st := [.ref 65, .ref 64]) kX9_9 dX9_init_9 (by decide) rfl rfl (Nat.le_of_ble_eq_true rfl) (by omega) (c_reader0 c65 (by omega) (by omega)) rfl (fun h hq9 => ?_)
  obtain ⟨w1_9, w2_9, hg9, c65, c66, c67⟩ := hq9
  have c64 := hg9.get (by simp) (by omega) c64
  have hgx := hgx.tr hg9 (by simp <;> omega)
  refine r_putFX (pc2 := 15) [.ref 65, .int 0, .null, .null, .null, .null, .int 0, .null, .null, .null, .null, .null, .null, .null, .null, .null, .null] FX9_10 rfl dX9_init_12 c64 (by decide) (Nat.le_of_ble_eq_true rfl) (okO (by decide)) rfl rfl (fun h z12 o12 c64 => ?_)
  have c65 := (o12 65 (by decide)).trans c65
  have c66 := (o12 66 (by decide)).trans c66
  have c67 := (o12 67 (by decide)).trans c67
  have hgx := hgx.step (a := 64) (by simp) o12 z12
  have y1z12 := congrArg Prod.fst z12
  have y2z12 := congrArg Prod.snd z12
  refine r_aload_n (pc2 := 16) 0 dX9_init_15 rfl rfl rfl rfl ?_
  refine r_newX (pc2 := 19) nX9_16 dX9_init_16 rfl (by omega) (fun q16 h eq16 zc16 zs16 o16 c_q16 => ?_)
  have c64 := (o16 64 (by omega)).trans c64
  have c65 := (o16 65 (by omega)).trans c65
  have c66 := (o16 66 (by omega)).trans c66
  have c67 := (o16 67 (by omega)).trans c67
  have hgx := hgx.fresh (a := q16) (by have := hgx.1; omega) o16 (by omega)
  obtain rfl : q16 = 72 := by omega
  have c72 := c_q16
  refine r_dup (pc2 := 20) dX9_init_19 rfl rfl ?_
  refine r_iconst (pc2 := 21) (v := 0) dX9_init_20 (by decide) rfl ?_
  refine r_callI0 (pc2 := 24) (As := [.int 0]) (st := [.ref 72, .ref 64]) kX9_18 dX9_init_21 (by decide) rfl rfl (Nat.le_of_ble_eq_true rfl) (by omega) (c_street0 c72 (by omega) (by omega) (by omega)) rfl (fun h hq21 => ?_)
  obtain ⟨w1_21, w2_21, hg21, c72, c73, c74, c75⟩ := hq21
  have c64 := hg21.get (by simp) (by omega) c64
  have c65 := hg21.get (by simp) (by omega) c65
  have c66 := hg21.get (by simp) (by omega) c66
  have c67 := hg21.get (by simp) (by omega) c67
  have hgx := hgx.tr hg21 (by simp; omega)
  refine r_putfX (pc2 := 27) [.ref 65, .int 0, .ref 72, .null, .null, .null, .int 0, .null, .null, .null, .null, .null, .null, .null, .null, .null, .null] fX9_21 dX9_init_24 c64 (by decide) (Nat.le_of_ble_eq_true rfl) (okO (by decide)) rfl rfl (fun h z24 o24 c64 => ?_)
  have c65 := (o24 65 (by decide)).trans c65
  have c66 := (o24 66 (by decide)).trans c66
  have c67 := (o24 67 (by decide)).trans c67
  have c72 := (o24 72 (by decide)).trans c72
  have c73 := (o24 73 (by decide)).trans c73
  have c74 := (o24 74 (by decide)).trans c74
  have c75 := (o24 75 (by decide)).trans c75
  have hgx := hgx.step (a := 64) (by simp) o24 z24
  have y1z24 := congrArg Prod.fst z24
  have y2z24 := congrArg Prod.snd z24
  refine r_aload_n (pc2 := 28) 0 dX9_init_27 rfl rfl rfl rfl ?_
  refine r_newX (pc2 := 31) nX9_25 dX9_init_28 rfl (by omega) (fun q28 h eq28 zc28 zs28 o28 c_q28 => ?_)
  have c64 := (o28 64 (by omega)).trans c64
  have c65 := (o28 65 (by omega)).trans c65
  have c66 := (o28 66 (by omega)).trans c66
  have c67 := (o28 67 (by omega)).trans c67
  have c72 := (o28 72 (by omega)).trans c72
  have c73 := (o28 73 (by omega)).trans c73
  have c74 := (o28 74 (by omega)).trans c74
  have c75 := (o28 75 (by omega)).trans c75
  have hgx := hgx.fresh (a := q28) (by have := hgx.1; omega) o28 (by omega)
  obtain rfl : q28 = 76 := by omega
  have c76 := c_q28
  refine r_dup (pc2 := 32) dX9_init_31 rfl rfl ?_
  refine r_callI0 (pc2 := 35) (As := []) (st := [.ref 76, .ref 64]) kX9_27 dX9_init_32 (by decide) rfl rfl (Nat.le_of_ble_eq_true rfl) (by omega) (c_stand0 c76 (by omega) (by omega)) rfl (fun h2 hq32 => ?_)
  obtain rfl := hq32.symm
  refine r_putFX (pc2 := 38) [.ref 65, .int 0, .ref 72, .ref 76, .null, .null, .int 0, .null, .null, .null, .null, .null, .null, .null, .null, .null, .null] FX9_28 rfl dX9_init_35 c64 (by decide) (Nat.le_of_ble_eq_true rfl) (okO (by decide)) rfl rfl (fun h z35 o35 c64 => ?_)
  have c65 := (o35 65 (by decide)).trans c65
  have c66 := (o35 66 (by decide)).trans c66
  have c67 := (o35 67 (by decide)).trans c67
  have c72 := (o35 72 (by decide)).trans c72
  have c73 := (o35 73 (by decide)).trans c73
  have c74 := (o35 74 (by decide)).trans c74
  have c75 := (o35 75 (by decide)).trans c75
  have c76 := (o35 76 (by decide)).trans c76
  have hgx := hgx.step (a := 64) (by simp) o35 z35
  have y1z35 := congrArg Prod.fst z35
  have y2z35 := congrArg Prod.snd z35
  refine r_aload_n (pc2 := 39) 0 dX9_init_38 rfl rfl rfl rfl ?_
  refine r_newX (pc2 := 42) nX9_25 dX9_init_39 rfl (by omega) (fun q39 h eq39 zc39 zs39 o39 c_q39 => ?_)
  have c64 := (o39 64 (by omega)).trans c64
  have c65 := (o39 65 (by omega)).trans c65
  have c66 := (o39 66 (by omega)).trans c66
  have c67 := (o39 67 (by omega)).trans c67
  have c72 := (o39 72 (by omega)).trans c72
  have c73 := (o39 73 (by omega)).trans c73
  have c74 := (o39 74 (by omega)).trans c74
  have c75 := (o39 75 (by omega)).trans c75
  have c76 := (o39 76 (by omega)).trans c76
  have hgx := hgx.fresh (a := q39) (by have := hgx.1; omega) o39 (by omega)
  obtain rfl : q39 = 77 := by omega
  have c77 := c_q39
  refine r_dup (pc2 := 43) dX9_init_42 rfl rfl ?_
  refine r_callI0 (pc2 := 46) (As := []) (st := [.ref 77, .ref 64]) kX9_27 dX9_init_43 (by decide) rfl rfl (Nat.le_of_ble_eq_true rfl) (by omega) (c_stand0 c77 (by omega) (by omega)) rfl (fun h2 hq43 => ?_)
  obtain rfl := hq43.symm
  refine r_putFX (pc2 := 49) [.ref 65, .int 0, .ref 72, .ref 76, .ref 77, .null, .int 0, .null, .null, .null, .null, .null, .null, .null, .null, .null, .null] FX9_32 rfl dX9_init_46 c64 (by decide) (Nat.le_of_ble_eq_true rfl) (okO (by decide)) rfl rfl (fun h z46 o46 c64 => ?_)
  have c65 := (o46 65 (by decide)).trans c65
  have c66 := (o46 66 (by decide)).trans c66
  have c67 := (o46 67 (by decide)).trans c67
  have c72 := (o46 72 (by decide)).trans c72
  have c73 := (o46 73 (by decide)).trans c73
  have c74 := (o46 74 (by decide)).trans c74
  have c75 := (o46 75 (by decide)).trans c75
  have c76 := (o46 76 (by decide)).trans c76
  have c77 := (o46 77 (by decide)).trans c77
  have hgx := hgx.step (a := 64) (by simp) o46 z46
  have y1z46 := congrArg Prod.fst z46
  have y2z46 := congrArg Prod.snd z46
  refine r_aload_n (pc2 := 50) 0 dX9_init_49 rfl rfl rfl rfl ?_
  refine r_bipush (pc2 := 52) (v := 10) dX9_init_50 (by decide) rfl ?_
  refine r_newqX (pc2 := 55) (N := 10) (k := 4) (fun _ => rfl) (by decide) qX9_25 dX9_init_52 (by decide) (by decide) (by decide) rfl (by omega) (fun q52 h eq52 zc52 zs52 o52 c_q52 => ?_)
  have c64 := (o52 64 (by omega)).trans c64
  have c65 := (o52 65 (by omega)).trans c65
  have c66 := (o52 66 (by omega)).trans c66
  have c67 := (o52 67 (by omega)).trans c67
  have c72 := (o52 72 (by omega)).trans c72
  have c73 := (o52 73 (by omega)).trans c73
  have c74 := (o52 74 (by omega)).trans c74
  have c75 := (o52 75 (by omega)).trans c75
  have c76 := (o52 76 (by omega)).trans c76
  have c77 := (o52 77 (by omega)).trans c77
  have hgx := hgx.fresh (a := q52) (by have := hgx.1; omega) o52 (by omega)
  obtain rfl : q52 = 78 := by omega
  have c78 := c_q52
  refine r_putFX (pc2 := 58) [.ref 65, .int 0, .ref 72, .ref 76, .ref 77, .ref 78, .int 0, .null, .null, .null, .null, .null, .null, .null, .null, .null, .null] FX9_35 rfl dX9_init_55 c64 (by decide) (Nat.le_of_ble_eq_true rfl) (okA (by decide)) rfl rfl (fun h z55 o55 c64 => ?_)
  have c65 := (o55 65 (by decide)).trans c65
  have c66 := (o55 66 (by decide)).trans c66
  have c67 := (o55 67 (by decide)).trans c67
  have c72 := (o55 72 (by decide)).trans c72
  have c73 := (o55 73 (by decide)).trans c73
  have c74 := (o55 74 (by decide)).trans c74
  have c75 := (o55 75 (by decide)).trans c75
  have c76 := (o55 76 (by decide)).trans c76
  have c77 := (o55 77 (by decide)).trans c77
  have c78 := (o55 78 (by decide)).trans c78
  have hgx := hgx.step (a := 64) (by simp) o55 z55
  have y1z55 := congrArg Prod.fst z55
  have y2z55 := congrArg Prod.snd z55
  refine r_aload_n (pc2 := 59) 0 dX9_init_58 rfl rfl rfl rfl ?_
  refine r_iconst (pc2 := 60) (v := 2) dX9_init_59 (by decide) rfl ?_
  refine r_newqX (pc2 := 63) (N := 2) (k := 5) (fun _ => rfl) (by decide) qX9_16 dX9_init_60 (by decide) (by decide) (by decide) rfl (by omega) (fun q60 h eq60 zc60 zs60 o60 c_q60 => ?_)
  have c64 := (o60 64 (by omega)).trans c64
  have c65 := (o60 65 (by omega)).trans c65
  have c66 := (o60 66 (by omega)).trans c66
  have c67 := (o60 67 (by omega)).trans c67
  have c72 := (o60 72 (by omega)).trans c72
  have c73 := (o60 73 (by omega)).trans c73
  have c74 := (o60 74 (by omega)).trans c74
  have c75 := (o60 75 (by omega)).trans c75
  have c76 := (o60 76 (by omega)).trans c76
  have c77 := (o60 77 (by omega)).trans c77
  have c78 := (o60 78 (by omega)).trans c78
  have hgx := hgx.fresh (a := q60) (by have := hgx.1; omega) o60 (by omega)
  obtain rfl : q60 = 79 := by omega
  have c79 := c_q60
  refine r_putFX (pc2 := 66) [.ref 65, .int 0, .ref 72, .ref 76, .ref 77, .ref 78, .int 0, .ref 79, .null, .null, .null, .null, .null, .null, .null, .null, .null] FX9_39 rfl dX9_init_63 c64 (by decide) (Nat.le_of_ble_eq_true rfl) (okA (by decide)) rfl rfl (fun h z63 o63 c64 => ?_)
  have c65 := (o63 65 (by decide)).trans c65
  have c66 := (o63 66 (by decide)).trans c66
  have c67 := (o63 67 (by decide)).trans c67
  have c72 := (o63 72 (by decide)).trans c72
  have c73 := (o63 73 (by decide)).trans c73
  have c74 := (o63 74 (by decide)).trans c74
  have c75 := (o63 75 (by decide)).trans c75
  have c76 := (o63 76 (by decide)).trans c76
  have c77 := (o63 77 (by decide)).trans c77
  have c78 := (o63 78 (by decide)).trans c78
  have c79 := (o63 79 (by decide)).trans c79
  have hgx := hgx.step (a := 64) (by simp) o63 z63
  have y1z63 := congrArg Prod.fst z63
  have y2z63 := congrArg Prod.snd z63
  refine r_aload_n (pc2 := 67) 0 dX9_init_66 rfl rfl rfl rfl ?_
  refine r_iconst (pc2 := 68) (v := 2) dX9_init_67 (by decide) rfl ?_
  refine r_newqX (pc2 := 71) (N := 2) (k := 4) (fun _ => rfl) (by decide) qX9_25 dX9_init_68 (by decide) (by decide) (by decide) rfl (by omega) (fun q68 h eq68 zc68 zs68 o68 c_q68 => ?_)
  have c64 := (o68 64 (by omega)).trans c64
  have c65 := (o68 65 (by omega)).trans c65
  have c66 := (o68 66 (by omega)).trans c66
  have c67 := (o68 67 (by omega)).trans c67
  have c72 := (o68 72 (by omega)).trans c72
  have c73 := (o68 73 (by omega)).trans c73
  have c74 := (o68 74 (by omega)).trans c74
  have c75 := (o68 75 (by omega)).trans c75
  have c76 := (o68 76 (by omega)).trans c76
  have c77 := (o68 77 (by omega)).trans c77
  have c78 := (o68 78 (by omega)).trans c78
  have c79 := (o68 79 (by omega)).trans c79
  have hgx := hgx.fresh (a := q68) (by have := hgx.1; omega) o68 (by omega)
  obtain rfl : q68 = 80 := by omega
  have c80 := c_q68
  refine r_putFX (pc2 := 74) [.ref 65, .int 0, .ref 72, .ref 76, .ref 77, .ref 78, .int 0, .ref 79, .ref 80, .null, .null, .null, .null, .null, .null, .null, .null] FX9_43 rfl dX9_init_71 c64 (by decide) (Nat.le_of_ble_eq_true rfl) (okA (by decide)) rfl rfl (fun h z71 o71 c64 => ?_)
  have c65 := (o71 65 (by decide)).trans c65
  have c66 := (o71 66 (by decide)).trans c66
  have c67 := (o71 67 (by decide)).trans c67
  have c72 := (o71 72 (by decide)).trans c72
  have c73 := (o71 73 (by decide)).trans c73
  have c74 := (o71 74 (by decide)).trans c74
  have c75 := (o71 75 (by decide)).trans c75
  have c76 := (o71 76 (by decide)).trans c76
  have c77 := (o71 77 (by decide)).trans c77
  have c78 := (o71 78 (by decide)).trans c78
  have c79 := (o71 79 (by decide)).trans c79
  have c80 := (o71 80 (by decide)).trans c80
  have hgx := hgx.step (a := 64) (by simp) o71 z71
  have y1z71 := congrArg Prod.fst z71
  have y2z71 := congrArg Prod.snd z71
  refine r_aload_n (pc2 := 75) 0 dX9_init_74 rfl rfl rfl rfl ?_
  refine r_iconst (pc2 := 76) (v := 4) dX9_init_75 (by decide) rfl ?_
  refine r_newqX (pc2 := 79) (N := 4) (k := 6) (fun _ => rfl) (by decide) qX9_46 dX9_init_76 (by decide) (by decide) (by decide) rfl (by omega) (fun q76 h eq76 zc76 zs76 o76 c_q76 => ?_)
  have c64 := (o76 64 (by omega)).trans c64
  have c65 := (o76 65 (by omega)).trans c65
  have c66 := (o76 66 (by omega)).trans c66
  have c67 := (o76 67 (by omega)).trans c67
  have c72 := (o76 72 (by omega)).trans c72
  have c73 := (o76 73 (by omega)).trans c73
  have c74 := (o76 74 (by omega)).trans c74
  have c75 := (o76 75 (by omega)).trans c75
  have c76 := (o76 76 (by omega)).trans c76
  have c77 := (o76 77 (by omega)).trans c77
  have c78 := (o76 78 (by omega)).trans c78
  have c79 := (o76 79 (by omega)).trans c79
  have c80 := (o76 80 (by omega)).trans c80
  have hgx := hgx.fresh (a := q76) (by have := hgx.1; omega) o76 (by omega)
  obtain rfl : q76 = 81 := by omega
  have c81 := c_q76
  refine r_putFX (pc2 := 82) [.ref 65, .int 0, .ref 72, .ref 76, .ref 77, .ref 78, .int 0, .ref 79, .ref 80, .ref 81, .null, .null, .null, .null, .null, .null, .null] FX9_48 rfl dX9_init_79 c64 (by decide) (Nat.le_of_ble_eq_true rfl) (okA (by decide)) rfl rfl (fun h z79 o79 c64 => ?_)
  have c65 := (o79 65 (by decide)).trans c65
  have c66 := (o79 66 (by decide)).trans c66
  have c67 := (o79 67 (by decide)).trans c67
  have c72 := (o79 72 (by decide)).trans c72
  have c73 := (o79 73 (by decide)).trans c73
  have c74 := (o79 74 (by decide)).trans c74
  have c75 := (o79 75 (by decide)).trans c75
  have c76 := (o79 76 (by decide)).trans c76
  have c77 := (o79 77 (by decide)).trans c77
  have c78 := (o79 78 (by decide)).trans c78
  have c79 := (o79 79 (by decide)).trans c79
  have c80 := (o79 80 (by decide)).trans c80
  have c81 := (o79 81 (by decide)).trans c81
  have hgx := hgx.step (a := 64) (by simp) o79 z79
  have y1z79 := congrArg Prod.fst z79
  have y2z79 := congrArg Prod.snd z79
  refine r_aload_n (pc2 := 83) 0 dX9_init_82 rfl rfl rfl rfl ?_
  refine r_newX (pc2 := 86) nX9_52 dX9_init_83 rfl (by omega) (fun q83 h eq83 zc83 zs83 o83 c_q83 => ?_)
  have c64 := (o83 64 (by omega)).trans c64
  have c65 := (o83 65 (by omega)).trans c65
  have c66 := (o83 66 (by omega)).trans c66
  have c67 := (o83 67 (by omega)).trans c67
  have c72 := (o83 72 (by omega)).trans c72
  have c73 := (o83 73 (by omega)).trans c73
  have c74 := (o83 74 (by omega)).trans c74
  have c75 := (o83 75 (by omega)).trans c75
  have c76 := (o83 76 (by omega)).trans c76
  have c77 := (o83 77 (by omega)).trans c77
  have c78 := (o83 78 (by omega)).trans c78
  have c79 := (o83 79 (by omega)).trans c79
  have c80 := (o83 80 (by omega)).trans c80
  have c81 := (o83 81 (by omega)).trans c81
  have hgx := hgx.fresh (a := q83) (by have := hgx.1; omega) o83 (by omega)
  obtain rfl : q83 = 82 := by omega
  have c82 := c_q83
  refine r_dup (pc2 := 87) dX9_init_86 rfl rfl ?_
  refine r_callI0 (pc2 := 90) (As := []) (st := [.ref 82, .ref 64]) kX9_54 dX9_init_87 (by decide) rfl rfl (Nat.le_of_ble_eq_true rfl) (by omega) (c_laws0 c82 (by omega) (by omega)) rfl (fun h hq87 => ?_)
  obtain ⟨w1_87, w2_87, hg87, c82, c87, c88, c89⟩ := hq87
  have c64 := hg87.get (by simp) (by omega) c64
  have c65 := hg87.get (by simp) (by omega) c65
  have c66 := hg87.get (by simp) (by omega) c66
  have c67 := hg87.get (by simp) (by omega) c67
  have c72 := hg87.get (by simp) (by omega) c72
  have c73 := hg87.get (by simp) (by omega) c73
  have c74 := hg87.get (by simp) (by omega) c74
  have c75 := hg87.get (by simp) (by omega) c75
  have c76 := hg87.get (by simp) (by omega) c76
  have c77 := hg87.get (by simp) (by omega) c77
  have c78 := hg87.get (by simp) (by omega) c78
  have c79 := hg87.get (by simp) (by omega) c79
  have c80 := hg87.get (by simp) (by omega) c80
  have c81 := hg87.get (by simp) (by omega) c81
  have hgx := hgx.tr hg87 (by simp <;> omega)
  refine r_putFX (pc2 := 93) [.ref 65, .int 0, .ref 72, .ref 76, .ref 77, .ref 78, .int 0, .ref 79, .ref 80, .ref 81, .ref 82, .null, .null, .null, .null, .null, .null] FX9_55 rfl dX9_init_90 c64 (by decide) (Nat.le_of_ble_eq_true rfl) (okO (by decide)) rfl rfl (fun h z90 o90 c64 => ?_)
  have c65 := (o90 65 (by decide)).trans c65
  have c66 := (o90 66 (by decide)).trans c66
  have c67 := (o90 67 (by decide)).trans c67
  have c72 := (o90 72 (by decide)).trans c72
  have c73 := (o90 73 (by decide)).trans c73
  have c74 := (o90 74 (by decide)).trans c74
  have c75 := (o90 75 (by decide)).trans c75
  have c76 := (o90 76 (by decide)).trans c76
  have c77 := (o90 77 (by decide)).trans c77
  have c78 := (o90 78 (by decide)).trans c78
  have c79 := (o90 79 (by decide)).trans c79
  have c80 := (o90 80 (by decide)).trans c80
  have c81 := (o90 81 (by decide)).trans c81
  have c82 := (o90 82 (by decide)).trans c82
  have c87 := (o90 87 (by decide)).trans c87
  have c88 := (o90 88 (by decide)).trans c88
  have c89 := (o90 89 (by decide)).trans c89
  have hgx := hgx.step (a := 64) (by simp) o90 z90
  have y1z90 := congrArg Prod.fst z90
  have y2z90 := congrArg Prod.snd z90
  refine r_aload_n (pc2 := 94) 0 dX9_init_93 rfl rfl rfl rfl ?_
  refine r_newX (pc2 := 97) nX9_59 dX9_init_94 rfl (by omega) (fun q94 h eq94 zc94 zs94 o94 c_q94 => ?_)
  have c64 := (o94 64 (by omega)).trans c64
  have c65 := (o94 65 (by omega)).trans c65
  have c66 := (o94 66 (by omega)).trans c66
  have c67 := (o94 67 (by omega)).trans c67
  have c72 := (o94 72 (by omega)).trans c72
  have c73 := (o94 73 (by omega)).trans c73
  have c74 := (o94 74 (by omega)).trans c74
  have c75 := (o94 75 (by omega)).trans c75
  have c76 := (o94 76 (by omega)).trans c76
  have c77 := (o94 77 (by omega)).trans c77
  have c78 := (o94 78 (by omega)).trans c78
  have c79 := (o94 79 (by omega)).trans c79
  have c80 := (o94 80 (by omega)).trans c80
  have c81 := (o94 81 (by omega)).trans c81
  have c82 := (o94 82 (by omega)).trans c82
  have c87 := (o94 87 (by omega)).trans c87
  have c88 := (o94 88 (by omega)).trans c88
  have c89 := (o94 89 (by omega)).trans c89
  have hgx := hgx.fresh (a := q94) (by have := hgx.1; omega) o94 (by omega)
  obtain rfl : q94 = 90 := by omega
  have c90 := c_q94
  refine r_dup (pc2 := 98) dX9_init_97 rfl rfl ?_
  refine r_callI0 (pc2 := 101) (As := []) (st := [.ref 90, .ref 64]) kX9_61 dX9_init_98 (by decide) rfl rfl (Nat.le_of_ble_eq_true rfl) (by omega) (c_says0 c90 (by omega) (by omega)) rfl (fun h hq98 => ?_)
  obtain ⟨w1_98, w2_98, hg98, c90, c91, c92, c93⟩ := hq98
  have c64 := hg98.get (by simp) (by omega) c64
  have c65 := hg98.get (by simp) (by omega) c65
  have c66 := hg98.get (by simp) (by omega) c66
  have c67 := hg98.get (by simp) (by omega) c67
  have c72 := hg98.get (by simp) (by omega) c72
  have c73 := hg98.get (by simp) (by omega) c73
  have c74 := hg98.get (by simp) (by omega) c74
  have c75 := hg98.get (by simp) (by omega) c75
  have c76 := hg98.get (by simp) (by omega) c76
  have c77 := hg98.get (by simp) (by omega) c77
  have c78 := hg98.get (by simp) (by omega) c78
  have c79 := hg98.get (by simp) (by omega) c79
  have c80 := hg98.get (by simp) (by omega) c80
  have c81 := hg98.get (by simp) (by omega) c81
  have c82 := hg98.get (by simp) (by omega) c82
  have c87 := hg98.get (by simp) (by omega) c87
  have c88 := hg98.get (by simp) (by omega) c88
  have c89 := hg98.get (by simp) (by omega) c89
  have hgx := hgx.tr hg98 (by simp <;> omega)
  refine r_putFX (pc2 := 104) [.ref 65, .int 0, .ref 72, .ref 76, .ref 77, .ref 78, .int 0, .ref 79, .ref 80, .ref 81, .ref 82, .ref 90, .null, .null, .null, .null, .null] FX9_62 rfl dX9_init_101 c64 (by decide) (Nat.le_of_ble_eq_true rfl) (okO (by decide)) rfl rfl (fun h z101 o101 c64 => ?_)
  have c65 := (o101 65 (by decide)).trans c65
  have c66 := (o101 66 (by decide)).trans c66
  have c67 := (o101 67 (by decide)).trans c67
  have c72 := (o101 72 (by decide)).trans c72
  have c73 := (o101 73 (by decide)).trans c73
  have c74 := (o101 74 (by decide)).trans c74
  have c75 := (o101 75 (by decide)).trans c75
  have c76 := (o101 76 (by decide)).trans c76
  have c77 := (o101 77 (by decide)).trans c77
  have c78 := (o101 78 (by decide)).trans c78
  have c79 := (o101 79 (by decide)).trans c79
  have c80 := (o101 80 (by decide)).trans c80
  have c81 := (o101 81 (by decide)).trans c81
  have c82 := (o101 82 (by decide)).trans c82
  have c87 := (o101 87 (by decide)).trans c87
  have c88 := (o101 88 (by decide)).trans c88
  have c89 := (o101 89 (by decide)).trans c89
  have c90 := (o101 90 (by decide)).trans c90
  have c91 := (o101 91 (by decide)).trans c91
  have c92 := (o101 92 (by decide)).trans c92
  have c93 := (o101 93 (by decide)).trans c93
  have hgx := hgx.step (a := 64) (by simp) o101 z101
  have y1z101 := congrArg Prod.fst z101
  have y2z101 := congrArg Prod.snd z101
  refine r_aload_n (pc2 := 105) 0 dX9_init_104 rfl rfl rfl rfl ?_
  refine r_bipush (pc2 := 107) (v := 10) dX9_init_105 (by decide) rfl ?_
  refine r_newiX (pc2 := 109) (N := 10) aC_int dX9_init_107 (by decide) (by decide) (by decide) rfl (by omega) (fun q107 h eq107 zc107 zs107 o107 c_q107 => ?_)
  have c64 := (o107 64 (by omega)).trans c64
  have c65 := (o107 65 (by omega)).trans c65
  have c66 := (o107 66 (by omega)).trans c66
  have c67 := (o107 67 (by omega)).trans c67
  have c72 := (o107 72 (by omega)).trans c72
  have c73 := (o107 73 (by omega)).trans c73
  have c74 := (o107 74 (by omega)).trans c74
  have c75 := (o107 75 (by omega)).trans c75
  have c76 := (o107 76 (by omega)).trans c76
  have c77 := (o107 77 (by omega)).trans c77
  have c78 := (o107 78 (by omega)).trans c78
  have c79 := (o107 79 (by omega)).trans c79
  have c80 := (o107 80 (by omega)).trans c80
  have c81 := (o107 81 (by omega)).trans c81
  have c82 := (o107 82 (by omega)).trans c82
  have c87 := (o107 87 (by omega)).trans c87
  have c88 := (o107 88 (by omega)).trans c88
  have c89 := (o107 89 (by omega)).trans c89
  have c90 := (o107 90 (by omega)).trans c90
  have c91 := (o107 91 (by omega)).trans c91
  have c92 := (o107 92 (by omega)).trans c92
  have c93 := (o107 93 (by omega)).trans c93
  have hgx := hgx.fresh (a := q107) (by have := hgx.1; omega) o107 (by omega)
  obtain rfl : q107 = 94 := by omega
  have c94 := c_q107
  refine r_putFX (pc2 := 112) [.ref 65, .int 0, .ref 72, .ref 76, .ref 77, .ref 78, .int 0, .ref 79, .ref 80, .ref 81, .ref 82, .ref 90, .ref 94, .null, .null, .null, .null] FX9_66 rfl dX9_init_109 c64 (by decide) (Nat.le_of_ble_eq_true rfl) (okA (by decide)) rfl rfl (fun h z109 o109 c64 => ?_)
  have c65 := (o109 65 (by decide)).trans c65
  have c66 := (o109 66 (by decide)).trans c66
  have c67 := (o109 67 (by decide)).trans c67
  have c72 := (o109 72 (by decide)).trans c72
  have c73 := (o109 73 (by decide)).trans c73
  have c74 := (o109 74 (by decide)).trans c74
  have c75 := (o109 75 (by decide)).trans c75
  have c76 := (o109 76 (by decide)).trans c76
  have c77 := (o109 77 (by decide)).trans c77
  have c78 := (o109 78 (by decide)).trans c78
  have c79 := (o109 79 (by decide)).trans c79
  have c80 := (o109 80 (by decide)).trans c80
  have c81 := (o109 81 (by decide)).trans c81
  have c82 := (o109 82 (by decide)).trans c82
  have c87 := (o109 87 (by decide)).trans c87
  have c88 := (o109 88 (by decide)).trans c88
  have c89 := (o109 89 (by decide)).trans c89
  have c90 := (o109 90 (by decide)).trans c90
  have c91 := (o109 91 (by decide)).trans c91
  have c92 := (o109 92 (by decide)).trans c92
  have c93 := (o109 93 (by decide)).trans c93
  have c94 := (o109 94 (by decide)).trans c94
  have hgx := hgx.step (a := 64) (by simp) o109 z109
  have y1z109 := congrArg Prod.fst z109
  have y2z109 := congrArg Prod.snd z109
  refine r_aload_n (pc2 := 113) 0 dX9_init_112 rfl rfl rfl rfl ?_
  refine r_bipush (pc2 := 115) (v := 10) dX9_init_113 (by decide) rfl ?_
  refine r_newlX (pc2 := 117) (N := 10) aC_long dX9_init_115 (by decide) (by decide) (by decide) rfl (by omega) (fun q115 h eq115 zc115 zs115 o115 c_q115 => ?_)
  have c64 := (o115 64 (by omega)).trans c64
  have c65 := (o115 65 (by omega)).trans c65
  have c66 := (o115 66 (by omega)).trans c66
  have c67 := (o115 67 (by omega)).trans c67
  have c72 := (o115 72 (by omega)).trans c72
  have c73 := (o115 73 (by omega)).trans c73
  have c74 := (o115 74 (by omega)).trans c74
  have c75 := (o115 75 (by omega)).trans c75
  have c76 := (o115 76 (by omega)).trans c76
  have c77 := (o115 77 (by omega)).trans c77
  have c78 := (o115 78 (by omega)).trans c78
  have c79 := (o115 79 (by omega)).trans c79
  have c80 := (o115 80 (by omega)).trans c80
  have c81 := (o115 81 (by omega)).trans c81
  have c82 := (o115 82 (by omega)).trans c82
  have c87 := (o115 87 (by omega)).trans c87
  have c88 := (o115 88 (by omega)).trans c88
  have c89 := (o115 89 (by omega)).trans c89
  have c90 := (o115 90 (by omega)).trans c90
  have c91 := (o115 91 (by omega)).trans c91
  have c92 := (o115 92 (by omega)).trans c92
  have c93 := (o115 93 (by omega)).trans c93
  have c94 := (o115 94 (by omega)).trans c94
  have hgx := hgx.fresh (a := q115) (by have := hgx.1; omega) o115 (by omega)
  obtain rfl : q115 = 95 := by omega
  have c95 := c_q115
  refine r_putfX (pc2 := 120) [.ref 65, .int 0, .ref 72, .ref 76, .ref 77, .ref 78, .int 0, .ref 79, .ref 80, .ref 81, .ref 82, .ref 90, .ref 94, .ref 95, .null, .null, .null] fX9_70 dX9_init_117 c64 (by decide) (Nat.le_of_ble_eq_true rfl) (okA (by decide)) rfl rfl (fun h z117 o117 c64 => ?_)
  have c65 := (o117 65 (by decide)).trans c65
  have c66 := (o117 66 (by decide)).trans c66
  have c67 := (o117 67 (by decide)).trans c67
  have c72 := (o117 72 (by decide)).trans c72
  have c73 := (o117 73 (by decide)).trans c73
  have c74 := (o117 74 (by decide)).trans c74
  have c75 := (o117 75 (by decide)).trans c75
  have c76 := (o117 76 (by decide)).trans c76
  have c77 := (o117 77 (by decide)).trans c77
  have c78 := (o117 78 (by decide)).trans c78
  have c79 := (o117 79 (by decide)).trans c79
  have c80 := (o117 80 (by decide)).trans c80
  have c81 := (o117 81 (by decide)).trans c81
  have c82 := (o117 82 (by decide)).trans c82
  have c87 := (o117 87 (by decide)).trans c87
  have c88 := (o117 88 (by decide)).trans c88
  have c89 := (o117 89 (by decide)).trans c89
  have c90 := (o117 90 (by decide)).trans c90
  have c91 := (o117 91 (by decide)).trans c91
  have c92 := (o117 92 (by decide)).trans c92
  have c93 := (o117 93 (by decide)).trans c93
  have c94 := (o117 94 (by decide)).trans c94
  have c95 := (o117 95 (by decide)).trans c95
  have hgx := hgx.step (a := 64) (by simp) o117 z117
  have y1z117 := congrArg Prod.fst z117
  have y2z117 := congrArg Prod.snd z117
  refine r_aload_n (pc2 := 121) 0 dX9_init_120 rfl rfl rfl rfl ?_
  refine r_bipush (pc2 := 123) (v := 10) dX9_init_121 (by decide) rfl ?_
  refine r_newlX (pc2 := 125) (N := 10) aC_long dX9_init_123 (by decide) (by decide) (by decide) rfl (by omega) (fun q123 h eq123 zc123 zs123 o123 c_q123 => ?_)
  have c64 := (o123 64 (by omega)).trans c64
  have c65 := (o123 65 (by omega)).trans c65
  have c66 := (o123 66 (by omega)).trans c66
  have c67 := (o123 67 (by omega)).trans c67
  have c72 := (o123 72 (by omega)).trans c72
  have c73 := (o123 73 (by omega)).trans c73
  have c74 := (o123 74 (by omega)).trans c74
  have c75 := (o123 75 (by omega)).trans c75
  have c76 := (o123 76 (by omega)).trans c76
  have c77 := (o123 77 (by omega)).trans c77
  have c78 := (o123 78 (by omega)).trans c78
  have c79 := (o123 79 (by omega)).trans c79
  have c80 := (o123 80 (by omega)).trans c80
  have c81 := (o123 81 (by omega)).trans c81
  have c82 := (o123 82 (by omega)).trans c82
  have c87 := (o123 87 (by omega)).trans c87
  have c88 := (o123 88 (by omega)).trans c88
  have c89 := (o123 89 (by omega)).trans c89
  have c90 := (o123 90 (by omega)).trans c90
  have c91 := (o123 91 (by omega)).trans c91
  have c92 := (o123 92 (by omega)).trans c92
  have c93 := (o123 93 (by omega)).trans c93
  have c94 := (o123 94 (by omega)).trans c94
  have c95 := (o123 95 (by omega)).trans c95
  have hgx := hgx.fresh (a := q123) (by have := hgx.1; omega) o123 (by omega)
  obtain rfl : q123 = 96 := by omega
  have c96 := c_q123
  refine r_putfX (pc2 := 128) [.ref 65, .int 0, .ref 72, .ref 76, .ref 77, .ref 78, .int 0, .ref 79, .ref 80, .ref 81, .ref 82, .ref 90, .ref 94, .ref 95, .ref 96, .null, .null] fX9_74 dX9_init_125 c64 (by decide) (Nat.le_of_ble_eq_true rfl) (okA (by decide)) rfl rfl (fun h z125 o125 c64 => ?_)
  have c65 := (o125 65 (by decide)).trans c65
  have c66 := (o125 66 (by decide)).trans c66
  have c67 := (o125 67 (by decide)).trans c67
  have c72 := (o125 72 (by decide)).trans c72
  have c73 := (o125 73 (by decide)).trans c73
  have c74 := (o125 74 (by decide)).trans c74
  have c75 := (o125 75 (by decide)).trans c75
  have c76 := (o125 76 (by decide)).trans c76
  have c77 := (o125 77 (by decide)).trans c77
  have c78 := (o125 78 (by decide)).trans c78
  have c79 := (o125 79 (by decide)).trans c79
  have c80 := (o125 80 (by decide)).trans c80
  have c81 := (o125 81 (by decide)).trans c81
  have c82 := (o125 82 (by decide)).trans c82
  have c87 := (o125 87 (by decide)).trans c87
  have c88 := (o125 88 (by decide)).trans c88
  have c89 := (o125 89 (by decide)).trans c89
  have c90 := (o125 90 (by decide)).trans c90
  have c91 := (o125 91 (by decide)).trans c91
  have c92 := (o125 92 (by decide)).trans c92
  have c93 := (o125 93 (by decide)).trans c93
  have c94 := (o125 94 (by decide)).trans c94
  have c95 := (o125 95 (by decide)).trans c95
  have c96 := (o125 96 (by decide)).trans c96
  have hgx := hgx.step (a := 64) (by simp) o125 z125
  have y1z125 := congrArg Prod.fst z125
  have y2z125 := congrArg Prod.snd z125
  refine r_iconst (pc2 := 129) (v := 0) dX9_init_128 (by decide) rfl ?_
  refine r_cast (nI 0) (rfl) ?_
  refine r_istore_n (pc2 := 130) (ls2 := [.ref 64, .int (nI 0)]) 1 dX9_init_129 rfl (by decide) rfl rfl rfl ?_
  exact lp1 h ⟨c65, c66, c67, c72, c73, c74, c75, c77, c79, c82, c87, c88, c89, c90, c91, c92, c93, c94, c95, c96⟩ c64 ⟨_, _, _, _, _, _, c76⟩ c78 c80 c81 (by omega) (by omega)
