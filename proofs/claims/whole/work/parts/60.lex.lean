/-! the tokens of a text -/
def scan (q : Nat → Bool) (tp : Nat → Nat) (n : Nat) : Nat → Nat → Nat
  | 0, p => p
  | f + 1, p => if p < n ∧ q (tp p) = true then scan q tp n f (p + 1) else p
def isWh (c : Nat) : Bool := c == 10 || c == 32
def isSm (c : Nat) : Bool := decide (97 ≤ c) && decide (c ≤ 122)
def isDg (c : Nat) : Bool := decide (48 ≤ c) && decide (c ≤ 57)
theorem scan_le (q : Nat → Bool) (tp : Nat → Nat) (n : Nat) : ∀ f p, p ≤ scan q tp n f p
  | 0, p => Nat.le_refl _
  | f + 1, p => by
    unfold scan
    split
    · have := scan_le q tp n f (p + 1); omega
    · exact Nat.le_refl _
theorem scan_n (q : Nat → Bool) (tp : Nat → Nat) (n : Nat) : ∀ f p, p ≤ n → scan q tp n f p ≤ n
  | 0, p, h => h
  | f + 1, p, h => by
    unfold scan
    split
    · rename_i c; exact scan_n q tp n f (p + 1) (by omega)
    · exact h
theorem scan_in {q : Nat → Bool} {tp : Nat → Nat} {n p : Nat} (h1 : p < n) (h2 : q (tp p) = true) : scan q tp n (n - p) p = scan q tp n (n - (p + 1)) (p + 1) := by
  rw [show n - p = (n - (p + 1)) + 1 by omega, scan, if_pos ⟨h1, h2⟩]
theorem scan_out {q : Nat → Bool} {tp : Nat → Nat} {n p : Nat} (h : ¬ (p < n ∧ q (tp p) = true)) : scan q tp n (n - p) p = p := by
  cases e : n - p with
  | zero => rfl
  | succ f => rw [scan, if_neg h]
def KW : List (List Nat) := [[115, 116, 114, 101, 101, 116], [104, 111, 117, 115, 101], [100, 101, 112, 116, 104], [103, 111, 101, 114], [108, 111, 117, 100], [97, 116], [115, 111, 102, 116], [112, 101, 111, 112, 108, 101], [98, 111, 117, 110, 100], [99, 97, 114, 116], [110, 111, 105, 115, 101], [100, 114, 97, 117, 103, 104, 116], [115, 108, 101, 101, 112, 115], [105, 102], [116, 104, 101, 110], [101, 108, 115, 101], [101, 110, 100], [102, 97, 114], [115, 116, 101, 112, 115], [112, 97, 115, 116], [97, 110, 100], [111, 114], [110, 111, 116]]
def kO : List Nat := [1, 8, 14, 20, 25, 30, 33, 38, 45, 51, 56, 62, 70, 77, 80, 85, 90, 94, 98, 104, 109, 113, 116, 120]
def kC (i j : Nat) : Nat := (KW.getD i []).getD j 0
def kL (i : Nat) : Nat := (KW.getD i []).length
abbrev wordL (tp : Nat → Nat) (q e : Nat) : List Nat := (List.range (e - q)).map (fun j => tp (q + j))
theorem wordL_eq {tp : Nat → Nat} {q e : Nat} {L : List Nat} : wordL tp q e = L ↔ e - q = L.length ∧ ∀ j, j < L.length → tp (q + j) = L.getD j 0 := by
  constructor
  · intro h
    subst h
    have hl : (wordL tp q e).length = e - q := by rw [List.length_map, List.length_range]
    refine ⟨hl.symm, fun j hj => ?_⟩
    rw [List.getD_eq_getElem?_getD, List.getElem?_eq_getElem hj]
    rw [Option.getD_some, List.getElem_map, List.getElem_range]
  · intro h
    apply List.ext_getElem
    · rw [List.length_map, List.length_range]; exact h.1
    · intro j h1 h2
      have := h.2 j h2
      rw [List.getD_eq_getElem?_getD, List.getElem?_eq_getElem h2] at this
      rw [List.getElem_map, List.getElem_range, this, Option.getD_some]
def kF (w : List Nat) : Nat → Nat → Nat
  | 0, _ => 23
  | m + 1, i => if w = KW.getD i [] then i else kF w m (i + 1)
def sg (k : Nat) : Nat := ([59, 58, 43, 45, 42, 40, 41, 91, 93, 61, 60, 62] : List Nat).getD k 0
def sgF (c : Nat) : Nat → Nat
  | 0 => 26
  | k + 1 => if c = sg k then 30 + k else sgF c k
def dVal (tp : Nat → Nat) (q : Nat) : Nat → Nat
  | 0 => 0
  | k + 1 => if k < 3 then 10 * dVal tp q k + (tp (q + k) - 48) else dVal tp q k
def lxS (tp : Nat → Nat) (n p : Nat) : Nat := scan isWh tp n (n - p) p
def lxW (tp : Nat → Nat) (n q : Nat) : Nat := scan isSm tp n (n - q) q
def lxD (tp : Nat → Nat) (n q : Nat) : Nat := scan isDg tp n (n - q) q
/-- a token's kind, its end and its number, of the one that begins at q -/
def tkK (tp : Nat → Nat) (n q : Nat) : Nat := if n ≤ q then 25 else if isSm (tp q) = true then kF (wordL tp q (lxW tp n q)) 23 0 else if isDg (tp q) = true then (if 3 < lxD tp n q - q then 26 else 24) else sgF (tp q) 12
def tkE (tp : Nat → Nat) (n q : Nat) : Nat := if n ≤ q then q else if isSm (tp q) = true then lxW tp n q else if isDg (tp q) = true then lxD tp n q else q + 1
def tkN (tp : Nat → Nat) (n q : Nat) : Nat := dVal tp q (lxD tp n q - q)
def lxK (tp : Nat → Nat) (n p : Nat) : Nat := tkK tp n (lxS tp n p)
def lxE (tp : Nat → Nat) (n p : Nat) : Nat := tkE tp n (lxS tp n p)
def lxN (tp : Nat → Nat) (n p : Nat) : Nat := tkN tp n (lxS tp n p)
theorem kO_s : ∀ i, i < 23 → kO.getD (i + 1) 0 = kO.getD i 0 + kL i + 1 := by decide +kernel
theorem kO_lt : ∀ i, i < 23 → kO.getD i 0 + kL i < 120 := by decide +kernel
theorem k_in : ∀ i, i < 23 → ∀ j, j < kL i → xB 23 (kO.getD i 0 + j) = nI (kC i j) ∧ kC i j ≠ 32 ∧ kC i j < 256 := by decide +kernel
theorem k_end : ∀ i, i < 23 → xB 23 (kO.getD i 0 + kL i) = 32 := by decide +kernel
theorem sg_x : ∀ k, k < 12 → xB 24 k = nI (sg k) ∧ sg k < 256 := by decide +kernel
def seeI (tp : Nat → Nat) (n k : Nat) : Int32 := if k < n then nI (tp k) else -1
set_option maxRecDepth 20000 in
set_option maxHeartbeats 1000000 in
theorem c_see {E : EnvT} {d : Nat} {h0 : Hp} {v : Nat → Int32} {tp : Nat → Nat} {n k : Nat} (c117 : h0.1 117 = some (mO v)) (c120 : h0.1 120 = some (aI 900 (nA tp))) (h8 : v 8 = nI n) (hn : n ≤ 900) (hk31 : k < 2 ^ 31) : Cn E mX10_see d [.ref 117, .int (nI k)] h0 (fun r h2 => r = some (.int (seeI tp n k)) ∧ h2 = h0) := by
  by_cases hk : k < n
  · skip
    refine Cn.go (ls := [.ref 117, .int (nI k)]) (by decide +kernel) rfl (Nat.le_of_ble_eq_true rfl) ?_
    refine r_iload_n (pc2 := 1) 1 dX10_see_0 rfl rfl rfl ?_
    refine r_aload_n (pc2 := 2) 0 dX10_see_1 rfl rfl rfl rfl ?_
    refine r_getf (pc2 := 5) (v := .int (v 8)) fX10_93 dX10_see_2 c117 (by decide) rfl rfl ?_
    refine r_cast (nI n) (h8) ?_
    refine r_icmp_ge (tgt := 17) (pc2 := 8) dX10_see_5 (by decide) rfl (fun b5 => ?_) (fun b5 => ?_)
    · exact absurd b5 (nI_ge hk (by omega))
    · skip
      refine r_aload_n (pc2 := 9) 0 dX10_see_8 rfl rfl rfl rfl ?_
      refine r_getf (pc2 := 12) (v := .ref 120) fX10_21 dX10_see_9 c117 (by decide) rfl rfl ?_
      refine r_iload_n (pc2 := 13) 1 dX10_see_12 rfl rfl rfl ?_
      refine r_ialdA (pc2 := 14) k dX10_see_13 c120 (by decide) rfl (by omega) (by decide) rfl ?_
      refine r_goto (pc2 := 18) dX10_see_14 (by decide) ?_
      exact r_iret rfl dX10_see_18 ⟨by rw [seeI, if_pos hk], rfl⟩
  · skip
    refine Cn.go (ls := [.ref 117, .int (nI k)]) (by decide +kernel) rfl (Nat.le_of_ble_eq_true rfl) ?_
    refine r_iload_n (pc2 := 1) 1 dX10_see_0 rfl rfl rfl ?_
    refine r_aload_n (pc2 := 2) 0 dX10_see_1 rfl rfl rfl rfl ?_
    refine r_getf (pc2 := 5) (v := .int (v 8)) fX10_93 dX10_see_2 c117 (by decide) rfl rfl ?_
    refine r_cast (nI n) (h8) ?_
    refine r_icmp_ge (tgt := 17) (pc2 := 8) dX10_see_5 (by decide) rfl (fun b5 => ?_) (fun b5 => ?_)
    · skip
      refine r_iconst (pc2 := 18) (v := -1) dX10_see_17 (by decide) rfl ?_
      exact r_iret rfl dX10_see_18 ⟨by rw [seeI, if_neg hk], rfl⟩
    · exact absurd (nI_le (by omega) (by omega)) b5
set_option maxRecDepth 20000 in
set_option maxHeartbeats 1000000 in
theorem c_keyAt {E : EnvT} {d : Nat} {h0 : Hp} {v : Nat → Int32} {tp : Nat → Nat} {q e : Nat} (c117 : h0.1 117 = some (mO v)) (c120 : h0.1 120 = some (aI 900 (nA tp))) (h6 : v 6 = nI q) (h7 : v 7 = nI e) (hqe : q ≤ e) (he : e ≤ 900) (htp : ∀ k, k < 900 → tp k < 256) (hd : 5 ≤ d) : Cn E mX10_keyAt d [.ref 117] h0 (fun r h2 => r = some (.int (nI (kF (wordL tp q e) 23 0))) ∧ h2 = h0) := by
  have loop : ∀ (m i : Nat) (u3 : Value), i + m = 23 → Fr E mX10_keyAt d 4 [.ref 117, .int (nI i), .int (nI (kO.getD i 0)), u3] [] h0 (fun r h2 => r = some (.int (nI (kF (wordL tp q e) m i))) ∧ h2 = h0) := by
    intro m
    induction m with
    | zero =>
      intro i u3 him
      obtain rfl : i = 23 := by omega
      show Fr E mX10_keyAt d 4 [.ref 117, .int (nI 23), .int (nI 120), u3] [] h0 (fun r h2 => r = some (.int (nI 23)) ∧ h2 = h0)
      refine r_iload_n (pc2 := 5) 2 dX10_keyAt_4 rfl rfl rfl ?_
      refine r_ldcS (pc2 := 7) 23 (by decide) rfl rfl dX10_keyAt_5 rfl ?_
      refine r_callX1 (pc2 := 10) (As := []) (st := [.int (nI 120)]) kX10_98 rfl (by decide) dX10_keyAt_7 rfl rfl (Nat.le_of_ble_eq_true rfl) (by omega) (c_length (t := 23) (by decide) (by omega)) rfl (fun h2 hq7 => ?_)
      subst hq7
      refine r_icmp_ge (tgt := 123) (pc2 := 13) dX10_keyAt_10 (by decide) rfl (fun b10 => ?_) (fun b10 => ?_)
      · skip
        refine r_bipush (pc2 := 125) (v := 23) dX10_keyAt_123 (by decide) rfl ?_
        exact r_iret rfl dX10_keyAt_125 ⟨rfl, rfl⟩
      · exact absurd (show nI 120 ≤ nI 120 from nI_le (Nat.le_refl _) (by decide)) b10
    | succ m ih =>
      intro i u3 him
      have hi : i < 23 := by omega
      have hO := kO_lt i hi
      have rest : ∀ j, j ≤ kL i → q + j ≤ e → (∀ j2, j2 < j → tp (q + j2) = kC i j2) → (j = kL i ∨ q + j = e ∨ tp (q + j) ≠ kC i j) → Fr E mX10_keyAt d 69 [.ref 117, .int (nI i), .int (nI (kO.getD i 0)), .int (nI j)] [] h0 (fun r h2 => r = some (.int (nI (kF (wordL tp q e) (m + 1) i))) ∧ h2 = h0) := by
        intro j hjl hje heq hor
        have skip0 : wordL tp q e ≠ KW.getD i [] → Fr E mX10_keyAt d 97 [.ref 117, .int (nI i), .int (nI ((kO.getD i 0) + 0)), .int (nI j)] [] h0 (fun r h2 => r = some (.int (nI (kF (wordL tp q e) (m + 1) i))) ∧ h2 = h0) := by
          intro hw
          rw [kF, if_neg hw]
          have skip3 : ∀ (m3 k : Nat), k + m3 = kL i → Fr E mX10_keyAt d 97 [.ref 117, .int (nI i), .int (nI ((kO.getD i 0) + k)), .int (nI j)] [] h0 (fun r h2 => r = some (.int (nI (kF (wordL tp q e) m (i + 1)))) ∧ h2 = h0) := by
            intro m3
            induction m3 with
            | zero =>
              intro k hk
              obtain rfl : k = kL i := by omega
              refine r_ldcS (pc2 := 99) 23 (by decide) rfl rfl dX10_keyAt_97 rfl ?_
              refine r_iload_n (pc2 := 100) 2 dX10_keyAt_99 rfl rfl rfl ?_
              refine r_callX1 (pc2 := 103) (As := [.int (nI ((kO.getD i 0) + kL i))]) (st := []) kX10_104 rfl (by decide) dX10_keyAt_100 rfl rfl (Nat.le_of_ble_eq_true rfl) (by omega) (c_charAt (t := 23) (j := (kO.getD i 0) + kL i) (by decide) (show _ < 120 by omega) (by omega)) rfl (fun h2 hq100 => ?_)
              subst hq100
              refine r_bipush (pc2 := 105) (v := 32) dX10_keyAt_103 (by decide) rfl ?_
              refine r_icmp_eq (tgt := 114) (pc2 := 108) dX10_keyAt_105 (by decide) rfl (fun b105 => ?_) (fun b105 => ?_)
              · skip
                obtain ⟨x114, e114⟩ : ∃ z : Int32, z = (nI ((kO.getD i 0) + kL i)) + (1) := ⟨_, rfl⟩
                refine r_iinc (pc2 := 117) (ls2 := [.ref 117, .int (nI i), .int x114, .int (nI j)]) (v := x114) 2 dX10_keyAt_114 rfl (by rw [e114]; rfl) rfl rfl rfl ?_
                obtain ⟨x117, e117⟩ : ∃ z : Int32, z = (nI i) + (1) := ⟨_, rfl⟩
                refine r_iinc (pc2 := 120) (ls2 := [.ref 117, .int x117, .int x114, .int (nI j)]) (v := x117) 1 dX10_keyAt_117 rfl (by rw [e117]; rfl) rfl rfl rfl ?_
                refine r_goto (pc2 := 4) dX10_keyAt_120 (by decide) ?_
                rw [e114, e117, nI_1, nI_1, ← kO_s i hi]
                exact ih (i + 1) _ (by omega)
              · exact absurd (k_end i hi) b105
            | succ m3 ih3 =>
              intro k hk
              have hc := k_in i hi k (by omega)
              refine r_ldcS (pc2 := 99) 23 (by decide) rfl rfl dX10_keyAt_97 rfl ?_
              refine r_iload_n (pc2 := 100) 2 dX10_keyAt_99 rfl rfl rfl ?_
              refine r_callX1 (pc2 := 103) (As := [.int (nI ((kO.getD i 0) + k))]) (st := []) kX10_104 rfl (by decide) dX10_keyAt_100 rfl rfl (Nat.le_of_ble_eq_true rfl) (by omega) (c_charAt (t := 23) (j := (kO.getD i 0) + k) (by decide) (show _ < 120 by omega) (by omega)) rfl (fun h2 hq100 => ?_)
              subst hq100
              refine r_bipush (pc2 := 105) (v := 32) dX10_keyAt_103 (by decide) rfl ?_
              refine r_icmp_eq (tgt := 114) (pc2 := 108) dX10_keyAt_105 (by decide) rfl (fun b105 => ?_) (fun b105 => ?_)
              · exact absurd b105 (by rw [hc.1]; exact fun z => hc.2.1 ((nI_eq (b := 32) (by omega) (by decide)).mp z))
              · skip
                obtain ⟨x108, e108⟩ : ∃ z : Int32, z = (nI ((kO.getD i 0) + k)) + (1) := ⟨_, rfl⟩
                refine r_iinc (pc2 := 111) (ls2 := [.ref 117, .int (nI i), .int x108, .int (nI j)]) (v := x108) 2 dX10_keyAt_108 rfl (by rw [e108]; rfl) rfl rfl rfl ?_
                refine r_goto (pc2 := 97) dX10_keyAt_111 (by decide) ?_
                rw [e108, nI_1]
                exact ih3 (k + 1) (by omega)
          exact skip3 (kL i) 0 (by omega)
        by_cases hj : j = kL i
        · by_cases hjq : q + j = e
          · have hw : wordL tp q e = KW.getD i [] := wordL_eq.mpr ⟨by show e - q = kL i; omega, fun j2 h => heq j2 (by rw [hj]; exact h)⟩
            refine r_ldcS (pc2 := 71) 23 (by decide) rfl rfl dX10_keyAt_69 rfl ?_
            refine r_iload_n (pc2 := 72) 2 dX10_keyAt_71 rfl rfl rfl ?_
            refine r_iload_n (pc2 := 73) 3 dX10_keyAt_72 rfl rfl rfl ?_
            refine r_iadd (pc2 := 74) dX10_keyAt_73 rfl ?_
            refine r_cast (nI ((kO.getD i 0) + j)) (nI_add _ _) ?_
            refine r_callX1 (pc2 := 77) (As := [.int (nI ((kO.getD i 0) + j))]) (st := []) kX10_104 rfl (by decide) dX10_keyAt_74 rfl rfl (Nat.le_of_ble_eq_true rfl) (by omega) (c_charAt (t := 23) (j := ((kO.getD i 0) + j)) (by decide) (show _ < 120 by omega) (by omega)) rfl (fun h2 hq74 => ?_)
            subst hq74
            refine r_bipush (pc2 := 79) (v := 32) dX10_keyAt_77 (by decide) rfl ?_
            refine r_icmp_ne (tgt := 97) (pc2 := 82) dX10_keyAt_79 (by decide) rfl (fun b79 => ?_) (fun b79 => ?_)
            · exact absurd (by rw [hj]; exact k_end i hi) b79
            · skip
              refine r_aload_n (pc2 := 83) 0 dX10_keyAt_82 rfl rfl rfl rfl ?_
              refine r_getf (pc2 := 86) (v := .int (v 6)) fX10_108 dX10_keyAt_83 c117 (by decide) rfl rfl ?_
              refine r_cast (nI q) (h6) ?_
              refine r_iload_n (pc2 := 87) 3 dX10_keyAt_86 rfl rfl rfl ?_
              refine r_iadd (pc2 := 88) dX10_keyAt_87 rfl ?_
              refine r_cast (nI (q + j)) (nI_add _ _) ?_
              refine r_aload_n (pc2 := 89) 0 dX10_keyAt_88 rfl rfl rfl rfl ?_
              refine r_getf (pc2 := 92) (v := .int (v 7)) fX10_111 dX10_keyAt_89 c117 (by decide) rfl rfl ?_
              refine r_cast (nI e) (h7) ?_
              refine r_icmp_ne (tgt := 97) (pc2 := 95) dX10_keyAt_92 (by decide) rfl (fun b92 => ?_) (fun b92 => ?_)
              · exact absurd (by rw [hjq]) b92
              · skip
                refine r_iload_n (pc2 := 96) 1 dX10_keyAt_95 rfl rfl rfl ?_
                exact r_iret rfl dX10_keyAt_96 ⟨by rw [kF, if_pos hw], rfl⟩
          · have hw : wordL tp q e ≠ KW.getD i [] := fun z => hjq (by have := (wordL_eq.mp z).1; have e2 : (KW.getD i []).length = kL i := rfl; omega)
            refine r_ldcS (pc2 := 71) 23 (by decide) rfl rfl dX10_keyAt_69 rfl ?_
            refine r_iload_n (pc2 := 72) 2 dX10_keyAt_71 rfl rfl rfl ?_
            refine r_iload_n (pc2 := 73) 3 dX10_keyAt_72 rfl rfl rfl ?_
            refine r_iadd (pc2 := 74) dX10_keyAt_73 rfl ?_
            refine r_cast (nI ((kO.getD i 0) + j)) (nI_add _ _) ?_
            refine r_callX1 (pc2 := 77) (As := [.int (nI ((kO.getD i 0) + j))]) (st := []) kX10_104 rfl (by decide) dX10_keyAt_74 rfl rfl (Nat.le_of_ble_eq_true rfl) (by omega) (c_charAt (t := 23) (j := ((kO.getD i 0) + j)) (by decide) (show _ < 120 by omega) (by omega)) rfl (fun h2 hq74 => ?_)
            subst hq74
            refine r_bipush (pc2 := 79) (v := 32) dX10_keyAt_77 (by decide) rfl ?_
            refine r_icmp_ne (tgt := 97) (pc2 := 82) dX10_keyAt_79 (by decide) rfl (fun b79 => ?_) (fun b79 => ?_)
            · exact absurd (by rw [hj]; exact k_end i hi) b79
            · skip
              refine r_aload_n (pc2 := 83) 0 dX10_keyAt_82 rfl rfl rfl rfl ?_
              refine r_getf (pc2 := 86) (v := .int (v 6)) fX10_108 dX10_keyAt_83 c117 (by decide) rfl rfl ?_
              refine r_cast (nI q) (h6) ?_
              refine r_iload_n (pc2 := 87) 3 dX10_keyAt_86 rfl rfl rfl ?_
              refine r_iadd (pc2 := 88) dX10_keyAt_87 rfl ?_
              refine r_cast (nI (q + j)) (nI_add _ _) ?_
              refine r_aload_n (pc2 := 89) 0 dX10_keyAt_88 rfl rfl rfl rfl ?_
              refine r_getf (pc2 := 92) (v := .int (v 7)) fX10_111 dX10_keyAt_89 c117 (by decide) rfl rfl ?_
              refine r_cast (nI e) (h7) ?_
              refine r_icmp_ne (tgt := 97) (pc2 := 95) dX10_keyAt_92 (by decide) rfl (fun b92 => ?_) (fun b92 => ?_)
              · skip
                exact skip0 hw
              · exact absurd ((nI_eq (by omega) (by omega)).mp b92) hjq
        · have hc := k_in i hi j (by omega)
          have hw : wordL tp q e ≠ KW.getD i [] := fun z => by
            have h1 := wordL_eq.mp z
            have e2 : (KW.getD i []).length = kL i := rfl
            rcases hor with h | h | h
            · exact hj h
            · omega
            · exact h (h1.2 j (by omega))
          refine r_ldcS (pc2 := 71) 23 (by decide) rfl rfl dX10_keyAt_69 rfl ?_
          refine r_iload_n (pc2 := 72) 2 dX10_keyAt_71 rfl rfl rfl ?_
          refine r_iload_n (pc2 := 73) 3 dX10_keyAt_72 rfl rfl rfl ?_
          refine r_iadd (pc2 := 74) dX10_keyAt_73 rfl ?_
          refine r_cast (nI ((kO.getD i 0) + j)) (nI_add _ _) ?_
          refine r_callX1 (pc2 := 77) (As := [.int (nI ((kO.getD i 0) + j))]) (st := []) kX10_104 rfl (by decide) dX10_keyAt_74 rfl rfl (Nat.le_of_ble_eq_true rfl) (by omega) (c_charAt (t := 23) (j := ((kO.getD i 0) + j)) (by decide) (show _ < 120 by omega) (by omega)) rfl (fun h2 hq74 => ?_)
          subst hq74
          refine r_bipush (pc2 := 79) (v := 32) dX10_keyAt_77 (by decide) rfl ?_
          refine r_icmp_ne (tgt := 97) (pc2 := 82) dX10_keyAt_79 (by decide) rfl (fun b79 => ?_) (fun b79 => ?_)
          · skip
            exact skip0 hw
          · exact absurd b79 (by rw [hc.1]; exact fun z => hc.2.1 ((nI_eq (b := 32) (by omega) (by decide)).mp z))
      have inner : ∀ (m2 j : Nat), j + m2 = kL i → j ≤ kL i → q + j ≤ e → (∀ j2, j2 < j → tp (q + j2) = kC i j2) → Fr E mX10_keyAt d 15 [.ref 117, .int (nI i), .int (nI (kO.getD i 0)), .int (nI j)] [] h0 (fun r h2 => r = some (.int (nI (kF (wordL tp q e) (m + 1) i))) ∧ h2 = h0) := by
        intro m2
        induction m2 with
        | zero =>
          intro j hjm hjl hje heq
          have hj : j = kL i := by omega
          refine r_ldcS (pc2 := 17) 23 (by decide) rfl rfl dX10_keyAt_15 rfl ?_
          refine r_iload_n (pc2 := 18) 2 dX10_keyAt_17 rfl rfl rfl ?_
          refine r_iload_n (pc2 := 19) 3 dX10_keyAt_18 rfl rfl rfl ?_
          refine r_iadd (pc2 := 20) dX10_keyAt_19 rfl ?_
          refine r_cast (nI ((kO.getD i 0) + j)) (nI_add _ _) ?_
          refine r_callX1 (pc2 := 23) (As := [.int (nI ((kO.getD i 0) + j))]) (st := []) kX10_104 rfl (by decide) dX10_keyAt_20 rfl rfl (Nat.le_of_ble_eq_true rfl) (by omega) (c_charAt (t := 23) (j := ((kO.getD i 0) + j)) (by decide) (show _ < 120 by omega) (by omega)) rfl (fun h2 hq20 => ?_)
          subst hq20
          refine r_bipush (pc2 := 25) (v := 32) dX10_keyAt_23 (by decide) rfl ?_
          refine r_icmp_eq (tgt := 69) (pc2 := 28) dX10_keyAt_25 (by decide) rfl (fun b25 => ?_) (fun b25 => ?_)
          · skip
            exact rest j hjl hje heq (Or.inl hj)
          · exact absurd (by rw [hj]; exact k_end i hi) b25
        | succ m2 ih2 =>
          intro j hjm hjl hje heq
          have hc := k_in i hi j (by omega)
          by_cases hjq : q + j = e
          · skip
            refine r_ldcS (pc2 := 17) 23 (by decide) rfl rfl dX10_keyAt_15 rfl ?_
            refine r_iload_n (pc2 := 18) 2 dX10_keyAt_17 rfl rfl rfl ?_
            refine r_iload_n (pc2 := 19) 3 dX10_keyAt_18 rfl rfl rfl ?_
            refine r_iadd (pc2 := 20) dX10_keyAt_19 rfl ?_
            refine r_cast (nI ((kO.getD i 0) + j)) (nI_add _ _) ?_
            refine r_callX1 (pc2 := 23) (As := [.int (nI ((kO.getD i 0) + j))]) (st := []) kX10_104 rfl (by decide) dX10_keyAt_20 rfl rfl (Nat.le_of_ble_eq_true rfl) (by omega) (c_charAt (t := 23) (j := ((kO.getD i 0) + j)) (by decide) (show _ < 120 by omega) (by omega)) rfl (fun h2 hq20 => ?_)
            subst hq20
            refine r_bipush (pc2 := 25) (v := 32) dX10_keyAt_23 (by decide) rfl ?_
            refine r_icmp_eq (tgt := 69) (pc2 := 28) dX10_keyAt_25 (by decide) rfl (fun b25 => ?_) (fun b25 => ?_)
            · exact absurd b25 (by rw [hc.1]; exact fun z => hc.2.1 ((nI_eq (b := 32) (by omega) (by decide)).mp z))
            · skip
              refine r_aload_n (pc2 := 29) 0 dX10_keyAt_28 rfl rfl rfl rfl ?_
              refine r_getf (pc2 := 32) (v := .int (v 6)) fX10_108 dX10_keyAt_29 c117 (by decide) rfl rfl ?_
              refine r_cast (nI q) (h6) ?_
              refine r_iload_n (pc2 := 33) 3 dX10_keyAt_32 rfl rfl rfl ?_
              refine r_iadd (pc2 := 34) dX10_keyAt_33 rfl ?_
              refine r_cast (nI (q + j)) (nI_add _ _) ?_
              refine r_aload_n (pc2 := 35) 0 dX10_keyAt_34 rfl rfl rfl rfl ?_
              refine r_getf (pc2 := 38) (v := .int (v 7)) fX10_111 dX10_keyAt_35 c117 (by decide) rfl rfl ?_
              refine r_cast (nI e) (h7) ?_
              refine r_icmp_ge (tgt := 69) (pc2 := 41) dX10_keyAt_38 (by decide) rfl (fun b38 => ?_) (fun b38 => ?_)
              · skip
                exact rest j hjl hje heq (Or.inr (Or.inl hjq))
              · exact absurd (nI_le (by omega) (by omega)) b38
          · by_cases hne : tp (q + j) = kC i j
            · have hle : q + (j + 1) ≤ e := by omega
              refine r_ldcS (pc2 := 17) 23 (by decide) rfl rfl dX10_keyAt_15 rfl ?_
              refine r_iload_n (pc2 := 18) 2 dX10_keyAt_17 rfl rfl rfl ?_
              refine r_iload_n (pc2 := 19) 3 dX10_keyAt_18 rfl rfl rfl ?_
              refine r_iadd (pc2 := 20) dX10_keyAt_19 rfl ?_
              refine r_cast (nI ((kO.getD i 0) + j)) (nI_add _ _) ?_
              refine r_callX1 (pc2 := 23) (As := [.int (nI ((kO.getD i 0) + j))]) (st := []) kX10_104 rfl (by decide) dX10_keyAt_20 rfl rfl (Nat.le_of_ble_eq_true rfl) (by omega) (c_charAt (t := 23) (j := ((kO.getD i 0) + j)) (by decide) (show _ < 120 by omega) (by omega)) rfl (fun h2 hq20 => ?_)
              subst hq20
              refine r_bipush (pc2 := 25) (v := 32) dX10_keyAt_23 (by decide) rfl ?_
              refine r_icmp_eq (tgt := 69) (pc2 := 28) dX10_keyAt_25 (by decide) rfl (fun b25 => ?_) (fun b25 => ?_)
              · exact absurd b25 (by rw [hc.1]; exact fun z => hc.2.1 ((nI_eq (b := 32) (by omega) (by decide)).mp z))
              · skip
                refine r_aload_n (pc2 := 29) 0 dX10_keyAt_28 rfl rfl rfl rfl ?_
                refine r_getf (pc2 := 32) (v := .int (v 6)) fX10_108 dX10_keyAt_29 c117 (by decide) rfl rfl ?_
                refine r_cast (nI q) (h6) ?_
                refine r_iload_n (pc2 := 33) 3 dX10_keyAt_32 rfl rfl rfl ?_
                refine r_iadd (pc2 := 34) dX10_keyAt_33 rfl ?_
                refine r_cast (nI (q + j)) (nI_add _ _) ?_
                refine r_aload_n (pc2 := 35) 0 dX10_keyAt_34 rfl rfl rfl rfl ?_
                refine r_getf (pc2 := 38) (v := .int (v 7)) fX10_111 dX10_keyAt_35 c117 (by decide) rfl rfl ?_
                refine r_cast (nI e) (h7) ?_
                refine r_icmp_ge (tgt := 69) (pc2 := 41) dX10_keyAt_38 (by decide) rfl (fun b38 => ?_) (fun b38 => ?_)
                · exact absurd b38 (nI_ge (by omega) (by omega))
                · skip
                  refine r_aload_n (pc2 := 42) 0 dX10_keyAt_41 rfl rfl rfl rfl ?_
                  refine r_getf (pc2 := 45) (v := .ref 120) fX10_21 dX10_keyAt_42 c117 (by decide) rfl rfl ?_
                  refine r_aload_n (pc2 := 46) 0 dX10_keyAt_45 rfl rfl rfl rfl ?_
                  refine r_getf (pc2 := 49) (v := .int (v 6)) fX10_108 dX10_keyAt_46 c117 (by decide) rfl rfl ?_
                  refine r_cast (nI q) (h6) ?_
                  refine r_iload_n (pc2 := 50) 3 dX10_keyAt_49 rfl rfl rfl ?_
                  refine r_iadd (pc2 := 51) dX10_keyAt_50 rfl ?_
                  refine r_cast (nI (q + j)) (nI_add _ _) ?_
                  refine r_ialdA (pc2 := 52) (q + j) dX10_keyAt_51 c120 (by decide) rfl (by omega) (by decide) rfl ?_
                  refine r_ldcS (pc2 := 54) 23 (by decide) rfl rfl dX10_keyAt_52 rfl ?_
                  refine r_iload_n (pc2 := 55) 2 dX10_keyAt_54 rfl rfl rfl ?_
                  refine r_iload_n (pc2 := 56) 3 dX10_keyAt_55 rfl rfl rfl ?_
                  refine r_iadd (pc2 := 57) dX10_keyAt_56 rfl ?_
                  refine r_cast (nI ((kO.getD i 0) + j)) (nI_add _ _) ?_
                  refine r_callX1 (pc2 := 60) (As := [.int (nI ((kO.getD i 0) + j))]) (st := [.int (nI (tp (q + j)))]) kX10_104 rfl (by decide) dX10_keyAt_57 rfl rfl (Nat.le_of_ble_eq_true rfl) (by omega) (c_charAt (t := 23) (j := ((kO.getD i 0) + j)) (by decide) (show _ < 120 by omega) (by omega)) rfl (fun h2 hq57 => ?_)
                  subst hq57
                  refine r_icmp_ne (tgt := 69) (pc2 := 63) dX10_keyAt_60 (by decide) rfl (fun b60 => ?_) (fun b60 => ?_)
                  · exact absurd (by rw [hc.1, hne]) b60
                  · skip
                    obtain ⟨x63, e63⟩ : ∃ z : Int32, z = (nI j) + (1) := ⟨_, rfl⟩
                    refine r_iinc (pc2 := 66) (ls2 := [.ref 117, .int (nI i), .int (nI (kO.getD i 0)), .int x63]) (v := x63) 3 dX10_keyAt_63 rfl (by rw [e63]; rfl) rfl rfl rfl ?_
                    refine r_goto (pc2 := 15) dX10_keyAt_66 (by decide) ?_
                    rw [e63, nI_1]
                    exact ih2 (j + 1) (by omega) (by omega) (by omega) (fun j2 h => by by_cases z : j2 = j; rw [z]; exact hne; exact heq j2 (by omega))
            · have ht := htp (q + j) (by omega)
              refine r_ldcS (pc2 := 17) 23 (by decide) rfl rfl dX10_keyAt_15 rfl ?_
              refine r_iload_n (pc2 := 18) 2 dX10_keyAt_17 rfl rfl rfl ?_
              refine r_iload_n (pc2 := 19) 3 dX10_keyAt_18 rfl rfl rfl ?_
              refine r_iadd (pc2 := 20) dX10_keyAt_19 rfl ?_
              refine r_cast (nI ((kO.getD i 0) + j)) (nI_add _ _) ?_
              refine r_callX1 (pc2 := 23) (As := [.int (nI ((kO.getD i 0) + j))]) (st := []) kX10_104 rfl (by decide) dX10_keyAt_20 rfl rfl (Nat.le_of_ble_eq_true rfl) (by omega) (c_charAt (t := 23) (j := ((kO.getD i 0) + j)) (by decide) (show _ < 120 by omega) (by omega)) rfl (fun h2 hq20 => ?_)
              subst hq20
              refine r_bipush (pc2 := 25) (v := 32) dX10_keyAt_23 (by decide) rfl ?_
              refine r_icmp_eq (tgt := 69) (pc2 := 28) dX10_keyAt_25 (by decide) rfl (fun b25 => ?_) (fun b25 => ?_)
              · exact absurd b25 (by rw [hc.1]; exact fun z => hc.2.1 ((nI_eq (b := 32) (by omega) (by decide)).mp z))
              · skip
                refine r_aload_n (pc2 := 29) 0 dX10_keyAt_28 rfl rfl rfl rfl ?_
                refine r_getf (pc2 := 32) (v := .int (v 6)) fX10_108 dX10_keyAt_29 c117 (by decide) rfl rfl ?_
                refine r_cast (nI q) (h6) ?_
                refine r_iload_n (pc2 := 33) 3 dX10_keyAt_32 rfl rfl rfl ?_
                refine r_iadd (pc2 := 34) dX10_keyAt_33 rfl ?_
                refine r_cast (nI (q + j)) (nI_add _ _) ?_
                refine r_aload_n (pc2 := 35) 0 dX10_keyAt_34 rfl rfl rfl rfl ?_
                refine r_getf (pc2 := 38) (v := .int (v 7)) fX10_111 dX10_keyAt_35 c117 (by decide) rfl rfl ?_
                refine r_cast (nI e) (h7) ?_
                refine r_icmp_ge (tgt := 69) (pc2 := 41) dX10_keyAt_38 (by decide) rfl (fun b38 => ?_) (fun b38 => ?_)
                · exact absurd b38 (nI_ge (by omega) (by omega))
                · skip
                  refine r_aload_n (pc2 := 42) 0 dX10_keyAt_41 rfl rfl rfl rfl ?_
                  refine r_getf (pc2 := 45) (v := .ref 120) fX10_21 dX10_keyAt_42 c117 (by decide) rfl rfl ?_
                  refine r_aload_n (pc2 := 46) 0 dX10_keyAt_45 rfl rfl rfl rfl ?_
                  refine r_getf (pc2 := 49) (v := .int (v 6)) fX10_108 dX10_keyAt_46 c117 (by decide) rfl rfl ?_
                  refine r_cast (nI q) (h6) ?_
                  refine r_iload_n (pc2 := 50) 3 dX10_keyAt_49 rfl rfl rfl ?_
                  refine r_iadd (pc2 := 51) dX10_keyAt_50 rfl ?_
                  refine r_cast (nI (q + j)) (nI_add _ _) ?_
                  refine r_ialdA (pc2 := 52) (q + j) dX10_keyAt_51 c120 (by decide) rfl (by omega) (by decide) rfl ?_
                  refine r_ldcS (pc2 := 54) 23 (by decide) rfl rfl dX10_keyAt_52 rfl ?_
                  refine r_iload_n (pc2 := 55) 2 dX10_keyAt_54 rfl rfl rfl ?_
                  refine r_iload_n (pc2 := 56) 3 dX10_keyAt_55 rfl rfl rfl ?_
                  refine r_iadd (pc2 := 57) dX10_keyAt_56 rfl ?_
                  refine r_cast (nI ((kO.getD i 0) + j)) (nI_add _ _) ?_
                  refine r_callX1 (pc2 := 60) (As := [.int (nI ((kO.getD i 0) + j))]) (st := [.int (nI (tp (q + j)))]) kX10_104 rfl (by decide) dX10_keyAt_57 rfl rfl (Nat.le_of_ble_eq_true rfl) (by omega) (c_charAt (t := 23) (j := ((kO.getD i 0) + j)) (by decide) (show _ < 120 by omega) (by omega)) rfl (fun h2 hq57 => ?_)
                  subst hq57
                  refine r_icmp_ne (tgt := 69) (pc2 := 63) dX10_keyAt_60 (by decide) rfl (fun b60 => ?_) (fun b60 => ?_)
                  · skip
                    exact rest j hjl hje heq (Or.inr (Or.inr hne))
                  · exact absurd ((nI_eq (by omega) (by omega)).mp (b60.trans hc.1)) hne
      refine r_iload_n (pc2 := 5) 2 dX10_keyAt_4 rfl rfl rfl ?_
      refine r_ldcS (pc2 := 7) 23 (by decide) rfl rfl dX10_keyAt_5 rfl ?_
      refine r_callX1 (pc2 := 10) (As := []) (st := [.int (nI (kO.getD i 0))]) kX10_98 rfl (by decide) dX10_keyAt_7 rfl rfl (Nat.le_of_ble_eq_true rfl) (by omega) (c_length (t := 23) (by decide) (by omega)) rfl (fun h2 hq7 => ?_)
      subst hq7
      refine r_icmp_ge (tgt := 123) (pc2 := 13) dX10_keyAt_10 (by decide) rfl (fun b10 => ?_) (fun b10 => ?_)
      · exact absurd b10 (nI_ge (b := 120) (by omega) (by decide))
      · skip
        refine r_iconst (pc2 := 14) (v := 0) dX10_keyAt_13 (by decide) rfl ?_
        refine r_istore_n (pc2 := 15) (ls2 := [.ref 117, .int (nI i), .int (nI (kO.getD i 0)), .int 0]) 3 dX10_keyAt_14 rfl (by decide) rfl rfl rfl ?_
        exact inner (kL i) 0 (by omega) (by omega) (by omega) (fun j2 h => absurd h (Nat.not_lt_zero _))
  refine Cn.go (ls := [.ref 117, .float 0, .float 0, .float 0]) (by decide +kernel) rfl (Nat.le_of_ble_eq_true rfl) ?_
  refine r_iconst (pc2 := 1) (v := 0) dX10_keyAt_0 (by decide) rfl ?_
  refine r_istore_n (pc2 := 2) (ls2 := [.ref 117, .int 0, .float 0, .float 0]) 1 dX10_keyAt_1 rfl (by decide) rfl rfl rfl ?_
  refine r_iconst (pc2 := 3) (v := 1) dX10_keyAt_2 (by decide) rfl ?_
  refine r_istore_n (pc2 := 4) (ls2 := [.ref 117, .int 0, .int 1, .float 0]) 2 dX10_keyAt_3 rfl (by decide) rfl rfl rfl ?_
  exact loop 23 0 _ (by omega)
