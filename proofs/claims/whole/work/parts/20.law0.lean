theorem r_ialdA {E : EnvT} {M : MD} {d pc pc2 a0 n : Nat} {ls st : List Value} {h : Hp} {Q : Option Value → Hp → Prop} {i : Int32} {a : Nat → Nat} (j : Nat) (hd : decode M.2.1 pc = .ok (.iaload, 1)) (ha : h.1 a0 = some (.inl (0, n, .inl (nA a)))) (h64 : 64 ≤ a0) (hi : i = nI j) (hj : j < n) (hn : n < 2 ^ 31) (hp : pc + 1 = pc2) (kk : Fr E M d pc2 ls (.int (nI (a j)) :: st) h Q) : Fr E M d pc ls (.int i :: .ref a0 :: st) h Q := r_ialdN j hd ha h64 hi hj hn hp kk
/-! the laws, reckoned on a stack -/
def clampM (v : Int64) : Int32 := (if 1000000 < v then (1000000 : Int64) else if v < -1000000 then -1000000 else v).toInt32
def btw (c : Nat) (x y : Int32) : Int32 :=
  if c = 3003 then (if x = y then 1 else 0) else if c = 3004 then (if x < y then 1 else 0) else if c = 3005 then (if y < x then 1 else 0)
  else if c = 3007 then x &&& y else if c = 3008 then x ||| y
  else clampM (if c = 3000 then x.toInt64 + y.toInt64 else if c = 3001 then x.toInt64 - y.toInt64 else x.toInt64 * y.toInt64)
def isBin (c : Nat) : Prop := c = 3000 ∨ c = 3001 ∨ c = 3002 ∨ c = 3003 ∨ c = 3004 ∨ c = 3005 ∨ c = 3007 ∨ c = 3008
set_option maxRecDepth 20000 in
set_option maxHeartbeats 1000000 in
theorem c_between {E : EnvT} {d : Nat} {h : Hp} {c : Nat} (x y : Int32) (hc : isBin c) : Cn E mX10_between d [.int (nI c), .int x, .int y] h (fun r h2 => r = some (.int (btw c x y)) ∧ h2 = h) := by
  have J : ∀ (cv : Int32) (z : Int64), btw c x y = clampM z → Fr E mX10_between d 116 [.int cv, .int x, .int y, .float 0, .float 0] [.long z] h (fun r h2 => r = some (.int (btw c x y)) ∧ h2 = h) := by
    intro cv z e
    refine r_lstore_n (pc2 := 117) (ls2 := [.int cv, .int x, .int y, .long z, .float 0]) 3 dX10_between_116 rfl (by decide) rfl rfl rfl ?_
    refine r_lload_n (pc2 := 118) 3 dX10_between_117 rfl rfl rfl ?_
    refine r_ldc2 (pc2 := 121) (v := 1000000) qX10_234 dX10_between_118 rfl ?_
    refine r_lcmp (pc2 := 122) dX10_between_121 rfl ?_
    refine r_if_le (tgt := 131) (pc2 := 125) dX10_between_122 (by decide) rfl (fun b122 => ?_) (fun b122 => ?_)
    · skip
      refine r_lload_n (pc2 := 132) 3 dX10_between_131 rfl rfl rfl ?_
      refine r_ldc2 (pc2 := 135) (v := -1000000) qX10_236 dX10_between_132 rfl ?_
      refine r_lcmp (pc2 := 136) dX10_between_135 rfl ?_
      refine r_if_ge (tgt := 145) (pc2 := 139) dX10_between_136 (by decide) rfl (fun b136 => ?_) (fun b136 => ?_)
      · skip
        refine r_lload_n (pc2 := 146) 3 dX10_between_145 rfl rfl rfl ?_
        refine r_l2i (pc2 := 147) dX10_between_146 rfl ?_
        exact r_iret rfl dX10_between_147 ⟨by rw [e]; unfold clampM; simp_all [lgc_lt, lgc_gt, lgc_le, lgc_ge, ← Int64.not_lt], rfl⟩
      · skip
        refine r_ldc2 (pc2 := 142) (v := -1000000) qX10_236 dX10_between_139 rfl ?_
        refine r_goto (pc2 := 146) dX10_between_142 (by decide) ?_
        refine r_l2i (pc2 := 147) dX10_between_146 rfl ?_
        exact r_iret rfl dX10_between_147 ⟨by rw [e]; unfold clampM; simp_all [lgc_lt, lgc_gt, lgc_le, lgc_ge, ← Int64.not_lt], rfl⟩
    · skip
      refine r_ldc2 (pc2 := 128) (v := 1000000) qX10_234 dX10_between_125 rfl ?_
      refine r_goto (pc2 := 146) dX10_between_128 (by decide) ?_
      refine r_l2i (pc2 := 147) dX10_between_146 rfl ?_
      exact r_iret rfl dX10_between_147 ⟨by rw [e]; unfold clampM; simp_all [lgc_lt, lgc_gt, lgc_le, lgc_ge, ← Int64.not_lt], rfl⟩
  rcases hc with rfl | rfl | rfl | rfl | rfl | rfl | rfl | rfl
  · skip
    refine Cn.go (ls := [.int 3000, .int x, .int y, .float 0, .float 0]) (by decide +kernel) rfl (Nat.le_of_ble_eq_true rfl) ?_
    refine r_iload_n (pc2 := 1) 0 dX10_between_0 rfl rfl rfl ?_
    refine r_tswD (pc2 := 0) (tgt := 81) dX10_between_1 (by decide) (by decide) ?_
    refine r_iload_n (pc2 := 82) 0 dX10_between_81 rfl rfl rfl ?_
    refine r_sipush (pc2 := 85) (v := 3000) dX10_between_82 (by decide) rfl ?_
    refine r_icmp_ne (tgt := 96) (pc2 := 88) dX10_between_85 (by decide) rfl (fun b85 => ?_) (fun b85 => ?_)
    · exact absurd b85 (by decide)
    · skip
      refine r_iload_n (pc2 := 89) 1 dX10_between_88 rfl rfl rfl ?_
      refine r_i2l (pc2 := 90) dX10_between_89 rfl ?_
      refine r_iload_n (pc2 := 91) 2 dX10_between_90 rfl rfl rfl ?_
      refine r_i2l (pc2 := 92) dX10_between_91 rfl ?_
      refine r_ladd (pc2 := 93) dX10_between_92 rfl ?_
      refine r_goto (pc2 := 116) dX10_between_93 (by decide) ?_
      exact J _ _ rfl
  · skip
    refine Cn.go (ls := [.int 3001, .int x, .int y, .float 0, .float 0]) (by decide +kernel) rfl (Nat.le_of_ble_eq_true rfl) ?_
    refine r_iload_n (pc2 := 1) 0 dX10_between_0 rfl rfl rfl ?_
    refine r_tswD (pc2 := 0) (tgt := 81) dX10_between_1 (by decide) (by decide) ?_
    refine r_iload_n (pc2 := 82) 0 dX10_between_81 rfl rfl rfl ?_
    refine r_sipush (pc2 := 85) (v := 3000) dX10_between_82 (by decide) rfl ?_
    refine r_icmp_ne (tgt := 96) (pc2 := 88) dX10_between_85 (by decide) rfl (fun b85 => ?_) (fun b85 => ?_)
    · skip
      refine r_iload_n (pc2 := 97) 0 dX10_between_96 rfl rfl rfl ?_
      refine r_sipush (pc2 := 100) (v := 3001) dX10_between_97 (by decide) rfl ?_
      refine r_icmp_ne (tgt := 111) (pc2 := 103) dX10_between_100 (by decide) rfl (fun b100 => ?_) (fun b100 => ?_)
      · exact absurd b100 (by decide)
      · skip
        refine r_iload_n (pc2 := 104) 1 dX10_between_103 rfl rfl rfl ?_
        refine r_i2l (pc2 := 105) dX10_between_104 rfl ?_
        refine r_iload_n (pc2 := 106) 2 dX10_between_105 rfl rfl rfl ?_
        refine r_i2l (pc2 := 107) dX10_between_106 rfl ?_
        refine r_lsub (pc2 := 108) dX10_between_107 rfl ?_
        refine r_goto (pc2 := 116) dX10_between_108 (by decide) ?_
        exact J _ _ rfl
    · exact absurd b85 (by decide)
  · skip
    refine Cn.go (ls := [.int 3002, .int x, .int y, .float 0, .float 0]) (by decide +kernel) rfl (Nat.le_of_ble_eq_true rfl) ?_
    refine r_iload_n (pc2 := 1) 0 dX10_between_0 rfl rfl rfl ?_
    refine r_tswD (pc2 := 0) (tgt := 81) dX10_between_1 (by decide) (by decide) ?_
    refine r_iload_n (pc2 := 82) 0 dX10_between_81 rfl rfl rfl ?_
    refine r_sipush (pc2 := 85) (v := 3000) dX10_between_82 (by decide) rfl ?_
    refine r_icmp_ne (tgt := 96) (pc2 := 88) dX10_between_85 (by decide) rfl (fun b85 => ?_) (fun b85 => ?_)
    · skip
      refine r_iload_n (pc2 := 97) 0 dX10_between_96 rfl rfl rfl ?_
      refine r_sipush (pc2 := 100) (v := 3001) dX10_between_97 (by decide) rfl ?_
      refine r_icmp_ne (tgt := 111) (pc2 := 103) dX10_between_100 (by decide) rfl (fun b100 => ?_) (fun b100 => ?_)
      · skip
        refine r_iload_n (pc2 := 112) 1 dX10_between_111 rfl rfl rfl ?_
        refine r_i2l (pc2 := 113) dX10_between_112 rfl ?_
        refine r_iload_n (pc2 := 114) 2 dX10_between_113 rfl rfl rfl ?_
        refine r_i2l (pc2 := 115) dX10_between_114 rfl ?_
        refine r_lmul (pc2 := 116) dX10_between_115 rfl ?_
        exact J _ _ rfl
      · exact absurd b100 (by decide)
    · exact absurd b85 (by decide)
  · skip
    refine Cn.go (ls := [.int 3003, .int x, .int y, .float 0, .float 0]) (by decide +kernel) rfl (Nat.le_of_ble_eq_true rfl) ?_
    refine r_iload_n (pc2 := 1) 0 dX10_between_0 rfl rfl rfl ?_
    refine r_tsw (pc2 := 0) (tgt := 40) (off := 39) dX10_between_1 (by decide) (by decide) (by decide) (by decide) ?_
    refine r_iload_n (pc2 := 41) 1 dX10_between_40 rfl rfl rfl ?_
    refine r_iload_n (pc2 := 42) 2 dX10_between_41 rfl rfl rfl ?_
    refine r_icmp_ne (tgt := 49) (pc2 := 45) dX10_between_42 (by decide) rfl (fun b42 => ?_) (fun b42 => ?_)
    · skip
      refine r_iconst (pc2 := 50) (v := 0) dX10_between_49 (by decide) rfl ?_
      exact r_iret rfl dX10_between_50 ⟨by simp_all [btw, ← Int32.not_lt], rfl⟩
    · skip
      refine r_iconst (pc2 := 46) (v := 1) dX10_between_45 (by decide) rfl ?_
      refine r_goto (pc2 := 50) dX10_between_46 (by decide) ?_
      exact r_iret rfl dX10_between_50 ⟨by simp_all [btw, ← Int32.not_lt], rfl⟩
  · skip
    refine Cn.go (ls := [.int 3004, .int x, .int y, .float 0, .float 0]) (by decide +kernel) rfl (Nat.le_of_ble_eq_true rfl) ?_
    refine r_iload_n (pc2 := 1) 0 dX10_between_0 rfl rfl rfl ?_
    refine r_tsw (pc2 := 0) (tgt := 51) (off := 50) dX10_between_1 (by decide) (by decide) (by decide) (by decide) ?_
    refine r_iload_n (pc2 := 52) 1 dX10_between_51 rfl rfl rfl ?_
    refine r_iload_n (pc2 := 53) 2 dX10_between_52 rfl rfl rfl ?_
    refine r_icmp_ge (tgt := 60) (pc2 := 56) dX10_between_53 (by decide) rfl (fun b53 => ?_) (fun b53 => ?_)
    · skip
      refine r_iconst (pc2 := 61) (v := 0) dX10_between_60 (by decide) rfl ?_
      exact r_iret rfl dX10_between_61 ⟨by simp_all [btw, ← Int32.not_lt], rfl⟩
    · skip
      refine r_iconst (pc2 := 57) (v := 1) dX10_between_56 (by decide) rfl ?_
      refine r_goto (pc2 := 61) dX10_between_57 (by decide) ?_
      exact r_iret rfl dX10_between_61 ⟨by simp_all [btw, ← Int32.not_lt], rfl⟩
  · skip
    refine Cn.go (ls := [.int 3005, .int x, .int y, .float 0, .float 0]) (by decide +kernel) rfl (Nat.le_of_ble_eq_true rfl) ?_
    refine r_iload_n (pc2 := 1) 0 dX10_between_0 rfl rfl rfl ?_
    refine r_tsw (pc2 := 0) (tgt := 62) (off := 61) dX10_between_1 (by decide) (by decide) (by decide) (by decide) ?_
    refine r_iload_n (pc2 := 63) 1 dX10_between_62 rfl rfl rfl ?_
    refine r_iload_n (pc2 := 64) 2 dX10_between_63 rfl rfl rfl ?_
    refine r_icmp_le (tgt := 71) (pc2 := 67) dX10_between_64 (by decide) rfl (fun b64 => ?_) (fun b64 => ?_)
    · skip
      refine r_iconst (pc2 := 72) (v := 0) dX10_between_71 (by decide) rfl ?_
      exact r_iret rfl dX10_between_72 ⟨by simp_all [btw, ← Int32.not_lt], rfl⟩
    · skip
      refine r_iconst (pc2 := 68) (v := 1) dX10_between_67 (by decide) rfl ?_
      refine r_goto (pc2 := 72) dX10_between_68 (by decide) ?_
      exact r_iret rfl dX10_between_72 ⟨by simp_all [btw, ← Int32.not_lt], rfl⟩
  · skip
    refine Cn.go (ls := [.int 3007, .int x, .int y, .float 0, .float 0]) (by decide +kernel) rfl (Nat.le_of_ble_eq_true rfl) ?_
    refine r_iload_n (pc2 := 1) 0 dX10_between_0 rfl rfl rfl ?_
    refine r_tsw (pc2 := 0) (tgt := 73) (off := 72) dX10_between_1 (by decide) (by decide) (by decide) (by decide) ?_
    refine r_iload_n (pc2 := 74) 1 dX10_between_73 rfl rfl rfl ?_
    refine r_iload_n (pc2 := 75) 2 dX10_between_74 rfl rfl rfl ?_
    refine r_iand (pc2 := 76) dX10_between_75 rfl ?_
    exact r_iret rfl dX10_between_76 ⟨by simp_all [btw, ← Int32.not_lt], rfl⟩
  · skip
    refine Cn.go (ls := [.int 3008, .int x, .int y, .float 0, .float 0]) (by decide +kernel) rfl (Nat.le_of_ble_eq_true rfl) ?_
    refine r_iload_n (pc2 := 1) 0 dX10_between_0 rfl rfl rfl ?_
    refine r_tsw (pc2 := 0) (tgt := 77) (off := 76) dX10_between_1 (by decide) (by decide) (by decide) (by decide) ?_
    refine r_iload_n (pc2 := 78) 1 dX10_between_77 rfl rfl rfl ?_
    refine r_iload_n (pc2 := 79) 2 dX10_between_78 rfl rfl rfl ?_
    refine r_ior (pc2 := 80) dX10_between_79 rfl ?_
    exact r_iret rfl dX10_between_80 ⟨by simp_all [btw, ← Int32.not_lt], rfl⟩
def ev1 (w : Nat → Int32) (c : Nat) (s : List Int32) : List Int32 :=
  if c < 1000 then nI c :: s else if c < 3000 then w (c - 1000) :: s
  else if c = 3006 then (match s with
    | x :: t => (1 - x) :: t
    | [] => [])
  else if c = 3009 then (match s with
    | z :: y :: b :: r => (if b = 1 then y else z) :: r
    | r => r)
  else (match s with
    | y :: x :: r => btw c x y :: r
    | r => r)
/-- the stack behind k codes -/
def stk (w : Nat → Int32) (cf : Nat → Nat) : Nat → List Int32
  | 0 => []
  | k + 1 => ev1 w (cf k) (stk w cf k)
def dstep (c d : Nat) : Nat := if c < 3000 then d + 1 else if c = 3006 then d else if c = 3009 then d - 2 else d - 1
def dk (cf : Nat → Nat) : Nat → Nat
  | 0 => 0
  | k + 1 => dstep (cf k) (dk cf k)
def okc (c d : Nat) : Prop := c < 1000 ∨ (1000 ≤ c ∧ c < 1009) ∨ (c = 3006 ∧ 1 ≤ d) ∨ (c = 3009 ∧ 3 ≤ d) ∨ (isBin c ∧ 2 ≤ d)
def LawWF (cf : Nat → Nat) (n : Nat) : Prop := (∀ k, k < n → okc (cf k) (dk cf k)) ∧ (∀ k, k ≤ n → dk cf k ≤ 64) ∧ dk cf n = 1
theorem stk_len (w : Nat → Int32) {cf : Nat → Nat} {n : Nat} (h : ∀ k, k < n → okc (cf k) (dk cf k)) : ∀ k, k ≤ n → (stk w cf k).length = dk cf k := by
  intro k
  induction k with
  | zero => intro _; rfl
  | succ k ih =>
    intro hk
    have e := ih (by omega)
    have o := h k (by omega)
    rw [stk, dk]
    generalize cf k = c at *
    generalize stk w cf k = s at *
    generalize dk cf k = d at *
    unfold ev1 dstep
    rcases o with o | ⟨o, o2⟩ | ⟨rfl, o⟩ | ⟨rfl, o⟩ | ⟨o, o2⟩
    · rw [if_pos o, if_pos (by omega)]; simp [e]
    · rw [if_neg (by omega), if_pos (by omega), if_pos (by omega)]; simp [e]
    · match s, e with
      | x :: t, e => simpa using e
      | [], e => simp at e; omega
    · match s, e with
      | x :: y :: b :: r, e => simp at e ⊢; omega
      | [x, y], e => simp at e; omega
      | [x], e => simp at e; omega
      | [], e => simp at e; omega
    · have hb : ¬ c < 1000 ∧ ¬ c < 3000 ∧ ¬ c = 3006 ∧ ¬ c = 3009 := by rcases o with o | o | o | o | o | o | o | o <;> omega
      rw [if_neg hb.1, if_neg hb.2.1, if_neg hb.2.2.1, if_neg hb.2.2.2, if_neg hb.2.1, if_neg hb.2.2.1, if_neg hb.2.2.2]
      match s, e with
      | x :: y :: r, e => simp at e ⊢; omega
      | [x], e => simp at e; omega
      | [], e => simp at e; omega
/-- a row holds a stack, its bottom first -/
def RepS (f : Nat → Int32) : List Int32 → Prop
  | [] => True
  | x :: s => f s.length = x ∧ RepS f s
theorem RepS.far {f : Nat → Int32} {j : Nat} {x : Int32} : ∀ {s : List Int32}, RepS f s → s.length ≤ j → RepS (upd f j x) s := by
  intro s
  induction s with
  | nil => intro _ _; trivial
  | cons y t ih =>
    intro h hj
    simp at hj
    refine ⟨?_, ih h.2 (by omega)⟩
    show (if t.length = j then x else f t.length) = y
    rw [if_neg (by omega)]
    exact h.1
theorem RepS.push {f : Nat → Int32} {s : List Int32} (x : Int32) (h : RepS f s) : RepS (upd f s.length x) (x :: s) := ⟨if_pos rfl, h.far (Nat.le_refl _)⟩
def clipM (x mx : Int32) : Int32 := if x < 0 then 0 else if mx < x then mx else x
