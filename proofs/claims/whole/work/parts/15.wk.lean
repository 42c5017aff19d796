/-! working rows: heaps by name, calls by the shape of what they answer -/
def Ex (S : List Nat) (h h2 : Hp) : Prop := h2.2 = h.2 ∧ ∀ a : Nat, a ∉ S → h2.1 a = h.1 a
theorem Ex.rf {S : List Nat} {h : Hp} : Ex S h h := ⟨rfl, fun _ _ => rfl⟩
theorem Ex.step {S : List Nat} {h h1 h2 : Hp} {a : Nat} (x : Ex S h h1) (ha : a ∈ S) (z : h2.2 = h1.2) (o : ∀ b, b ≠ a → h2.1 b = h1.1 b) : Ex S h h2 :=
  ⟨z.trans x.1, fun b hb => (o b (fun e => hb (e ▸ ha))).trans (x.2 b hb)⟩
theorem Ex.trans {S S2 : List Nat} {h h1 h2 : Hp} (x : Ex S h h1) (y : Ex S2 h1 h2) (hs : ∀ a ∈ S2, a ∈ S) : Ex S h h2 :=
  ⟨y.1.trans x.1, fun b hb => (y.2 b (fun q => hb (hs b q))).trans (x.2 b hb)⟩
theorem Ex.mono {S S2 : List Nat} {h h2 : Hp} (y : Ex S2 h h2) (hs : ∀ a ∈ S2, a ∈ S) : Ex S h h2 := ⟨y.1, fun b hb => y.2 b (fun q => hb (hs b q))⟩
theorem Ex.get {S : List Nat} {h h2 : Hp} (y : Ex S h h2) {a : Nat} {e : Option va_E} (ha : a ∉ S) (c : h.1 a = e) : h2.1 a = e := (y.2 a ha).trans c
theorem hs_same (h : Hp) (a : Nat) (e : va_E) : (hset h a e).1 a = some e := if_pos rfl
theorem hs_ne (h : Hp) {a b : Nat} (e : va_E) (hb : b ≠ a) : (hset h a e).1 b = h.1 b := if_neg hb
theorem hn_same (h : Hp) (e : va_E) (n : Nat) : (hnew h e n).1 h.2.1 = some e := if_pos rfl
theorem hn_ne (h : Hp) {b : Nat} (e : va_E) (n : Nat) (hb : b ≠ h.2.1) : (hnew h e n).1 b = h.1 b := if_neg hb
section TOP
variable {E : EnvT} {M : MD} {d pc : Nat} {ls st : List Value} {h : Hp} {Q : Option Value → Hp → Prop}
theorem r_topi {x : Int32} (k : ∀ z : Int32, z = x → Fr E M d pc ls (.int z :: st) h Q) : Fr E M d pc ls (.int x :: st) h Q := k x rfl
theorem r_topl {x : Int64} (k : ∀ z : Int64, z = x → Fr E M d pc ls (.long z :: st) h Q) : Fr E M d pc ls (.long x :: st) h Q := k x rfl
theorem r_cast {x : Int32} (y : Int32) (e : x = y) (k : Fr E M d pc ls (.int y :: st) h Q) : Fr E M d pc ls (.int x :: st) h Q := e ▸ k
theorem r_castl {x : Int64} (y : Int64) (e : x = y) (k : Fr E M d pc ls (.long y :: st) h Q) : Fr E M d pc ls (.long x :: st) h Q := e ▸ k
end TOP
theorem nI_vp {n j : Nat} {i : Int32} (hi : i = nI j) (hj : j < n) (hn : n < 2 ^ 31) : vp_in i n ∧ i.toNatClampNeg = j := by
  subst hi
  exact ⟨vp_in_nI hj hn, nI_clamp (by omega)⟩
theorem r_ialdN {E : EnvT} {M : MD} {d pc pc2 a n : Nat} {ls st : List Value} {h : Hp} {Q : Option Value → Hp → Prop} {i : Int32} {f : Nat → Int32} (j : Nat) (hd : decode M.2.1 pc = .ok (.iaload, 1)) (ha : h.1 a = some (.inl (0, n, .inl f))) (h64 : 64 ≤ a) (hi : i = nI j) (hj : j < n) (hn : n < 2 ^ 31) (hp : pc + 1 = pc2) (kk : Fr E M d pc2 ls (.int (f j) :: st) h Q) : Fr E M d pc ls (.int i :: .ref a :: st) h Q := by
  obtain ⟨h1, h2⟩ := nI_vp hi hj hn
  exact r_iald hd ha h64 h1 hp (by rw [h2]; exact kk)
theorem r_laldN {E : EnvT} {M : MD} {d pc pc2 a n : Nat} {ls st : List Value} {h : Hp} {Q : Option Value → Hp → Prop} {i : Int32} {f : Nat → Int64} (j : Nat) (hd : decode M.2.1 pc = .ok (.laload, 1)) (ha : h.1 a = some (.inl (1, n, .inr (.inl f)))) (h64 : 64 ≤ a) (hi : i = nI j) (hj : j < n) (hn : n < 2 ^ 31) (hp : pc + 1 = pc2) (kk : Fr E M d pc2 ls (.long (f j) :: st) h Q) : Fr E M d pc ls (.int i :: .ref a :: st) h Q := by
  obtain ⟨h1, h2⟩ := nI_vp hi hj hn
  exact r_lald hd ha h64 h1 hp (by rw [h2]; exact kk)
theorem r_baldN {E : EnvT} {M : MD} {d pc pc2 a n : Nat} {ls st : List Value} {h : Hp} {Q : Option Value → Hp → Prop} {i : Int32} {f : Nat → Int32} (j : Nat) (hd : decode M.2.1 pc = .ok (.baload, 1)) (ha : h.1 a = some (.inl (2, n, .inl f))) (h64 : 64 ≤ a) (hi : i = nI j) (hj : j < n) (hn : n < 2 ^ 31) (hp : pc + 1 = pc2) (kk : Fr E M d pc2 ls (.int (f j) :: st) h Q) : Fr E M d pc ls (.int i :: .ref a :: st) h Q := by
  obtain ⟨h1, h2⟩ := nI_vp hi hj hn
  exact r_bald hd ha h64 h1 hp (by rw [h2]; exact kk)
theorem r_zaldN {E : EnvT} {M : MD} {d pc pc2 a n : Nat} {ls st : List Value} {h : Hp} {Q : Option Value → Hp → Prop} {i : Int32} {f : Nat → Int32} (j : Nat) (hd : decode M.2.1 pc = .ok (.baload, 1)) (ha : h.1 a = some (.inl (3, n, .inl f))) (h64 : 64 ≤ a) (hi : i = nI j) (hj : j < n) (hn : n < 2 ^ 31) (hp : pc + 1 = pc2) (kk : Fr E M d pc2 ls (.int (f j) :: st) h Q) : Fr E M d pc ls (.int i :: .ref a :: st) h Q := by
  obtain ⟨h1, h2⟩ := nI_vp hi hj hn
  exact r_zald hd ha h64 h1 hp (by rw [h2]; exact kk)
theorem r_wldN {E : EnvT} {M : MD} {d pc pc2  : Nat} {ls st : List Value} {h : Hp} {Q : Option Value → Hp → Prop} {i : Int32} (j : Nat) (hd : decode M.2.1 pc = .ok (.iaload, 1)) (hi : i = nI j) (hj : j < 5) (hp : pc + 1 = pc2) (kk : Fr E M d pc2 ls (.int (xW j) :: st) h Q) : Fr E M d pc ls (.int i :: .ref 60 :: st) h Q := by
  obtain ⟨h1, h2⟩ := nI_vp hi hj (by decide)
  exact r_wld hd h1 hp (by rw [h2]; exact kk)
theorem r_iastX {E : EnvT} {M : MD} {d pc pc2 a n : Nat} {ls st : List Value} {h : Hp} {Q : Option Value → Hp → Prop} {i : Int32} {x : Int32} {f : Nat → Int32} (hd : decode M.2.1 pc = .ok (.iastore, 1)) (ha : h.1 a = some (.inl (0, n, .inl f))) (h64 : 64 ≤ a) (hin : vp_in i n) (hp : pc + 1 = pc2) (kk : ∀ h2 : Hp, h2.2 = h.2 → (∀ b, b ≠ a → h2.1 b = h.1 b) → h2.1 a = some (.inl (0, n, .inl (upd f i.toNatClampNeg x))) → Fr E M d pc2 ls st h2 Q) : Fr E M d pc ls (.int x :: .int i :: .ref a :: st) h Q :=
  r_iast hd ha h64 hin hp (kk _ rfl (fun b hb => hs_ne h _ hb) (hs_same h a _))
theorem r_iastN {E : EnvT} {M : MD} {d pc pc2 a n : Nat} {ls st : List Value} {h : Hp} {Q : Option Value → Hp → Prop} {i : Int32} {x : Int32} {f : Nat → Int32} (j : Nat) (hd : decode M.2.1 pc = .ok (.iastore, 1)) (ha : h.1 a = some (.inl (0, n, .inl f))) (h64 : 64 ≤ a) (hi : i = nI j) (hj : j < n) (hn : n < 2 ^ 31) (hp : pc + 1 = pc2) (kk : ∀ h2 : Hp, h2.2 = h.2 → (∀ b, b ≠ a → h2.1 b = h.1 b) → h2.1 a = some (.inl (0, n, .inl (upd f j x))) → Fr E M d pc2 ls st h2 Q) : Fr E M d pc ls (.int x :: .int i :: .ref a :: st) h Q := by
  obtain ⟨h1, h2⟩ := nI_vp hi hj hn
  refine r_iastX hd ha h64 h1 hp (fun h3 z o c => kk h3 z o ?_)
  rw [h2] at c
  exact c
theorem r_lastX {E : EnvT} {M : MD} {d pc pc2 a n : Nat} {ls st : List Value} {h : Hp} {Q : Option Value → Hp → Prop} {i : Int32} {x : Int64} {f : Nat → Int64} (hd : decode M.2.1 pc = .ok (.lastore, 1)) (ha : h.1 a = some (.inl (1, n, .inr (.inl f)))) (h64 : 64 ≤ a) (hin : vp_in i n) (hp : pc + 1 = pc2) (kk : ∀ h2 : Hp, h2.2 = h.2 → (∀ b, b ≠ a → h2.1 b = h.1 b) → h2.1 a = some (.inl (1, n, .inr (.inl (vp_updL f i.toNatClampNeg x)))) → Fr E M d pc2 ls st h2 Q) : Fr E M d pc ls (.long x :: .int i :: .ref a :: st) h Q :=
  r_last hd ha h64 hin hp (kk _ rfl (fun b hb => hs_ne h _ hb) (hs_same h a _))
theorem r_lastN {E : EnvT} {M : MD} {d pc pc2 a n : Nat} {ls st : List Value} {h : Hp} {Q : Option Value → Hp → Prop} {i : Int32} {x : Int64} {f : Nat → Int64} (j : Nat) (hd : decode M.2.1 pc = .ok (.lastore, 1)) (ha : h.1 a = some (.inl (1, n, .inr (.inl f)))) (h64 : 64 ≤ a) (hi : i = nI j) (hj : j < n) (hn : n < 2 ^ 31) (hp : pc + 1 = pc2) (kk : ∀ h2 : Hp, h2.2 = h.2 → (∀ b, b ≠ a → h2.1 b = h.1 b) → h2.1 a = some (.inl (1, n, .inr (.inl (vp_updL f j x)))) → Fr E M d pc2 ls st h2 Q) : Fr E M d pc ls (.long x :: .int i :: .ref a :: st) h Q := by
  obtain ⟨h1, h2⟩ := nI_vp hi hj hn
  refine r_lastX hd ha h64 h1 hp (fun h3 z o c => kk h3 z o ?_)
  rw [h2] at c
  exact c
theorem r_bastX {E : EnvT} {M : MD} {d pc pc2 a n : Nat} {ls st : List Value} {h : Hp} {Q : Option Value → Hp → Prop} {i : Int32} {x : Int32} {f : Nat → Int32} (hd : decode M.2.1 pc = .ok (.bastore, 1)) (ha : h.1 a = some (.inl (2, n, .inl f))) (h64 : 64 ≤ a) (hin : vp_in i n) (hp : pc + 1 = pc2) (kk : ∀ h2 : Hp, h2.2 = h.2 → (∀ b, b ≠ a → h2.1 b = h.1 b) → h2.1 a = some (.inl (2, n, .inl (upd f i.toNatClampNeg x.toInt8.toInt32))) → Fr E M d pc2 ls st h2 Q) : Fr E M d pc ls (.int x :: .int i :: .ref a :: st) h Q :=
  r_bast hd ha h64 hin hp (kk _ rfl (fun b hb => hs_ne h _ hb) (hs_same h a _))
theorem r_bastN {E : EnvT} {M : MD} {d pc pc2 a n : Nat} {ls st : List Value} {h : Hp} {Q : Option Value → Hp → Prop} {i : Int32} {x : Int32} {f : Nat → Int32} (j : Nat) (hd : decode M.2.1 pc = .ok (.bastore, 1)) (ha : h.1 a = some (.inl (2, n, .inl f))) (h64 : 64 ≤ a) (hi : i = nI j) (hj : j < n) (hn : n < 2 ^ 31) (hp : pc + 1 = pc2) (kk : ∀ h2 : Hp, h2.2 = h.2 → (∀ b, b ≠ a → h2.1 b = h.1 b) → h2.1 a = some (.inl (2, n, .inl (upd f j x.toInt8.toInt32))) → Fr E M d pc2 ls st h2 Q) : Fr E M d pc ls (.int x :: .int i :: .ref a :: st) h Q := by
  obtain ⟨h1, h2⟩ := nI_vp hi hj hn
  refine r_bastX hd ha h64 h1 hp (fun h3 z o c => kk h3 z o ?_)
  rw [h2] at c
  exact c
theorem r_zastX {E : EnvT} {M : MD} {d pc pc2 a n : Nat} {ls st : List Value} {h : Hp} {Q : Option Value → Hp → Prop} {i : Int32} {x : Int32} {f : Nat → Int32} (hd : decode M.2.1 pc = .ok (.bastore, 1)) (ha : h.1 a = some (.inl (3, n, .inl f))) (h64 : 64 ≤ a) (hin : vp_in i n) (hp : pc + 1 = pc2) (kk : ∀ h2 : Hp, h2.2 = h.2 → (∀ b, b ≠ a → h2.1 b = h.1 b) → h2.1 a = some (.inl (3, n, .inl (upd f i.toNatClampNeg (x &&& 1)))) → Fr E M d pc2 ls st h2 Q) : Fr E M d pc ls (.int x :: .int i :: .ref a :: st) h Q :=
  r_zast hd ha h64 hin hp (kk _ rfl (fun b hb => hs_ne h _ hb) (hs_same h a _))
theorem r_zastN {E : EnvT} {M : MD} {d pc pc2 a n : Nat} {ls st : List Value} {h : Hp} {Q : Option Value → Hp → Prop} {i : Int32} {x : Int32} {f : Nat → Int32} (j : Nat) (hd : decode M.2.1 pc = .ok (.bastore, 1)) (ha : h.1 a = some (.inl (3, n, .inl f))) (h64 : 64 ≤ a) (hi : i = nI j) (hj : j < n) (hn : n < 2 ^ 31) (hp : pc + 1 = pc2) (kk : ∀ h2 : Hp, h2.2 = h.2 → (∀ b, b ≠ a → h2.1 b = h.1 b) → h2.1 a = some (.inl (3, n, .inl (upd f j (x &&& 1)))) → Fr E M d pc2 ls st h2 Q) : Fr E M d pc ls (.int x :: .int i :: .ref a :: st) h Q := by
  obtain ⟨h1, h2⟩ := nI_vp hi hj hn
  refine r_zastX hd ha h64 h1 hp (fun h3 z o c => kk h3 z o ?_)
  rw [h2] at c
  exact c
theorem r_putfX {E : EnvT} {M : MD} {d pc pc2 idx ci k : Nat} {ty : FieldType} {ls st fs : List Value} {h : Hp} {Q : Option Value → Hp → Prop} {a : Nat} {v : Value} (fs2 : List Value) (f : FL M.1.cls idx ci k false ty) (hd : decode M.2.1 pc = .ok (.putfield idx, 3)) (ha : h.1 a = some (.inr (ci, fs))) (h64 : 64 ≤ a) (hl : k < fs.length) (hv : okW ty v = true) (hs2 : fs.set k v = fs2) (hp : pc + 3 = pc2) (kk : ∀ h2 : Hp, h2.2 = h.2 → (∀ b, b ≠ a → h2.1 b = h.1 b) → h2.1 a = some (.inr (ci, fs2)) → Fr E M d pc2 ls st h2 Q) : Fr E M d pc ls (v :: .ref a :: st) h Q :=
  r_putf f hd ha h64 hl hv hs2 hp (kk _ rfl (fun b hb => hs_ne h _ hb) (hs_same h a _))
theorem r_putFX {E : EnvT} {M : MD} {d pc pc2 idx ci k : Nat} {ty : FieldType} {ls st fs : List Value} {h : Hp} {Q : Option Value → Hp → Prop} {a : Nat} {v : Value} (fs2 : List Value) (f : FLF M.1.cls idx ci k ty) (hin : M.1.name = "<init>") (hd : decode M.2.1 pc = .ok (.putfield idx, 3)) (ha : h.1 a = some (.inr (ci, fs))) (h64 : 64 ≤ a) (hl : k < fs.length) (hv : okW ty v = true) (hs2 : fs.set k v = fs2) (hp : pc + 3 = pc2) (kk : ∀ h2 : Hp, h2.2 = h.2 → (∀ b, b ≠ a → h2.1 b = h.1 b) → h2.1 a = some (.inr (ci, fs2)) → Fr E M d pc2 ls st h2 Q) : Fr E M d pc ls (v :: .ref a :: st) h Q :=
  r_putF f hin hd ha h64 hl hv hs2 hp (kk _ rfl (fun b hb => hs_ne h _ hb) (hs_same h a _))
theorem r_callV1 {E : EnvT} {M M2 : MD} {d pc pc2 idx n : Nat} {ls stk st As : List Value} {h : Hp} {Q : Option Value → Hp → Prop} {ci a : Nat} {q : vw_C} {fs : List Value} {v : Value} {P : Hp → Prop} (f : MLV M.1.cls idx M2 n) (hq : vwCl[ci]? = some q) (hq1 : q.1 = M2.1.cls) (hd : decode M.2.1 pc = .ok (.invokevirtual idx, 3)) (ha : h.1 a = some (.inr (ci, fs))) (h64 : 64 ≤ a) (hst : stk = As.reverse ++ .ref a :: st) (hn : As.length = n) (hw : (st.map fun v => v.category).sum ≤ 8) (h1 : 1 ≤ d) (hc : Cn E M2 (d - 1) (.ref a :: As) h (fun r h2 => r = some v ∧ P h2)) (hp : pc + 3 = pc2) (k : ∀ h2, P h2 → Fr E M d pc2 ls (v :: st) h2 Q) : Fr E M d pc ls stk h Q :=
  r_callV f hq hq1 hd ha h64 hst hn hw h1 hc hp (fun r h2 hq => by obtain ⟨e, q⟩ := hq; subst e; exact k h2 q)
theorem r_callV0 {E : EnvT} {M M2 : MD} {d pc pc2 idx n : Nat} {ls stk st As : List Value} {h : Hp} {Q : Option Value → Hp → Prop} {ci a : Nat} {q : vw_C} {fs : List Value} {P : Hp → Prop} (f : MLV M.1.cls idx M2 n) (hq : vwCl[ci]? = some q) (hq1 : q.1 = M2.1.cls) (hd : decode M.2.1 pc = .ok (.invokevirtual idx, 3)) (ha : h.1 a = some (.inr (ci, fs))) (h64 : 64 ≤ a) (hst : stk = As.reverse ++ .ref a :: st) (hn : As.length = n) (hw : (st.map fun v => v.category).sum ≤ 8) (h1 : 1 ≤ d) (hc : Cn E M2 (d - 1) (.ref a :: As) h (fun r h2 => r = none ∧ P h2)) (hp : pc + 3 = pc2) (k : ∀ h2, P h2 → Fr E M d pc2 ls st h2 Q) : Fr E M d pc ls stk h Q :=
  r_callV f hq hq1 hd ha h64 hst hn hw h1 hc hp (fun r h2 hq => by obtain ⟨e, q⟩ := hq; subst e; exact k h2 q)
theorem r_callV2 {E : EnvT} {M M2 : MD} {d pc pc2 idx n : Nat} {ls stk st As : List Value} {h : Hp} {Q : Option Value → Hp → Prop} {ci a : Nat} {q : vw_C} {fs : List Value} {P : Value → Hp → Prop} (f : MLV M.1.cls idx M2 n) (hq : vwCl[ci]? = some q) (hq1 : q.1 = M2.1.cls) (hd : decode M.2.1 pc = .ok (.invokevirtual idx, 3)) (ha : h.1 a = some (.inr (ci, fs))) (h64 : 64 ≤ a) (hst : stk = As.reverse ++ .ref a :: st) (hn : As.length = n) (hw : (st.map fun v => v.category).sum ≤ 8) (h1 : 1 ≤ d) (hc : Cn E M2 (d - 1) (.ref a :: As) h (fun r h2 => ∃ v, r = some v ∧ P v h2)) (hp : pc + 3 = pc2) (k : ∀ v h2, P v h2 → Fr E M d pc2 ls (v :: st) h2 Q) : Fr E M d pc ls stk h Q :=
  r_callV f hq hq1 hd ha h64 hst hn hw h1 hc hp (fun r h2 hq => by obtain ⟨v, e, q⟩ := hq; subst e; exact k v h2 q)
theorem r_callX1 {E : EnvT} {M M2 : MD} {d pc pc2 idx n : Nat} {ls stk st As : List Value} {h : Hp} {Q : Option Value → Hp → Prop} {t : Nat} {v : Value} {P : Hp → Prop} (f : MLV M.1.cls idx M2 n) (hq1 : M2.1.cls = "java/lang/String") (ht : t < 25) (hd : decode M.2.1 pc = .ok (.invokevirtual idx, 3)) (hst : stk = As.reverse ++ .ref t :: st) (hn : As.length = n) (hw : (st.map fun v => v.category).sum ≤ 8) (h1 : 1 ≤ d) (hc : Cn E M2 (d - 1) (.ref t :: As) h (fun r h2 => r = some v ∧ P h2)) (hp : pc + 3 = pc2) (k : ∀ h2, P h2 → Fr E M d pc2 ls (v :: st) h2 Q) : Fr E M d pc ls stk h Q :=
  r_callX f hq1 ht hd hst hn hw h1 hc hp (fun r h2 hq => by obtain ⟨e, q⟩ := hq; subst e; exact k h2 q)
theorem r_callX0 {E : EnvT} {M M2 : MD} {d pc pc2 idx n : Nat} {ls stk st As : List Value} {h : Hp} {Q : Option Value → Hp → Prop} {t : Nat} {P : Hp → Prop} (f : MLV M.1.cls idx M2 n) (hq1 : M2.1.cls = "java/lang/String") (ht : t < 25) (hd : decode M.2.1 pc = .ok (.invokevirtual idx, 3)) (hst : stk = As.reverse ++ .ref t :: st) (hn : As.length = n) (hw : (st.map fun v => v.category).sum ≤ 8) (h1 : 1 ≤ d) (hc : Cn E M2 (d - 1) (.ref t :: As) h (fun r h2 => r = none ∧ P h2)) (hp : pc + 3 = pc2) (k : ∀ h2, P h2 → Fr E M d pc2 ls st h2 Q) : Fr E M d pc ls stk h Q :=
  r_callX f hq1 ht hd hst hn hw h1 hc hp (fun r h2 hq => by obtain ⟨e, q⟩ := hq; subst e; exact k h2 q)
theorem r_callX2 {E : EnvT} {M M2 : MD} {d pc pc2 idx n : Nat} {ls stk st As : List Value} {h : Hp} {Q : Option Value → Hp → Prop} {t : Nat} {P : Value → Hp → Prop} (f : MLV M.1.cls idx M2 n) (hq1 : M2.1.cls = "java/lang/String") (ht : t < 25) (hd : decode M.2.1 pc = .ok (.invokevirtual idx, 3)) (hst : stk = As.reverse ++ .ref t :: st) (hn : As.length = n) (hw : (st.map fun v => v.category).sum ≤ 8) (h1 : 1 ≤ d) (hc : Cn E M2 (d - 1) (.ref t :: As) h (fun r h2 => ∃ v, r = some v ∧ P v h2)) (hp : pc + 3 = pc2) (k : ∀ v h2, P v h2 → Fr E M d pc2 ls (v :: st) h2 Q) : Fr E M d pc ls stk h Q :=
  r_callX f hq1 ht hd hst hn hw h1 hc hp (fun r h2 hq => by obtain ⟨v, e, q⟩ := hq; subst e; exact k v h2 q)
theorem r_callS1 {E : EnvT} {M M2 : MD} {d pc pc2 idx n : Nat} {ls stk st As : List Value} {h : Hp} {Q : Option Value → Hp → Prop} {v : Value} {P : Hp → Prop} (f : MLS M.1.cls idx M2 n) (hd : decode M.2.1 pc = .ok (.invokestatic idx, 3)) (hst : stk = As.reverse ++ st) (hn : As.length = n) (hw : (st.map fun v => v.category).sum ≤ 8) (h1 : 1 ≤ d) (hc : Cn E M2 (d - 1) As h (fun r h2 => r = some v ∧ P h2)) (hp : pc + 3 = pc2) (k : ∀ h2, P h2 → Fr E M d pc2 ls (v :: st) h2 Q) : Fr E M d pc ls stk h Q :=
  r_callS f hd hst hn hw h1 hc hp (fun r h2 hq => by obtain ⟨e, q⟩ := hq; subst e; exact k h2 q)
theorem r_callS0 {E : EnvT} {M M2 : MD} {d pc pc2 idx n : Nat} {ls stk st As : List Value} {h : Hp} {Q : Option Value → Hp → Prop} {P : Hp → Prop} (f : MLS M.1.cls idx M2 n) (hd : decode M.2.1 pc = .ok (.invokestatic idx, 3)) (hst : stk = As.reverse ++ st) (hn : As.length = n) (hw : (st.map fun v => v.category).sum ≤ 8) (h1 : 1 ≤ d) (hc : Cn E M2 (d - 1) As h (fun r h2 => r = none ∧ P h2)) (hp : pc + 3 = pc2) (k : ∀ h2, P h2 → Fr E M d pc2 ls st h2 Q) : Fr E M d pc ls stk h Q :=
  r_callS f hd hst hn hw h1 hc hp (fun r h2 hq => by obtain ⟨e, q⟩ := hq; subst e; exact k h2 q)
theorem r_callS2 {E : EnvT} {M M2 : MD} {d pc pc2 idx n : Nat} {ls stk st As : List Value} {h : Hp} {Q : Option Value → Hp → Prop} {P : Value → Hp → Prop} (f : MLS M.1.cls idx M2 n) (hd : decode M.2.1 pc = .ok (.invokestatic idx, 3)) (hst : stk = As.reverse ++ st) (hn : As.length = n) (hw : (st.map fun v => v.category).sum ≤ 8) (h1 : 1 ≤ d) (hc : Cn E M2 (d - 1) As h (fun r h2 => ∃ v, r = some v ∧ P v h2)) (hp : pc + 3 = pc2) (k : ∀ v h2, P v h2 → Fr E M d pc2 ls (v :: st) h2 Q) : Fr E M d pc ls stk h Q :=
  r_callS f hd hst hn hw h1 hc hp (fun r h2 hq => by obtain ⟨v, e, q⟩ := hq; subst e; exact k v h2 q)
theorem r_callI1 {E : EnvT} {M M2 : MD} {d pc pc2 idx n : Nat} {ls stk st As : List Value} {h : Hp} {Q : Option Value → Hp → Prop} {a : Nat} {v : Value} {P : Hp → Prop} (f : MLI M.1.cls idx M2 n) (hd : decode M.2.1 pc = .ok (.invokespecial idx, 3)) (h64 : 64 ≤ a) (hst : stk = As.reverse ++ .ref a :: st) (hn : As.length = n) (hw : (st.map fun v => v.category).sum ≤ 8) (h1 : 1 ≤ d) (hc : Cn E M2 (d - 1) (.ref a :: As) h (fun r h2 => r = some v ∧ P h2)) (hp : pc + 3 = pc2) (k : ∀ h2, P h2 → Fr E M d pc2 ls (v :: st) h2 Q) : Fr E M d pc ls stk h Q :=
  r_callI f hd h64 hst hn hw h1 hc hp (fun r h2 hq => by obtain ⟨e, q⟩ := hq; subst e; exact k h2 q)
theorem r_callI0 {E : EnvT} {M M2 : MD} {d pc pc2 idx n : Nat} {ls stk st As : List Value} {h : Hp} {Q : Option Value → Hp → Prop} {a : Nat} {P : Hp → Prop} (f : MLI M.1.cls idx M2 n) (hd : decode M.2.1 pc = .ok (.invokespecial idx, 3)) (h64 : 64 ≤ a) (hst : stk = As.reverse ++ .ref a :: st) (hn : As.length = n) (hw : (st.map fun v => v.category).sum ≤ 8) (h1 : 1 ≤ d) (hc : Cn E M2 (d - 1) (.ref a :: As) h (fun r h2 => r = none ∧ P h2)) (hp : pc + 3 = pc2) (k : ∀ h2, P h2 → Fr E M d pc2 ls st h2 Q) : Fr E M d pc ls stk h Q :=
  r_callI f hd h64 hst hn hw h1 hc hp (fun r h2 hq => by obtain ⟨e, q⟩ := hq; subst e; exact k h2 q)
theorem r_callI2 {E : EnvT} {M M2 : MD} {d pc pc2 idx n : Nat} {ls stk st As : List Value} {h : Hp} {Q : Option Value → Hp → Prop} {a : Nat} {P : Value → Hp → Prop} (f : MLI M.1.cls idx M2 n) (hd : decode M.2.1 pc = .ok (.invokespecial idx, 3)) (h64 : 64 ≤ a) (hst : stk = As.reverse ++ .ref a :: st) (hn : As.length = n) (hw : (st.map fun v => v.category).sum ≤ 8) (h1 : 1 ≤ d) (hc : Cn E M2 (d - 1) (.ref a :: As) h (fun r h2 => ∃ v, r = some v ∧ P v h2)) (hp : pc + 3 = pc2) (k : ∀ v h2, P v h2 → Fr E M d pc2 ls (v :: st) h2 Q) : Fr E M d pc ls stk h Q :=
  r_callI f hd h64 hst hn hw h1 hc hp (fun r h2 hq => by obtain ⟨v, e, q⟩ := hq; subst e; exact k v h2 q)
theorem r_objInit {E : EnvT} {M : MD} {d pc pc2 idx a : Nat} {ls st : List Value} {h : Hp} {Q : Option Value → Hp → Prop} (f : Cond.methodLink M.1.cls idx objectInit ∈ gT) (hd : decode M.2.1 pc = .ok (.invokespecial idx, 3)) (h64 : 64 ≤ a) (hw : (st.map fun v => v.category).sum ≤ 8) (h1 : 1 ≤ d) (hp : pc + 3 = pc2) (k : Fr E M d pc2 ls st h Q) : Fr E M d pc ls (.ref a :: st) h Q := by
  subst hp
  refine Fr.heap0 (h2 := h) rfl rfl (fun {p e R s m args below meth c H locs cells slots sl Qp} C L S RH b1 b2 b3 b4 k2 => ?_) k
  have k3 := k2 H locs RH S
  rw [List.map_cons, tV_own h64]
  refine W.objInit C.1 C.2.1 C.own (C.w f) (C.w oi_inst) (C.w oi_code) rfl (by rw [C.2.2.2.1]; exact L.2.1) rfl hd (by omega) ?_ k3
  show 2 * 0 + _ + 12 ≤ R.locals
  rw [tV_sum C.fm]
  omega
set_option maxHeartbeats 1000000 in
theorem Cn.go {E : EnvT} {M : MD} {d : Nat} {av ls : List Value} {h : Hp} {Q : Option Value → Hp → Prop} (hy : plainFor M.1 = true) (hls : ls = enL av ++ List.replicate (M.2.2.1 - (enL av).length) (.float 0)) (hn : (enL av).length ≤ M.2.2.1) (k : Fr E M d 0 ls [] h Q) : Cn E M d av h Q := by
  obtain ⟨r, hE, h1, h2, h3, z⟩ := k
  refine ⟨r, hE, h1, h2, h3, ?_⟩
  refine va_MetF (cc := M.2.1) (maxL := M.2.2.1) (ret := M.2.2.2) hy rfl ?_
  intro p e s m args below meth c s₁ B hml hv
  obtain ⟨rfl, hR, hX⟩ := hv
  have hf := hX.2.2.2.2.2.2.2.2.2.1
  have hts := atoms_spec (ws := Cond.code M.1 M.2.1 M.2.2.1 M.2.2.2 :: gT) B.pre
  have hl := lv_entry (av.map (tV E)) (n := M.2.2.1) (by rw [enL_len hf]; exact hn)
  rw [lg_entry_eq]
  have hZ := z p e (headSpec (Cond.code M.1 M.2.1 M.2.2.1 M.2.2.2 :: gT) (rmOf d (hE.2.1 - h.2.1) (hE.2.2 - h.2.2))).room s m (av.map (tV E)).toArray below meth c s.heap [] 0 0 _
    ⟨B.exec, B.bytes, B.returns, hml, findClass_of_methodNamed B.named, fun w hw => hts w (List.mem_cons_of_mem _ hw), B.notSynchronized, (name_of_methodNamed B.named B.method).1, hX⟩ hR va_S.rf ⟨by rw [hls]; simp; omega, hl.1, hl.2.1, fun q hq => by
      obtain ⟨j, v, g1, g2, g3⟩ := (mem_lsl ls 0 q).mp hq
      subst g3
      refine hl.2.2 _ (enL_args hf av 0 j v ?_ g2)
      rw [hls] at g1
      by_cases hj : j < (enL av).length
      · rw [List.getElem?_append_left hj] at g1; exact g1
      · rw [List.getElem?_append_right (by omega), List.getElem?_replicate] at g1
        split at g1
        · cases g1; simp [nf] at g2
        · cases g1⟩ (Nat.le_refl _) (Nat.le_refl _) (by show 0 + _ ≤ hE.2.1 - h.2.1; omega) (by show 0 + _ ≤ hE.2.2 - h.2.2; omega)
  rw [Nat.zero_add, Nat.zero_add] at hZ
  exact hZ

