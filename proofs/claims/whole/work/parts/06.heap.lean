theorem tV_own {E : EnvT} {a : Nat} (h : 64 ≤ a) : tV E (.ref a) = .ref (tS E a) := by
  show (if a = 63 then e_f E else .ref (tS E a)) = _
  rw [if_neg (by omega)]
theorem tS_own {E : EnvT} {a : Nat} (h : 64 ≤ a) : tS E a = e_b E + (a - 64) := by
  unfold tS
  rw [if_neg (by omega)]
theorem tS_ne {E : EnvT} {a q : Nat} (h : 64 ≤ a) (h2 : 64 ≤ q) (hn : q ≠ a) : tS E q ≠ tS E a := by
  rw [tS_own h, tS_own h2]
  omega
def hset (h : Hp) (a : Nat) (e : va_E) : Hp := (fun q => if q = a then some e else h.1 q, h.2.1, h.2.2)
def hnew (h : Hp) (e : va_E) (n : Nat) : Hp := (fun q => if q = h.2.1 then some e else h.1 q, h.2.1 + 1, h.2.2 + n)
theorem RelH.put {E : EnvT} {h : Hp} {H H1 : Heap} {a : Nat} {e0 e : va_E} (R : RelH E h H) (h64 : 64 ≤ a) (ha : h.1 a = some e0) (he : va_at (e_D E) vwCl (tS E a, tE E e) H1) (hz : H1.size = H.size) (oq : ∀ q : Nat, q ≠ tS E a → H1[q]? = H[q]?) : RelH E (hset h a e) H1 := by
  obtain ⟨r1, r2, r3, r4⟩ := R
  refine ⟨r1, by rw [hz]; exact r2, fun q e2 hq h2 => ?_, fun q h2 => ?_⟩
  · have hq : (if q = a then some e else h.1 q) = some e2 := hq
    by_cases hqa : q = a
    · rw [if_pos hqa] at hq
      cases hq
      subst hqa
      exact ⟨(r3 q e0 ha h2).1, he⟩
    · rw [if_neg hqa] at hq
      exact ⟨(r3 q e2 hq h2).1, (r3 q e2 hq h2).2.kept (oq _ (tS_ne h64 h2 hqa))⟩
  · show (if q = a then some e else h.1 q) = _
    rw [if_neg (by omega)]
    exact r4 q h2
theorem RelH.new {E : EnvT} {h : Hp} {H H1 : Heap} {e : va_E} {n : Nat} (R : RelH E h H) (he : va_at (e_D E) vwCl (H.size, tE E e) H1) (hz : H1.size = H.size + 1) (oq : ∀ q : Nat, q < H.size → H1[q]? = H[q]?) : RelH E (hnew h e n) H1 := by
  obtain ⟨r1, r2, r3, r4⟩ := R
  refine ⟨Nat.le_succ_of_le r1, by rw [hz, r2]; show _ = e_b E + (h.2.1 + 1 - 64); omega, fun q e2 hq h2 => ?_, fun q h2 => ?_⟩
  · have hq : (if q = h.2.1 then some e else h.1 q) = some e2 := hq
    by_cases hqa : q = h.2.1
    · rw [if_pos hqa] at hq
      cases hq
      refine ⟨by rw [hqa]; exact Nat.lt_succ_self _, ?_⟩
      rw [hqa, tS_own r1, ← r2]
      exact he
    · rw [if_neg hqa] at hq
      obtain ⟨g1, g2⟩ := r3 q e2 hq h2
      exact ⟨Nat.lt_succ_of_lt g1, g2.kept (oq _ g2.lt)⟩
  · show (if q = h.2.1 then some e else h.1 q) = _
    rw [if_neg (by omega)]
    exact r4 q h2
theorem RelH.A {E : EnvT} {a : Nat} (h64 : 64 ≤ a) : e_A E (tS E a) := by
  show e_b E ≤ tS E a
  rw [tS_own h64]
  omega
theorem va_S.more {A : Nat → Prop} {H0 H H1 : Heap} {locs : List Loc} (h : va_S A H0 H locs) (z : H1.size = H.size + 1) (oq : ∀ q : Nat, q < H.size → H1[q]? = H[q]?) : va_S A H0 H1 locs :=
  ⟨Nat.le_trans h.1 (by omega), fun x h1 h2 => (oq x (Nat.lt_of_lt_of_le h1 h.1)).trans (h.2.1 x h1 h2), h.2.2⟩
/-- a step that changes the heap, with n1 new cells of n2 slots -/
theorem Fr.heap {E : EnvT} {M : MD} {d pc pc2 : Nat} {ls st st2 : List Value} {h h2 : Hp} {Q : Option Value → Hp → Prop} {n1 n2 : Nat} (e1 : h2.2.1 = h.2.1 + n1) (e2 : h2.2.2 = h.2.2 + n2)
    (hs : ∀ {p : Program} {e : Env} {R : Room} {s : State} {m : MethodId} {args : Array Value} {below : List Frame} {meth : Method} {c : Code} {H : Heap} {locs : List Loc} {cells slots : Nat} {sl : Array Slot} {Qp : State → Prop}, Zc E M p s m args meth c → LsR E M.2.2.1 ls sl → va_S (e_A E) s.heap H locs → RelH E h H → cells + n1 ≤ R.cells → slots + n2 ≤ R.slots → d ≤ R.frames → 128 * d ≤ R.locals →
      (∀ (H1 : Heap) (locs1 : List Loc), RelH E h2 H1 → va_S (e_A E) s.heap H1 locs1 → W p (e_l E) e R s m args below meth c H1 locs1 (cells + n1) (slots + n2) Qp (F0 m pc2 sl (st2.map (tV E)))) → W p (e_l E) e R s m args below meth c H locs cells slots Qp (F0 m pc sl (st.map (tV E))))
    (k : Fr E M d pc2 ls st2 h2 Q) : Fr E M d pc ls st h Q := by
  obtain ⟨r, hE, h1, h2', h3, z⟩ := k
  refine ⟨r, hE, by omega, by omega, h3, fun p e R s m args below meth c H locs cells slots sl C hR hS hL a1 a2 a3 a4 => ?_⟩
  refine hs C hL hS hR (by omega) (by omega) a1 a2 (fun H1 locs1 hR1 hS1 => ?_)
  have q1 : cells + (hE.2.1 - h.2.1) = cells + n1 + (hE.2.1 - h2.2.1) := by omega
  have q2 : slots + (hE.2.2 - h.2.2) = slots + n2 + (hE.2.2 - h2.2.2) := by omega
  rw [q1, q2]
  exact z p e R s m args below meth c H1 locs1 (cells + n1) (slots + n2) sl C hR1 hS1 hL a1 a2 (by omega) (by omega)
theorem Fr.heap0 {E : EnvT} {M : MD} {d pc pc2 : Nat} {ls st st2 : List Value} {h h2 : Hp} {Q : Option Value → Hp → Prop} (e1 : h2.2.1 = h.2.1) (e2 : h2.2.2 = h.2.2)
    (hs : ∀ {p : Program} {e : Env} {R : Room} {s : State} {m : MethodId} {args : Array Value} {below : List Frame} {meth : Method} {c : Code} {H : Heap} {locs : List Loc} {cells slots : Nat} {sl : Array Slot} {Qp : State → Prop}, Zc E M p s m args meth c → LsR E M.2.2.1 ls sl → va_S (e_A E) s.heap H locs → RelH E h H → d ≤ R.frames → 128 * d ≤ R.locals → cells ≤ R.cells → slots ≤ R.slots →
      (∀ (H1 : Heap) (locs1 : List Loc), RelH E h2 H1 → va_S (e_A E) s.heap H1 locs1 → W p (e_l E) e R s m args below meth c H1 locs1 cells slots Qp (F0 m pc2 sl (st2.map (tV E)))) → W p (e_l E) e R s m args below meth c H locs cells slots Qp (F0 m pc sl (st.map (tV E))))
    (k : Fr E M d pc2 ls st2 h2 Q) : Fr E M d pc ls st h Q :=
  Fr.heap (n1 := 0) (n2 := 0) e1 e2 (fun C L S R a1 a2 a3 a4 k => hs C L S R a3 a4 a1 a2 k) k
/-! fields -/
def FL (own : String) (idx ci k : Nat) (fin : Bool) (ty : FieldType) : Prop := ∃ (C : String) (T : u_T) (N : Nat) (ty0 : Nat → FieldType), vwCl[ci]? = some (C, T, N) ∧ k < N ∧ (∀ w ∈ u_ws C T N, w ∈ gT) ∧ (∀ k, k < N → parseFieldDescriptor (T k).2.2.1 = some (ty0 k)) ∧ (∀ a, a < N → ∀ b, b < N → a ≠ b → (T a).2.1 ≠ (T b).2.1) ∧ ty0 k = ty ∧ (T k).2.2.2 = fin ∧
  (Cond.fieldLink own idx (T k).1 (T k).2.1 (T k).2.2.1 ∈ gT ∨ ∃ host : String, Cond.fieldLinkNest own idx (T k).1 (T k).2.1 (T k).2.2.1 host ∈ nT)
theorem va_P.one {E : EnvT} {h : Hp} {H : Heap} {a : Nat} {e : va_E} (R : RelH E h H) (ha : h.1 a = some e) (h64 : 64 ≤ a) : va_P (e_D E) vwCl [(tS E a, tE E e)] H := by
  intro k q hk
  match k, hk with
  | 0, hk => simp at hk; subst hk; exact (R.2.2.1 a e ha h64).2
  | k + 1, hk => simp at hk
theorem r_getf {E : EnvT} {M : MD} {d pc pc2 idx ci k : Nat} {fin : Bool} {ty : FieldType} {ls st fs : List Value} {h : Hp} {Q : Option Value → Hp → Prop} {a : Nat} {v : Value} (f : FL M.1.cls idx ci k fin ty) (hd : decode M.2.1 pc = .ok (.getfield idx, 3)) (ha : h.1 a = some (.inr (ci, fs))) (h64 : 64 ≤ a) (hv : fs[k]? = some v) (hp : pc + 3 = pc2) (kk : Fr E M d pc2 ls (v :: st) h Q) : Fr E M d pc ls (.ref a :: st) h Q := by
  subst hp
  refine Fr.pure (fun {p e R s m args below meth c H locs cells slots sl Qp} C L S RH k2 => ?_) kk
  obtain ⟨C0, T, N, ty0, f1, f2, f3, f4, f5, f6, f7, f8⟩ := f
  have hP := va_P.one RH ha h64
  have hv2 : (fs.map (tV E))[k]? = some (tV E v) := by rw [List.getElem?_map, hv]; rfl
  rw [List.map_cons, tV_own h64]
  rcases f8 with f8 | ⟨host, f8⟩
  · exact va_get (D := e_D E) C.1 C.2.1 C.ts f3 C.own C.K hP 0 rfl f1 k f2 (C.w f8) (fun _ h9 => h9) hv2 hd k2
  · exact va_getN (D := e_D E) C.1 C.2.1 C.ts f3 C.own C.K hP 0 rfl f1 k f2 (va_Nw.use rfl (C.nst f8)) (fun _ h9 => h9) hv2 hd k2
def okW (ty : FieldType) (v : Value) : Bool := match ty, v with
  | .boolean, .int x => x == 0 || x == 1
  | .int, .int _ => true
  | .long, .long _ => true
  | .object _, .null => true
  | .array _, .null => true
  | .object _, .ref a => decide (64 ≤ a)
  | .array _, .ref a => decide (64 ≤ a)
  | _, _ => false
theorem okW_nf {E : EnvT} {ty : FieldType} {v : Value} (h : okW ty v = true) : narrow ty (tV E v) = tV E v ∧ fits ty (tV E v) = true := by
  cases ty <;> cases v <;> simp [okW] at h
  case boolean.int x =>
    rcases h with rfl | rfl
    · exact (show narrow .boolean (.int 0) = .int 0 ∧ fits .boolean (.int 0) = true by decide)
    · exact (show narrow .boolean (.int 1) = .int 1 ∧ fits .boolean (.int 1) = true by decide)
  case int.int x => exact ⟨rfl, rfl⟩
  case long.long x => exact ⟨rfl, rfl⟩
  case object.null x => exact ⟨rfl, rfl⟩
  case array.null x => exact ⟨rfl, rfl⟩
  case object.ref x y => rw [tV_own h]; exact ⟨rfl, rfl⟩
  case array.ref x y => rw [tV_own h]; exact ⟨rfl, rfl⟩
theorem map_set {α β : Type} (f : α → β) (l : List α) (k : Nat) (x : α) : (l.map f).set k (f x) = (l.set k x).map f := by
  rw [List.map_set]
set_option maxHeartbeats 1000000 in
theorem r_putf {E : EnvT} {M : MD} {d pc pc2 idx ci k : Nat} {ty : FieldType} {ls st fs fs2 : List Value} {h : Hp} {Q : Option Value → Hp → Prop} {a : Nat} {v : Value} (f : FL M.1.cls idx ci k false ty) (hd : decode M.2.1 pc = .ok (.putfield idx, 3)) (ha : h.1 a = some (.inr (ci, fs))) (h64 : 64 ≤ a) (hl : k < fs.length) (hv : okW ty v = true) (hs2 : fs.set k v = fs2) (hp : pc + 3 = pc2) (kk : Fr E M d pc2 ls st (hset h a (.inr (ci, fs2))) Q) : Fr E M d pc ls (v :: .ref a :: st) h Q := by
  subst hp
  subst hs2
  refine Fr.heap0 (h2 := hset h a (.inr (ci, fs.set k v))) rfl rfl (fun {p e R s m args below meth c H locs cells slots sl Qp} C L S RH b1 b2 b3 b4 k2 => ?_) kk
  obtain ⟨C0, T, N, ty0, f1, f2, f3, f4, f5, f6, f7, f8⟩ := f
  subst f6
  obtain ⟨hn, hfit⟩ := okW_nf (E := E) hv
  have hat := (RH.2.2.1 a _ ha h64).2
  have hap := va_apart (own := M.1.cls) C.ts f3 ty0 f4 f5 C.K f1
  obtain ⟨r, h1, cell, q1, q2, q3, q4⟩ := hat
  have hr : r = (C0, T, N) := Option.some.inj (h1.symm.trans f1)
  subst hr
  obtain ⟨hS, hfc, kC, hkC, hkind⟩ := C.K.1 ci _ f1
  obtain ⟨cf, kf, fi, fl, hi, hsl⟩ := hS k f2
  have hlay := C.ts _ (f3 _ (u_in_lay f2))
  unfold u_lay at hlay
  rw [if_neg (by rw [f7]; decide)] at hlay
  have hst := (u_facts hfc hkC (u_lays C.ts f3 f2) hi).1
  have h6 := u_store hfc hkC hkind hlay hi (f4 k f2) hn hfit
  have fin : ∀ H' : Heap, H'[tS E a]? = some (cell.setSlot fl.slot (tV E v)) → H'.size = H.size → (∀ q, q ≠ tS E a → H'[q]? = H[q]?) → W p (e_l E) e R s m args below meth c H' (locs ++ [⟨tS E a, fl.slot⟩]) cells slots Qp (F0 m (pc + 3) sl (st.map (tV E))) := by
    intro H' e1 e2 e3
    rw [hsl] at e1
    refine k2 H' _ (RH.put h64 ha ?_ e2 e3) (S.put e2 e3 (RelH.A h64))
    refine ⟨_, f1, t_OB.to (V := updV (vp_V (fs.map (tV E))) k (tV E v)) ⟨_, e1, q2, q3, t_set q4 hap f2 (tV E v)⟩ (fun j _ => ?_)⟩
    show _ = vp_V ((fs.set k v).map (tV E)) j
    rw [← map_set]
    exact vp_updV_set (by rw [List.length_map]; exact hl) _ j
  rw [List.map_cons, List.map_cons, tV_own h64]
  rcases f8 with f8 | ⟨host, f8⟩
  · exact W.putK C.1 C.2.1 (f := fl) ⟨C.own, C.w f8, ⟨_, _, _, hi⟩, hst⟩ (by rw [q2]; exact h6) q1 q3 (by rw [hsl]; exact k2_hasslot (q4 k f2)) rfl rfl hd fin
  · exact va_WputK C.1 C.2.1 (f := fl) C.own (va_Nw.use rfl (C.nst f8)) hi hst (by rw [q2]; exact h6) q1 q3 (by rw [hsl]; exact k2_hasslot (q4 k f2)) rfl rfl hd fin
/-- a final field, in its own class -/
def FLF (own : String) (idx ci k : Nat) (ty : FieldType) : Prop := ∃ (C : String) (T : u_T) (N : Nat) (ty0 : Nat → FieldType), vwCl[ci]? = some (C, T, N) ∧ k < N ∧ (∀ w ∈ u_ws C T N, w ∈ gT) ∧ (∀ k, k < N → parseFieldDescriptor (T k).2.2.1 = some (ty0 k)) ∧ (∀ a, a < N → ∀ b, b < N → a ≠ b → (T a).2.1 ≠ (T b).2.1) ∧ ty0 k = ty ∧ (T k).2.2.2 = true ∧ Cond.fieldLink own idx (T k).1 (T k).2.1 (T k).2.2.1 ∈ gT ∧ (T k).1 = own
set_option maxHeartbeats 1000000 in
theorem r_putF {E : EnvT} {M : MD} {d pc pc2 idx ci k : Nat} {ty : FieldType} {ls st fs fs2 : List Value} {h : Hp} {Q : Option Value → Hp → Prop} {a : Nat} {v : Value} (f : FLF M.1.cls idx ci k ty) (hin : M.1.name = "<init>") (hd : decode M.2.1 pc = .ok (.putfield idx, 3)) (ha : h.1 a = some (.inr (ci, fs))) (h64 : 64 ≤ a) (hl : k < fs.length) (hv : okW ty v = true) (hs2 : fs.set k v = fs2) (hp : pc + 3 = pc2) (kk : Fr E M d pc2 ls st (hset h a (.inr (ci, fs2))) Q) : Fr E M d pc ls (v :: .ref a :: st) h Q := by
  subst hp
  subst hs2
  refine Fr.heap0 (h2 := hset h a (.inr (ci, fs.set k v))) rfl rfl (fun {p e R s m args below meth c H locs cells slots sl Qp} C L S RH b1 b2 b3 b4 k2 => ?_) kk
  obtain ⟨C0, T, N, ty0, f1, f2, f3, f4, f5, f6, f7, f8, f9⟩ := f
  subst f6
  obtain ⟨hn, hfit⟩ := okW_nf (E := E) hv
  have hat := (RH.2.2.1 a _ ha h64).2
  have hap := va_apart (own := M.1.cls) C.ts f3 ty0 f4 f5 C.K f1
  obtain ⟨r, h1, cell, q1, q2, q3, q4⟩ := hat
  have hr : r = (C0, T, N) := Option.some.inj (h1.symm.trans f1)
  subst hr
  obtain ⟨hS, hfc, kC, hkC, hkind⟩ := C.K.1 ci _ f1
  obtain ⟨cf, kf, fi, fl, hi, hsl⟩ := hS k f2
  have hlay := C.ts _ (f3 _ (u_in_lay f2))
  unfold u_lay at hlay
  rw [if_pos f7] at hlay
  have hst := (u_facts hfc hkC (u_lays C.ts f3 f2) hi).1
  have hcf : m.cls = cf := by
    obtain ⟨_, _, c', _, _, _, -, -, hf', -, -, -, hown2, -⟩ := Cond.laysFinal_spec hlay
    have e1 : c' = cf := by have := hi.symm.trans hf'; simp at this; exact this.1.symm
    rw [f9] at hown2
    rw [← e1]; exact Option.some.inj (C.own.symm.trans hown2)
  have h6 := u_fits hfc hkC hkind (Or.inr hlay) hi (f4 k f2) hn hfit
  rw [List.map_cons, List.map_cons, tV_own h64]
  refine W.putFinK C.1 C.2.1 C.own (C.w f8) hi hst hcf (C.nm.trans hin) (by rw [q2]; exact h6) q1 q3 (by rw [hsl]; exact k2_hasslot (q4 k f2)) rfl rfl hd fun H' e1 e2 e3 => ?_
  rw [hsl] at e1
  refine k2 H' _ (RH.put h64 ha ?_ e2 e3) (S.put e2 e3 (RelH.A h64))
  refine ⟨_, f1, t_OB.to (V := updV (vp_V (fs.map (tV E))) k (tV E v)) ⟨_, e1, q2, q3, t_set q4 hap f2 (tV E v)⟩ (fun j _ => ?_)⟩
  show _ = vp_V ((fs.set k v).map (tV E)) j
  rw [← map_set]
  exact vp_updV_set (by rw [List.length_map]; exact hl) _ j
