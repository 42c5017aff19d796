/-! new cells -/
def NL (own : String) (idx ci N : Nat) (fs : List Value) : Prop := ∃ (C : String) (T : u_T) (ty0 : Nat → FieldType), vwCl[ci]? = some (C, T, N) ∧ (∀ w ∈ u_ws C T N, w ∈ gT) ∧ (∀ k, k < N → parseFieldDescriptor (T k).2.2.1 = some (ty0 k)) ∧ Cond.classLink own idx C ∈ gT ∧ Cond.instantiable C N ∈ gT ∧ Cond.initialized C ∈ gT ∧ (∀ j, j < N → defaultValue (ty0 j) = vp_V fs j) ∧ ∀ E : EnvT, fs.map (tV E) = fs
set_option maxHeartbeats 1000000 in
theorem r_new {E : EnvT} {M : MD} {d pc pc2 idx ci N : Nat} {ls st fs : List Value} {h : Hp} {Q : Option Value → Hp → Prop} (f : NL M.1.cls idx ci N fs) (hd : decode M.2.1 pc = .ok (.new idx, 3)) (hp : pc + 3 = pc2) (kk : 64 ≤ h.2.1 → Fr E M d pc2 ls (.ref h.2.1 :: st) (hnew h (.inr (ci, fs)) N) Q) (h64 : 64 ≤ h.2.1) : Fr E M d pc ls st h Q := by
  subst hp
  refine Fr.heap (h2 := hnew h (.inr (ci, fs)) N) (n1 := 1) (n2 := N) rfl rfl (fun {p e R s m args below meth c H locs cells slots sl Qp} C L S RH b1 b2 b3 b4 k2 => ?_) (kk h64)
  obtain ⟨C0, T, ty0, f1, f2, f3, f4, f5, f6, f7, f8⟩ := f
  have hKn := C.K.1 ci _ f1
  refine W.newcK C.1 C.2.1 C.own (C.w f4) (C.w f5) (C.w f6) rfl hd b1 b2 hKn.2.1 rfl fun H1 kC hkC e1 z1 o1 => ?_
  have k3 := k2 H1 locs (RH.new ?_ z1 o1) (S.more z1 o1)
  · rw [List.map_cons, tV_own h64, tS_own h64, ← RH.2.1] at k3
    exact k3
  · refine ⟨_, f1, (u_born ty0 C.ts f2 hKn hkC e1 f3).to ?_⟩
    intro j hj
    show _ = vp_V (fs.map (tV E)) j
    rw [f8 E]
    exact f7 j hj
theorem RA_kind {E : EnvT} {s : State} (K : va_K (e_D E) vwCl (kinds E) s) {k : Nat} {ty : FieldType} (hk : (kinds E)[k]? = some (e_k E k, ty)) (hp : ∀ n, ty ≠ .object n) : s.vm.findClass ("[" ++ ty.toString) = some (e_k E k) := by
  have := (K.2 k _ hk).2
  cases ty with
  | object n => exact absurd rfl (hp n)
  | _ => exact this
set_option maxHeartbeats 1000000 in
theorem r_newaG {E : EnvT} {M : MD} {d pc pc2 N k : Nat} {n : Int32} {at9 : ArrayType} {y : (Nat → Int32) ⊕ (Nat → Int64) ⊕ (Nat → UInt32) ⊕ (Nat → UInt64) ⊕ (Nat → Option Nat)} {ls st : List Value} {h : Hp} {Q : Option Value → Hp → Prop} (hk : ∀ E : EnvT, (kinds E)[k]? = some (e_k E k, newarray.typeOf at9)) (ho : ∀ x, newarray.typeOf at9 ≠ .object x) (hA : Cond.arrayClass (newarray.typeOf at9) ∈ gT) (hy : ∀ (E : EnvT) (cA : ClassId), vp_cell cA (tA E (N, y)) = arrV cA N (fun _ => defaultValue (newarray.typeOf at9))) (hb9 : componentBytes (newarray.typeOf at9) ≤ 8) (hd : decode M.2.1 pc = .ok (.newarray at9, 2)) (hn : ¬ n < 0) (hN : n.toNatClampNeg = N) (hbig : N ≤ 1000000) (hp : pc + 2 = pc2) (kk : Fr E M d pc2 ls (.ref h.2.1 :: st) (hnew h (.inl (k, N, y)) N) Q) (h64 : 64 ≤ h.2.1) : Fr E M d pc ls (.int n :: st) h Q := by
  subst hp
  refine Fr.heap (h2 := hnew h (.inl (k, N, y)) N) (n1 := 1) (n2 := N) rfl rfl (fun {p e R s m args below meth c H locs cells slots sl Qp} C L S RH b1 b2 b3 b4 k2 => ?_) kk
  refine va_newaK C.1 C.2.1 (C.w hA) rfl hd rfl hn hN (by
    have := Nat.mul_le_mul hbig hb9
    omega) b1 b2 rfl fun H1 cA e1 z1 o1 hAr hcA => ?_
  have hc : cA = e_k E k := Option.some.inj (hcA.symm.trans (RA_kind C.K (hk E) ho))
  subst hc
  have k3 := k2 H1 locs (RH.new ?_ z1 o1) (S.more z1 o1)
  · rw [List.map_cons, tV_own h64, tS_own h64, ← RH.2.1] at k3
    exact k3
  · show H1[H.size]? = some (vp_cell (e_k E k) (tA E (N, y)))
    rw [hy]
    exact e1
theorem r_newi {E : EnvT} {M : MD} {d pc pc2 N : Nat} {n : Int32} {ls st : List Value} {h : Hp} {Q : Option Value → Hp → Prop} (hA : Cond.arrayClass .int ∈ gT) (hd : decode M.2.1 pc = .ok (.newarray .int, 2)) (hn : ¬ n < 0) (hN : n.toNatClampNeg = N) (hbig : N ≤ 1000000) (hp : pc + 2 = pc2) (kk : Fr E M d pc2 ls (.ref h.2.1 :: st) (hnew h (.inl (0, N, .inl (fun _ => 0))) N) Q) (h64 : 64 ≤ h.2.1) : Fr E M d pc ls (.int n :: st) h Q :=
  r_newaG (at9 := .int) (fun _ => rfl) (fun x e => by cases e) hA (fun _ _ => rfl) (by decide) hd hn hN hbig hp kk h64
theorem r_newl {E : EnvT} {M : MD} {d pc pc2 N : Nat} {n : Int32} {ls st : List Value} {h : Hp} {Q : Option Value → Hp → Prop} (hA : Cond.arrayClass .long ∈ gT) (hd : decode M.2.1 pc = .ok (.newarray .long, 2)) (hn : ¬ n < 0) (hN : n.toNatClampNeg = N) (hbig : N ≤ 1000000) (hp : pc + 2 = pc2) (kk : Fr E M d pc2 ls (.ref h.2.1 :: st) (hnew h (.inl (1, N, .inr (.inl (fun _ => 0)))) N) Q) (h64 : 64 ≤ h.2.1) : Fr E M d pc ls (.int n :: st) h Q :=
  r_newaG (at9 := .long) (fun _ => rfl) (fun x e => by cases e) hA (fun _ _ => rfl) (by decide) hd hn hN hbig hp kk h64
theorem r_newb {E : EnvT} {M : MD} {d pc pc2 N : Nat} {n : Int32} {ls st : List Value} {h : Hp} {Q : Option Value → Hp → Prop} (hA : Cond.arrayClass .byte ∈ gT) (hd : decode M.2.1 pc = .ok (.newarray .byte, 2)) (hn : ¬ n < 0) (hN : n.toNatClampNeg = N) (hbig : N ≤ 1000000) (hp : pc + 2 = pc2) (kk : Fr E M d pc2 ls (.ref h.2.1 :: st) (hnew h (.inl (2, N, .inl (fun _ => 0))) N) Q) (h64 : 64 ≤ h.2.1) : Fr E M d pc ls (.int n :: st) h Q :=
  r_newaG (at9 := .byte) (fun _ => rfl) (fun x e => by cases e) hA (fun _ _ => rfl) (by decide) hd hn hN hbig hp kk h64
theorem r_newz {E : EnvT} {M : MD} {d pc pc2 N : Nat} {n : Int32} {ls st : List Value} {h : Hp} {Q : Option Value → Hp → Prop} (hA : Cond.arrayClass .boolean ∈ gT) (hd : decode M.2.1 pc = .ok (.newarray .boolean, 2)) (hn : ¬ n < 0) (hN : n.toNatClampNeg = N) (hbig : N ≤ 1000000) (hp : pc + 2 = pc2) (kk : Fr E M d pc2 ls (.ref h.2.1 :: st) (hnew h (.inl (3, N, .inl (fun _ => 0))) N) Q) (h64 : 64 ≤ h.2.1) : Fr E M d pc ls (.int n :: st) h Q :=
  r_newaG (at9 := .boolean) (fun _ => rfl) (fun x e => by cases e) hA (fun _ _ => rfl) (by decide) hd hn hN hbig hp kk h64
set_option maxHeartbeats 1000000 in
theorem r_newq {E : EnvT} {M : MD} {d pc pc2 N k idx : Nat} {n : Int32} {C9 : String} {ls st : List Value} {h : Hp} {Q : Option Value → Hp → Prop} (hk : ∀ E : EnvT, (kinds E)[k]? = some (e_k E k, .object C9)) (hA : C9 = "SleepAct$Stand" ∨ C9 = "SleepAct$Street" ∨ C9 = "SleepAct$Tray") (hL : Cond.classLink M.1.cls idx C9 ∈ gT) (hd : decode M.2.1 pc = .ok (.anewarray idx, 3)) (hn : ¬ n < 0) (hN : n.toNatClampNeg = N) (hbig : N ≤ 1000000) (hp : pc + 3 = pc2) (kk : Fr E M d pc2 ls (.ref h.2.1 :: st) (hnew h (.inl (k, N, .inr (.inr (.inr (.inr (fun _ => none)))))) N) Q) (h64 : 64 ≤ h.2.1) : Fr E M d pc ls (.int n :: st) h Q := by
  subst hp
  subst hN
  refine Fr.heap (h2 := hnew h (.inl (k, n.toNatClampNeg, .inr (.inr (.inr (.inr (fun _ => none)))))) n.toNatClampNeg) (n1 := 1) (n2 := n.toNatClampNeg) rfl rfl (fun {p e R s m args below meth c H locs cells slots sl Qp} C L S RH b1 b2 b3 b4 k2 => ?_) kk
  have hA2 : va_AO C9 s := by
    rcases hA with h9 | h9 | h9
    · rw [h9]; exact C.ao.1
    · rw [h9]; exact C.ao.2.1
    · rw [h9]; exact C.ao.2.2
  refine W.anew C.1 C.2.1 C.own (C.w hL) (va_AO.use hA2) rfl hd rfl hn (by omega) b1 b2 fun cA kA comp g1 g2 g3 g4 => ?_
  obtain ⟨kA2, comp2, q1, q2, q3, q4⟩ := (C.K.2 k _ (hk E)).2
  have hc : cA = e_k E k := Option.some.inj (g1.symm.trans q4)
  subst hc
  generalize hH1 : H.push ({ cls := e_k E k, slots := Array.replicate n.toNatClampNeg .null, vm := .none } : Cell) = H1
  have z1 : H1.size = H.size + 1 := by rw [← hH1, Array.size_push]
  have e1 : H1[H.size]? = some (arrV (e_k E k) n.toNatClampNeg (fun _ => .null)) := by rw [← hH1, Array.getElem?_push_size, ← arrV_new]
  have o1 : ∀ q : Nat, q < H.size → H1[q]? = H[q]? := fun q hq => by rw [← hH1, Array.getElem?_push, if_neg (Nat.ne_of_lt hq)]
  have k3 := k2 H1 locs (RH.new ?_ z1 o1) (S.more z1 o1)
  · rw [List.map_cons, tV_own h64, tS_own h64, ← RH.2.1] at k3
    exact k3
  · exact e1
/-! arrays of references -/
theorem r_aald {E : EnvT} {M : MD} {d pc pc2 a n k b : Nat} {i : Int32} {f : Nat → Option Nat} {ls st : List Value} {h : Hp} {Q : Option Value → Hp → Prop} (hd : decode M.2.1 pc = .ok (.aaload, 1)) (ha : h.1 a = some (.inl (k, n, .inr (.inr (.inr (.inr f)))))) (hk : 4 ≤ k ∧ k < 7) (h64 : 64 ≤ a) (hin : vp_in i n) (hf : f i.toNatClampNeg = some b) (hb : 64 ≤ b) (hp : pc + 1 = pc2) (kk : Fr E M d pc2 ls (.ref b :: st) h Q) : Fr E M d pc ls (.int i :: .ref a :: st) h Q := by
  subst hp
  refine Fr.pure (fun {p e R s m args below meth c H locs cells slots sl Qp} C L S RH k2 => ?_) kk
  have hat : H[tS E a]? = some (vp_cell (e_k E k) (n, .inr (.inr (.inr (.inr (fun j => (f j).map (tS E))))))) := (RH.2.2.1 a _ ha h64).2
  rw [List.map_cons, List.map_cons, tV_own h64]
  rw [List.map_cons, tV_own hb] at k2
  have hlt : i.toNatClampNeg < n := Nat.not_le.mp fun q => hin (Or.inr q)
  have hty : ∃ x, (kinds E)[k]? = some (e_k E k, .object x) := by
    match k, hk with
    | 4, _ => exact ⟨_, rfl⟩
    | 5, _ => exact ⟨_, rfl⟩
    | 6, _ => exact ⟨_, rfl⟩
  obtain ⟨x, hx⟩ := hty
  refine W.aald C.1 C.2.1 (ty := .object x) hat ((C.K.2 k _ hx).1 n (fun j => va_rf ((f j).map (tS E)))) rfl (fun q => by cases q) (by show ¬ (i < 0 ∨ (arrV _ _ _).slots.size ≤ _); rw [arrV_size]; exact hin) (v := .ref (tS E b)) (by
    rw [vp_cell_q, arrV_read _ _ hlt, hf]; rfl) rfl rfl hd k2
theorem r_aaldN {E : EnvT} {M : MD} {d pc pc2 a n k : Nat} {i : Int32} {f : Nat → Option Nat} {ls st : List Value} {h : Hp} {Q : Option Value → Hp → Prop} (hd : decode M.2.1 pc = .ok (.aaload, 1)) (ha : h.1 a = some (.inl (k, n, .inr (.inr (.inr (.inr f)))))) (hk : 4 ≤ k ∧ k < 7) (h64 : 64 ≤ a) (hin : vp_in i n) (hf : f i.toNatClampNeg = none) (hp : pc + 1 = pc2) (kk : Fr E M d pc2 ls (.null :: st) h Q) : Fr E M d pc ls (.int i :: .ref a :: st) h Q := by
  subst hp
  refine Fr.pure (fun {p e R s m args below meth c H locs cells slots sl Qp} C L S RH k2 => ?_) kk
  have hat : H[tS E a]? = some (vp_cell (e_k E k) (n, .inr (.inr (.inr (.inr (fun j => (f j).map (tS E))))))) := (RH.2.2.1 a _ ha h64).2
  rw [List.map_cons, List.map_cons, tV_own h64]
  have hlt : i.toNatClampNeg < n := Nat.not_le.mp fun q => hin (Or.inr q)
  have hty : ∃ x, (kinds E)[k]? = some (e_k E k, .object x) := by
    match k, hk with
    | 4, _ => exact ⟨_, rfl⟩
    | 5, _ => exact ⟨_, rfl⟩
    | 6, _ => exact ⟨_, rfl⟩
  obtain ⟨x, hx⟩ := hty
  refine W.aald C.1 C.2.1 (ty := .object x) hat ((C.K.2 k _ hx).1 n (fun j => va_rf ((f j).map (tS E)))) rfl (fun q => by cases q) (by show ¬ (i < 0 ∨ (arrV _ _ _).slots.size ≤ _); rw [arrV_size]; exact hin) (v := .null) (by
    rw [vp_cell_q, arrV_read _ _ hlt, hf]; rfl) rfl rfl hd k2
set_option maxHeartbeats 1000000 in
theorem r_aast {E : EnvT} {M : MD} {d pc pc2 a n k b ci : Nat} {r : vw_C} {i : Int32} {f : Nat → Option Nat} {ls st fs : List Value} {h : Hp} {Q : Option Value → Hp → Prop} (hd : decode M.2.1 pc = .ok (.aastore, 1)) (ha : h.1 a = some (.inl (k, n, .inr (.inr (.inr (.inr f)))))) (hc : vwCl[ci]? = some r) (hk : ∀ E : EnvT, (kinds E)[k]? = some (e_k E k, .object r.1)) (h64 : 64 ≤ a) (hin : vp_in i n) (hv : h.1 b = some (.inr (ci, fs))) (hb : 64 ≤ b) (hp : pc + 1 = pc2) (kk : Fr E M d pc2 ls st (hset h a (.inl (k, n, .inr (.inr (.inr (.inr (va_up f i.toNatClampNeg (some b)))))))) Q) : Fr E M d pc ls (.ref b :: .int i :: .ref a :: st) h Q := by
  subst hp
  refine Fr.heap0 (h2 := hset h a (.inl (k, n, .inr (.inr (.inr (.inr (va_up f i.toNatClampNeg (some b)))))))) rfl rfl (fun {p e R s m args below meth c H locs cells slots sl Qp} C L S RH b1 b2 b3 b4 k2 => ?_) kk
  have hat : H[tS E a]? = some (vp_cell (e_k E k) (n, .inr (.inr (.inr (.inr (fun j => (f j).map (tS E))))))) := (RH.2.2.1 a _ ha h64).2
  have hlt : i.toNatClampNeg < n := Nat.not_le.mp fun q => hin (Or.inr q)
  have h0 : ¬ i < 0 := fun q => hin (Or.inl q)
  obtain ⟨r', hr', cellV, g1, g2, g3, -⟩ := (RH.2.2.1 b _ hv hb).2
  have hcls := (C.K.1 ci r hc).2
  obtain ⟨kA, comp, k1, k2', k3, -⟩ := (C.K.2 k _ (hk E)).2
  have hcomp : comp = (e_D E).1 ci := Option.some.inj (k3.symm.trans hcls.1)
  subst hcomp
  obtain ⟨kC, hkC, -⟩ := hcls.2
  rw [List.map_cons, List.map_cons, List.map_cons, tV_own h64, tV_own hb]
  refine W.aast C.1 C.2.1 hat (fun q h => by cases h) (fun h => by cases h) k1 k2' rfl hkC ⟨h0, by show _ < (arrV _ _ _).slots.size; rw [arrV_size]; exact hlt⟩ g1 (fun q h => by rw [g3] at h; cases h) (by rw [g2]; exact hkC) (by rw [g2]; exact va_assign hcls) rfl rfl hd fun H1 e z oq => ?_
  refine k2 H1 _ (RH.put h64 ha ?_ z oq) (S.put z oq (RelH.A h64))
  show H1[tS E a]? = some (vp_cell (e_k E k) (n, .inr (.inr (.inr (.inr (fun j => ((va_up f i.toNatClampNeg (some b)) j).map (tS E)))))))
  rw [e, vp_cell_q, vp_cell_q, arrV_store]
  congr 2
  funext q
  by_cases hq : q = i.toNatClampNeg
  · subst hq
    simp [updV, va_up, va_rf]
  · simp [updV, va_up, hq]
