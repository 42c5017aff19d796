/-! locals -/
def stOk (ls : List Value) (i : Nat) : Bool := match i with
  | 0 => true
  | j + 1 => match ls[j]? with
    | some v => v.category != 2
    | none => true
theorem stOk_ne {ls : List Value} {i j : Nat} {v : Value} (h : stOk ls i = true) (hj : j + 1 = i) (hv : ls[j]? = some v) : v.category ≠ 2 := by
  subst hj
  simp [stOk, hv] at h
  exact h
theorem LsR.set1 {E : EnvT} {n i : Nat} {ls : List Value} {sl sl2 : Array Slot} {x : Value} (hf : e_f E = .null ∨ ∃ a, e_f E = .ref a) (L : LsR E n ls sl) (ho : stOk ls i = true) (hv : lv_has sl2 n ((i, tV E x) :: (lsl E 0 ls).filter (fun q => !(q.1 == i) && !(q.1 + 1 == i && q.2.category == 2)))) : LsR E n (ls.set i x) sl2 := by
  refine ⟨by rw [List.length_set]; exact L.1, hv.1, hv.2.1, fun q hq => hv.2.2 q ?_⟩
  obtain ⟨j, v, g1, g2, g3⟩ := (mem_lsl _ 0 q).mp hq
  rw [Nat.zero_add] at g3
  subst g3
  by_cases hj : j = i
  · subst hj
    rw [List.getElem?_set_self' ] at g1
    cases h3 : ls[j]? with
    | none => rw [h3] at g1; cases g1
    | some w =>
      rw [h3] at g1
      cases g1
      exact List.mem_cons_self
  · rw [List.getElem?_set_ne (Ne.symm hj)] at g1
    refine List.mem_cons_of_mem _ (List.mem_filter.mpr ⟨(mem_lsl _ 0 _).mpr ⟨j, v, g1, g2, by rw [Nat.zero_add]⟩, ?_⟩)
    by_cases h1 : j + 1 = i
    · have h2 := stOk_ne ho h1 g1
      have h3 : (tV E v).category ≠ 2 := by rw [tV_cat hf]; exact h2
      simp [hj, h3]
    · simp [hj, h1]
theorem LsR.set2 {E : EnvT} {n i : Nat} {ls : List Value} {sl sl2 : Array Slot} {x : Value} (hf : e_f E = .null ∨ ∃ a, e_f E = .ref a) (L : LsR E n ls sl) (ho : stOk ls i = true) (hv : lv_has sl2 n ((i, tV E x) :: (lsl E 0 ls).filter (fun q => !(q.1 == i) && (!(q.1 == i + 1) && !(q.1 + 1 == i && q.2.category == 2))))) : LsR E n ((ls.set i x).set (i + 1) (.float 0)) sl2 := by
  refine ⟨by rw [List.length_set, List.length_set]; exact L.1, hv.1, hv.2.1, fun q hq => hv.2.2 q ?_⟩
  obtain ⟨j, v, g1, g2, g3⟩ := (mem_lsl _ 0 q).mp hq
  rw [Nat.zero_add] at g3
  subst g3
  by_cases hj1 : j = i + 1
  · subst hj1
    rw [List.getElem?_set_self'] at g1
    cases h3 : (ls.set i x)[i + 1]? with
    | none => rw [h3] at g1; cases g1
    | some w => rw [h3] at g1; cases g1; cases g2
  rw [List.getElem?_set_ne (Ne.symm hj1)] at g1
  by_cases hj : j = i
  · subst hj
    rw [List.getElem?_set_self' ] at g1
    cases h3 : ls[j]? with
    | none => rw [h3] at g1; cases g1
    | some w =>
      rw [h3] at g1
      cases g1
      exact List.mem_cons_self
  · rw [List.getElem?_set_ne (Ne.symm hj)] at g1
    refine List.mem_cons_of_mem _ (List.mem_filter.mpr ⟨(mem_lsl _ 0 _).mpr ⟨j, v, g1, g2, by rw [Nat.zero_add]⟩, ?_⟩)
    by_cases h1 : j + 1 = i
    · have h2 := stOk_ne ho h1 g1
      have h3 : (tV E v).category ≠ 2 := by rw [tV_cat hf]; exact h2
      simp [hj, hj1, h3]
    · simp [hj, hj1, h1]
theorem Fr.loc {E : EnvT} {M : MD} {d pc pc2 : Nat} {ls ls2 st st2 : List Value} {h : Hp} {Q : Option Value → Hp → Prop}
    (hs : ∀ {p : Program} {e : Env} {R : Room} {s : State} {m : MethodId} {args : Array Value} {below : List Frame} {meth : Method} {c : Code} {H : Heap} {locs : List Loc} {cells slots : Nat} {sl : Array Slot} {Qp : State → Prop}, Zc E M p s m args meth c → LsR E M.2.2.1 ls sl →
      (∀ sl2 : Array Slot, LsR E M.2.2.1 ls2 sl2 → W p (e_l E) e R s m args below meth c H locs cells slots Qp (F0 m pc2 sl2 (st2.map (tV E)))) → W p (e_l E) e R s m args below meth c H locs cells slots Qp (F0 m pc sl (st.map (tV E))))
    (k : Fr E M d pc2 ls2 st2 h Q) : Fr E M d pc ls st h Q := by
  obtain ⟨r, hE, h1, h2, h3, z⟩ := k
  exact ⟨r, hE, h1, h2, h3, fun p e R s m args below meth c H locs cells slots sl C hR hS hL a1 a2 a3 a4 => hs C hL (fun sl2 hL2 => z p e R s m args below meth c H locs cells slots sl2 C hR hS hL2 a1 a2 a3 a4)⟩
theorem r_istore_n {E : EnvT} {M : MD} {d pc pc2 : Nat} {ls ls2 st : List Value} {h : Hp} {Q : Option Value → Hp → Prop} {q : Fin 4} {x : Int32} (i : Nat) (hd : decode M.2.1 pc = .ok (.istore_n q, 1)) (hi : (q : Nat) = i) (hn : i < M.2.2.1) (ho : stOk ls i = true) (hl : ls.set i (.int x) = ls2) (hp : pc + 1 = pc2) (k : Fr E M d pc2 ls2 st h Q) : Fr E M d pc ls (.int x :: st) h Q := by
  subst hp; subst hl
  exact Fr.loc (fun C L k => lv_istore_n C.1 C.2.1 hd hi L.2 hn rfl (fun l2 h2 => k l2 (L.set1 (x := .int x) C.fm ho h2))) k
theorem r_istore {E : EnvT} {M : MD} {d pc pc2 : Nat} {ls ls2 st : List Value} {h : Hp} {Q : Option Value → Hp → Prop} {x : Int32} (i : Nat) (hd : decode M.2.1 pc = .ok (.istore i, 2)) (hn : i < M.2.2.1) (ho : stOk ls i = true) (hl : ls.set i (.int x) = ls2) (hp : pc + 2 = pc2) (k : Fr E M d pc2 ls2 st h Q) : Fr E M d pc ls (.int x :: st) h Q := by
  subst hp; subst hl
  exact Fr.loc (fun C L k => lv_istore C.1 C.2.1 hd L.2 hn rfl (fun l2 h2 => k l2 (L.set1 (x := .int x) C.fm ho h2))) k
theorem r_lstore_n {E : EnvT} {M : MD} {d pc pc2 : Nat} {ls ls2 st : List Value} {h : Hp} {Q : Option Value → Hp → Prop} {q : Fin 4} {x : Int64} (i : Nat) (hd : decode M.2.1 pc = .ok (.lstore_n q, 1)) (hi : (q : Nat) = i) (hn : i + 1 < M.2.2.1) (ho : stOk ls i = true) (hl : (ls.set i (.long x)).set (i + 1) (.float 0) = ls2) (hp : pc + 1 = pc2) (k : Fr E M d pc2 ls2 st h Q) : Fr E M d pc ls (.long x :: st) h Q := by
  subst hp; subst hl
  exact Fr.loc (fun C L k => lv_lstore_n C.1 C.2.1 hd hi L.2 hn rfl (fun l2 h2 => k l2 (L.set2 (x := .long x) C.fm ho h2))) k
theorem r_lstore {E : EnvT} {M : MD} {d pc pc2 : Nat} {ls ls2 st : List Value} {h : Hp} {Q : Option Value → Hp → Prop} {x : Int64} (i : Nat) (hd : decode M.2.1 pc = .ok (.lstore i, 2)) (hn : i + 1 < M.2.2.1) (ho : stOk ls i = true) (hl : (ls.set i (.long x)).set (i + 1) (.float 0) = ls2) (hp : pc + 2 = pc2) (k : Fr E M d pc2 ls2 st h Q) : Fr E M d pc ls (.long x :: st) h Q := by
  subst hp; subst hl
  exact Fr.loc (fun C L k => lv_lstore C.1 C.2.1 hd L.2 hn rfl (fun l2 h2 => k l2 (L.set2 (x := .long x) C.fm ho h2))) k
theorem r_iinc {E : EnvT} {M : MD} {d pc pc2 : Nat} {ls ls2 st : List Value} {h : Hp} {Q : Option Value → Hp → Prop} {n : Int} {x v : Int32} (i : Nat) (hd : decode M.2.1 pc = .ok (.iinc i n, 3)) (hx : ls[i]? = some (.int x)) (hv : x + Int32.ofInt n = v) (ho : stOk ls i = true) (hl : ls.set i (.int v) = ls2) (hp : pc + 3 = pc2) (k : Fr E M d pc2 ls2 st h Q) : Fr E M d pc ls st h Q := by
  subst hp; subst hl
  refine Fr.loc (fun {p e R s m args below meth c H locs cells slots sl Qp} C L k => ?_) k
  obtain ⟨k0, hk0⟩ := List.getElem?_of_mem ((mem_lsl (E := E) ls 0 (i, tV E (.int x))).mpr ⟨i, _, hx, rfl, by rw [Nat.zero_add]⟩)
  exact lv_iinc C.1 C.2.1 hd L.2 (k := k0) hk0 hv (by rw [← L.1]; exact (List.getElem?_eq_some_iff.mp hx).1) rfl (fun l2 h2 => k l2 (L.set1 C.fm ho h2))
def isRf (v : Value) : Bool := match v with
  | .ref _ => true
  | .null => true
  | _ => false
theorem tV_rf {E : EnvT} (hf : e_f E = .null ∨ ∃ a, e_f E = .ref a) {v : Value} (h : isRf v = true) : (∃ b, tV E v = .ref b) ∨ tV E v = .null := by
  cases v <;> simp [isRf] at h
  · exact Or.inr rfl
  · rename_i a
    show (∃ b, (if a = 63 then e_f E else .ref (tS E a)) = .ref b) ∨ (if a = 63 then e_f E else .ref (tS E a)) = .null
    split
    · exact hf.symm
    · exact Or.inl ⟨_, rfl⟩
theorem rf_nf {v : Value} (h : isRf v = true) : nf v = true := by cases v <;> simp [isRf] at h <;> rfl
theorem r_aload_n {E : EnvT} {M : MD} {d pc pc2 : Nat} {ls st : List Value} {h : Hp} {Q : Option Value → Hp → Prop} {q : Fin 4} {v : Value} (i : Nat) (hd : decode M.2.1 pc = .ok (.aload_n q, 1)) (hi : (q : Nat) = i) (hl : ls[i]? = some v) (hv : isRf v = true) (hp : pc + 1 = pc2) (k : Fr E M d pc2 ls (v :: st) h Q) : Fr E M d pc ls st h Q := by
  subst hp
  refine Fr.pure (fun {p e R s m args below meth c H locs cells slots sl Qp} C L S RH k2 => ?_) k
  have hl2 := L.at hl (rf_nf hv)
  rw [List.map_cons] at k2
  rcases tV_rf C.fm hv with ⟨b, e⟩ | e
  · rw [e] at hl2 k2; exact lv_aload_n C.1 C.2.1 hd hi hl2 k2
  · rw [e] at hl2 k2; exact lv_aload_nN C.1 C.2.1 hd hi hl2 k2
theorem r_aload {E : EnvT} {M : MD} {d pc pc2 : Nat} {ls st : List Value} {h : Hp} {Q : Option Value → Hp → Prop} {v : Value} (i : Nat) (hd : decode M.2.1 pc = .ok (.aload i, 2)) (hl : ls[i]? = some v) (hv : isRf v = true) (hp : pc + 2 = pc2) (k : Fr E M d pc2 ls (v :: st) h Q) : Fr E M d pc ls st h Q := by
  subst hp
  refine Fr.pure (fun {p e R s m args below meth c H locs cells slots sl Qp} C L S RH k2 => ?_) k
  have hl2 := L.at hl (rf_nf hv)
  rw [List.map_cons] at k2
  rcases tV_rf C.fm hv with ⟨b, e⟩ | e
  · rw [e] at hl2 k2; exact lv_aload C.1 C.2.1 hd hl2 k2
  · rw [e] at hl2 k2; exact lv_aloadN C.1 C.2.1 hd hl2 k2
theorem r_astore_n {E : EnvT} {M : MD} {d pc pc2 : Nat} {ls ls2 st : List Value} {h : Hp} {Q : Option Value → Hp → Prop} {q : Fin 4} {v : Value} (i : Nat) (hd : decode M.2.1 pc = .ok (.astore_n q, 1)) (hi : (q : Nat) = i) (hn : i < M.2.2.1) (ho : stOk ls i = true) (hv : isRf v = true) (hl : ls.set i v = ls2) (hp : pc + 1 = pc2) (k : Fr E M d pc2 ls2 st h Q) : Fr E M d pc ls (v :: st) h Q := by
  subst hp; subst hl
  refine Fr.loc (fun {p e R s m args below meth c H locs cells slots sl Qp} C L k => ?_) k
  rw [List.map_cons]
  rcases tV_rf C.fm hv with ⟨b, e⟩ | e
  · rw [e]; exact lv_astore_n C.1 C.2.1 hd hi L.2 hn rfl (fun l2 h2 => k l2 (L.set1 C.fm ho (by rw [e]; exact h2)))
  · rw [e]; exact lv_astore_nN C.1 C.2.1 hd hi L.2 hn rfl (fun l2 h2 => k l2 (L.set1 C.fm ho (by rw [e]; exact h2)))
theorem r_astore {E : EnvT} {M : MD} {d pc pc2 : Nat} {ls ls2 st : List Value} {h : Hp} {Q : Option Value → Hp → Prop} {v : Value} (i : Nat) (hd : decode M.2.1 pc = .ok (.astore i, 2)) (hn : i < M.2.2.1) (ho : stOk ls i = true) (hv : isRf v = true) (hl : ls.set i v = ls2) (hp : pc + 2 = pc2) (k : Fr E M d pc2 ls2 st h Q) : Fr E M d pc ls (v :: st) h Q := by
  subst hp; subst hl
  refine Fr.loc (fun {p e R s m args below meth c H locs cells slots sl Qp} C L k => ?_) k
  rw [List.map_cons]
  rcases tV_rf C.fm hv with ⟨b, e⟩ | e
  · rw [e]; exact lv_astore C.1 C.2.1 hd L.2 hn rfl (fun l2 h2 => k l2 (L.set1 C.fm ho (by rw [e]; exact h2)))
  · rw [e]; exact lv_astoreN C.1 C.2.1 hd L.2 hn rfl (fun l2 h2 => k l2 (L.set1 C.fm ho (by rw [e]; exact h2)))
/-! constants, statics, the texts' fields -/
theorem r_ldc {E : EnvT} {M : MD} {d pc pc2 idx : Nat} {ls st : List Value} {h : Hp} {Q : Option Value → Hp → Prop} {v : Int32} (f : Cond.constant M.1.cls idx v ∈ gT) (hd : decode M.2.1 pc = .ok (.ldc idx, 2)) (hp : pc + 2 = pc2) (k : Fr E M d pc2 ls (.int v :: st) h Q) : Fr E M d pc ls st h Q := by
  subst hp
  exact Fr.pure (fun C _ _ _ k => lv_ldc C.1 C.2.1 C.own (C.w f) hd k) k
theorem r_ldcw {E : EnvT} {M : MD} {d pc pc2 idx : Nat} {ls st : List Value} {h : Hp} {Q : Option Value → Hp → Prop} {v : Int32} (f : Cond.constant M.1.cls idx v ∈ gT) (hd : decode M.2.1 pc = .ok (.ldc_w idx, 3)) (hp : pc + 3 = pc2) (k : Fr E M d pc2 ls (.int v :: st) h Q) : Fr E M d pc ls st h Q := by
  subst hp
  exact Fr.pure (fun C _ _ _ k => lv_ldcw C.1 C.2.1 C.own (C.w f) hd k) k
theorem r_ldc2 {E : EnvT} {M : MD} {d pc pc2 idx : Nat} {ls st : List Value} {h : Hp} {Q : Option Value → Hp → Prop} {v : Int64} (f : Cond.constantLong M.1.cls idx v ∈ gT) (hd : decode M.2.1 pc = .ok (.ldc2_w idx, 3)) (hp : pc + 3 = pc2) (k : Fr E M d pc2 ls (.long v :: st) h Q) : Fr E M d pc ls st h Q := by
  subst hp
  exact Fr.pure (fun C _ _ _ k => lv_ldc2 C.1 C.2.1 C.own (C.w f) hd k) k
theorem r_ldcS {E : EnvT} {M : MD} {d pc pc2 idx : Nat} {ls st : List Value} {h : Hp} {Q : Option Value → Hp → Prop} (t : Nat) (ht : t < 25) (ho : (xOwn t).1 = M.1.cls) (hx : (xOwn t).2.1 = idx) (hd : decode M.2.1 pc = .ok (.ldc idx, 2)) (hp : pc + 2 = pc2) (k : Fr E M d pc2 ls (.ref t :: st) h Q) : Fr E M d pc ls st h Q := by
  subst hp; subst hx
  refine Fr.pure (fun {p e R s m args below meth c H locs cells slots sl Qp} C L S RH k2 => ?_) k
  have hZ := C.X.2.2.2.2.2.2.2.2.1 t ht
  rw [ho] at hZ
  rw [List.map_cons, tV_ext (by omega)] at k2
  exact va_ldcS C.1 C.2.1 C.own hZ hd k2
theorem r_sCompact {E : EnvT} {M : MD} {d pc pc2 idx : Nat} {ls st : List Value} {h : Hp} {Q : Option Value → Hp → Prop} (f : Cond.fieldLink M.1.cls idx "java/lang/String" "COMPACT_STRINGS" "Z" ∈ gT) (hd : decode M.2.1 pc = .ok (.getstatic idx, 3)) (hp : pc + 3 = pc2) (k : Fr E M d pc2 ls (.int 1 :: st) h Q) : Fr E M d pc ls st h Q := by
  subst hp
  exact Fr.pure (fun C _ S _ k => va_gets C.1 C.2.1 C.X.2.2.2.2.2.1 S C.own (C.w f) (fun _ h => h) hd k) k
theorem r_sFmt {E : EnvT} {M : MD} {d pc pc2 idx : Nat} {ls st : List Value} {h : Hp} {Q : Option Value → Hp → Prop} (f : Cond.fieldLink M.1.cls idx "jdk/internal/util/Preconditions" "SIOOBE_FORMATTER" "Ljava/util/function/BiFunction;" ∈ gT) (hd : decode M.2.1 pc = .ok (.getstatic idx, 3)) (hp : pc + 3 = pc2) (k : Fr E M d pc2 ls (.ref 63 :: st) h Q) : Fr E M d pc ls st h Q := by
  subst hp
  exact Fr.pure (fun C _ S _ k => va_gets C.1 C.2.1 C.X.2.2.2.2.2.2.1 S C.own (C.w f) (fun _ h => h) hd k) k
theorem r_sWt {E : EnvT} {M : MD} {d pc pc2 idx : Nat} {ls st : List Value} {h : Hp} {Q : Option Value → Hp → Prop} (f : Cond.fieldLink M.1.cls idx "SleepAct" "WEIGHT" "[I" ∈ gT ∨ ∃ host, Cond.fieldLinkNest M.1.cls idx "SleepAct" "WEIGHT" "[I" host ∈ nT) (hd : decode M.2.1 pc = .ok (.getstatic idx, 3)) (hp : pc + 3 = pc2) (k : Fr E M d pc2 ls (.ref 60 :: st) h Q) : Fr E M d pc ls st h Q := by
  subst hp
  refine Fr.pure (fun {p e R s m args below meth c H locs cells slots sl Qp} C L S RH k2 => ?_) k
  rw [List.map_cons, tV_ext (by decide)] at k2
  rcases f with f | ⟨host, f⟩
  · exact va_gets C.1 C.2.1 C.X.2.2.2.2.2.2.2.1 S C.own (C.w f) (fun _ h => h) hd k2
  · exact va_getsN C.1 C.2.1 C.X.2.2.2.2.2.2.2.1 S C.own (va_Nw.use rfl (C.nst f)) (fun _ h => h) hd k2
theorem r_xval {E : EnvT} {M : MD} {d pc pc2 idx : Nat} {ls st : List Value} {h : Hp} {Q : Option Value → Hp → Prop} (t : Nat) (ht : t < 25) (f : Cond.fieldLink M.1.cls idx "java/lang/String" "value" "[B" ∈ gT) (hd : decode M.2.1 pc = .ok (.getfield idx, 3)) (hp : pc + 3 = pc2) (k : Fr E M d pc2 ls (.ref (32 + t) :: st) h Q) : Fr E M d pc ls (.ref t :: st) h Q := by
  subst hp
  refine Fr.pure (fun {p e R s m args below meth c H locs cells slots sl Qp} C L S RH k2 => ?_) k
  rw [List.map_cons, tV_ext (by omega)] at k2 ⊢
  exact vk_getf C.1 C.2.1 (C.X.2.2.1.1 t ht).2.2.1 S C.own (C.w f) (fun _ h => h) hd k2
theorem r_xcod {E : EnvT} {M : MD} {d pc pc2 idx : Nat} {ls st : List Value} {h : Hp} {Q : Option Value → Hp → Prop} (t : Nat) (ht : t < 25) (f : Cond.fieldLink M.1.cls idx "java/lang/String" "coder" "B" ∈ gT) (hd : decode M.2.1 pc = .ok (.getfield idx, 3)) (hp : pc + 3 = pc2) (k : Fr E M d pc2 ls (.int 0 :: st) h Q) : Fr E M d pc ls (.ref t :: st) h Q := by
  subst hp
  refine Fr.pure (fun {p e R s m args below meth c H locs cells slots sl Qp} C L S RH k2 => ?_) k
  rw [List.map_cons, tV_ext (by omega)]
  exact vk_getf C.1 C.2.1 (C.X.2.2.1.1 t ht).2.1 S C.own (C.w f) (fun _ h => h) hd k2
/-! references -/
theorem r_ifnonnull {E : EnvT} {M : MD} {d pc tgt a : Nat} {off : Int} {ls st : List Value} {h : Hp} {Q : Option Value → Hp → Prop} (hd : decode M.2.1 pc = .ok (.ifnonnull off, 3)) (h64 : 64 ≤ a) (ht : (pc : Int) + off = (tgt : Int)) (k : Fr E M d tgt ls st h Q) : Fr E M d pc ls (.ref a :: st) h Q :=
  Fr.pure (fun C _ _ _ k => by rw [List.map_cons, tV_own h64]; exact lv_ifnonnull C.1 C.2.1 hd ht k) k
theorem r_ifnonnullN {E : EnvT} {M : MD} {d pc pc2 : Nat} {off : Int} {ls st : List Value} {h : Hp} {Q : Option Value → Hp → Prop} (hd : decode M.2.1 pc = .ok (.ifnonnull off, 3)) (hp : pc + 3 = pc2) (k : Fr E M d pc2 ls st h Q) : Fr E M d pc ls (.null :: st) h Q := by
  subst hp
  exact Fr.pure (fun C _ _ _ k => lv_ifnonnullN C.1 C.2.1 hd k) k
theorem r_ifnull {E : EnvT} {M : MD} {d pc pc2 a : Nat} {off : Int} {ls st : List Value} {h : Hp} {Q : Option Value → Hp → Prop} (hd : decode M.2.1 pc = .ok (.ifnull off, 3)) (h64 : 64 ≤ a) (hp : pc + 3 = pc2) (k : Fr E M d pc2 ls st h Q) : Fr E M d pc ls (.ref a :: st) h Q := by
  subst hp
  exact Fr.pure (fun C _ _ _ k => by rw [List.map_cons, tV_own h64]; exact lv_ifnull C.1 C.2.1 hd k) k
theorem r_ifnullN {E : EnvT} {M : MD} {d pc tgt : Nat} {off : Int} {ls st : List Value} {h : Hp} {Q : Option Value → Hp → Prop} (hd : decode M.2.1 pc = .ok (.ifnull off, 3)) (ht : (pc : Int) + off = (tgt : Int)) (k : Fr E M d tgt ls st h Q) : Fr E M d pc ls (.null :: st) h Q :=
  Fr.pure (fun C _ _ _ k => lv_ifnullN C.1 C.2.1 hd ht k) k
theorem r_acmp_ne {E : EnvT} {M : MD} {d pc pc2 tgt a b : Nat} {off : Int} {ls st : List Value} {h : Hp} {Q : Option Value → Hp → Prop} (hd : decode M.2.1 pc = .ok (.if_acmp .ne off, 3)) (ha : 64 ≤ a) (hb : 64 ≤ b) (ht : (pc : Int) + off = (tgt : Int)) (hp : pc + 3 = pc2) (kt : ¬ a = b → Fr E M d tgt ls st h Q) (kf : a = b → Fr E M d pc2 ls st h Q) : Fr E M d pc ls (.ref b :: .ref a :: st) h Q := by
  subst hp
  by_cases hx : a = b
  · refine Fr.pure (fun {p e R s m args below meth c H locs cells slots sl Qp} C _ _ _ k => ?_) (kf hx)
    rw [List.map_cons, List.map_cons, tV_own ha, tV_own hb]
    exact lv_acmp_ne (rx := some (tS E a)) (ry := some (tS E b)) C.1 C.2.1 hd ht (fun q => absurd (by rw [hx]) q) (fun _ => k)
  · refine Fr.pure (fun {p e R s m args below meth c H locs cells slots sl Qp} C _ _ _ k => ?_) (kt hx)
    rw [List.map_cons, List.map_cons, tV_own ha, tV_own hb]
    exact lv_acmp_ne (rx := some (tS E a)) (ry := some (tS E b)) C.1 C.2.1 hd ht (fun _ => k) (fun q => absurd (Option.some.inj q) (tS_ne hb ha hx))
/-! returns -/
theorem Fr.ret {E : EnvT} {M : MD} {d pc : Nat} {ls st : List Value} {h : Hp} {Q : Option Value → Hp → Prop} {r : Option Value} (hq : Q r h)
    (hs : ∀ {p : Program} {e : Env} {R : Room} {s : State} {m : MethodId} {args : Array Value} {below : List Frame} {meth : Method} {c : Code} {H : Heap} {locs : List Loc} {cells slots : Nat} {sl : Array Slot}, Zc E M p s m args meth c → (∀ t : State, t.heap = H → s.WarmedH t.vm → QE E r h args s (.returned (r.map (tV E))) t) → (∀ q ∈ locs, e_A E q.base) →
      W p (e_l E) e R s m args below meth c H locs cells slots (MQ below (QE E r h) args s cells slots (e_A E)) (F0 m pc sl (st.map (tV E)))) : Fr E M d pc ls st h Q := by
  refine ⟨r, h, Nat.le_refl _, Nat.le_refl _, hq, fun p e R s m args below meth c H locs cells slots sl C hR hS hL a1 a2 a3 a4 => ?_⟩
  rw [Nat.sub_self, Nat.sub_self, Nat.add_zero, Nat.add_zero]
  exact hs C (fun t ht hW => ⟨rfl, by rw [ht]; exact hR, hS.F ht⟩) hS.2.2
theorem r_iret {E : EnvT} {M : MD} {d pc : Nat} {ls : List Value} {h : Hp} {Q : Option Value → Hp → Prop} {v : Int32} (hr : M.2.2.2 = some .int) (hd : decode M.2.1 pc = .ok (.ireturn, 1)) (hq : Q (some (.int v)) h) : Fr E M d pc ls [.int v] h Q :=
  Fr.ret hq (fun C q f => W.iret C.1 C.2.1 (C.2.2.1.trans hr) q f hd C.lk)
theorem r_zret {E : EnvT} {M : MD} {d pc : Nat} {ls : List Value} {h : Hp} {Q : Option Value → Hp → Prop} {v : Int32} {ty : FieldType} (hr : M.2.2.2 = some ty) (hn : narrow ty (.int v) = .int v) (hd : decode M.2.1 pc = .ok (.ireturn, 1)) (hq : Q (some (.int v)) h) : Fr E M d pc ls [.int v] h Q :=
  Fr.ret hq (fun C q f => W.zret C.1 C.2.1 (C.2.2.1.trans hr) hn q f hd C.lk)
theorem r_lret {E : EnvT} {M : MD} {d pc : Nat} {ls : List Value} {h : Hp} {Q : Option Value → Hp → Prop} {v : Int64} (hr : M.2.2.2 = some .long) (hd : decode M.2.1 pc = .ok (.lreturn, 1)) (hq : Q (some (.long v)) h) : Fr E M d pc ls [.long v] h Q :=
  Fr.ret hq (fun C q f => W.lret C.1 C.2.1 (C.2.2.1.trans hr) q f hd C.lk)
theorem r_vret {E : EnvT} {M : MD} {d pc : Nat} {ls : List Value} {h : Hp} {Q : Option Value → Hp → Prop} (hr : M.2.2.2 = none) (hd : decode M.2.1 pc = .ok (.return_, 1)) (hq : Q none h) : Fr E M d pc ls [] h Q :=
  Fr.ret hq (fun C q f => W.vret C.1 C.2.1 (C.2.2.1.trans hr) q f hd C.lk)
theorem r_aret {E : EnvT} {M : MD} {d pc : Nat} {ls : List Value} {h : Hp} {Q : Option Value → Hp → Prop} {v : Value} {rt : FieldType} (hr : M.2.2.2 = some rt) (hrt : (∃ n, rt = .object n) ∨ ∃ t, rt = .array t) (hv : isRf v = true) (hd : decode M.2.1 pc = .ok (.areturn, 1)) (hq : Q (some v) h) : Fr E M d pc ls [v] h Q :=
  Fr.ret hq (fun C q f => W.aret C.1 C.2.1 (C.2.2.1.trans hr) hrt (tV_rf C.fm hv).symm q f hd C.lk)
