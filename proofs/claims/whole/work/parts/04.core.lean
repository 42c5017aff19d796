/-! The machine seen from above: a heap of cells by small numbers (below 64 what lies there before the law begins, from 64 on what the law makes, in the order of its making), frames as lists of values. -/
abbrev MD : Type := MethodName × ByteArray × Nat × Option FieldType
abbrev Hp : Type := (Nat → Option va_E) × Nat × Nat
abbrev EnvT : Type := Launch × va_G × (Nat → ClassId) × Nat × (Nat → Nat) × Value × Nat × (Nat → Int32)
def e_l (E : EnvT) : Launch := E.1
def e_D (E : EnvT) : va_G := E.2.1
def e_k (E : EnvT) : Nat → ClassId := E.2.2.1
def e_b (E : EnvT) : Nat := E.2.2.2.1
def e_x (E : EnvT) : Nat → Nat := E.2.2.2.2.1
def e_f (E : EnvT) : Value := E.2.2.2.2.2.1
def e_n (E : EnvT) : Nat := E.2.2.2.2.2.2.1
def e_s (E : EnvT) : Nat → Int32 := E.2.2.2.2.2.2.2
def e_A (E : EnvT) : Nat → Prop := fun q => e_b E ≤ q
def tS (E : EnvT) (a : Nat) : Nat := if a < 64 then e_x E a else e_b E + (a - 64)
def tV (E : EnvT) (v : Value) : Value := match v with
  | .ref a => if a = 63 then e_f E else .ref (tS E a)
  | w => w
def tA (E : EnvT) (x : vp_A) : vp_A := match x with
  | (n, .inr (.inr (.inr (.inr f)))) => (n, .inr (.inr (.inr (.inr (fun j => (f j).map (tS E))))))
  | y => y
def tE (E : EnvT) (x : va_E) : va_E := match x with
  | .inl (k, a) => .inl (e_k E k, tA E a)
  | .inr (c, fs) => .inr (c, fs.map (tV E))
def gT : List Cond := lw_tbl.filter goodWord
theorem gT_mem {w : Cond} (h : w ∈ lw_tbl) (g : goodWord w = true) : w ∈ gT := List.mem_filter.mpr ⟨h, g⟩
def xOwn (i : Nat) : String × Nat × String := [("SleepAct$Reader", 106, "street"), ("SleepAct$Reader", 115, "house"), ("SleepAct$Reader", 122, "depth"), ("SleepAct$Reader", 138, "goer"), ("SleepAct$Reader", 185, "loud"), ("SleepAct$Reader", 187, "at"), ("SleepAct$Reader", 189, "soft"), ("SleepAct$Reader", 143, "people"), ("SleepAct$Reader", 148, "bound"), ("SleepAct$Reader", 150, "not"), ("SleepAct$Reader", 156, "cart"), ("SleepAct$Reader", 161, "noise"), ("SleepAct$Reader", 166, "draught"), ("SleepAct$Reader", 240, "if"), ("SleepAct$Reader", 270, "and"), ("SleepAct$Reader", 265, "or"), ("SleepAct$Reader", 251, "then"), ("SleepAct$Reader", 253, "else"), ("SleepAct$Reader", 255, "end"), ("SleepAct$Reader", 256, "far"), ("SleepAct$Reader", 258, "steps"), ("SleepAct$Reader", 260, "past"), ("SleepAct$Reader", 177, "sleeps"), ("SleepActModel", 96, " street house depth goer loud at soft people bound cart noise draught sleeps if then else end far steps past and or not "), ("SleepActModel", 134, ";:+-*()[]=<>")].getD i ("", 0, "")
def xLen : List Nat := [6, 5, 5, 4, 4, 2, 4, 6, 5, 3, 4, 5, 7, 2, 3, 2, 4, 4, 3, 3, 5, 4, 6, 120, 12]
def xByt : List (List Int32) := [[115, 116, 114, 101, 101, 116], [104, 111, 117, 115, 101], [100, 101, 112, 116, 104], [103, 111, 101, 114], [108, 111, 117, 100], [97, 116], [115, 111, 102, 116], [112, 101, 111, 112, 108, 101], [98, 111, 117, 110, 100], [110, 111, 116], [99, 97, 114, 116], [110, 111, 105, 115, 101], [100, 114, 97, 117, 103, 104, 116], [105, 102], [97, 110, 100], [111, 114], [116, 104, 101, 110], [101, 108, 115, 101], [101, 110, 100], [102, 97, 114], [115, 116, 101, 112, 115], [112, 97, 115, 116], [115, 108, 101, 101, 112, 115], [32, 115, 116, 114, 101, 101, 116, 32, 104, 111, 117, 115, 101, 32, 100, 101, 112, 116, 104, 32, 103, 111, 101, 114, 32, 108, 111, 117, 100, 32, 97, 116, 32, 115, 111, 102, 116, 32, 112, 101, 111, 112, 108, 101, 32, 98, 111, 117, 110, 100, 32, 99, 97, 114, 116, 32, 110, 111, 105, 115, 101, 32, 100, 114, 97, 117, 103, 104, 116, 32, 115, 108, 101, 101, 112, 115, 32, 105, 102, 32, 116, 104, 101, 110, 32, 101, 108, 115, 101, 32, 101, 110, 100, 32, 102, 97, 114, 32, 115, 116, 101, 112, 115, 32, 112, 97, 115, 116, 32, 97, 110, 100, 32, 111, 114, 32, 110, 111, 116, 32], [59, 58, 43, 45, 42, 40, 41, 91, 93, 61, 60, 62]]
/-- the cells that lie there before: 0 to 24 the texts, 32 to 56 their bytes, 60 the weights, 61 the script -/
def xW (j : Nat) : Int32 := if j = 0 then 1 else if j = 1 then 7 else if j = 2 then 49 else if j = 3 then 343 else 2401
def xT (n : Nat) (xs : Nat → Int32) (a : Nat) : Option va_E :=
  if a < 25 then some (.inr (20, [.ref (32 + a), .int 0]))
  else if 32 ≤ a ∧ a < 57 then some (.inl (8, xLen.getD (a - 32) 0, .inl (fun j => (xByt.getD (a - 32) []).getD j 0)))
  else if a = 60 then some (.inl (7, 5, .inl xW))
  else if a = 61 then some (.inl (7, n, .inl xs))
  else none
def RelH (E : EnvT) (h : Hp) (H : Heap) : Prop :=
  64 ≤ h.2.1 ∧ H.size = e_b E + (h.2.1 - 64) ∧ (∀ (a : Nat) (e : va_E), h.1 a = some e → 64 ≤ a → a < h.2.1 ∧ va_at (e_D E) vwCl (tS E a, tE E e) H) ∧ ∀ a : Nat, a < 64 → h.1 a = xT (e_n E) (e_s E) a
/-- links to private members of nest mates -/
def nW (w : Cond) : Bool := match w with
  | .methodLinkNest _ _ _ _ => true
  | .fieldLinkNest _ _ _ _ _ _ => true
  | _ => false
def nT : List Cond := lw_tbl.filter nW
theorem nT_mem {w : Cond} (h : w ∈ lw_tbl) (g : nW w = true) : w ∈ nT := List.mem_filter.mpr ⟨h, g⟩
theorem nT_warm {w : Cond} (h : w ∈ nT) {s U : State} (hW : s.WarmedH U.vm) (hZ : va_Nw w s) : va_Nw w U := by
  have g := (List.mem_filter.mp h).2
  cases w <;> simp [nW] at g
  · first | exact va_Nw.warmF hW hZ | exact va_Nw.warmM hW hZ
  · first | exact va_Nw.warmF hW hZ | exact va_Nw.warmM hW hZ
def kinds (E : EnvT) : List (ClassId × FieldType) := [(e_k E 0, .int), (e_k E 1, .long), (e_k E 2, .byte), (e_k E 3, .boolean), (e_k E 4, .object "SleepAct$Stand"), (e_k E 5, .object "SleepAct$Street"), (e_k E 6, .object "SleepAct$Tray")]
def XOK (E : EnvT) (s : State) : Prop :=
  e_b E ≤ s.heap.size ∧ va_K (e_D E) vwCl (kinds E) s ∧ vk_S 25 xLen xByt (e_x E) (fun i => e_x E (32 + i)) (e_A E) s s.heap ∧
  va_T .int (e_x E 60) 5 (fun j => .int (xW j)) (e_A E) s s.heap ∧ (va_X (e_x E 61) (e_n E) (e_s E) s s.heap ∧ e_x E 61 < e_b E) ∧
  va_Z "java/lang/String" "COMPACT_STRINGS" "Z" (.int 1) (e_A E) s s.heap ∧ va_Z "jdk/internal/util/Preconditions" "SIOOBE_FORMATTER" "Ljava/util/function/BiFunction;" (e_f E) (e_A E) s s.heap ∧ va_Z "SleepAct" "WEIGHT" "[I" (.ref (e_x E 60)) (e_A E) s s.heap ∧
  (∀ i : Nat, i < 25 → vk_R (xOwn i).1 (xOwn i).2.1 (xOwn i).2.2 (e_x E i) s) ∧ (e_f E = .null ∨ ∃ a, e_f E = .ref a) ∧ (∀ w ∈ nT, va_Nw w s) ∧ va_AO "SleepAct$Stand" s ∧ va_AO "SleepAct$Street" s ∧ va_AO "SleepAct$Tray" s
/-- from a state to one that a call reaches -/
theorem XOK.go {E : EnvT} {s U : State} {H : Heap} {locs : List Loc} (h : XOK E s) (hS : va_S (e_A E) s.heap H locs) (hU : U.heap = H) (hW : s.WarmedH U.vm) : XOK E U := by
  obtain ⟨h0, h1, h2, h3, ⟨h4, h4b⟩, h5, h6, h7, h8, h9, h10, h11, h12, h13⟩ := h
  have hq : ∀ a : Nat, a < s.heap.size → ¬ e_A E a → U.heap[a]? = s.heap[a]? := fun a x y => by rw [hU]; exact hS.2.1 a x y
  have hv := hW.alike
  refine ⟨Nat.le_trans h0 (by rw [hU]; exact hS.1), va_K.moved hv h1, vk_S.moved hv (h2.kept hq), va_T.moved hv (h3.kept hq), ⟨va_X.moved hv (h4.kept (hq _ (Nat.lt_of_lt_of_le h4b h0) (Nat.not_le.mpr h4b))), h4b⟩, va_Z.moved hv (h5.kept hq), va_Z.moved hv (h6.kept hq), va_Z.moved hv (h7.kept hq), fun i hi => vk_R.warm hW (h8 i hi), h9, fun w hw => nT_warm hw hW (h10 w hw), h11.moved hv, h12.moved hv, h13.moved hv⟩
theorem XOK.call {E : EnvT} {U : State} {g : JFrame} {mk : MethodId} {a : Array Value} (h : XOK E U) : XOK E (U.calling g mk a) :=
  XOK.go (s := U) (H := U.heap) (locs := []) h va_S.rf rfl (by first | exact State.WarmedH.refl _ | exact State.WarmedH.rfl)
/-- the locals: a float is a place that holds nothing -/
def lsl (E : EnvT) : Nat → List Value → List (Nat × Value)
  | _, [] => []
  | i, v :: t => match v with
    | .float _ => lsl E (i + 1) t
    | w => (i, tV E w) :: lsl E (i + 1) t
def nf (v : Value) : Bool := match v with
  | .float _ => false
  | _ => true
theorem mem_lsl {E : EnvT} : ∀ (ls : List Value) (i : Nat) (q : Nat × Value), q ∈ lsl E i ls ↔ ∃ (j : Nat) (v : Value), ls[j]? = some v ∧ nf v = true ∧ q = (i + j, tV E v) := by
  intro ls
  induction ls with
  | nil => intro i q; simp [lsl]
  | cons w t ih =>
    intro i q
    have key : (∃ (j : Nat) (v : Value), (w :: t)[j]? = some v ∧ nf v = true ∧ q = (i + j, tV E v)) ↔ (nf w = true ∧ q = (i, tV E w)) ∨ ∃ (j : Nat) (v : Value), t[j]? = some v ∧ nf v = true ∧ q = (i + 1 + j, tV E v) := by
      constructor
      · rintro ⟨j, v, h1, h2, h3⟩
        cases j with
        | zero => simp at h1; subst h1; exact Or.inl ⟨h2, by simpa using h3⟩
        | succ j => exact Or.inr ⟨j, v, by simpa using h1, h2, by rw [h3]; congr 1; omega⟩
      · rintro (⟨h1, h2⟩ | ⟨j, v, h1, h2, h3⟩)
        · exact ⟨0, w, rfl, h1, by simpa using h2⟩
        · exact ⟨j + 1, v, by simpa using h1, h2, by rw [h3]; congr 1; omega⟩
    rw [key]
    cases w with
    | float b => simp [lsl, nf, ih (i + 1) q]
    | int x => simp [lsl, nf, ih (i + 1) q]
    | long x => simp [lsl, nf, ih (i + 1) q]
    | double x => simp [lsl, nf, ih (i + 1) q]
    | null => simp [lsl, nf, ih (i + 1) q]
    | ref x => simp [lsl, nf, ih (i + 1) q]
    | retAddr x => simp [lsl, nf, ih (i + 1) q]
def LsR (E : EnvT) (n : Nat) (ls : List Value) (sl : Array Slot) : Prop := ls.length = n ∧ lv_has sl n (lsl E 0 ls)
theorem LsR.at {E : EnvT} {n : Nat} {ls : List Value} {sl : Array Slot} (h : LsR E n ls sl) {i : Nat} {v : Value} (hi : ls[i]? = some v) (hv : nf v = true) : sl[i]? = some (.val (tV E v)) :=
  h.2.2.2 (i, tV E v) ((mem_lsl ls 0 _).mpr ⟨i, v, hi, hv, by simp⟩)
theorem tV_cat {E : EnvT} (hf : e_f E = .null ∨ ∃ a, e_f E = .ref a) (v : Value) : (tV E v).category = v.category := by
  cases v with
  | ref a =>
    show (if a = 63 then e_f E else .ref (tS E a)).category = _
    split
    · rcases hf with h | ⟨b, h⟩ <;> rw [h] <;> rfl
    · rfl
  | _ => rfl
theorem tV_sum {E : EnvT} (hf : e_f E = .null ∨ ∃ a, e_f E = .ref a) (st : List Value) : ((st.map (tV E)).map fun v => v.category).sum = (st.map fun v => v.category).sum := by
  rw [List.map_map]
  congr 1
  exact List.map_congr_left fun v _ => tV_cat hf v
/-- the context of a method's body -/
def Zc (E : EnvT) (M : MD) (p : Program) (s : State) (m : MethodId) (args : Array Value) (meth : Method) (c : Code) : Prop :=
  p.tables.exec = Jvm.exec ∧ c.code = M.2.1 ∧ meth.sig.returnType = M.2.2.2 ∧ c.maxLocals = M.2.2.1 ∧ s.vm.findClass M.1.cls = some m.cls ∧ (∀ w ∈ gT, w.before args s = true) ∧ meth.locks = false ∧ meth.name = M.1.name ∧ XOK E s
section ZC
variable {E : EnvT} {M : MD} {p : Program} {s : State} {m : MethodId} {args : Array Value} {meth : Method} {c : Code}
theorem Zc.X (C : Zc E M p s m args meth c) : XOK E s := C.2.2.2.2.2.2.2.2
theorem Zc.fm (C : Zc E M p s m args meth c) : e_f E = .null ∨ ∃ a, e_f E = .ref a := C.X.2.2.2.2.2.2.2.2.2.1
theorem Zc.nst (C : Zc E M p s m args meth c) {w : Cond} (h : w ∈ nT) : va_Nw w s := C.X.2.2.2.2.2.2.2.2.2.2.1 w h
theorem Zc.ao (C : Zc E M p s m args meth c) : va_AO "SleepAct$Stand" s ∧ va_AO "SleepAct$Street" s ∧ va_AO "SleepAct$Tray" s := C.X.2.2.2.2.2.2.2.2.2.2.2
theorem Zc.K (C : Zc E M p s m args meth c) : va_K (e_D E) vwCl (kinds E) s := C.X.2.1
theorem Zc.own (C : Zc E M p s m args meth c) : s.vm.findClass M.1.cls = some m.cls := C.2.2.2.2.1
theorem Zc.w (C : Zc E M p s m args meth c) {w : Cond} (h : w ∈ gT) : w.before args s = true := C.2.2.2.2.2.1 w h
theorem Zc.ts (C : Zc E M p s m args meth c) : ∀ w ∈ gT, w.before args s = true := C.2.2.2.2.2.1
theorem Zc.lk (C : Zc E M p s m args meth c) : meth.locks = false := C.2.2.2.2.2.2.1
theorem Zc.nm (C : Zc E M p s m args meth c) : meth.name = M.1.name := C.2.2.2.2.2.2.2.1
end ZC
def QE (E : EnvT) (r : Option Value) (hE : Hp) : Array Value → State → Outcome → State → Prop := fun _ st o t => o = .returned (r.map (tV E)) ∧ RelH E hE t.heap ∧ va_F (e_A E) st t
def Z (E : EnvT) (M : MD) (d pc : Nat) (ls st : List Value) (h : Hp) (r : Option Value) (hE : Hp) : Prop :=
  ∀ (p : Program) (e : Env) (R : Room) (s : State) (m : MethodId) (args : Array Value) (below : List Frame) (meth : Method) (c : Code) (H : Heap) (locs : List Loc) (cells slots : Nat) (sl : Array Slot),
    Zc E M p s m args meth c → RelH E h H → va_S (e_A E) s.heap H locs → LsR E M.2.2.1 ls sl → d ≤ R.frames → 128 * d ≤ R.locals → cells + (hE.2.1 - h.2.1) ≤ R.cells → slots + (hE.2.2 - h.2.2) ≤ R.slots →
    W p (e_l E) e R s m args below meth c H locs cells slots (MQ below (QE E r hE) args s (cells + (hE.2.1 - h.2.1)) (slots + (hE.2.2 - h.2.2)) (e_A E)) (F0 m pc sl (st.map (tV E)))
/-- from this frame on the method returns, with Q of its answer and the heap -/
def Fr (E : EnvT) (M : MD) (d pc : Nat) (ls st : List Value) (h : Hp) (Q : Option Value → Hp → Prop) : Prop :=
  ∃ (r : Option Value) (hE : Hp), h.2.1 ≤ hE.2.1 ∧ h.2.2 ≤ hE.2.2 ∧ Q r hE ∧ Z E M d pc ls st h r hE
def rmOf (d c s : Nat) : Room := { frames := d, cells := c, slots := s, locals := 128 * d }
/-- the method returns, with Q of its answer and the heap -/
def Cn (E : EnvT) (M : MD) (d : Nat) (av : List Value) (h : Hp) (Q : Option Value → Hp → Prop) : Prop :=
  ∃ (r : Option Value) (hE : Hp), h.2.1 ≤ hE.2.1 ∧ h.2.2 ≤ hE.2.2 ∧ Q r hE ∧
    Met (e_l E) M.1 (Cond.code M.1 M.2.1 M.2.2.1 M.2.2.2 :: gT) (rmOf d (hE.2.1 - h.2.1) (hE.2.2 - h.2.2)) (va_Pc (av.map (tV E)) (fun U => RelH E h U.heap ∧ XOK E U)) (QE E r hE) (hE.2.1 - h.2.1) (hE.2.2 - h.2.2) (e_A E)
theorem Fr.mono {E : EnvT} {M : MD} {d pc : Nat} {ls st : List Value} {h : Hp} {Q Q' : Option Value → Hp → Prop} (k : Fr E M d pc ls st h Q) (hq : ∀ r h', Q r h' → Q' r h') : Fr E M d pc ls st h Q' := by
  obtain ⟨r, hE, h1, h2, h3, h4⟩ := k
  exact ⟨r, hE, h1, h2, hq r hE h3, h4⟩
theorem Cn.mono {E : EnvT} {M : MD} {d : Nat} {av : List Value} {h : Hp} {Q Q' : Option Value → Hp → Prop} (k : Cn E M d av h Q) (hq : ∀ r h', Q r h' → Q' r h') : Cn E M d av h Q' := by
  obtain ⟨r, hE, h1, h2, h3, h4⟩ := k
  exact ⟨r, hE, h1, h2, hq r hE h3, h4⟩
/-- the locals at a method's entry -/
def enL : List Value → List Value
  | [] => []
  | v :: t => if v.category = 2 then v :: .float 0 :: enL t else v :: enL t
theorem enL_args {E : EnvT} (hf : e_f E = .null ∨ ∃ a, e_f E = .ref a) : ∀ (av : List Value) (i j : Nat) (v : Value), (enL av)[j]? = some v → nf v = true → (i + j, tV E v) ∈ lv_args i (av.map (tV E)) := by
  intro av
  induction av with
  | nil => intro i j v h; simp [enL] at h
  | cons w t ih =>
    intro i j v h hn
    have hc := tV_cat (E := E) hf w
    rw [List.map_cons, lv_args, hc]
    unfold enL at h
    by_cases h2 : w.category = 2
    · rw [if_pos h2] at h ⊢
      match j, h with
      | 0, h => simp at h; subst h; simp
      | 1, h => simp at h; subst h; simp [nf] at hn
      | j + 2, h =>
        have := ih (i + 2) j v (by simpa using h) hn
        rw [show i + (j + 2) = i + 2 + j by omega]
        exact List.mem_cons_of_mem _ this
    · rw [if_neg h2] at h ⊢
      match j, h with
      | 0, h => simp at h; subst h; simp
      | j + 1, h =>
        have := ih (i + 1) j v (by simpa using h) hn
        rw [show i + (j + 1) = i + 1 + j by omega]
        exact List.mem_cons_of_mem _ this
theorem enL_len {E : EnvT} (hf : e_f E = .null ∨ ∃ a, e_f E = .ref a) : ∀ av : List Value, (lg_sl (av.map (tV E))).length = (enL av).length := by
  intro av
  induction av with
  | nil => rfl
  | cons w t ih =>
    have hc := tV_cat (E := E) hf w
    unfold enL
    unfold lg_sl at ih ⊢
    rw [List.map_cons, List.flatMap_cons, List.length_append, ih, hc]
    by_cases h2 : w.category = 2
    · rw [if_pos h2, if_pos h2]; simp; omega
    · rw [if_neg h2, if_neg h2]; simp; omega
set_option maxHeartbeats 1000000 in
theorem Cn.enter {E : EnvT} {M : MD} {d : Nat} {av ls : List Value} {h : Hp} {Q : Option Value → Hp → Prop} (hy : plainName M.1.cls = true) (hls : ls = enL av ++ List.replicate (M.2.2.1 - (enL av).length) (.float 0)) (hn : (enL av).length ≤ M.2.2.1) (k : Fr E M d 0 ls [] h Q) : Cn E M d av h Q := by
  obtain ⟨r, hE, h1, h2, h3, z⟩ := k
  refine ⟨r, hE, h1, h2, h3, ?_⟩
  refine Met.ofW (cc := M.2.1) (maxL := M.2.2.1) (ret := M.2.2.2) hy rfl ?_
  intro p e s m args below meth c s₁ B hml hv
  obtain ⟨rfl, hR, hX⟩ := hv
  have hf := hX.2.2.2.2.2.2.2.2.2.1
  have hts := atoms_spec (ws := Cond.code M.1 M.2.1 M.2.2.1 M.2.2.2 :: gT) B.pre
  have hl := lv_entry (av.map (tV E)) (n := M.2.2.1) (by rw [enL_len hf]; exact hn)
  rw [lg_entry_eq]
  have hZ := z p e (headSpec (Cond.code M.1 M.2.1 M.2.2.1 M.2.2.2 :: gT) (rmOf d (hE.2.1 - h.2.1) (hE.2.2 - h.2.2))).room s m (av.map (tV E)).toArray below meth c s.heap [] 0 0 _
    ⟨B.exec, B.bytes, B.returns, hml, findClass_of_methodNamed B.named, fun w hw => hts w (List.mem_cons_of_mem _ hw), B.notSynchronized, (name_of_methodNamed B.named B.method).1, hX⟩ hR va_S.rf ⟨by rw [hls]; simp; omega, hl.1, hl.2.1, fun q hq => by
      obtain ⟨j, v, g1, g2, g3⟩ := (mem_lsl ls 0 q).mp hq
      subst g3
      refine hl.2.2 _ (enL_args hf av 0 j v ?_ g2)
      rw [hls] at g1
      by_cases hj : j < (enL av).length
      · rw [List.getElem?_append_left hj] at g1; exact g1
      · rw [List.getElem?_append_right (by omega), List.getElem?_replicate] at g1
        split at g1
        · cases g1; simp [nf] at g2
        · cases g1⟩ (Nat.le_refl _) (Nat.le_refl _) (by show 0 + _ ≤ hE.2.1 - h.2.1; omega) (by show 0 + _ ≤ hE.2.2 - h.2.2; omega)
  rw [Nat.zero_add, Nat.zero_add] at hZ
  exact hZ
/-- a step that touches neither heap nor locals -/
theorem Fr.pure {E : EnvT} {M : MD} {d pc pc2 : Nat} {ls st st2 : List Value} {h : Hp} {Q : Option Value → Hp → Prop}
    (hs : ∀ {p : Program} {e : Env} {R : Room} {s : State} {m : MethodId} {args : Array Value} {below : List Frame} {meth : Method} {c : Code} {H : Heap} {locs : List Loc} {cells slots : Nat} {sl : Array Slot} {Qp : State → Prop}, Zc E M p s m args meth c → LsR E M.2.2.1 ls sl → va_S (e_A E) s.heap H locs → RelH E h H →
      W p (e_l E) e R s m args below meth c H locs cells slots Qp (F0 m pc2 sl (st2.map (tV E))) → W p (e_l E) e R s m args below meth c H locs cells slots Qp (F0 m pc sl (st.map (tV E))))
    (k : Fr E M d pc2 ls st2 h Q) : Fr E M d pc ls st h Q := by
  obtain ⟨r, hE, h1, h2, h3, z⟩ := k
  exact ⟨r, hE, h1, h2, h3, fun p e R s m args below meth c H locs cells slots sl C hR hS hL a1 a2 a3 a4 => hs C hL hS hR (z p e R s m args below meth c H locs cells slots sl C hR hS hL a1 a2 a3 a4)⟩
