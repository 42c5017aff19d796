-- ===== end of PART A; then your names; then what follows =====
/-! THE CLAIM OUT OF ONE WALK OF THE LAW'S BODY. Your part is whole_start (and what it stands on); all else here is the same for every law, but numbers. -/
def R_law : String := "SleepActLaw"
def lw_P (b : Addr) (xs : List Int32) (args : Array Value) (s : State) : Prop := args = #[.ref b] ∧ s.IntsAt b xs ∧ xs.length ≤ 3072 ∧ (Jvm.Cond.and given_1 narrow_1).before args s = true
def lw_Q (_ : Array Value) (s : State) (o : Outcome) (t : State) : Prop := o = .returned (some (.int 1)) ∧ Framed s o t [] room_1.cells room_1.slots
def lw_Z (below : List Frame) (a : Array Value) (s : State) : State → Prop := fun t => ∃ o, t.status = .running ∧ Ended t below o ∧ lw_Q a s o t
/-- the law's own end, with 1 on the stack, nothing written that was there before, its room as the claim has it -/
theorem lw_ret {p : Program} {l : Launch} {e : Env} {s : State} {m : MethodId} {below : List Frame} {meth : Method} {c : Code} {b : Nat} (hx : p.tables.exec = Jvm.exec) (hb : c.code = code) (hr : meth.sig.returnType = ret) (hlocks : meth.locks = false) {pc : Nat} {H : Heap} {ls : Array Slot} (hdg : decode code pc = .ok (.ireturn, 1)) : W p l e room_1 s m #[Value.ref b] below meth c H [] room_1.cells room_1.slots (lw_Z below #[Value.ref b] s) (F0 m pc ls [.int 1]) := by
  intro T hT X
  obtain ⟨fs, hret, hrun, hended, hW, hframe⟩ := X.leave (v := some (.int 1)) (hlocks := hlocks) (fun h => by rw [hr] at h; cases h)
  have hmeth' : T.vm.method? m = some meth := X.method'
  refine ⟨T.setFrames fs, ?_, .returned (some (.int 1)), hrun, hended, rfl, ⟨_, rfl⟩, hW, hframe⟩
  jvm_step X.here [X.here.top, hx, hb, hdg, hmeth', hr, ret, narrow_b1]
  (try refine ⟨rfl, ?_⟩); (try refine ⟨rfl, ?_⟩)
  first | (intro acts; rw [hret _ acts rfl rfl rfl]) | rw [hret _ _ rfl rfl rfl]
  exact Steps.refl _
/-- what holds at the law's entry: the machine, the code, the tables' words (any of lw_tbl by 'hts w (by decide +kernel)'), the script of L ints xs at the cell b, what the Statement gives of the start (any of its parts by flat_of_before) -/
def lw_At (p : Program) (s : State) (m : MethodId) (meth : Method) (c : Code) (b L : Nat) (xs : Nat → Int32) : Prop :=
  p.tables.exec = Jvm.exec ∧ c.code = code ∧ meth.sig.returnType = ret ∧ c.maxLocals = 4 ∧ s.vm.findClass R_law = some m.cls ∧ (∀ w ∈ lw_tbl, w.before #[Value.ref b] s = true) ∧ va_X b L xs s s.heap ∧ b < s.heap.size ∧ meth.locks = false ∧ (Jvm.Cond.and given_1 narrow_1).before #[Value.ref b] s = true
/-- the law's run, seen from above -/
def LawOK : Prop := ∀ E : EnvT, e_n E ≤ 3072 → Fr E mL 656 0 [.ref 61, .float 0, .float 0, .float 0] [] (h00 (e_n E) (e_s E)) (fun r hE => r = some (.int 1) ∧ hE.2.1 ≤ 400064 ∧ hE.2.2 ≤ 5000000)
set_option maxHeartbeats 4000000 in
theorem start_of (hLaw : LawOK) {p : Program} {e : Env} {s : State} {m : MethodId} {below : List Frame} {meth : Method} {c : Code} (l : Launch) {b L : Nat} {xs : Nat → Int32} (hL : L ≤ 3072) (C0 : lw_At p s m meth c b L xs) (hnm : meth.name = "law") : W p l e room_1 s m #[Value.ref b] below meth c s.heap [] 0 0 (lw_Z below #[Value.ref b] s) (entryFrame m ([Value.ref b] : List Value).toArray 4) := by
  obtain ⟨hx, hb, hr, hml, hown, hts, hX, hbl, hlocks, hgv⟩ := C0
  obtain ⟨E, e1, e2, e3, e4, e5, hXOK⟩ := env_at l hts hX hbl hgv
  obtain ⟨r, hE, h1, h2, ⟨rfl, h3, h4⟩, z⟩ := hLaw E (by rw [e4]; exact hL)
  have hl := lv_entry ([.ref b]) (n := 4) (Nat.le_of_ble_eq_true rfl)
  rw [lg_entry_eq]
  have hn0 : (h00 (e_n E) (e_s E)).2.1 = 64 := rfl
  have hs0 : (h00 (e_n E) (e_s E)).2.2 = 0 := rfl
  have hrc : 400000 ≤ room_1.cells := Nat.le_of_ble_eq_true rfl
  have hrs : 5000000 ≤ room_1.slots := Nat.le_of_ble_eq_true rfl
  have w := z p e room_1 s m #[Value.ref b] below meth c s.heap [] 0 0 _ ⟨hx, hb, hr, hml, hown, fun w hw => hts w (List.mem_filter.mp hw).1, hlocks, hnm, hXOK⟩ (rel00 e2.symm) va_S.rf ⟨rfl, hl.1, hl.2.1, fun q hq => by
    have hq : q ∈ [(0, tV E (.ref 61))] := hq
    simp at hq
    subst hq
    rw [tV_ext (by decide), e3]
    exact hl.2.2 (0, .ref b) (by simp [lv_args])⟩ (Nat.le_of_ble_eq_true rfl) (Nat.le_of_ble_eq_true rfl) (by rw [hn0]; omega) (by rw [hs0]; omega)
  rw [e1] at w
  intro T hT X
  obtain ⟨t, s1, o, s2, s3, ⟨q1, q2, q3⟩, Lc, hF, hLc⟩ := w T hT X
  refine ⟨t, s1, o, s2, s3, q1, hF.1, hF.2.1, hF.2.2.weaken (fun y hy hlt => ?_) ?_ ?_⟩
  · have := hLc y hy
    have h9 : e_b E ≤ y.base := this
    rw [e2] at h9
    exact absurd hlt (Nat.not_lt.mpr h9)
  · rw [hn0]; omega
  · rw [hs0]; omega
