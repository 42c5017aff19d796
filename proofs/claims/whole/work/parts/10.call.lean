/-! calls -/
set_option maxHeartbeats 1000000 in
theorem Fr.call {E : EnvT} {M M2 : MD} {d pc pc2 : Nat} {ls stk st av : List Value} {h : Hp} {Q Q2 : Option Value → Hp → Prop} (hp : pc + 3 = pc2) (hc : Cn E M2 (d - 1) av h Q2) (k : ∀ r h2, Q2 r h2 → Fr E M d pc2 ls (r.toList ++ st) h2 Q)
    (hs : ∀ {p : Program} {e : Env} {R : Room} {s : State} {m : MethodId} {args : Array Value} {below : List Frame} {meth : Method} {c : Code} {H : Heap} {locs : List Loc} {cells slots : Nat} {sl : Array Slot} {r : Option Value} {hE : Hp}, Zc E M p s m args meth c → LsR E M.2.2.1 ls sl → va_S (e_A E) s.heap H locs → RelH E h H → d ≤ R.frames → 128 * d ≤ R.locals → cells + (hE.2.1 - h.2.1) ≤ R.cells → slots + (hE.2.2 - h.2.2) ≤ R.slots →
      Met (e_l E) M2.1 (Cond.code M2.1 M2.2.1 M2.2.2.1 M2.2.2.2 :: gT) (rmOf (d - 1) (hE.2.1 - h.2.1) (hE.2.2 - h.2.2)) (va_Pc (av.map (tV E)) (fun U => RelH E h U.heap ∧ XOK E U)) (QE E r hE) (hE.2.1 - h.2.1) (hE.2.2 - h.2.2) (e_A E) →
      va_Run p (e_l E) e R s m args below meth c H locs cells slots (hE.2.1 - h.2.1) (hE.2.2 - h.2.2) (F0 m pc sl (stk.map (tV E))) (st.map (tV E)) (QE E r hE #[]) (e_A E)) : Fr E M d pc ls stk h Q := by
  subst hp
  obtain ⟨r, hE, c1, c2, cq, hM⟩ := hc
  obtain ⟨r2, hE2, d1, d2, dq, z⟩ := k r hE cq
  refine ⟨r2, hE2, by omega, by omega, dq, fun p e R s m args below meth c H locs cells slots sl C hR hS hL a1 a2 a3 a4 => ?_⟩
  have run := hs (p := p) (e := e) (R := R) (below := below) (H := H) (locs := locs) (cells := cells) (slots := slots) C hL hS hR a1 a2 (by omega) (by omega) hM
  intro T hT X
  obtain ⟨v, st0, t, T', L, e0, X', hLf, e1, e2, ⟨q1, q2, q3⟩, go⟩ := run T hT X
  have hv : v = r.map (tV E) := Outcome.returned.inj q1
  subst hv
  have hS2 : va_S (e_A E) s.heap T'.heap (locs ++ L) := by
    refine ⟨Nat.le_trans hS.1 (by rw [← e0, e1]; exact q3.1), fun q g1 g2 => ?_, fun q hq => ?_⟩
    · rw [e1, q3.2 q (by rw [e0]; exact Nat.lt_of_lt_of_le g1 hS.1) g2, e0]
      exact hS.2.1 q g1 g2
    · rcases List.mem_append.mp hq with g | g
      · exact hS.2.2 q g
      · exact hLf q g
  have w := z p e R s m args below meth c T'.heap (locs ++ L) (cells + (hE.2.1 - h.2.1)) (slots + (hE.2.2 - h.2.2)) sl C (by rw [e1]; exact q2) hS2 hL a1 a2 (by omega) (by omega)
  have q4 : cells + (hE.2.1 - h.2.1) + (hE2.2.1 - hE.2.1) = cells + (hE2.2.1 - h.2.1) := by omega
  have q5 : slots + (hE.2.2 - h.2.2) + (hE2.2.2 - hE.2.2) = slots + (hE2.2.2 - h.2.2) := by omega
  rw [q4, q5] at w
  obtain ⟨t2, s1, s2⟩ := w T' rfl X'
  refine ⟨t2, go t2 ?_, s2⟩
  have q6 : (r.toList ++ st).map (tV E) = (r.map (tV E)).toList ++ st.map (tV E) := by cases r <;> rfl
  rw [q6] at s1
  exact s1
theorem gT_good {y : MethodName} {b : ByteArray} {n : Nat} {r : Option FieldType} (h : Cond.code y b n r ∈ gT) : GoodIn gT (Cond.code y b n r :: gT) := by
  intro w hw
  have hw2 : w ∈ gT := by
    rcases List.mem_cons.mp hw with e | e
    · rw [e]; exact h
    · exact e
  exact ⟨hw2, good_of_word (List.mem_filter.mp hw2).2⟩
theorem pre_blind {E : EnvT} {av : List Value} {h : Hp} : FrameBlind (va_Pc (av.map (tV E)) (fun U => RelH E h U.heap ∧ XOK E U)) := by
  intro a U g mk q
  obtain ⟨q0, q1, q2⟩ := q
  exact ⟨q0, q1, q2.call⟩
def nameOk (y : MethodName) (n : Nat) : Prop := y.cls ≠ "java/lang/invoke/MethodHandle" ∧ y.cls ≠ "java/lang/invoke/VarHandle" ∧ (parseMethodDescriptor y.desc).map (fun d => d.parameters.length) = some n
def MLV (own : String) (idx : Nat) (M2 : MD) (n : Nat) : Prop := Cond.methodLink own idx M2.1 ∈ gT ∧ Cond.instanceMethod M2.1 ∈ gT ∧ Cond.selects M2.1.cls M2.1 M2.1 ∈ gT ∧ Cond.initialized M2.1.cls ∈ gT ∧ Cond.code M2.1 M2.2.1 M2.2.2.1 M2.2.2.2 ∈ gT ∧ nameOk M2.1 n ∧ M2.2.2.1 ≤ 100
theorem MLV.good {own : String} {idx n : Nat} {M2 : MD} (f : MLV own idx M2 n) : GoodIn gT (wsV own idx M2.1.cls M2.1 (Cond.code M2.1 M2.2.1 M2.2.2.1 M2.2.2.2 :: gT)) := by
  obtain ⟨f1, f2, f3, f4, f5, f6, f7⟩ := f
  have g := gT_good f5
  intro w hw
  unfold wsV at hw
  rcases List.mem_append.mp hw with hw | hw
  · have : w ∈ gT := by
      simp at hw
      rcases hw with e | e | e | e <;> rw [e] <;> assumption
    exact ⟨this, good_of_word (List.mem_filter.mp this).2⟩
  · exact g w hw
set_option maxHeartbeats 1000000 in
theorem r_callV {E : EnvT} {M M2 : MD} {d pc pc2 idx n ci a : Nat} {q : vw_C} {ls stk st As fs : List Value} {h : Hp} {Q Q2 : Option Value → Hp → Prop} (f : MLV M.1.cls idx M2 n) (hq : vwCl[ci]? = some q) (hq1 : q.1 = M2.1.cls) (hd : decode M.2.1 pc = .ok (.invokevirtual idx, 3)) (ha : h.1 a = some (.inr (ci, fs))) (h64 : 64 ≤ a) (hst : stk = As.reverse ++ .ref a :: st) (hn : As.length = n) (hw : (st.map fun v => v.category).sum ≤ 8) (h1 : 1 ≤ d) (hc : Cn E M2 (d - 1) (.ref a :: As) h Q2) (hp : pc + 3 = pc2) (k : ∀ r h2, Q2 r h2 → Fr E M d pc2 ls (r.toList ++ st) h2 Q) : Fr E M d pc ls stk h Q := by
  refine Fr.call hp hc k (fun {p e R s m args below meth c H locs cells slots sl r hE} C L S RH b1 b2 b3 b4 hM => ?_)
  have g := f.good
  obtain ⟨f1, f2, f3, f4, f5, f6, f7⟩ := f
  have hP := va_P.one RH ha h64
  have hrec := va_recv C.K hP hq (q0 := 0) (fs := fs.map (tV E)) (a := tS E a) rfl
  rw [hq1] at hrec
  subst hst
  have e1 : (Value.ref a :: As).map (tV E) = .ref (tS E a) :: As.map (tV E) := by rw [List.map_cons, tV_own h64]
  rw [e1] at hM
  refine va_runV (As := As.map (tV E)) (rest := st.map (tV E)) (nL := M.2.2.1) ⟨C.1, C.2.1, C.2.2.2.1, C.own, C.ts⟩ hM (cwV n C.ts g rfl rfl rfl ⟨rfl, f6⟩ ⟨?_, ?_⟩) ⟨?_, hrec, fun U hU hW => ⟨rfl, by rw [hU]; exact RH, C.X.go S hU hW⟩⟩ rfl (by rw [List.length_map]; exact hn) L.2.1 ?_ ?_ hd ⟨b3, b4⟩
  · show d - 1 + 1 ≤ R.frames
    omega
  · show 8 + (M2.2.2.1 + 11) + 128 * (d - 1) ≤ R.locals
    omega
  · rw [← e1]; exact pre_blind
  · show (As.reverse ++ .ref a :: st).map (tV E) = _
    rw [List.map_append, List.map_reverse, List.map_cons, tV_own h64]
  · show 2 * 0 + _ ≤ 8
    rw [tV_sum C.fm]
    omega
/-- on a text -/
theorem r_callX {E : EnvT} {M M2 : MD} {d pc pc2 idx n t : Nat} {ls stk st As : List Value} {h : Hp} {Q Q2 : Option Value → Hp → Prop} (f : MLV M.1.cls idx M2 n) (hq1 : M2.1.cls = "java/lang/String") (ht : t < 25) (hd : decode M.2.1 pc = .ok (.invokevirtual idx, 3)) (hst : stk = As.reverse ++ .ref t :: st) (hn : As.length = n) (hw : (st.map fun v => v.category).sum ≤ 8) (h1 : 1 ≤ d) (hc : Cn E M2 (d - 1) (.ref t :: As) h Q2) (hp : pc + 3 = pc2) (k : ∀ r h2, Q2 r h2 → Fr E M d pc2 ls (r.toList ++ st) h2 Q) : Fr E M d pc ls stk h Q := by
  refine Fr.call hp hc k (fun {p e R s m args below meth c H locs cells slots sl r hE} C L S RH b1 b2 b3 b4 hM => ?_)
  have g := f.good
  obtain ⟨f1, f2, f3, f4, f5, f6, f7⟩ := f
  have hrec := vk_recv C.X.2.2.1 ht S
  rw [← hq1] at hrec
  subst hst
  have e1 : (Value.ref t :: As).map (tV E) = .ref (e_x E t) :: As.map (tV E) := by rw [List.map_cons, tV_ext (by omega)]
  rw [e1] at hM
  refine va_runV (As := As.map (tV E)) (rest := st.map (tV E)) (nL := M.2.2.1) ⟨C.1, C.2.1, C.2.2.2.1, C.own, C.ts⟩ hM (cwV n C.ts g rfl rfl rfl ⟨rfl, f6⟩ ⟨?_, ?_⟩) ⟨?_, hrec, fun U hU hW => ⟨rfl, by rw [hU]; exact RH, C.X.go S hU hW⟩⟩ rfl (by rw [List.length_map]; exact hn) L.2.1 ?_ ?_ hd ⟨b3, b4⟩
  · show d - 1 + 1 ≤ R.frames
    omega
  · show 8 + (M2.2.2.1 + 11) + 128 * (d - 1) ≤ R.locals
    omega
  · rw [← e1]; exact pre_blind
  · show (As.reverse ++ .ref t :: st).map (tV E) = _
    rw [List.map_append, List.map_reverse, List.map_cons, tV_ext (by omega)]
  · show 2 * 0 + _ ≤ 8
    rw [tV_sum C.fm]
    omega
def MLS (own : String) (idx : Nat) (M2 : MD) (n : Nat) : Prop := Cond.methodLink own idx M2.1 ∈ gT ∧ Cond.static M2.1 ∈ gT ∧ Cond.initialized M2.1.cls ∈ gT ∧ Cond.code M2.1 M2.2.1 M2.2.2.1 M2.2.2.2 ∈ gT ∧ nameOk M2.1 n ∧ M2.2.2.1 ≤ 100
theorem MLS.good {own : String} {idx n : Nat} {M2 : MD} (f : MLS own idx M2 n) : GoodIn gT (va_wsS own idx M2.1 (Cond.code M2.1 M2.2.1 M2.2.2.1 M2.2.2.2 :: gT)) := by
  obtain ⟨f1, f2, f3, f4, f5, f6⟩ := f
  have g := gT_good f4
  intro w hw
  unfold va_wsS at hw
  rcases List.mem_append.mp hw with hw | hw
  · have : w ∈ gT := by
      simp at hw
      rcases hw with e | e | e <;> rw [e] <;> assumption
    exact ⟨this, good_of_word (List.mem_filter.mp this).2⟩
  · exact g w hw
theorem r_callS {E : EnvT} {M M2 : MD} {d pc pc2 idx n : Nat} {ls stk st As : List Value} {h : Hp} {Q Q2 : Option Value → Hp → Prop} (f : MLS M.1.cls idx M2 n) (hd : decode M.2.1 pc = .ok (.invokestatic idx, 3)) (hst : stk = As.reverse ++ st) (hn : As.length = n) (hw : (st.map fun v => v.category).sum ≤ 8) (h1 : 1 ≤ d) (hc : Cn E M2 (d - 1) As h Q2) (hp : pc + 3 = pc2) (k : ∀ r h2, Q2 r h2 → Fr E M d pc2 ls (r.toList ++ st) h2 Q) : Fr E M d pc ls stk h Q := by
  refine Fr.call hp hc k (fun {p e R s m args below meth c H locs cells slots sl r hE} C L S RH b1 b2 b3 b4 hM => ?_)
  have g := f.good
  obtain ⟨f1, f2, f3, f4, f5, f6⟩ := f
  subst hst
  refine va_runS (As := As.map (tV E)) (rest := st.map (tV E)) (nL := M.2.2.1) ⟨C.1, C.2.1, C.2.2.2.1, C.own, C.ts⟩ hM (va_cwS n C.ts g rfl rfl rfl f5 ⟨?_, ?_⟩) ⟨pre_blind, fun U hU hW => ⟨rfl, by rw [hU]; exact RH, C.X.go S hU hW⟩⟩ rfl (by rw [List.length_map]; exact hn) L.2.1 ?_ ?_ hd ⟨b3, b4⟩
  · show d - 1 + 1 ≤ R.frames
    omega
  · show 8 + (M2.2.2.1 + 11) + 128 * (d - 1) ≤ R.locals
    omega
  · show (As.reverse ++ st).map (tV E) = _
    rw [List.map_append, List.map_reverse]
  · show 2 * 0 + _ ≤ 8
    rw [tV_sum C.fm]
    omega
def MLI (own : String) (idx : Nat) (M2 : MD) (n : Nat) : Prop := (Cond.methodLink own idx M2.1 ∈ gT ∨ ∃ host, Cond.methodLinkNest own idx M2.1 host ∈ nT) ∧ Cond.instanceMethod M2.1 ∈ gT ∧ Cond.initialized M2.1.cls ∈ gT ∧ Cond.code M2.1 M2.2.1 M2.2.2.1 none ∈ gT ∧ nameOk M2.1 n ∧ M2.2.2.1 ≤ 100 ∧ M2.1.name = "<init>" ∧ M2.2.2.2 = none
theorem r_callI {E : EnvT} {M M2 : MD} {d pc pc2 idx n a : Nat} {ls stk st As : List Value} {h : Hp} {Q Q2 : Option Value → Hp → Prop} (f : MLI M.1.cls idx M2 n) (hd : decode M.2.1 pc = .ok (.invokespecial idx, 3)) (h64 : 64 ≤ a) (hst : stk = As.reverse ++ .ref a :: st) (hn : As.length = n) (hw : (st.map fun v => v.category).sum ≤ 8) (h1 : 1 ≤ d) (hc : Cn E M2 (d - 1) (.ref a :: As) h Q2) (hp : pc + 3 = pc2) (k : ∀ r h2, Q2 r h2 → Fr E M d pc2 ls (r.toList ++ st) h2 Q) : Fr E M d pc ls stk h Q := by
  refine Fr.call hp hc k (fun {p e R s m args below meth c H locs cells slots sl r hE} C L S RH b1 b2 b3 b4 hM => ?_)
  obtain ⟨f1, f2, f3, f4, f5, f6, f7, f8⟩ := f
  have g := gT_good f4
  subst hst
  have e1 : (Value.ref a :: As).map (tV E) = .ref (tS E a) :: As.map (tV E) := by rw [List.map_cons, tV_own h64]
  rw [e1, f8] at hM
  have hb : FrameBlind (va_Pc (.ref (tS E a) :: As.map (tV E)) (fun U => RelH E h U.heap ∧ XOK E U)) := by rw [← e1]; exact pre_blind
  have hr1 : d - 1 + 1 ≤ R.frames := by omega
  have hr2 : 8 + (M2.2.2.1 + 11) + 128 * (d - 1) ≤ R.locals := by omega
  have hs1 : (As.reverse ++ .ref a :: st).map (tV E) = (As.map (tV E)).reverse ++ .ref (tS E a) :: st.map (tV E) := by
    rw [List.map_append, List.map_reverse, List.map_cons, tV_own h64]
  have hs2 : 2 * 0 + ((st.map (tV E)).map fun v => v.category).sum ≤ 8 := by
    rw [tV_sum C.fm]
    omega
  rcases f1 with f1 | ⟨host, f1⟩
  · exact va_runI (As := As.map (tV E)) (rest := st.map (tV E)) (nL := M.2.2.1) ⟨C.1, C.2.1, C.2.2.2.1, C.own, C.ts⟩ hM (cwI n C.ts g rfl rfl rfl (C.w f3) (C.w f1) (C.w f2) f7 f5 ⟨hr1, hr2⟩) ⟨hb, fun U hU hW => ⟨rfl, by rw [hU]; exact RH, C.X.go S hU hW⟩⟩ rfl (by rw [List.length_map]; exact hn) L.2.1 hs1 hs2 hd ⟨b3, b4⟩
  · exact va_runIN (As := As.map (tV E)) (rest := st.map (tV E)) (nL := M.2.2.1) ⟨C.1, C.2.1, C.2.2.2.1, C.own, C.ts⟩ hM ⟨va_cnB n C.ts g rfl rfl rfl (C.nst f1) (C.w f3) f5 ⟨hr1, hr2⟩, f7, C.w f2⟩ ⟨hb, fun U hU hW => ⟨rfl, by rw [hU]; exact RH, C.X.go S hU hW⟩⟩ rfl (by rw [List.length_map]; exact hn) L.2.1 hs1 hs2 hd ⟨b3, b4⟩
