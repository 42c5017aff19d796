/-! a row for System.arraycopy from the start of one row of numbers to another's; Arrays.copyOf -/
def acN : MethodName := ⟨"java/lang/System", "arraycopy", "(Ljava/lang/Object;ILjava/lang/Object;II)V"⟩
set_option maxHeartbeats 1000000 in
theorem r_copy0 {E : EnvT} {M : MD} {d pc pc2 idx a0 a n0 n1 N : Nat} {f g : Nat → Int32} {ls : List Value} {h : Hp} {Q : Option Value → Hp → Prop} (hl : Cond.methodLink M.1.cls idx acN ∈ gT) (hs : Cond.static acN ∈ gT) (hn : Cond.native acN ∈ gT) (hi : Cond.initialized "java/lang/System" ∈ gT) (hd : decode M.2.1 pc = .ok (.invokestatic idx, 3)) (ha0 : h.1 a0 = some (.inl (0, n0, .inl f))) (ha : h.1 a = some (.inl (0, n1, .inl g))) (h640 : 64 ≤ a0) (h64 : 64 ≤ a) (hN0 : N ≤ n0) (hN1 : N ≤ n1) (hN : N < 2 ^ 31) (hp : pc + 3 = pc2) (hd1 : 1 ≤ d) (kk : Fr E M d pc2 ls [] (hset h a (.inl (0, n1, .inl (va_cpy f g 0 0 N)))) Q) : Fr E M d pc ls [.int (nI N), .int 0, .ref a, .int 0, .ref a0] h Q := by
  subst hp
  refine Fr.heap0 (h2 := hset h a (.inl (0, n1, .inl (va_cpy f g 0 0 N)))) rfl rfl (fun {p e R s m args below meth c H locs cells slots sl Qp} C L S RH b1 b2 b3 b4 k2 => ?_) kk
  have hat0 : H[tS E a0]? = some (vp_cell (e_k E 0) (n0, .inl f)) := (RH.2.2.1 a0 _ ha0 h640).2
  have hat : H[tS E a]? = some (vp_cell (e_k E 0) (n1, .inl g)) := (RH.2.2.1 a _ ha h64).2
  have eN : (nI N).toNatClampNeg = N := nI_clamp hN
  have eI : (nI N).toInt = (N : Int) := nI_toInt hN
  have hnn : ¬ nI N < 0 := nI_pos hN
  rw [List.map_cons, List.map_cons, List.map_cons, List.map_cons, List.map_cons, tV_own h64, tV_own h640]
  intro T hT X
  obtain ⟨-, k0, hk0, cm0, hkk0⟩ := (C.K.2 0 _ rfl).1 n0 (fun j => .int (f j))
  obtain ⟨-, k1, hk1, cm1, hkk1⟩ := (C.K.2 0 _ rfl).1 n1 (fun j => .int (g j))
  obtain ⟨vm', X', step⟩ := X.arraycopy C.1 C.own (C.w hl) (C.w hn) (C.w hs) (C.w hi) (src := tS E a0) (dst := tS E a) (cs := vp_cell (e_k E 0) (n0, .inl f)) (cd := vp_cell (e_k E 0) (n1, .inl g)) (srcPos := 0) (destPos := 0) (n := nI N) (by rw [hT]; exact hat0) (by rw [hT]; exact hat)
    (fun _ h => by cases h) (fun _ h => by cases h) (fun h => by cases h) (fun h => by cases h) hk0 hk1 hkk0 hkk1 rfl (by decide) (by decide) hnn
    (by rw [eI]; show ¬ _ > ((arrV (e_k E 0) n0 (fun j => .int (f j))).slots.size : Int); rw [arrV_size]; have : (0 : Int32).toInt = 0 := by decide
        omega)
    (by rw [eI]; show ¬ _ > ((arrV (e_k E 0) n1 (fun j => .int (g j))).slots.size : Int); rw [arrV_size]; have : (0 : Int32).toInt = 0 := by decide
        omega)
    (fun vm₁ _ i hi => by
      rw [eN] at hi
      have e : (vp_cell (e_k E 0) (n0, .inl f)).slots.getD ((0 : Int32).toNatClampNeg + i) .null = .int (f ((0 : Int32).toNatClampNeg + i)) := by
        show (arrV (e_k E 0) n0 (fun j => .int (f j))).slots.getD _ _ = _
        have z : (0 : Int32).toNatClampNeg = 0 := by decide
        rw [Array.getD_eq_getD_getElem?, arrV_read _ _ (by omega)]
        rfl
      rw [e]
      exact ⟨rfl, trivial⟩)
    (g := F0 m pc sl [.int (nI N), .int 0, .ref (tS E a), .int 0, .ref (tS E a0)]) rfl (by rw [C.2.2.2.1]; exact L.2.1) (rest := []) rfl (by rw [C.2.1]; exact hd) (by omega) (by
      have : nativeFrameWords "java/lang/System" "arraycopy" 5 = 7 := by decide
      rw [this]
      show 2 * 0 + 0 + 18 ≤ _
      omega)
  have e1 : copied (vp_cell (e_k E 0) (n0, .inl f)) (vp_cell (e_k E 0) (n1, .inl g)) 0 0 (nI N) = vp_cell (e_k E 0) (n1, .inl (va_cpy f g 0 0 N)) := by
    have := va_copied (fun z : Int32 => Value.int z) (e_k E 0) (e_k E 0) (n0 := n0) (n1 := n1) (sp := 0) (dp := 0) (n := N) f g (by omega)
    show (arrV (e_k E 0) n1 (fun j => .int (g j))).storeRun (0 : Int32).toNatClampNeg ((arrV (e_k E 0) n0 (fun j => .int (f j))).stretch (0 : Int32).toNatClampNeg (nI N).toNatClampNeg) = _
    rw [eN]
    exact this
  rw [e1] at X' step
  have hlt : tS E a < H.size := (Array.getElem?_eq_some_iff.mp hat).1
  have oq : ∀ q : Nat, q ≠ tS E a → (H.setIfInBounds (tS E a) (vp_cell (e_k E 0) (n1, .inl (va_cpy f g 0 0 N))))[q]? = H[q]? := fun q hq => by simp [Array.getElem?_setIfInBounds, Ne.symm hq]
  have ow : (H.setIfInBounds (tS E a) (vp_cell (e_k E 0) (n1, .inl (va_cpy f g 0 0 N))))[tS E a]? = some (vp_cell (e_k E 0) (n1, .inl (va_cpy f g 0 0 N))) := by simp [Array.getElem?_setIfInBounds, hlt]
  have hA : e_A E (tS E a) := RelH.A h64
  obtain ⟨t, a1, b1⟩ := k2 (H.setIfInBounds (tS E a) (vp_cell (e_k E 0) (n1, .inl (va_cpy f g 0 0 N)))) _ (RH.put h64 ha ow (by simp) oq) ⟨by simp; exact S.1, fun q g1 g2 => by
      rw [oq q (fun z => g2 (by rw [z]; exact hA))]
      exact S.2.1 q g1 g2, fun q hq => by
      rcases List.mem_append.mp hq with z | z
      · exact S.2.2 q z
      · obtain ⟨y, -, hy⟩ := List.mem_map.mp z
        rw [← hy]
        exact hA⟩ _ (by rw [← hT]; rfl) X'
  exact ⟨t, step t a1, b1⟩
theorem lJ7_150 : Cond.methodLink RJ7 150 acN ∈ gT ∧ Cond.static acN ∈ gT ∧ Cond.native acN ∈ gT ∧ Cond.initialized "java/lang/System" ∈ gT := ⟨gT_mem (List.mem_of_getElem? (i := 688) (by decide +kernel)) rfl, gT_mem (List.mem_of_getElem? (i := 689) (by decide +kernel)) rfl, gT_mem (List.mem_of_getElem? (i := 690) (by decide +kernel)) rfl, gT_mem (List.mem_of_getElem? (i := 143) (by decide +kernel)) rfl⟩
