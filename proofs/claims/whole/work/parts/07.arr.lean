/-! arrays -/
theorem r_iald {E : EnvT} {M : MD} {d pc pc2 a n : Nat} {i : Int32} {f : Nat → Int32} {ls st : List Value} {h : Hp} {Q : Option Value → Hp → Prop} (hd : decode M.2.1 pc = .ok (.iaload, 1)) (ha : h.1 a = some (.inl (0, n, .inl f))) (h64 : 64 ≤ a) (hin : vp_in i n) (hp : pc + 1 = pc2) (kk : Fr E M d pc2 ls (.int (f i.toNatClampNeg) :: st) h Q) : Fr E M d pc ls (.int i :: .ref a :: st) h Q := by
  subst hp
  refine Fr.pure (fun {p e R s m args below meth c H locs cells slots sl Qp} C L S RH k2 => ?_) kk
  have hP := va_P.one RH ha h64
  rw [List.map_cons, List.map_cons, tV_own h64]
  exact va_iald (D := e_D E) C.1 C.2.1 C.K hP 0 0 rfl rfl hin hd k2
theorem r_lald {E : EnvT} {M : MD} {d pc pc2 a n : Nat} {i : Int32} {f : Nat → Int64} {ls st : List Value} {h : Hp} {Q : Option Value → Hp → Prop} (hd : decode M.2.1 pc = .ok (.laload, 1)) (ha : h.1 a = some (.inl (1, n, .inr (.inl f)))) (h64 : 64 ≤ a) (hin : vp_in i n) (hp : pc + 1 = pc2) (kk : Fr E M d pc2 ls (.long (f i.toNatClampNeg) :: st) h Q) : Fr E M d pc ls (.int i :: .ref a :: st) h Q := by
  subst hp
  refine Fr.pure (fun {p e R s m args below meth c H locs cells slots sl Qp} C L S RH k2 => ?_) kk
  have hP := va_P.one RH ha h64
  rw [List.map_cons, List.map_cons, tV_own h64]
  exact va_lald (D := e_D E) C.1 C.2.1 C.K hP 0 1 rfl rfl hin hd k2
theorem r_bald {E : EnvT} {M : MD} {d pc pc2 a n : Nat} {i : Int32} {f : Nat → Int32} {ls st : List Value} {h : Hp} {Q : Option Value → Hp → Prop} (hd : decode M.2.1 pc = .ok (.baload, 1)) (ha : h.1 a = some (.inl (2, n, .inl f))) (h64 : 64 ≤ a) (hin : vp_in i n) (hp : pc + 1 = pc2) (kk : Fr E M d pc2 ls (.int (f i.toNatClampNeg) :: st) h Q) : Fr E M d pc ls (.int i :: .ref a :: st) h Q := by
  subst hp
  refine Fr.pure (fun {p e R s m args below meth c H locs cells slots sl Qp} C L S RH k2 => ?_) kk
  have hP := va_P.one RH ha h64
  rw [List.map_cons, List.map_cons, tV_own h64]
  exact va_bald (D := e_D E) C.1 C.2.1 C.K hP 0 2 rfl rfl hin hd k2
theorem r_zald {E : EnvT} {M : MD} {d pc pc2 a n : Nat} {i : Int32} {f : Nat → Int32} {ls st : List Value} {h : Hp} {Q : Option Value → Hp → Prop} (hd : decode M.2.1 pc = .ok (.baload, 1)) (ha : h.1 a = some (.inl (3, n, .inl f))) (h64 : 64 ≤ a) (hin : vp_in i n) (hp : pc + 1 = pc2) (kk : Fr E M d pc2 ls (.int (f i.toNatClampNeg) :: st) h Q) : Fr E M d pc ls (.int i :: .ref a :: st) h Q := by
  subst hp
  refine Fr.pure (fun {p e R s m args below meth c H locs cells slots sl Qp} C L S RH k2 => ?_) kk
  have hP := va_P.one RH ha h64
  rw [List.map_cons, List.map_cons, tV_own h64]
  exact va_zald (D := e_D E) C.1 C.2.1 C.K hP 0 3 rfl rfl hin hd k2
theorem tV_ext {E : EnvT} {a : Nat} (h : a < 63) : tV E (.ref a) = .ref (e_x E a) := by
  show (if a = 63 then e_f E else .ref (tS E a)) = _
  rw [if_neg (by omega)]
  unfold tS
  rw [if_pos (by omega)]
/-- the weights -/
theorem r_wld {E : EnvT} {M : MD} {d pc pc2 : Nat} {i : Int32} {ls st : List Value} {h : Hp} {Q : Option Value → Hp → Prop} (hd : decode M.2.1 pc = .ok (.iaload, 1)) (hin : vp_in i 5) (hp : pc + 1 = pc2) (kk : Fr E M d pc2 ls (.int (xW i.toNatClampNeg) :: st) h Q) : Fr E M d pc ls (.int i :: .ref 60 :: st) h Q := by
  subst hp
  refine Fr.pure (fun {p e R s m args below meth c H locs cells slots sl Qp} C L S RH k2 => ?_) kk
  rw [List.map_cons, List.map_cons, tV_ext (by decide)]
  exact va_ti C.1 C.2.1 C.X.2.2.2.1 S hin rfl hd k2
/-- the script -/
theorem r_sld {E : EnvT} {M : MD} {d pc pc2 : Nat} {i : Int32} {ls st : List Value} {h : Hp} {Q : Option Value → Hp → Prop} (hd : decode M.2.1 pc = .ok (.iaload, 1)) (hin : vp_in i (e_n E)) (hp : pc + 1 = pc2) (kk : Fr E M d pc2 ls (.int (e_s E i.toNatClampNeg) :: st) h Q) : Fr E M d pc ls (.int i :: .ref 61 :: st) h Q := by
  subst hp
  refine Fr.pure (fun {p e R s m args below meth c H locs cells slots sl Qp} C L S RH k2 => ?_) kk
  rw [List.map_cons, List.map_cons, tV_ext (by decide)]
  have hb := C.X.2.2.2.2.1.2
  exact va_sld C.1 C.2.1 C.X.2.2.2.2.1.1 (Nat.lt_of_lt_of_le hb C.X.1) (Nat.not_le.mpr hb) S hin hd k2
theorem r_slen {E : EnvT} {M : MD} {d pc pc2 : Nat} {ls st : List Value} {h : Hp} {Q : Option Value → Hp → Prop} (hd : decode M.2.1 pc = .ok (.arraylength, 1)) (hp : pc + 1 = pc2) (kk : Fr E M d pc2 ls (.int (nI (e_n E)) :: st) h Q) : Fr E M d pc ls (.ref 61 :: st) h Q := by
  subst hp
  refine Fr.pure (fun {p e R s m args below meth c H locs cells slots sl Qp} C L S RH k2 => ?_) kk
  rw [List.map_cons, tV_ext (by decide)]
  have hb := C.X.2.2.2.2.1.2
  exact va_slen C.1 C.2.1 C.X.2.2.2.2.1.1 (Nat.lt_of_lt_of_le hb C.X.1) (Nat.not_le.mpr hb) S hd k2
/-- the bytes of a text -/
theorem r_xbld {E : EnvT} {M : MD} {d pc pc2 : Nat} {i : Int32} {ls st : List Value} {h : Hp} {Q : Option Value → Hp → Prop} (t : Nat) (ht : t < 25) (hd : decode M.2.1 pc = .ok (.baload, 1)) (hin : vp_in i (xLen.getD t 0)) (hp : pc + 1 = pc2) (kk : Fr E M d pc2 ls (.int ((xByt.getD t []).getD i.toNatClampNeg 0) :: st) h Q) : Fr E M d pc ls (.int i :: .ref (32 + t) :: st) h Q := by
  subst hp
  refine Fr.pure (fun {p e R s m args below meth c H locs cells slots sl Qp} C L S RH k2 => ?_) kk
  rw [List.map_cons, List.map_cons, tV_ext (by omega)]
  exact va_tb C.1 C.2.1 (C.X.2.2.1.1 t ht).2.2.2 S hin rfl hd k2
theorem r_xblen {E : EnvT} {M : MD} {d pc pc2 : Nat} {ls st : List Value} {h : Hp} {Q : Option Value → Hp → Prop} (t : Nat) (ht : t < 25) (hd : decode M.2.1 pc = .ok (.arraylength, 1)) (hp : pc + 1 = pc2) (kk : Fr E M d pc2 ls (.int (nI (xLen.getD t 0)) :: st) h Q) : Fr E M d pc ls (.ref (32 + t) :: st) h Q := by
  subst hp
  refine Fr.pure (fun {p e R s m args below meth c H locs cells slots sl Qp} C L S RH k2 => ?_) kk
  rw [List.map_cons, tV_ext (by omega)]
  exact va_tlen C.1 C.2.1 (C.X.2.2.1.1 t ht).2.2.2 S rfl hd k2
theorem tA_1 {E : EnvT} (n : Nat) (y : (Nat → Int32) ⊕ (Nat → Int64) ⊕ (Nat → UInt32) ⊕ (Nat → UInt64) ⊕ (Nat → Option Nat)) : (tA E (n, y)).1 = n := by
  rcases y with y | y | y | y | y <;> rfl
theorem r_alen {E : EnvT} {M : MD} {d pc pc2 a n : Nat} {k : Nat} {y : (Nat → Int32) ⊕ (Nat → Int64) ⊕ (Nat → UInt32) ⊕ (Nat → UInt64) ⊕ (Nat → Option Nat)} {ls st : List Value} {h : Hp} {Q : Option Value → Hp → Prop} (hd : decode M.2.1 pc = .ok (.arraylength, 1)) (ha : h.1 a = some (.inl (k, n, y))) (h64 : 64 ≤ a) (hk : k < 7) (hp : pc + 1 = pc2) (kk : Fr E M d pc2 ls (.int (nI n) :: st) h Q) : Fr E M d pc ls (.ref a :: st) h Q := by
  subst hp
  refine Fr.pure (fun {p e R s m args below meth c H locs cells slots sl Qp} C L S RH k2 => ?_) kk
  have hP := va_P.one RH ha h64
  rw [List.map_cons, tV_own h64]
  have : ∃ ty, (kinds E)[k]? = some (e_k E k, ty) := by
    match k, hk with
    | 0, _ => exact ⟨_, rfl⟩
    | 1, _ => exact ⟨_, rfl⟩
    | 2, _ => exact ⟨_, rfl⟩
    | 3, _ => exact ⟨_, rfl⟩
    | 4, _ => exact ⟨_, rfl⟩
    | 5, _ => exact ⟨_, rfl⟩
    | 6, _ => exact ⟨_, rfl⟩
  obtain ⟨ty, hty⟩ := this
  exact va_alen (D := e_D E) C.1 C.2.1 C.K hP 0 k rfl hty (by rw [tA_1]; rfl) hd k2
set_option maxHeartbeats 1000000 in
theorem r_iast {E : EnvT} {M : MD} {d pc pc2 a n : Nat} {i x : Int32} {f : Nat → Int32} {ls st : List Value} {h : Hp} {Q : Option Value → Hp → Prop} (hd : decode M.2.1 pc = .ok (.iastore, 1)) (ha : h.1 a = some (.inl (0, n, .inl f))) (h64 : 64 ≤ a) (hin : vp_in i n) (hp : pc + 1 = pc2) (kk : Fr E M d pc2 ls st (hset h a (.inl (0, n, .inl (upd f i.toNatClampNeg x)))) Q) : Fr E M d pc ls (.int x :: .int i :: .ref a :: st) h Q := by
  subst hp
  refine Fr.heap0 (h2 := hset h a (.inl (0, n, .inl (upd f i.toNatClampNeg x)))) rfl rfl (fun {p e R s m args below meth c H locs cells slots sl Qp} C L S RH b1 b2 b3 b4 k2 => ?_) kk
  have hat : H[tS E a]? = some (vp_cell (e_k E 0) (n, .inl f)) := (RH.2.2.1 a _ ha h64).2
  rw [List.map_cons, List.map_cons, List.map_cons, tV_own h64]
  refine W.iast C.1 C.2.1 hat ((C.K.2 0 _ rfl).1 n (fun j => .int (f j))) (fun q => by cases q) (by show ¬ (i < 0 ∨ (arrV _ _ _).slots.size ≤ _); rw [arrV_size]; exact hin) rfl rfl hd fun H1 e z oq => ?_
  refine k2 H1 _ (RH.put h64 ha ?_ z oq) (S.put z oq (RelH.A h64))
  show H1[tS E a]? = some (vp_cell (e_k E 0) (n, .inl (upd f i.toNatClampNeg x)))
  rw [e, vp_cell_i, vp_cell_i, arrV_store]
  congr 2
  funext q
  by_cases hq : q = i.toNatClampNeg
  · subst hq
    simp [updV, upd]
  · simp [updV, upd, hq]
set_option maxHeartbeats 1000000 in
theorem r_last {E : EnvT} {M : MD} {d pc pc2 a n : Nat} {i : Int32} {x : Int64} {f : Nat → Int64} {ls st : List Value} {h : Hp} {Q : Option Value → Hp → Prop} (hd : decode M.2.1 pc = .ok (.lastore, 1)) (ha : h.1 a = some (.inl (1, n, .inr (.inl f)))) (h64 : 64 ≤ a) (hin : vp_in i n) (hp : pc + 1 = pc2) (kk : Fr E M d pc2 ls st (hset h a (.inl (1, n, .inr (.inl (vp_updL f i.toNatClampNeg x))))) Q) : Fr E M d pc ls (.long x :: .int i :: .ref a :: st) h Q := by
  subst hp
  refine Fr.heap0 (h2 := hset h a (.inl (1, n, .inr (.inl (vp_updL f i.toNatClampNeg x))))) rfl rfl (fun {p e R s m args below meth c H locs cells slots sl Qp} C L S RH b1 b2 b3 b4 k2 => ?_) kk
  have hat : H[tS E a]? = some (vp_cell (e_k E 1) (n, .inr (.inl f))) := (RH.2.2.1 a _ ha h64).2
  rw [List.map_cons, List.map_cons, List.map_cons, tV_own h64]
  refine W.last C.1 C.2.1 hat ((C.K.2 1 _ rfl).1 n (fun j => .long (f j))) (fun q => by cases q) (by show ¬ (i < 0 ∨ (arrV _ _ _).slots.size ≤ _); rw [arrV_size]; exact hin) rfl rfl hd fun H1 e z oq => ?_
  refine k2 H1 _ (RH.put h64 ha ?_ z oq) (S.put z oq (RelH.A h64))
  show H1[tS E a]? = some (vp_cell (e_k E 1) (n, .inr (.inl (vp_updL f i.toNatClampNeg x))))
  rw [e, vp_cell_l, vp_cell_l, arrV_store]
  congr 2
  funext q
  by_cases hq : q = i.toNatClampNeg
  · subst hq
    simp [updV, vp_updL]
  · simp [updV, vp_updL, hq]
set_option maxHeartbeats 1000000 in
theorem r_bast {E : EnvT} {M : MD} {d pc pc2 a n : Nat} {i x : Int32} {f : Nat → Int32} {ls st : List Value} {h : Hp} {Q : Option Value → Hp → Prop} (hd : decode M.2.1 pc = .ok (.bastore, 1)) (ha : h.1 a = some (.inl (2, n, .inl f))) (h64 : 64 ≤ a) (hin : vp_in i n) (hp : pc + 1 = pc2) (kk : Fr E M d pc2 ls st (hset h a (.inl (2, n, .inl (upd f i.toNatClampNeg x.toInt8.toInt32)))) Q) : Fr E M d pc ls (.int x :: .int i :: .ref a :: st) h Q := by
  subst hp
  refine Fr.heap0 (h2 := hset h a (.inl (2, n, .inl (upd f i.toNatClampNeg x.toInt8.toInt32)))) rfl rfl (fun {p e R s m args below meth c H locs cells slots sl Qp} C L S RH b1 b2 b3 b4 k2 => ?_) kk
  have hat : H[tS E a]? = some (vp_cell (e_k E 2) (n, .inl f)) := (RH.2.2.1 a _ ha h64).2
  rw [List.map_cons, List.map_cons, List.map_cons, tV_own h64]
  refine W.bast C.1 C.2.1 hat ((C.K.2 2 _ rfl).1 n (fun j => .int (f j))) (fun q => by cases q) (by show ¬ (i < 0 ∨ (arrV _ _ _).slots.size ≤ _); rw [arrV_size]; exact hin) rfl rfl hd fun H1 e z oq => ?_
  refine k2 H1 _ (RH.put h64 ha ?_ z oq) (S.put z oq (RelH.A h64))
  show H1[tS E a]? = some (vp_cell (e_k E 2) (n, .inl (upd f i.toNatClampNeg x.toInt8.toInt32)))
  rw [e, vp_cell_i, vp_cell_i, arrV_store]
  congr 2
  funext q
  by_cases hq : q = i.toNatClampNeg
  · subst hq
    simp [updV, upd, narrow]
  · simp [updV, upd, hq]
set_option maxHeartbeats 1000000 in
theorem r_zast {E : EnvT} {M : MD} {d pc pc2 a n : Nat} {i x : Int32} {f : Nat → Int32} {ls st : List Value} {h : Hp} {Q : Option Value → Hp → Prop} (hd : decode M.2.1 pc = .ok (.bastore, 1)) (ha : h.1 a = some (.inl (3, n, .inl f))) (h64 : 64 ≤ a) (hin : vp_in i n) (hp : pc + 1 = pc2) (kk : Fr E M d pc2 ls st (hset h a (.inl (3, n, .inl (upd f i.toNatClampNeg (x &&& 1))))) Q) : Fr E M d pc ls (.int x :: .int i :: .ref a :: st) h Q := by
  subst hp
  refine Fr.heap0 (h2 := hset h a (.inl (3, n, .inl (upd f i.toNatClampNeg (x &&& 1))))) rfl rfl (fun {p e R s m args below meth c H locs cells slots sl Qp} C L S RH b1 b2 b3 b4 k2 => ?_) kk
  have hat : H[tS E a]? = some (vp_cell (e_k E 3) (n, .inl f)) := (RH.2.2.1 a _ ha h64).2
  rw [List.map_cons, List.map_cons, List.map_cons, tV_own h64]
  refine W.zast C.1 C.2.1 hat ((C.K.2 3 _ rfl).1 n (fun j => .int (f j))) (fun q => by cases q) (by show ¬ (i < 0 ∨ (arrV _ _ _).slots.size ≤ _); rw [arrV_size]; exact hin) rfl rfl hd fun H1 e z oq => ?_
  refine k2 H1 _ (RH.put h64 ha ?_ z oq) (S.put z oq (RelH.A h64))
  show H1[tS E a]? = some (vp_cell (e_k E 3) (n, .inl (upd f i.toNatClampNeg (x &&& 1))))
  rw [e, vp_cell_i, vp_cell_i, arrV_store]
  congr 2
  funext q
  by_cases hq : q = i.toNatClampNeg
  · subst hq
    simp [updV, upd, narrow]
  · simp [updV, upd, hq]
