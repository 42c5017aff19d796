theorem r_iconst {E : EnvT} {M : MD} {d pc pc2 : Nat} {ls st : List Value} {h : Hp} {Q : Option Value → Hp → Prop} {n : Int} {v : Int32} (hd : decode M.2.1 pc = .ok (.iconst n, 1)) (hv : Int32.ofInt n = v) (hp : pc + 1 = pc2) (k : Fr E M d pc2 ls (.int v :: st) h Q) : Fr E M d pc ls (st) h Q := by
  subst hp
  exact Fr.pure (fun C _ _ _ k => lv_iconst C.1 C.2.1 hd hv k) k
theorem r_bipush {E : EnvT} {M : MD} {d pc pc2 : Nat} {ls st : List Value} {h : Hp} {Q : Option Value → Hp → Prop} {n : Int} {v : Int32} (hd : decode M.2.1 pc = .ok (.bipush n, 2)) (hv : (Int8.ofInt n).toInt32 = v) (hp : pc + 2 = pc2) (k : Fr E M d pc2 ls (.int v :: st) h Q) : Fr E M d pc ls (st) h Q := by
  subst hp
  exact Fr.pure (fun C _ _ _ k => lv_bipush C.1 C.2.1 hd hv k) k
theorem r_sipush {E : EnvT} {M : MD} {d pc pc2 : Nat} {ls st : List Value} {h : Hp} {Q : Option Value → Hp → Prop} {n : Int} {v : Int32} (hd : decode M.2.1 pc = .ok (.sipush n, 3)) (hv : (Int16.ofInt n).toInt32 = v) (hp : pc + 3 = pc2) (k : Fr E M d pc2 ls (.int v :: st) h Q) : Fr E M d pc ls (st) h Q := by
  subst hp
  exact Fr.pure (fun C _ _ _ k => lv_sipush C.1 C.2.1 hd hv k) k
theorem r_lconst {E : EnvT} {M : MD} {d pc pc2 : Nat} {ls st : List Value} {h : Hp} {Q : Option Value → Hp → Prop} {n : Fin 2} {v : Int64} (hd : decode M.2.1 pc = .ok (.lconst n, 1)) (hv : Int64.ofNat (n : Nat) = v) (hp : pc + 1 = pc2) (k : Fr E M d pc2 ls (.long v :: st) h Q) : Fr E M d pc ls (st) h Q := by
  subst hp
  exact Fr.pure (fun C _ _ _ k => lv_lconst C.1 C.2.1 hd hv k) k
theorem r_iadd {E : EnvT} {M : MD} {d pc pc2 : Nat} {ls st : List Value} {h : Hp} {Q : Option Value → Hp → Prop} {x y : Int32} (hd : decode M.2.1 pc = .ok (.iadd, 1)) (hp : pc + 1 = pc2) (k : Fr E M d pc2 ls (.int (x + y) :: st) h Q) : Fr E M d pc ls (.int y :: .int x :: st) h Q := by
  subst hp
  exact Fr.pure (fun C _ _ _ k => lv_iadd C.1 C.2.1 hd k) k
theorem r_isub {E : EnvT} {M : MD} {d pc pc2 : Nat} {ls st : List Value} {h : Hp} {Q : Option Value → Hp → Prop} {x y : Int32} (hd : decode M.2.1 pc = .ok (.isub, 1)) (hp : pc + 1 = pc2) (k : Fr E M d pc2 ls (.int (x - y) :: st) h Q) : Fr E M d pc ls (.int y :: .int x :: st) h Q := by
  subst hp
  exact Fr.pure (fun C _ _ _ k => lv_isub C.1 C.2.1 hd k) k
theorem r_imul {E : EnvT} {M : MD} {d pc pc2 : Nat} {ls st : List Value} {h : Hp} {Q : Option Value → Hp → Prop} {x y : Int32} (hd : decode M.2.1 pc = .ok (.imul, 1)) (hp : pc + 1 = pc2) (k : Fr E M d pc2 ls (.int (x * y) :: st) h Q) : Fr E M d pc ls (.int y :: .int x :: st) h Q := by
  subst hp
  exact Fr.pure (fun C _ _ _ k => lv_imul C.1 C.2.1 hd k) k
theorem r_iand {E : EnvT} {M : MD} {d pc pc2 : Nat} {ls st : List Value} {h : Hp} {Q : Option Value → Hp → Prop} {x y : Int32} (hd : decode M.2.1 pc = .ok (.iand, 1)) (hp : pc + 1 = pc2) (k : Fr E M d pc2 ls (.int (x &&& y) :: st) h Q) : Fr E M d pc ls (.int y :: .int x :: st) h Q := by
  subst hp
  exact Fr.pure (fun C _ _ _ k => lv_iand C.1 C.2.1 hd k) k
theorem r_ior {E : EnvT} {M : MD} {d pc pc2 : Nat} {ls st : List Value} {h : Hp} {Q : Option Value → Hp → Prop} {x y : Int32} (hd : decode M.2.1 pc = .ok (.ior, 1)) (hp : pc + 1 = pc2) (k : Fr E M d pc2 ls (.int (x ||| y) :: st) h Q) : Fr E M d pc ls (.int y :: .int x :: st) h Q := by
  subst hp
  exact Fr.pure (fun C _ _ _ k => lv_ior C.1 C.2.1 hd k) k
theorem r_ixor {E : EnvT} {M : MD} {d pc pc2 : Nat} {ls st : List Value} {h : Hp} {Q : Option Value → Hp → Prop} {x y : Int32} (hd : decode M.2.1 pc = .ok (.ixor, 1)) (hp : pc + 1 = pc2) (k : Fr E M d pc2 ls (.int (x ^^^ y) :: st) h Q) : Fr E M d pc ls (.int y :: .int x :: st) h Q := by
  subst hp
  exact Fr.pure (fun C _ _ _ k => lv_ixor C.1 C.2.1 hd k) k
theorem r_ishl {E : EnvT} {M : MD} {d pc pc2 : Nat} {ls st : List Value} {h : Hp} {Q : Option Value → Hp → Prop} {x y : Int32} (hd : decode M.2.1 pc = .ok (.ishl, 1)) (hp : pc + 1 = pc2) (k : Fr E M d pc2 ls (.int (x <<< (y &&& 31)) :: st) h Q) : Fr E M d pc ls (.int y :: .int x :: st) h Q := by
  subst hp
  exact Fr.pure (fun C _ _ _ k => lv_ishl C.1 C.2.1 hd k) k
theorem r_ishr {E : EnvT} {M : MD} {d pc pc2 : Nat} {ls st : List Value} {h : Hp} {Q : Option Value → Hp → Prop} {x y : Int32} (hd : decode M.2.1 pc = .ok (.ishr, 1)) (hp : pc + 1 = pc2) (k : Fr E M d pc2 ls (.int (x >>> (y &&& 31)) :: st) h Q) : Fr E M d pc ls (.int y :: .int x :: st) h Q := by
  subst hp
  exact Fr.pure (fun C _ _ _ k => lv_ishr C.1 C.2.1 hd k) k
theorem r_ladd {E : EnvT} {M : MD} {d pc pc2 : Nat} {ls st : List Value} {h : Hp} {Q : Option Value → Hp → Prop} {x y : Int64} (hd : decode M.2.1 pc = .ok (.ladd, 1)) (hp : pc + 1 = pc2) (k : Fr E M d pc2 ls (.long (x + y) :: st) h Q) : Fr E M d pc ls (.long y :: .long x :: st) h Q := by
  subst hp
  exact Fr.pure (fun C _ _ _ k => lv_ladd C.1 C.2.1 hd k) k
theorem r_lsub {E : EnvT} {M : MD} {d pc pc2 : Nat} {ls st : List Value} {h : Hp} {Q : Option Value → Hp → Prop} {x y : Int64} (hd : decode M.2.1 pc = .ok (.lsub, 1)) (hp : pc + 1 = pc2) (k : Fr E M d pc2 ls (.long (x - y) :: st) h Q) : Fr E M d pc ls (.long y :: .long x :: st) h Q := by
  subst hp
  exact Fr.pure (fun C _ _ _ k => lv_lsub C.1 C.2.1 hd k) k
theorem r_lmul {E : EnvT} {M : MD} {d pc pc2 : Nat} {ls st : List Value} {h : Hp} {Q : Option Value → Hp → Prop} {x y : Int64} (hd : decode M.2.1 pc = .ok (.lmul, 1)) (hp : pc + 1 = pc2) (k : Fr E M d pc2 ls (.long (x * y) :: st) h Q) : Fr E M d pc ls (.long y :: .long x :: st) h Q := by
  subst hp
  exact Fr.pure (fun C _ _ _ k => lv_lmul C.1 C.2.1 hd k) k
theorem r_land {E : EnvT} {M : MD} {d pc pc2 : Nat} {ls st : List Value} {h : Hp} {Q : Option Value → Hp → Prop} {x y : Int64} (hd : decode M.2.1 pc = .ok (.land, 1)) (hp : pc + 1 = pc2) (k : Fr E M d pc2 ls (.long (x &&& y) :: st) h Q) : Fr E M d pc ls (.long y :: .long x :: st) h Q := by
  subst hp
  exact Fr.pure (fun C _ _ _ k => lv_land C.1 C.2.1 hd k) k
theorem r_lor {E : EnvT} {M : MD} {d pc pc2 : Nat} {ls st : List Value} {h : Hp} {Q : Option Value → Hp → Prop} {x y : Int64} (hd : decode M.2.1 pc = .ok (.lor, 1)) (hp : pc + 1 = pc2) (k : Fr E M d pc2 ls (.long (x ||| y) :: st) h Q) : Fr E M d pc ls (.long y :: .long x :: st) h Q := by
  subst hp
  exact Fr.pure (fun C _ _ _ k => lv_lor C.1 C.2.1 hd k) k
theorem r_lxor {E : EnvT} {M : MD} {d pc pc2 : Nat} {ls st : List Value} {h : Hp} {Q : Option Value → Hp → Prop} {x y : Int64} (hd : decode M.2.1 pc = .ok (.lxor, 1)) (hp : pc + 1 = pc2) (k : Fr E M d pc2 ls (.long (x ^^^ y) :: st) h Q) : Fr E M d pc ls (.long y :: .long x :: st) h Q := by
  subst hp
  exact Fr.pure (fun C _ _ _ k => lv_lxor C.1 C.2.1 hd k) k
theorem r_idiv {E : EnvT} {M : MD} {d pc pc2 : Nat} {ls st : List Value} {h : Hp} {Q : Option Value → Hp → Prop} {x y : Int32} (hd : decode M.2.1 pc = .ok (.idiv, 1)) (hne : ¬ y = 0) (hp : pc + 1 = pc2) (k : Fr E M d pc2 ls (.int (x / y) :: st) h Q) : Fr E M d pc ls (.int y :: .int x :: st) h Q := by
  subst hp
  exact Fr.pure (fun C _ _ _ k => lv_idiv C.1 C.2.1 hd hne k) k
theorem r_irem {E : EnvT} {M : MD} {d pc pc2 : Nat} {ls st : List Value} {h : Hp} {Q : Option Value → Hp → Prop} {x y : Int32} (hd : decode M.2.1 pc = .ok (.irem, 1)) (hne : ¬ y = 0) (hp : pc + 1 = pc2) (k : Fr E M d pc2 ls (.int (x - x / y * y) :: st) h Q) : Fr E M d pc ls (.int y :: .int x :: st) h Q := by
  subst hp
  exact Fr.pure (fun C _ _ _ k => lv_irem C.1 C.2.1 hd hne k) k
theorem r_ldiv {E : EnvT} {M : MD} {d pc pc2 : Nat} {ls st : List Value} {h : Hp} {Q : Option Value → Hp → Prop} {x y : Int64} (hd : decode M.2.1 pc = .ok (.ldiv, 1)) (hne : ¬ y = 0) (hp : pc + 1 = pc2) (k : Fr E M d pc2 ls (.long (x / y) :: st) h Q) : Fr E M d pc ls (.long y :: .long x :: st) h Q := by
  subst hp
  exact Fr.pure (fun C _ _ _ k => lv_ldiv C.1 C.2.1 hd hne k) k
theorem r_lrem {E : EnvT} {M : MD} {d pc pc2 : Nat} {ls st : List Value} {h : Hp} {Q : Option Value → Hp → Prop} {x y : Int64} (hd : decode M.2.1 pc = .ok (.lrem, 1)) (hne : ¬ y = 0) (hp : pc + 1 = pc2) (k : Fr E M d pc2 ls (.long (x - x / y * y) :: st) h Q) : Fr E M d pc ls (.long y :: .long x :: st) h Q := by
  subst hp
  exact Fr.pure (fun C _ _ _ k => lv_lrem C.1 C.2.1 hd hne k) k
theorem r_ineg {E : EnvT} {M : MD} {d pc pc2 : Nat} {ls st : List Value} {h : Hp} {Q : Option Value → Hp → Prop} {x : Int32} (hd : decode M.2.1 pc = .ok (.ineg, 1)) (hp : pc + 1 = pc2) (k : Fr E M d pc2 ls (.int (-x) :: st) h Q) : Fr E M d pc ls (.int x :: st) h Q := by
  subst hp
  exact Fr.pure (fun C _ _ _ k => lv_ineg C.1 C.2.1 hd k) k
theorem r_iushr {E : EnvT} {M : MD} {d pc pc2 : Nat} {ls st : List Value} {h : Hp} {Q : Option Value → Hp → Prop} {x y : Int32} (hd : decode M.2.1 pc = .ok (.iushr, 1)) (hp : pc + 1 = pc2) (k : Fr E M d pc2 ls (.int ((x.toUInt32 >>> (y.toUInt32 &&& Int32.toUInt32 31)).toInt32) :: st) h Q) : Fr E M d pc ls (.int y :: .int x :: st) h Q := by
  subst hp
  exact Fr.pure (fun C _ _ _ k => lv_iushr C.1 C.2.1 hd rfl k) k
theorem r_lshl {E : EnvT} {M : MD} {d pc pc2 : Nat} {ls st : List Value} {h : Hp} {Q : Option Value → Hp → Prop} {x : Int64} {y : Int32} (hd : decode M.2.1 pc = .ok (.lshl, 1)) (hp : pc + 1 = pc2) (k : Fr E M d pc2 ls (.long (x <<< (y.toInt64 &&& 63)) :: st) h Q) : Fr E M d pc ls (.int y :: .long x :: st) h Q := by
  subst hp
  exact Fr.pure (fun C _ _ _ k => lv_lshl C.1 C.2.1 hd rfl k) k
theorem r_lshr {E : EnvT} {M : MD} {d pc pc2 : Nat} {ls st : List Value} {h : Hp} {Q : Option Value → Hp → Prop} {x : Int64} {y : Int32} (hd : decode M.2.1 pc = .ok (.lshr, 1)) (hp : pc + 1 = pc2) (k : Fr E M d pc2 ls (.long (x >>> (y.toInt64 &&& 63)) :: st) h Q) : Fr E M d pc ls (.int y :: .long x :: st) h Q := by
  subst hp
  exact Fr.pure (fun C _ _ _ k => lv_lshr C.1 C.2.1 hd rfl k) k
theorem r_lushr {E : EnvT} {M : MD} {d pc pc2 : Nat} {ls st : List Value} {h : Hp} {Q : Option Value → Hp → Prop} {x : Int64} {y : Int32} (hd : decode M.2.1 pc = .ok (.lushr, 1)) (hp : pc + 1 = pc2) (k : Fr E M d pc2 ls (.long ((x.toUInt64 >>> (y.toInt64.toUInt64 &&& Int64.toUInt64 63)).toInt64) :: st) h Q) : Fr E M d pc ls (.int y :: .long x :: st) h Q := by
  subst hp
  exact Fr.pure (fun C _ _ _ k => lv_lushr C.1 C.2.1 hd rfl k) k
theorem r_i2l {E : EnvT} {M : MD} {d pc pc2 : Nat} {ls st : List Value} {h : Hp} {Q : Option Value → Hp → Prop} {x : Int32} (hd : decode M.2.1 pc = .ok (.i2l, 1)) (hp : pc + 1 = pc2) (k : Fr E M d pc2 ls (.long x.toInt64 :: st) h Q) : Fr E M d pc ls (.int x :: st) h Q := by
  subst hp
  exact Fr.pure (fun C _ _ _ k => lv_i2l C.1 C.2.1 hd rfl k) k
theorem r_l2i {E : EnvT} {M : MD} {d pc pc2 : Nat} {ls st : List Value} {h : Hp} {Q : Option Value → Hp → Prop} {x : Int64} (hd : decode M.2.1 pc = .ok (.l2i, 1)) (hp : pc + 1 = pc2) (k : Fr E M d pc2 ls (.int x.toInt32 :: st) h Q) : Fr E M d pc ls (.long x :: st) h Q := by
  subst hp
  exact Fr.pure (fun C _ _ _ k => lv_l2i C.1 C.2.1 hd rfl k) k
theorem r_i2b {E : EnvT} {M : MD} {d pc pc2 : Nat} {ls st : List Value} {h : Hp} {Q : Option Value → Hp → Prop} {x : Int32} (hd : decode M.2.1 pc = .ok (.i2b, 1)) (hp : pc + 1 = pc2) (k : Fr E M d pc2 ls (.int x.toInt8.toInt32 :: st) h Q) : Fr E M d pc ls (.int x :: st) h Q := by
  subst hp
  exact Fr.pure (fun C _ _ _ k => lv_i2b C.1 C.2.1 hd rfl k) k
theorem r_i2s {E : EnvT} {M : MD} {d pc pc2 : Nat} {ls st : List Value} {h : Hp} {Q : Option Value → Hp → Prop} {x : Int32} (hd : decode M.2.1 pc = .ok (.i2s, 1)) (hp : pc + 1 = pc2) (k : Fr E M d pc2 ls (.int x.toInt16.toInt32 :: st) h Q) : Fr E M d pc ls (.int x :: st) h Q := by
  subst hp
  exact Fr.pure (fun C _ _ _ k => lv_i2s C.1 C.2.1 hd rfl k) k
theorem r_i2c {E : EnvT} {M : MD} {d pc pc2 : Nat} {ls st : List Value} {h : Hp} {Q : Option Value → Hp → Prop} {x : Int32} (hd : decode M.2.1 pc = .ok (.i2c, 1)) (hp : pc + 1 = pc2) (k : Fr E M d pc2 ls (.int (x.toUInt32 % 65536).toInt32 :: st) h Q) : Fr E M d pc ls (.int x :: st) h Q := by
  subst hp
  exact Fr.pure (fun C _ _ _ k => lv_i2c C.1 C.2.1 hd rfl k) k
theorem r_lcmp {E : EnvT} {M : MD} {d pc pc2 : Nat} {ls st : List Value} {h : Hp} {Q : Option Value → Hp → Prop} {x y : Int64} (hd : decode M.2.1 pc = .ok (.lcmp, 1)) (hp : pc + 1 = pc2) (k : Fr E M d pc2 ls (.int (lg_cmp x y) :: st) h Q) : Fr E M d pc ls (.long y :: .long x :: st) h Q := by
  subst hp
  exact Fr.pure (fun C _ _ _ k => W.lcmp C.1 C.2.1 hd k) k
theorem r_null {E : EnvT} {M : MD} {d pc pc2 : Nat} {ls st : List Value} {h : Hp} {Q : Option Value → Hp → Prop}  (hd : decode M.2.1 pc = .ok (.aconst_null, 1)) (hp : pc + 1 = pc2) (k : Fr E M d pc2 ls (.null :: st) h Q) : Fr E M d pc ls (st) h Q := by
  subst hp
  exact Fr.pure (fun C _ _ _ k => lv_null C.1 C.2.1 hd k) k
theorem r_dup {E : EnvT} {M : MD} {d pc pc2 : Nat} {ls st : List Value} {h : Hp} {Q : Option Value → Hp → Prop} {v : Value} (hd : decode M.2.1 pc = .ok (.dup, 1)) (hv : v.category = 1) (hp : pc + 1 = pc2) (k : Fr E M d pc2 ls (v :: v :: st) h Q) : Fr E M d pc ls (v :: st) h Q := by
  subst hp
  exact Fr.pure (fun C _ _ _ k => lv_dup C.1 C.2.1 hd ((tV_cat C.fm v).trans hv) k) k
theorem r_pop {E : EnvT} {M : MD} {d pc pc2 : Nat} {ls st : List Value} {h : Hp} {Q : Option Value → Hp → Prop} {v : Value} (hd : decode M.2.1 pc = .ok (.pop, 1)) (hv : v.category = 1) (hp : pc + 1 = pc2) (k : Fr E M d pc2 ls (st) h Q) : Fr E M d pc ls (v :: st) h Q := by
  subst hp
  exact Fr.pure (fun C _ _ _ k => lv_pop C.1 C.2.1 hd ((tV_cat C.fm v).trans hv) k) k
theorem r_dup2 {E : EnvT} {M : MD} {d pc pc2 : Nat} {ls st : List Value} {h : Hp} {Q : Option Value → Hp → Prop} {v w : Value} (hd : decode M.2.1 pc = .ok (.dup2, 1)) (hv : v.category = 1) (hw : w.category = 1) (hp : pc + 1 = pc2) (k : Fr E M d pc2 ls (v :: w :: v :: w :: st) h Q) : Fr E M d pc ls (v :: w :: st) h Q := by
  subst hp
  exact Fr.pure (fun C _ _ _ k => lv_dup2_11 C.1 C.2.1 hd ((tV_cat C.fm v).trans hv) ((tV_cat C.fm w).trans hw) k) k
theorem r_dup2L {E : EnvT} {M : MD} {d pc pc2 : Nat} {ls st : List Value} {h : Hp} {Q : Option Value → Hp → Prop} {v : Value} (hd : decode M.2.1 pc = .ok (.dup2, 1)) (hv : v.category = 2) (hp : pc + 1 = pc2) (k : Fr E M d pc2 ls (v :: v :: st) h Q) : Fr E M d pc ls (v :: st) h Q := by
  subst hp
  exact Fr.pure (fun C _ _ _ k => lv_dup2_2 C.1 C.2.1 hd ((tV_cat C.fm v).trans hv) k) k
theorem r_goto {E : EnvT} {M : MD} {d pc pc2 : Nat} {ls st : List Value} {h : Hp} {Q : Option Value → Hp → Prop} {off : Int} (hd : decode M.2.1 pc = .ok (.goto off, 3)) (ht : (pc : Int) + off = (pc2 : Int)) (k : Fr E M d pc2 ls st h Q) : Fr E M d pc ls st h Q :=
  Fr.pure (fun C _ _ _ k => lv_goto C.1 C.2.1 hd ht k) k
theorem r_if_eq {E : EnvT} {M : MD} {d pc pc2 tgt : Nat} {ls st : List Value} {h : Hp} {Q : Option Value → Hp → Prop} {off : Int} {x : Int32} (hd : decode M.2.1 pc = .ok (.ifCond .eq off, 3)) (ht : (pc : Int) + off = (tgt : Int)) (hp : pc + 3 = pc2) (kt : x = 0 → Fr E M d tgt ls st h Q) (kf : ¬ x = 0 → Fr E M d pc2 ls st h Q) : Fr E M d pc ls (.int x :: st) h Q := by
  subst hp
  by_cases hx : x = 0
  · exact Fr.pure (fun C _ _ _ k => lv_if_eq C.1 C.2.1 hd ht (fun _ => k) (fun q => absurd hx q)) (kt hx)
  · exact Fr.pure (fun C _ _ _ k => lv_if_eq C.1 C.2.1 hd ht (fun q => absurd q hx) (fun _ => k)) (kf hx)
theorem r_icmp_eq {E : EnvT} {M : MD} {d pc pc2 tgt : Nat} {ls st : List Value} {h : Hp} {Q : Option Value → Hp → Prop} {off : Int} {x y : Int32} (hd : decode M.2.1 pc = .ok (.if_icmp .eq off, 3)) (ht : (pc : Int) + off = (tgt : Int)) (hp : pc + 3 = pc2) (kt : x = y → Fr E M d tgt ls st h Q) (kf : ¬ x = y → Fr E M d pc2 ls st h Q) : Fr E M d pc ls (.int y :: .int x :: st) h Q := by
  subst hp
  by_cases hx : x = y
  · exact Fr.pure (fun C _ _ _ k => lv_icmp_eq C.1 C.2.1 hd ht (fun _ => k) (fun q => absurd hx q)) (kt hx)
  · exact Fr.pure (fun C _ _ _ k => lv_icmp_eq C.1 C.2.1 hd ht (fun q => absurd q hx) (fun _ => k)) (kf hx)
theorem r_if_ne {E : EnvT} {M : MD} {d pc pc2 tgt : Nat} {ls st : List Value} {h : Hp} {Q : Option Value → Hp → Prop} {off : Int} {x : Int32} (hd : decode M.2.1 pc = .ok (.ifCond .ne off, 3)) (ht : (pc : Int) + off = (tgt : Int)) (hp : pc + 3 = pc2) (kt : ¬ x = 0 → Fr E M d tgt ls st h Q) (kf : x = 0 → Fr E M d pc2 ls st h Q) : Fr E M d pc ls (.int x :: st) h Q := by
  subst hp
  by_cases hx : x = 0
  · exact Fr.pure (fun C _ _ _ k => lv_if_ne C.1 C.2.1 hd ht (fun q => absurd hx q) (fun _ => k)) (kf hx)
  · exact Fr.pure (fun C _ _ _ k => lv_if_ne C.1 C.2.1 hd ht (fun _ => k) (fun q => absurd q hx)) (kt hx)
theorem r_icmp_ne {E : EnvT} {M : MD} {d pc pc2 tgt : Nat} {ls st : List Value} {h : Hp} {Q : Option Value → Hp → Prop} {off : Int} {x y : Int32} (hd : decode M.2.1 pc = .ok (.if_icmp .ne off, 3)) (ht : (pc : Int) + off = (tgt : Int)) (hp : pc + 3 = pc2) (kt : ¬ x = y → Fr E M d tgt ls st h Q) (kf : x = y → Fr E M d pc2 ls st h Q) : Fr E M d pc ls (.int y :: .int x :: st) h Q := by
  subst hp
  by_cases hx : x = y
  · exact Fr.pure (fun C _ _ _ k => lv_icmp_ne C.1 C.2.1 hd ht (fun q => absurd hx q) (fun _ => k)) (kf hx)
  · exact Fr.pure (fun C _ _ _ k => lv_icmp_ne C.1 C.2.1 hd ht (fun _ => k) (fun q => absurd q hx)) (kt hx)
theorem r_if_lt {E : EnvT} {M : MD} {d pc pc2 tgt : Nat} {ls st : List Value} {h : Hp} {Q : Option Value → Hp → Prop} {off : Int} {x : Int32} (hd : decode M.2.1 pc = .ok (.ifCond .lt off, 3)) (ht : (pc : Int) + off = (tgt : Int)) (hp : pc + 3 = pc2) (kt : x < 0 → Fr E M d tgt ls st h Q) (kf : ¬ x < 0 → Fr E M d pc2 ls st h Q) : Fr E M d pc ls (.int x :: st) h Q := by
  subst hp
  by_cases hx : x < 0
  · exact Fr.pure (fun C _ _ _ k => lv_if_lt C.1 C.2.1 hd ht (fun _ => k) (fun q => absurd hx q)) (kt hx)
  · exact Fr.pure (fun C _ _ _ k => lv_if_lt C.1 C.2.1 hd ht (fun q => absurd q hx) (fun _ => k)) (kf hx)
theorem r_icmp_lt {E : EnvT} {M : MD} {d pc pc2 tgt : Nat} {ls st : List Value} {h : Hp} {Q : Option Value → Hp → Prop} {off : Int} {x y : Int32} (hd : decode M.2.1 pc = .ok (.if_icmp .lt off, 3)) (ht : (pc : Int) + off = (tgt : Int)) (hp : pc + 3 = pc2) (kt : x < y → Fr E M d tgt ls st h Q) (kf : ¬ x < y → Fr E M d pc2 ls st h Q) : Fr E M d pc ls (.int y :: .int x :: st) h Q := by
  subst hp
  by_cases hx : x < y
  · exact Fr.pure (fun C _ _ _ k => lv_icmp_lt C.1 C.2.1 hd ht (fun _ => k) (fun q => absurd hx q)) (kt hx)
  · exact Fr.pure (fun C _ _ _ k => lv_icmp_lt C.1 C.2.1 hd ht (fun q => absurd q hx) (fun _ => k)) (kf hx)
theorem r_if_ge {E : EnvT} {M : MD} {d pc pc2 tgt : Nat} {ls st : List Value} {h : Hp} {Q : Option Value → Hp → Prop} {off : Int} {x : Int32} (hd : decode M.2.1 pc = .ok (.ifCond .ge off, 3)) (ht : (pc : Int) + off = (tgt : Int)) (hp : pc + 3 = pc2) (kt : 0 ≤ x → Fr E M d tgt ls st h Q) (kf : ¬ 0 ≤ x → Fr E M d pc2 ls st h Q) : Fr E M d pc ls (.int x :: st) h Q := by
  subst hp
  by_cases hx : 0 ≤ x
  · exact Fr.pure (fun C _ _ _ k => lv_if_ge C.1 C.2.1 hd ht (fun _ => k) (fun q => absurd hx q)) (kt hx)
  · exact Fr.pure (fun C _ _ _ k => lv_if_ge C.1 C.2.1 hd ht (fun q => absurd q hx) (fun _ => k)) (kf hx)
theorem r_icmp_ge {E : EnvT} {M : MD} {d pc pc2 tgt : Nat} {ls st : List Value} {h : Hp} {Q : Option Value → Hp → Prop} {off : Int} {x y : Int32} (hd : decode M.2.1 pc = .ok (.if_icmp .ge off, 3)) (ht : (pc : Int) + off = (tgt : Int)) (hp : pc + 3 = pc2) (kt : y ≤ x → Fr E M d tgt ls st h Q) (kf : ¬ y ≤ x → Fr E M d pc2 ls st h Q) : Fr E M d pc ls (.int y :: .int x :: st) h Q := by
  subst hp
  by_cases hx : y ≤ x
  · exact Fr.pure (fun C _ _ _ k => lv_icmp_ge C.1 C.2.1 hd ht (fun _ => k) (fun q => absurd hx q)) (kt hx)
  · exact Fr.pure (fun C _ _ _ k => lv_icmp_ge C.1 C.2.1 hd ht (fun q => absurd q hx) (fun _ => k)) (kf hx)
theorem r_if_gt {E : EnvT} {M : MD} {d pc pc2 tgt : Nat} {ls st : List Value} {h : Hp} {Q : Option Value → Hp → Prop} {off : Int} {x : Int32} (hd : decode M.2.1 pc = .ok (.ifCond .gt off, 3)) (ht : (pc : Int) + off = (tgt : Int)) (hp : pc + 3 = pc2) (kt : 0 < x → Fr E M d tgt ls st h Q) (kf : ¬ 0 < x → Fr E M d pc2 ls st h Q) : Fr E M d pc ls (.int x :: st) h Q := by
  subst hp
  by_cases hx : 0 < x
  · exact Fr.pure (fun C _ _ _ k => lv_if_gt C.1 C.2.1 hd ht (fun _ => k) (fun q => absurd hx q)) (kt hx)
  · exact Fr.pure (fun C _ _ _ k => lv_if_gt C.1 C.2.1 hd ht (fun q => absurd q hx) (fun _ => k)) (kf hx)
theorem r_icmp_gt {E : EnvT} {M : MD} {d pc pc2 tgt : Nat} {ls st : List Value} {h : Hp} {Q : Option Value → Hp → Prop} {off : Int} {x y : Int32} (hd : decode M.2.1 pc = .ok (.if_icmp .gt off, 3)) (ht : (pc : Int) + off = (tgt : Int)) (hp : pc + 3 = pc2) (kt : y < x → Fr E M d tgt ls st h Q) (kf : ¬ y < x → Fr E M d pc2 ls st h Q) : Fr E M d pc ls (.int y :: .int x :: st) h Q := by
  subst hp
  by_cases hx : y < x
  · exact Fr.pure (fun C _ _ _ k => lv_icmp_gt C.1 C.2.1 hd ht (fun _ => k) (fun q => absurd hx q)) (kt hx)
  · exact Fr.pure (fun C _ _ _ k => lv_icmp_gt C.1 C.2.1 hd ht (fun q => absurd q hx) (fun _ => k)) (kf hx)
theorem r_if_le {E : EnvT} {M : MD} {d pc pc2 tgt : Nat} {ls st : List Value} {h : Hp} {Q : Option Value → Hp → Prop} {off : Int} {x : Int32} (hd : decode M.2.1 pc = .ok (.ifCond .le off, 3)) (ht : (pc : Int) + off = (tgt : Int)) (hp : pc + 3 = pc2) (kt : x ≤ 0 → Fr E M d tgt ls st h Q) (kf : ¬ x ≤ 0 → Fr E M d pc2 ls st h Q) : Fr E M d pc ls (.int x :: st) h Q := by
  subst hp
  by_cases hx : x ≤ 0
  · exact Fr.pure (fun C _ _ _ k => lv_if_le C.1 C.2.1 hd ht (fun _ => k) (fun q => absurd hx q)) (kt hx)
  · exact Fr.pure (fun C _ _ _ k => lv_if_le C.1 C.2.1 hd ht (fun q => absurd q hx) (fun _ => k)) (kf hx)
theorem r_icmp_le {E : EnvT} {M : MD} {d pc pc2 tgt : Nat} {ls st : List Value} {h : Hp} {Q : Option Value → Hp → Prop} {off : Int} {x y : Int32} (hd : decode M.2.1 pc = .ok (.if_icmp .le off, 3)) (ht : (pc : Int) + off = (tgt : Int)) (hp : pc + 3 = pc2) (kt : x ≤ y → Fr E M d tgt ls st h Q) (kf : ¬ x ≤ y → Fr E M d pc2 ls st h Q) : Fr E M d pc ls (.int y :: .int x :: st) h Q := by
  subst hp
  by_cases hx : x ≤ y
  · exact Fr.pure (fun C _ _ _ k => lv_icmp_le C.1 C.2.1 hd ht (fun _ => k) (fun q => absurd hx q)) (kt hx)
  · exact Fr.pure (fun C _ _ _ k => lv_icmp_le C.1 C.2.1 hd ht (fun q => absurd q hx) (fun _ => k)) (kf hx)
theorem r_tsw {E : EnvT} {M : MD} {d pc pc2 tgt : Nat} {ls st : List Value} {h : Hp} {Q : Option Value → Hp → Prop} {dflt lo hi off : Int} {offs : Array Int} {len : Nat} {x : Int32} (hd : decode M.2.1 pc = .ok (.tableswitch dflt lo hi offs, len)) (h1 : ¬ x.toInt < lo) (h2 : ¬ hi < x.toInt) (ho : offs[(x.toInt - lo).toNat]? = some off) (ht : (pc : Int) + off = (tgt : Int)) (k : Fr E M d tgt ls st h Q) : Fr E M d pc ls (.int x :: st) h Q :=
  Fr.pure (fun C _ _ _ k => lv_tableIn C.1 C.2.1 hd h1 h2 ho ht k) k
theorem r_tswD {E : EnvT} {M : MD} {d pc pc2 tgt : Nat} {ls st : List Value} {h : Hp} {Q : Option Value → Hp → Prop} {dflt lo hi : Int} {offs : Array Int} {len : Nat} {x : Int32} (hd : decode M.2.1 pc = .ok (.tableswitch dflt lo hi offs, len)) (h1 : x.toInt < lo ∨ hi < x.toInt) (ht : (pc : Int) + dflt = (tgt : Int)) (k : Fr E M d tgt ls st h Q) : Fr E M d pc ls (.int x :: st) h Q :=
  Fr.pure (fun C _ _ _ k => lv_tableOut C.1 C.2.1 hd h1 ht k) k
theorem r_lsw {E : EnvT} {M : MD} {d pc pc2 tgt : Nat} {ls st : List Value} {h : Hp} {Q : Option Value → Hp → Prop} {dflt off : Int} {ps : Array (Int × Int)} {len : Nat} {x : Int32} (hd : decode M.2.1 pc = .ok (.lookupswitch dflt ps, len)) (hq : (ps.toList.zip (ps.toList.drop 1)).all (fun (a, next) => a.1 < next.1) = true) (ho : Op.lookupswitch.offset ps.toList dflt x.toInt = off) (ht : (pc : Int) + off = (tgt : Int)) (k : Fr E M d tgt ls st h Q) : Fr E M d pc ls (.int x :: st) h Q :=
  Fr.pure (fun C _ _ _ k => lv_lookup C.1 C.2.1 hd hq ho ht k) k
theorem r_iload_n {E : EnvT} {M : MD} {d pc pc2 : Nat} {ls st : List Value} {h : Hp} {Q : Option Value → Hp → Prop} {q : Fin 4} {x : Int32} (i : Nat) (hd : decode M.2.1 pc = .ok (.iload_n q, 1)) (hi : (q : Nat) = i) (hl : ls[i]? = some (.int x)) (hp : pc + 1 = pc2) (k : Fr E M d pc2 ls (.int x :: st) h Q) : Fr E M d pc ls st h Q := by
  subst hp
  exact Fr.pure (fun C L _ _ k => lv_iload_n C.1 C.2.1 hd hi (L.at hl rfl) k) k
theorem r_iload {E : EnvT} {M : MD} {d pc pc2 : Nat} {ls st : List Value} {h : Hp} {Q : Option Value → Hp → Prop} {x : Int32} (i : Nat) (hd : decode M.2.1 pc = .ok (.iload i, 2)) (hl : ls[i]? = some (.int x)) (hp : pc + 2 = pc2) (k : Fr E M d pc2 ls (.int x :: st) h Q) : Fr E M d pc ls st h Q := by
  subst hp
  exact Fr.pure (fun C L _ _ k => lv_iload C.1 C.2.1 hd (L.at hl rfl) k) k
theorem r_lload_n {E : EnvT} {M : MD} {d pc pc2 : Nat} {ls st : List Value} {h : Hp} {Q : Option Value → Hp → Prop} {q : Fin 4} {x : Int64} (i : Nat) (hd : decode M.2.1 pc = .ok (.lload_n q, 1)) (hi : (q : Nat) = i) (hl : ls[i]? = some (.long x)) (hp : pc + 1 = pc2) (k : Fr E M d pc2 ls (.long x :: st) h Q) : Fr E M d pc ls st h Q := by
  subst hp
  exact Fr.pure (fun C L _ _ k => lv_lload_n C.1 C.2.1 hd hi (L.at hl rfl) k) k
theorem r_lload {E : EnvT} {M : MD} {d pc pc2 : Nat} {ls st : List Value} {h : Hp} {Q : Option Value → Hp → Prop} {x : Int64} (i : Nat) (hd : decode M.2.1 pc = .ok (.lload i, 2)) (hl : ls[i]? = some (.long x)) (hp : pc + 2 = pc2) (k : Fr E M d pc2 ls (.long x :: st) h Q) : Fr E M d pc ls st h Q := by
  subst hp
  exact Fr.pure (fun C L _ _ k => lv_lload C.1 C.2.1 hd (L.at hl rfl) k) k
