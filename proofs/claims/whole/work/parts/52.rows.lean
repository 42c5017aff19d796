/-! rows -/
def sC (f : Nat → Nat) : Nat → Nat
  | 0 => 0
  | k + 1 => sC f k + f k
/-- how many rows of n hours lead from s to a stand in which the set is by -/
def cB (a : Nat → Nat) (st : Nat) : Nat → Nat → Nat
  | 0, s => if byB a st s then 1 else 0
  | n + 1, s => sC (fun c => if okS a s c then cB a st n (nxS a s c) else 0) 16
abbrev rowC (a : Nat → Nat) (y n : Int32) : Prop := vS (a 3) y.toInt64 ∧ inR 0 8 n
def rowsF (a : Nat → Nat) (y n : Int32) : Int64 := if rowC a y n then lN (cB a y.toNatClampNeg n.toNatClampNeg (packS a)) else -3
abbrev lA (m : Nat → Nat) : Nat → Int64 := fun k => lN (m k)
theorem upd_lA (m : Nat → Nat) (j y : Nat) : vp_updL (lA m) j (lN y) = lA (va_up m j y) := by
  funext k; unfold vp_updL lA va_up
  split <;> rfl
theorem i64_lN (y : Int64) : y = lN y.toBitVec.toNat := by
  apply Int64.toBitVec_inj.mp
  show _ = BitVec.ofNat 64 _
  rw [BitVec.ofNat_toNat, BitVec.setWidth_eq]
theorem lA_of (f : Nat → Int64) : f = lA (fun k => (f k).toBitVec.toNat) := funext fun k => i64_lN (f k)
theorem sumQ_app (f : Nat → Nat) : ∀ (A B : List Nat), sumQ f (A ++ B) = sumQ f A + sumQ f B
  | [], B => (Nat.zero_add _).symm
  | x :: A, B => by show f x + sumQ f (A ++ B) = f x + sumQ f A + sumQ f B; rw [sumQ_app f A B]; omega
theorem sumQ_take {f : Nat → Nat} {Q : List Nat} {k : Nat} (h : k < Q.length) : sumQ f (Q.take (k + 1)) = sumQ f (Q.take k) + f (Q.getD k 0) := by
  rw [List.take_succ_eq_append_getElem h, sumQ_app, gd_get h]; rfl
theorem sumQ_congr {f g : Nat → Nat} : ∀ {Q : List Nat}, (∀ s ∈ Q, f s = g s) → sumQ f Q = sumQ g Q
  | [], _ => rfl
  | x :: Q, h => by
    show f x + _ = g x + _
    rw [h x List.mem_cons_self, sumQ_congr (fun s hs => h s (List.mem_cons_of_mem _ hs))]
theorem sumQ_add {f g : Nat → Nat} {t d : Nat} (h1 : ∀ s, s ≠ t → f s = g s) (h2 : f t = g t + d) : ∀ {Q : List Nat}, Q.Nodup → t ∈ Q → sumQ f Q = sumQ g Q + d
  | [], _, h => by cases h
  | x :: Q, hd, h => by
    obtain ⟨h3, h4⟩ := List.nodup_cons.mp hd
    show f x + sumQ f Q = g x + sumQ g Q + d
    rcases List.mem_cons.mp h with rfl | hm
    · rw [h2, sumQ_congr (f := f) (g := g) (fun s hs => h1 s (fun e => h3 (e ▸ hs)))]; omega
    · rw [h1 x (fun e => h3 (e ▸ hm)), sumQ_add h1 h2 h4 hm]; omega
theorem sumQ_mem {f : Nat → Nat} : ∀ {Q : List Nat} {s : Nat}, s ∈ Q → f s ≤ sumQ f Q
  | x :: Q, s, h => by
    show f s ≤ f x + sumQ f Q
    rcases List.mem_cons.mp h with rfl | hm
    · omega
    · have := sumQ_mem (f := f) hm; omega
theorem sumQ_0 {f : Nat → Nat} : ∀ {Q : List Nat}, (∀ s ∈ Q, f s = 0) → sumQ f Q = 0
  | [], _ => rfl
  | x :: Q, h => by show f x + sumQ f Q = 0; rw [h x List.mem_cons_self, sumQ_0 (fun s hs => h s (List.mem_cons_of_mem _ hs))]
theorem sC_le0 {f : Nat → Nat} : ∀ k, (∀ c, c < k → f c = 0) → sC f k = 0
  | 0, _ => rfl
  | k + 1, h => by unfold sC; rw [sC_le0 k (fun c hc => h c (by omega)), h k (by omega)]
theorem take_all {f : Nat → Nat} {Q : List Nat} : sumQ f (Q.take Q.length) = sumQ f Q := by rw [List.take_length]
/-- within an hour: what was moved from the first k stands, and from the next by the first c sets -/
def RI (a : Nat → Nat) (st j : Nat) (Q : List Nat) (mx my : Nat → Nat) (k c : Nat) : Prop := sumQ (fun s => my s * cB a st j s) Q = sumQ (fun s => mx s * cB a st (j + 1) s) (Q.take k) + mx (Q.getD k 0) * sC (fun c => if okS a (Q.getD k 0) c then cB a st j (nxS a (Q.getD k 0) c) else 0) c ∧ sumQ my Q ≤ 16 * sumQ mx (Q.take k) + c * mx (Q.getD k 0)
theorem RI.no {a : Nat → Nat} {st j : Nat} {Q : List Nat} {mx my : Nat → Nat} {k c : Nat} (h : RI a st j Q mx my k c) (ho : ¬ okS a (Q.getD k 0) c) : RI a st j Q mx my k (c + 1) := by
  refine ⟨?_, Nat.le_trans h.2 (by have e9 : (c + 1) * mx (Q.getD k 0) = c * mx (Q.getD k 0) + mx (Q.getD k 0) := Nat.succ_mul c _; omega)⟩
  rw [h.1, sC, if_neg ho]; rfl
theorem RI.yes {a : Nat → Nat} {st j : Nat} {Q : List Nat} {mx my : Nat → Nat} {k c : Nat} (h : RI a st j Q mx my k c) (hnd : Q.Nodup) (ho : okS a (Q.getD k 0) c) (hm : nxS a (Q.getD k 0) c ∈ Q) : RI a st j Q mx (va_up my (nxS a (Q.getD k 0) c) (my (nxS a (Q.getD k 0) c) + mx (Q.getD k 0))) k (c + 1) := by
  refine ⟨?_, ?_⟩
  · rw [sC, if_pos ho, Nat.mul_add, ← Nat.add_assoc, ← h.1]
    refine sumQ_add (fun s hs => ?_) ?_ hnd hm
    · show va_up my _ _ s * _ = _; rw [va_up, if_neg hs]
    · show va_up my _ _ _ * _ = _; rw [va_up, if_pos rfl, Nat.add_mul]
  · have e : sumQ (va_up my (nxS a (Q.getD k 0) c) (my (nxS a (Q.getD k 0) c) + mx (Q.getD k 0))) Q = sumQ my Q + mx (Q.getD k 0) := sumQ_add (fun s hs => by rw [va_up, if_neg hs]) (by rw [va_up, if_pos rfl]) hnd hm
    rw [e]; have := h.2; have e9 : (c + 1) * mx (Q.getD k 0) = c * mx (Q.getD k 0) + mx (Q.getD k 0) := Nat.succ_mul c _; omega
theorem RI.K {a : Nat → Nat} {st j : Nat} {Q : List Nat} {mx my : Nat → Nat} {k : Nat} (h : RI a st j Q mx my k 16) (hk : k < Q.length) : RI a st j Q mx my (k + 1) 0 := by
  refine ⟨?_, ?_⟩
  · rw [h.1, sumQ_take hk]; rfl
  · rw [sumQ_take hk]; have := h.2; omega
theorem RI.K0 {a : Nat → Nat} {st j : Nat} {Q : List Nat} {mx my : Nat → Nat} {k c : Nat} (h : RI a st j Q mx my k c) (hk : k < Q.length) (h0 : mx (Q.getD k 0) = 0) : RI a st j Q mx my (k + 1) 0 := by
  refine ⟨?_, ?_⟩
  · rw [h.1, sumQ_take hk, h0]; simp only [Nat.zero_mul, h0]; rfl
  · rw [sumQ_take hk, h0]; have := h.2; rw [h0] at this; omega
/-- swapped up to k -/
def SWI (Q : List Nat) (mz mx my : Nat → Nat) (k : Nat) : Prop := (∀ i, i < k → mx (Q.getD i 0) = mz (Q.getD i 0) ∧ my (Q.getD i 0) = 0) ∧ ∀ i, k ≤ i → i < Q.length → my (Q.getD i 0) = mz (Q.getD i 0)
theorem SWI.s {Q : List Nat} {mz mx my : Nat → Nat} {k : Nat} (h : SWI Q mz mx my k) (hnd : Q.Nodup) (hk : k < Q.length) : SWI Q mz (va_up mx (Q.getD k 0) (my (Q.getD k 0))) (va_up my (Q.getD k 0) 0) (k + 1) := by
  refine ⟨fun i hi => ?_, fun i h1 h2 => ?_⟩
  · by_cases e : i = k
    · subst e; rw [va_up, if_pos rfl, va_up, if_pos rfl]; exact ⟨h.2 i (Nat.le_refl _) hk, rfl⟩
    · have hne : Q.getD i 0 ≠ Q.getD k 0 := fun z => e (nd_inj hnd (by omega) hk z)
      rw [va_up, if_neg hne, va_up, if_neg hne]; exact h.1 i (by omega)
  · have hne : Q.getD i 0 ≠ Q.getD k 0 := fun z => by have := nd_inj hnd h2 hk z; omega
    rw [va_up, if_neg hne]; exact h.2 i (by omega) h2
def INI (Q : List Nat) (mx my : Nat → Nat) (k : Nat) : Prop := ∀ i, i < k → mx (Q.getD i 0) = (if i = 0 then 1 else 0) ∧ my (Q.getD i 0) = 0
theorem INI_s {Q : List Nat} {mx my : Nat → Nat} {k : Nat} (h : INI Q mx my k) (hnd : Q.Nodup) (hk : k < Q.length) : INI Q (va_up mx (Q.getD k 0) (if k = 0 then 1 else 0)) (va_up my (Q.getD k 0) 0) (k + 1) := by
  intro i hi
  by_cases e : i = k
  · subst e; rw [va_up, if_pos rfl, va_up, if_pos rfl]; exact ⟨rfl, rfl⟩
  · have hne : Q.getD i 0 ≠ Q.getD k 0 := fun z => e (nd_inj hnd (by omega) hk z)
    rw [va_up, if_neg hne, va_up, if_neg hne]; exact h i (by omega)
theorem INI_sum {Q : List Nat} {mx my W : Nat → Nat} (h : INI Q mx my Q.length) (hnd : Q.Nodup) (h0 : 0 < Q.length) : sumQ (fun s => mx s * W s) Q = W (Q.getD 0 0) := by
  have e : sumQ (fun s => mx s * W s) Q = sumQ (fun s => 0) Q + W (Q.getD 0 0) := by
    have e2 : sumQ (fun s => mx s * W s) Q = sumQ (fun s => if s = Q.getD 0 0 then W (Q.getD 0 0) else 0) Q := sumQ_congr (fun s hs => by
      obtain ⟨i, hi, rfl⟩ := mem_getD hs
      show mx _ * _ = _
      rw [(h i hi).1]
      by_cases c : i = 0
      · subst c; rw [if_pos rfl, if_pos rfl, Nat.one_mul]
      · rw [if_neg c, if_neg (fun z => c (nd_inj hnd hi h0 z)), Nat.zero_mul])
    rw [e2]
    exact sumQ_add (fun s hs => if_neg hs) (by rw [if_pos rfl]; omega) hnd (getD_mem h0)
  rw [e, sumQ_0 (fun _ _ => rfl), Nat.zero_add]
set_option maxRecDepth 20000 in
set_option maxHeartbeats 1000000 in
theorem ref_rows {E : EnvT} {d : Nat} {h0 : Hp} {v : Nat → Int32} {a : Nat → Nat} {hi : Nat → Int32} {tp : Nat → Nat} {rs rm : Nat → Int32} {nu : Nat → Int64} {y z : Int32} (hR : RS h0 v a hi tp rs rm nu) (hA : AIN a) (hd : 6 ≤ d) : Cn E mX10_rows d [.ref 117, .int y, .int z] h0 (RP (.long (rowsF a y z)) h0 v a hi tp rs rm nu) := by
  obtain ⟨k117, k118, k119, k120, ⟨f121, k121⟩, ⟨f122, k122⟩, ⟨f123, k123⟩, ⟨f124, k124⟩, ⟨f125, k125⟩, ⟨f126, k126⟩, ⟨f127, k127⟩, ⟨f128, k128⟩, ⟨f129, k129⟩, ⟨f130, k130⟩, ⟨f131, k131⟩, ⟨f132, k132⟩, ⟨f133, k133⟩, ⟨f134, k134⟩, ⟨f135, k135⟩, k136, k137, k138⟩ := hR
  obtain ⟨mx0, e129⟩ : ∃ z, f129 = lA z := ⟨_, lA_of f129⟩
  rw [e129] at k129
  obtain ⟨my0, e130⟩ : ∃ z, f130 = lA z := ⟨_, lA_of f130⟩
  rw [e130] at k130
  have c117 := k117
  have c118 := k118
  have c122 := k122
  have c123 := k123
  have c125 := k125
  have c126 := k126
  have c128 := k128
  have c129 := k129
  have c130 := k130
  have hx : Ex [117, 118, 122, 123, 125, 126, 128, 129, 130] h0 h0 := Ex.rf
  by_cases hv : vS (a 3) y.toInt64
  · by_cases hn8 : inR 0 8 z
    · have eR : rowsF a y z = lN (cB a y.toNatClampNeg z.toNatClampNeg (packS a)) := by rw [rowsF, if_pos ⟨hv, hn8⟩]
      rw [eR]
      obtain ⟨st, hst2, hst, rfl⟩ := vS_i hA.G hv
      obtain ⟨n, n0, n1, rfl⟩ := inR_of (by decide) (by decide) hn8
      rw [nI_clamp (by omega), nI_clamp (by omega)]
      refine Cn.go (ls := [.ref 117, .int (nI st), .int (nI n), .float 0, .float 0, .float 0, .float 0]) (by decide +kernel) rfl (Nat.le_of_ble_eq_true rfl) ?_
      refine r_aload_n (pc2 := 1) 0 dX10_rows_0 rfl rfl rfl rfl ?_
      refine r_iconst (pc2 := 2) (v := 0) dX10_rows_1 (by decide) rfl ?_
      refine r_putfX (pc2 := 5) (moL (upd v 0 0)) fX10_1 dX10_rows_2 c117 (by decide) (Nat.le_of_ble_eq_true rfl) rfl rfl rfl (fun h z2 o2 c117 => ?_)
      have c118 := (o2 118 (by decide)).trans c118
      have c122 := (o2 122 (by decide)).trans c122
      have c123 := (o2 123 (by decide)).trans c123
      have c125 := (o2 125 (by decide)).trans c125
      have c126 := (o2 126 (by decide)).trans c126
      have c128 := (o2 128 (by decide)).trans c128
      have c129 := (o2 129 (by decide)).trans c129
      have c130 := (o2 130 (by decide)).trans c130
      have hx := hx.step (a := 117) (by decide) z2 o2
      refine r_aload_n (pc2 := 6) 0 dX10_rows_5 rfl rfl rfl rfl ?_
      refine r_iload_n (pc2 := 7) 1 dX10_rows_6 rfl rfl rfl ?_
      refine r_i2l (pc2 := 8) dX10_rows_7 rfl ?_
      refine r_callV1 (pc2 := 11) (As := [.long (Int32.toInt64 (nI st))]) (st := []) kX10_259 rfl rfl dX10_rows_8 c117 (by decide) rfl rfl (Nat.le_of_ble_eq_true rfl) (by omega) (c_isSet c117 c118 hA.G (by omega)) rfl (fun h2 hq8 => ?_)
      subst hq8
      refine r_if_eq (tgt := 26) (pc2 := 14) dX10_rows_11 (by decide) rfl (fun b11 => ?_) (fun b11 => ?_)
      · exact absurd b11 (if1 hv)
      · skip
        refine r_iload_n (pc2 := 15) 2 dX10_rows_14 rfl rfl rfl ?_
        refine r_i2l (pc2 := 16) dX10_rows_15 rfl ?_
        refine r_lconst (pc2 := 17) (v := 0) dX10_rows_16 (by decide) rfl ?_
        refine r_ldc2 (pc2 := 20) (v := 8) qX10_367 dX10_rows_17 rfl ?_
        refine r_callS1 (pc2 := 23) (As := [.long (Int32.toInt64 (nI n)), .long 0, .long 8]) (st := []) kX10_152 dX10_rows_20 rfl rfl (Nat.le_of_ble_eq_true rfl) (by omega) (c_within (Int32.toInt64 (nI n)) 0 8) rfl (fun h2 hq20 => ?_)
        subst hq20
        refine r_if_ne (tgt := 30) (pc2 := 26) dX10_rows_23 (by decide) rfl (fun b23 => ?_) (fun b23 => ?_)
        · skip
          refine r_aload_n (pc2 := 31) 0 dX10_rows_30 rfl rfl rfl rfl ?_
          refine r_callV0 (pc2 := 34) (As := []) (st := []) kX10_351 rfl rfl dX10_rows_31 c117 (by decide) rfl rfl (Nat.le_of_ble_eq_true rfl) (by omega) (c_laysStands c117 c118 c122 c123 c125 c126 c128 hA (by omega)) rfl (fun h hq31 => ?_)
          obtain ⟨hxl, Q, g2, c117, ⟨f3, c125, hfQ⟩, c126, ⟨kn3, c128⟩, ⟨f4, c122⟩, ⟨w4, c123⟩, hnd, hmem, hgc, hq0⟩ := hq31
          have c118 := hxl.get (by decide) c118
          have c129 := hxl.get (by decide) c129
          have c130 := hxl.get (by decide) c130
          have hx := hx.trans hxl (by decide)
          refine r_iconst (pc2 := 35) (v := 0) dX10_rows_34 (by decide) rfl ?_
          refine r_istore_n (pc2 := 36) (ls2 := [.ref 117, .int (nI st), .int (nI n), .int 0, .float 0, .float 0, .float 0]) 3 dX10_rows_35 rfl (by decide) rfl rfl rfl ?_
          have hQ4 : ∀ s ∈ Q, s < 40960 := fun s hs => (((hmem s).mp hs).sg hA).1
          have hle : Q.length ≤ 40960 := nodup_le _ _ hnd hQ4
          have hq1 : 0 < Q.length := List.length_pos_of_mem ((hmem _).mpr Rch.now)
          have hx0 := hx
          have hours : ∀ (m hr : Nat) (mx my : Nat → Nat) (u4 u5 u6 : Value) (h1 : Hp), hr + m = n → sumQ (fun s => mx s * cB a st m s) Q = cB a st n (packS a) → sumQ mx Q ≤ 16 ^ hr → (∀ s ∈ Q, my s = 0) → Ex [117, 118, 122, 123, 125, 126, 128, 129, 130] h0 h1 → h1.1 117 = some (mO (upd (upd v 0 0) 25 (nI Q.length))) → h1.1 118 = some (aI 3531 (nA a)) → h1.1 122 = some (aI 900 f4) → h1.1 123 = some (aI 9 w4) → h1.1 125 = some (aI 40960 f3) → h1.1 126 = some (aI 655360 g2) → h1.1 128 = some (aZ 40960 kn3) → h1.1 129 = some (aL 40960 ((lA mx))) → h1.1 130 = some (aL 40960 ((lA my))) → Fr E mX10_rows d 84 [.ref 117, .int (nI st), .int (nI n), .int (nI hr), u4, u5, u6] [] h1 (RP (.long (lN (cB a st n (packS a)))) h0 v a hi tp rs rm nu) := by
            intro m
            induction m with
            | zero =>
              intro hr mx my u4 u5 u6 h hhr hsum hb hmy hx c117 c118 c122 c123 c125 c126 c128 c129 c130
              obtain rfl : n = hr := by omega
              have suml : ∀ (m k S : Nat) (u6 : Value), k + m = Q.length → S = sumQ (fun s => mx s * cB a st 0 s) (Q.take k) → Fr E mX10_rows d 255 [.ref 117, .int (nI st), .int (nI n), .long (lN S), .float 0, .int (nI k), u6] [] h (RP (.long (lN (cB a st n (packS a)))) h0 v a hi tp rs rm nu) := by
                intro m
                induction m with
                | zero =>
                  intro k S u6 hk hS
                  obtain rfl : k = Q.length := by omega
                  refine r_iload (pc2 := 257) 5 dX10_rows_255 rfl rfl ?_
                  refine r_aload_n (pc2 := 258) 0 dX10_rows_257 rfl rfl rfl rfl ?_
                  refine r_getf (pc2 := 261) (v := .int (nI Q.length)) fX10_344 dX10_rows_258 c117 (by decide) rfl rfl ?_
                  refine r_icmp_ge (tgt := 304) (pc2 := 264) dX10_rows_261 (by decide) rfl (fun b261 => ?_) (fun b261 => ?_)
                  · skip
                    refine r_lload_n (pc2 := 305) 3 dX10_rows_304 rfl rfl rfl ?_
                    exact r_lret rfl dX10_rows_305 ⟨by rw [hS, take_all, hsum], (upd (upd v 0 0) 25 (nI Q.length)), ⟨rfl, rfl, rfl⟩, ⟨c117, c118, hx.get (by decide) k119, hx.get (by decide) k120, ⟨_, hx.get (by decide) k121⟩, ⟨_, c122⟩, ⟨_, c123⟩, ⟨_, hx.get (by decide) k124⟩, ⟨_, c125⟩, ⟨_, c126⟩, ⟨_, hx.get (by decide) k127⟩, ⟨_, c128⟩, ⟨_, c129⟩, ⟨_, c130⟩, ⟨_, hx.get (by decide) k131⟩, ⟨_, hx.get (by decide) k132⟩, ⟨_, hx.get (by decide) k133⟩, ⟨_, hx.get (by decide) k134⟩, ⟨_, hx.get (by decide) k135⟩, hx.get (by decide) k136, hx.get (by decide) k137, hx.get (by decide) k138⟩, hx.mono (by decide)⟩
                  · exact absurd (nI_le (Nat.le_refl _) (by omega)) b261
                | succ m ih =>
                  intro k S u6 hk hS
                  have hlt : k < Q.length := by omega
                  have hs4 := hQ4 _ (getD_mem hlt)
                  by_cases hby : byB a st (Q.getD k 0)
                  · skip
                    refine r_iload (pc2 := 257) 5 dX10_rows_255 rfl rfl ?_
                    refine r_aload_n (pc2 := 258) 0 dX10_rows_257 rfl rfl rfl rfl ?_
                    refine r_getf (pc2 := 261) (v := .int (nI Q.length)) fX10_344 dX10_rows_258 c117 (by decide) rfl rfl ?_
                    refine r_icmp_ge (tgt := 304) (pc2 := 264) dX10_rows_261 (by decide) rfl (fun b261 => ?_) (fun b261 => ?_)
                    · exact absurd b261 (nI_ge hlt (by omega))
                    · skip
                      refine r_lload_n (pc2 := 265) 3 dX10_rows_264 rfl rfl rfl ?_
                      refine r_aload_n (pc2 := 266) 0 dX10_rows_265 rfl rfl rfl rfl ?_
                      refine r_aload_n (pc2 := 267) 0 dX10_rows_266 rfl rfl rfl rfl ?_
                      refine r_getf (pc2 := 270) (v := .ref 125) fX10_40 dX10_rows_267 c117 (by decide) rfl rfl ?_
                      refine r_iload (pc2 := 272) 5 dX10_rows_270 rfl rfl ?_
                      refine r_ialdN (pc2 := 273) k dX10_rows_272 c125 (by decide) rfl (by omega) (by decide) rfl ?_
                      refine r_cast (nI (Q.getD k 0)) (hfQ k hlt) ?_
                      refine r_iload_n (pc2 := 274) 1 dX10_rows_273 rfl rfl rfl ?_
                      refine r_callV1 (pc2 := 277) (As := [.int (nI (Q.getD k 0)), .int (nI st)]) (st := [.long (lN S)]) kX10_354 rfl rfl dX10_rows_274 c117 (by decide) rfl rfl (Nat.le_of_ble_eq_true rfl) (by omega) (c_isBy (s := (Q.getD k 0)) (st := st) c117 c118 hA.G hA.C hs4 hst (by omega)) rfl (fun h2 hq274 => ?_)
                      subst hq274
                      refine r_if_eq (tgt := 295) (pc2 := 280) dX10_rows_277 (by decide) rfl (fun b277 => ?_) (fun b277 => ?_)
                      · exact absurd b277 (if1 hby)
                      · skip
                        refine r_aload_n (pc2 := 281) 0 dX10_rows_280 rfl rfl rfl rfl ?_
                        refine r_getf (pc2 := 284) (v := .ref 129) fX10_53 dX10_rows_281 c117 (by decide) rfl rfl ?_
                        refine r_aload_n (pc2 := 285) 0 dX10_rows_284 rfl rfl rfl rfl ?_
                        refine r_getf (pc2 := 288) (v := .ref 125) fX10_40 dX10_rows_285 c117 (by decide) rfl rfl ?_
                        refine r_iload (pc2 := 290) 5 dX10_rows_288 rfl rfl ?_
                        refine r_ialdN (pc2 := 291) k dX10_rows_290 c125 (by decide) rfl (by omega) (by decide) rfl ?_
                        refine r_cast (nI (Q.getD k 0)) (hfQ k hlt) ?_
                        refine r_laldN (pc2 := 292) (Q.getD k 0) dX10_rows_291 c129 (by decide) rfl (by omega) (by decide) rfl ?_
                        refine r_goto (pc2 := 296) dX10_rows_292 (by decide) ?_
                        refine r_castl (lN (mx (Q.getD k 0) * cB a st 0 (Q.getD k 0))) (by rw [cB, if_pos hby, Nat.mul_one]) ?_
                        refine r_ladd (pc2 := 297) dX10_rows_296 rfl ?_
                        refine r_castl (lN (S + mx (Q.getD k 0) * cB a st 0 (Q.getD k 0))) (lN_add _ _) ?_
                        refine r_lstore_n (pc2 := 298) (ls2 := [.ref 117, .int (nI st), .int (nI n), .long (lN (S + mx (Q.getD k 0) * cB a st 0 (Q.getD k 0))), .float 0, .int (nI k), u6]) 3 dX10_rows_297 rfl (by decide) rfl rfl rfl ?_
                        obtain ⟨x298, e298⟩ : ∃ z : Int32, z = (nI k) + (1) := ⟨_, rfl⟩
                        refine r_iinc (pc2 := 301) (ls2 := [.ref 117, .int (nI st), .int (nI n), .long (lN (S + mx (Q.getD k 0) * cB a st 0 (Q.getD k 0))), .float 0, .int x298, u6]) (v := x298) 5 dX10_rows_298 rfl (by rw [e298]; rfl) rfl rfl rfl ?_
                        refine r_goto (pc2 := 255) dX10_rows_301 (by decide) ?_
                        rw [e298, nI_1]
                        exact ih (k + 1) _ _ (by omega) (by rw [sumQ_take hlt, hS])
                  · skip
                    refine r_iload (pc2 := 257) 5 dX10_rows_255 rfl rfl ?_
                    refine r_aload_n (pc2 := 258) 0 dX10_rows_257 rfl rfl rfl rfl ?_
                    refine r_getf (pc2 := 261) (v := .int (nI Q.length)) fX10_344 dX10_rows_258 c117 (by decide) rfl rfl ?_
                    refine r_icmp_ge (tgt := 304) (pc2 := 264) dX10_rows_261 (by decide) rfl (fun b261 => ?_) (fun b261 => ?_)
                    · exact absurd b261 (nI_ge hlt (by omega))
                    · skip
                      refine r_lload_n (pc2 := 265) 3 dX10_rows_264 rfl rfl rfl ?_
                      refine r_aload_n (pc2 := 266) 0 dX10_rows_265 rfl rfl rfl rfl ?_
                      refine r_aload_n (pc2 := 267) 0 dX10_rows_266 rfl rfl rfl rfl ?_
                      refine r_getf (pc2 := 270) (v := .ref 125) fX10_40 dX10_rows_267 c117 (by decide) rfl rfl ?_
                      refine r_iload (pc2 := 272) 5 dX10_rows_270 rfl rfl ?_
                      refine r_ialdN (pc2 := 273) k dX10_rows_272 c125 (by decide) rfl (by omega) (by decide) rfl ?_
                      refine r_cast (nI (Q.getD k 0)) (hfQ k hlt) ?_
                      refine r_iload_n (pc2 := 274) 1 dX10_rows_273 rfl rfl rfl ?_
                      refine r_callV1 (pc2 := 277) (As := [.int (nI (Q.getD k 0)), .int (nI st)]) (st := [.long (lN S)]) kX10_354 rfl rfl dX10_rows_274 c117 (by decide) rfl rfl (Nat.le_of_ble_eq_true rfl) (by omega) (c_isBy (s := (Q.getD k 0)) (st := st) c117 c118 hA.G hA.C hs4 hst (by omega)) rfl (fun h2 hq274 => ?_)
                      subst hq274
                      refine r_if_eq (tgt := 295) (pc2 := 280) dX10_rows_277 (by decide) rfl (fun b277 => ?_) (fun b277 => ?_)
                      · skip
                        refine r_lconst (pc2 := 296) (v := 0) dX10_rows_295 (by decide) rfl ?_
                        refine r_castl (lN (mx (Q.getD k 0) * cB a st 0 (Q.getD k 0))) (by rw [cB, if_neg hby, Nat.mul_zero]; rfl) ?_
                        refine r_ladd (pc2 := 297) dX10_rows_296 rfl ?_
                        refine r_castl (lN (S + mx (Q.getD k 0) * cB a st 0 (Q.getD k 0))) (lN_add _ _) ?_
                        refine r_lstore_n (pc2 := 298) (ls2 := [.ref 117, .int (nI st), .int (nI n), .long (lN (S + mx (Q.getD k 0) * cB a st 0 (Q.getD k 0))), .float 0, .int (nI k), u6]) 3 dX10_rows_297 rfl (by decide) rfl rfl rfl ?_
                        obtain ⟨x298, e298⟩ : ∃ z : Int32, z = (nI k) + (1) := ⟨_, rfl⟩
                        refine r_iinc (pc2 := 301) (ls2 := [.ref 117, .int (nI st), .int (nI n), .long (lN (S + mx (Q.getD k 0) * cB a st 0 (Q.getD k 0))), .float 0, .int x298, u6]) (v := x298) 5 dX10_rows_298 rfl (by rw [e298]; rfl) rfl rfl rfl ?_
                        refine r_goto (pc2 := 255) dX10_rows_301 (by decide) ?_
                        rw [e298, nI_1]
                        exact ih (k + 1) _ _ (by omega) (by rw [sumQ_take hlt, hS])
                      · exact absurd (if0 hby) b277
              refine r_iload_n (pc2 := 85) 3 dX10_rows_84 rfl rfl rfl ?_
              refine r_iload_n (pc2 := 86) 2 dX10_rows_85 rfl rfl rfl ?_
              refine r_icmp_ge (tgt := 250) (pc2 := 89) dX10_rows_86 (by decide) rfl (fun b86 => ?_) (fun b86 => ?_)
              · skip
                refine r_lconst (pc2 := 251) (v := 0) dX10_rows_250 (by decide) rfl ?_
                refine r_lstore_n (pc2 := 252) (ls2 := [.ref 117, .int (nI st), .int (nI n), .long 0, .float 0, u5, u6]) 3 dX10_rows_251 rfl (by decide) rfl rfl rfl ?_
                refine r_iconst (pc2 := 253) (v := 0) dX10_rows_252 (by decide) rfl ?_
                refine r_istore (pc2 := 255) (ls2 := [.ref 117, .int (nI st), .int (nI n), .long 0, .float 0, .int 0, u6]) 5 dX10_rows_253 (by decide) rfl rfl rfl ?_
                exact suml Q.length 0 0 _ (by omega) rfl
              · exact absurd (nI_le (Nat.le_refl _) (by omega)) b86
            | succ j ihr =>
              intro hr mx my u4 u5 u6 h hhr hsum hb hmy hx c117 c118 c122 c123 c125 c126 c128 c129 c130
              have hrl : hr < n := by omega
              have h16 : 16 ^ hr ≤ 16 ^ 8 := Nat.pow_le_pow_right (by decide) (by omega)
              have hmxl : ∀ s ∈ Q, mx s ≤ 4294967296 := fun s hs => Nat.le_trans (sumQ_mem hs) (Nat.le_trans hb h16)
              have hI0 : RI a st j Q mx my 0 0 := by
                refine ⟨?_, ?_⟩
                · rw [sumQ_0 (fun s hs => by show my s * _ = 0; rw [hmy s hs, Nat.zero_mul])]; rfl
                · rw [sumQ_0 hmy]; exact Nat.zero_le _
              have move : ∀ (i k : Nat) (my : Nat → Nat) (u5 u6 : Value) (h1 : Hp), k + i = Q.length → RI a st j Q mx my k 0 → Ex [117, 118, 122, 123, 125, 126, 128, 129, 130] h0 h1 → h1.1 117 = some (mO (upd (upd v 0 0) 25 (nI Q.length))) → h1.1 118 = some (aI 3531 (nA a)) → h1.1 122 = some (aI 900 f4) → h1.1 123 = some (aI 9 w4) → h1.1 125 = some (aI 40960 f3) → h1.1 126 = some (aI 655360 g2) → h1.1 128 = some (aZ 40960 kn3) → h1.1 129 = some (aL 40960 ((lA mx))) → h1.1 130 = some (aL 40960 ((lA my))) → Fr E mX10_rows d 92 [.ref 117, .int (nI st), .int (nI n), .int (nI hr), .int (nI k), u5, u6] [] h1 (RP (.long (lN (cB a st n (packS a)))) h0 v a hi tp rs rm nu) := by
                intro i
                induction i with
                | zero =>
                  intro k my u5 u6 h hk hI hx c117 c118 c122 c123 c125 c126 c128 c129 c130
                  obtain rfl : k = Q.length := by omega
                  obtain ⟨mz, emz⟩ : ∃ z, z = my := ⟨_, rfl⟩
                  have hsz : sumQ (fun s => mz s * cB a st j s) Q = cB a st n (packS a) := by
                    rw [emz, hI.1, take_all, hsum]; rfl
                  have hbz : sumQ mz Q ≤ 16 ^ (hr + 1) := by
                    have := hI.2
                    rw [take_all, Nat.zero_mul, Nat.add_zero] at this
                    rw [emz, Nat.pow_succ]; omega
                  have swap : ∀ (i k : Nat) (mx my : Nat → Nat) (h1 : Hp), k + i = Q.length → SWI Q mz mx my k → Ex [117, 118, 122, 123, 125, 126, 128, 129, 130] h0 h1 → h1.1 117 = some (mO (upd (upd v 0 0) 25 (nI Q.length))) → h1.1 118 = some (aI 3531 (nA a)) → h1.1 122 = some (aI 900 f4) → h1.1 123 = some (aI 9 w4) → h1.1 125 = some (aI 40960 f3) → h1.1 126 = some (aI 655360 g2) → h1.1 128 = some (aZ 40960 kn3) → h1.1 129 = some (aL 40960 ((lA mx))) → h1.1 130 = some (aL 40960 ((lA my))) → Fr E mX10_rows d 192 [.ref 117, .int (nI st), .int (nI n), .int (nI hr), .int (nI k), u5, u6] [] h1 (RP (.long (lN (cB a st n (packS a)))) h0 v a hi tp rs rm nu) := by
                    intro i
                    induction i with
                    | zero =>
                      intro k mx my h hk hW hx c117 c118 c122 c123 c125 c126 c128 c129 c130
                      obtain rfl : k = Q.length := by omega
                      refine r_iload (pc2 := 194) 4 dX10_rows_192 rfl rfl ?_
                      refine r_aload_n (pc2 := 195) 0 dX10_rows_194 rfl rfl rfl rfl ?_
                      refine r_getf (pc2 := 198) (v := .int (nI Q.length)) fX10_344 dX10_rows_195 c117 (by decide) rfl rfl ?_
                      refine r_icmp_ge (tgt := 244) (pc2 := 201) dX10_rows_198 (by decide) rfl (fun b198 => ?_) (fun b198 => ?_)
                      · skip
                        obtain ⟨x244, e244⟩ : ∃ z : Int32, z = (nI hr) + (1) := ⟨_, rfl⟩
                        refine r_iinc (pc2 := 247) (ls2 := [.ref 117, .int (nI st), .int (nI n), .int x244, .int (nI Q.length), u5, u6]) (v := x244) 3 dX10_rows_244 rfl (by rw [e244]; rfl) rfl rfl rfl ?_
                        refine r_goto (pc2 := 84) dX10_rows_247 (by decide) ?_
                        rw [e244, nI_1]
                        exact ihr (hr + 1) mx my _ _ _ _ (by omega) (by rw [← hsz]; exact sumQ_congr (fun s hs => by obtain ⟨i, hi, rfl⟩ := mem_getD hs; show mx _ * _ = mz _ * _; rw [(hW.1 i hi).1])) (by rw [sumQ_congr (g := mz) (fun s hs => by obtain ⟨i, hi, rfl⟩ := mem_getD hs; exact (hW.1 i hi).1)]; exact hbz) (fun s hs => by obtain ⟨i, hi, rfl⟩ := mem_getD hs; exact (hW.1 i hi).2) hx c117 c118 c122 c123 c125 c126 c128 c129 c130
                      · exact absurd (nI_le (Nat.le_refl _) (by omega)) b198
                    | succ i ih =>
                      intro k mx my h hk hW hx c117 c118 c122 c123 c125 c126 c128 c129 c130
                      have hlt : k < Q.length := by omega
                      have hs4 := hQ4 _ (getD_mem hlt)
                      refine r_iload (pc2 := 194) 4 dX10_rows_192 rfl rfl ?_
                      refine r_aload_n (pc2 := 195) 0 dX10_rows_194 rfl rfl rfl rfl ?_
                      refine r_getf (pc2 := 198) (v := .int (nI Q.length)) fX10_344 dX10_rows_195 c117 (by decide) rfl rfl ?_
                      refine r_icmp_ge (tgt := 244) (pc2 := 201) dX10_rows_198 (by decide) rfl (fun b198 => ?_) (fun b198 => ?_)
                      · exact absurd b198 (nI_ge hlt (by omega))
                      · skip
                        refine r_aload_n (pc2 := 202) 0 dX10_rows_201 rfl rfl rfl rfl ?_
                        refine r_getf (pc2 := 205) (v := .ref 129) fX10_53 dX10_rows_202 c117 (by decide) rfl rfl ?_
                        refine r_aload_n (pc2 := 206) 0 dX10_rows_205 rfl rfl rfl rfl ?_
                        refine r_getf (pc2 := 209) (v := .ref 125) fX10_40 dX10_rows_206 c117 (by decide) rfl rfl ?_
                        refine r_iload (pc2 := 211) 4 dX10_rows_209 rfl rfl ?_
                        refine r_ialdN (pc2 := 212) k dX10_rows_211 c125 (by decide) rfl (by omega) (by decide) rfl ?_
                        refine r_cast (nI (Q.getD k 0)) (hfQ k hlt) ?_
                        refine r_aload_n (pc2 := 213) 0 dX10_rows_212 rfl rfl rfl rfl ?_
                        refine r_getf (pc2 := 216) (v := .ref 130) fX10_57 dX10_rows_213 c117 (by decide) rfl rfl ?_
                        refine r_aload_n (pc2 := 217) 0 dX10_rows_216 rfl rfl rfl rfl ?_
                        refine r_getf (pc2 := 220) (v := .ref 125) fX10_40 dX10_rows_217 c117 (by decide) rfl rfl ?_
                        refine r_iload (pc2 := 222) 4 dX10_rows_220 rfl rfl ?_
                        refine r_ialdN (pc2 := 223) k dX10_rows_222 c125 (by decide) rfl (by omega) (by decide) rfl ?_
                        refine r_cast (nI (Q.getD k 0)) (hfQ k hlt) ?_
                        refine r_laldN (pc2 := 224) (Q.getD k 0) dX10_rows_223 c130 (by decide) rfl (by omega) (by decide) rfl ?_
                        refine r_castl (lN (my (Q.getD k 0))) (rfl) ?_
                        refine r_lastN (pc2 := 225) (Q.getD k 0) dX10_rows_224 c129 (by decide) rfl (by omega) (by decide) rfl (fun h z224 o224 c129 => ?_)
                        have c117 := (o224 117 (by decide)).trans c117
                        have c118 := (o224 118 (by decide)).trans c118
                        have c122 := (o224 122 (by decide)).trans c122
                        have c123 := (o224 123 (by decide)).trans c123
                        have c125 := (o224 125 (by decide)).trans c125
                        have c126 := (o224 126 (by decide)).trans c126
                        have c128 := (o224 128 (by decide)).trans c128
                        have c130 := (o224 130 (by decide)).trans c130
                        have hx := hx.step (a := 129) (by decide) z224 o224
                        rw [upd_lA] at c129
                        refine r_aload_n (pc2 := 226) 0 dX10_rows_225 rfl rfl rfl rfl ?_
                        refine r_getf (pc2 := 229) (v := .ref 130) fX10_57 dX10_rows_226 c117 (by decide) rfl rfl ?_
                        refine r_aload_n (pc2 := 230) 0 dX10_rows_229 rfl rfl rfl rfl ?_
                        refine r_getf (pc2 := 233) (v := .ref 125) fX10_40 dX10_rows_230 c117 (by decide) rfl rfl ?_
                        refine r_iload (pc2 := 235) 4 dX10_rows_233 rfl rfl ?_
                        refine r_ialdN (pc2 := 236) k dX10_rows_235 c125 (by decide) rfl (by omega) (by decide) rfl ?_
                        refine r_cast (nI (Q.getD k 0)) (hfQ k hlt) ?_
                        refine r_lconst (pc2 := 237) (v := 0) dX10_rows_236 (by decide) rfl ?_
                        refine r_lastN (pc2 := 238) (Q.getD k 0) dX10_rows_237 c130 (by decide) rfl (by omega) (by decide) rfl (fun h z237 o237 c130 => ?_)
                        have c117 := (o237 117 (by decide)).trans c117
                        have c118 := (o237 118 (by decide)).trans c118
                        have c122 := (o237 122 (by decide)).trans c122
                        have c123 := (o237 123 (by decide)).trans c123
                        have c125 := (o237 125 (by decide)).trans c125
                        have c126 := (o237 126 (by decide)).trans c126
                        have c128 := (o237 128 (by decide)).trans c128
                        have c129 := (o237 129 (by decide)).trans c129
                        have hx := hx.step (a := 130) (by decide) z237 o237
                        rw [show vp_updL (lA my) (Q.getD k 0) 0 = lA (va_up my (Q.getD k 0) 0) from upd_lA my _ 0] at c130
                        obtain ⟨x238, e238⟩ : ∃ z : Int32, z = (nI k) + (1) := ⟨_, rfl⟩
                        refine r_iinc (pc2 := 241) (ls2 := [.ref 117, .int (nI st), .int (nI n), .int (nI hr), .int x238, u5, u6]) (v := x238) 4 dX10_rows_238 rfl (by rw [e238]; rfl) rfl rfl rfl ?_
                        refine r_goto (pc2 := 192) dX10_rows_241 (by decide) ?_
                        rw [e238, nI_1]
                        exact ih (k + 1) _ _ _ (by omega) (hW.s hnd hlt) hx c117 c118 c122 c123 c125 c126 c128 c129 c130
                  rw [emz] at swap
                  refine r_iload (pc2 := 94) 4 dX10_rows_92 rfl rfl ?_
                  refine r_aload_n (pc2 := 95) 0 dX10_rows_94 rfl rfl rfl rfl ?_
                  refine r_getf (pc2 := 98) (v := .int (nI Q.length)) fX10_344 dX10_rows_95 c117 (by decide) rfl rfl ?_
                  refine r_icmp_ge (tgt := 189) (pc2 := 101) dX10_rows_98 (by decide) rfl (fun b98 => ?_) (fun b98 => ?_)
                  · skip
                    refine r_iconst (pc2 := 190) (v := 0) dX10_rows_189 (by decide) rfl ?_
                    refine r_istore (pc2 := 192) (ls2 := [.ref 117, .int (nI st), .int (nI n), .int (nI hr), .int 0, u5, u6]) 4 dX10_rows_190 (by decide) rfl rfl rfl ?_
                    exact swap Q.length 0 mx my _ (by omega) ⟨fun i hi => absurd hi (Nat.not_lt_zero _), fun i h1 h2 => rfl⟩ hx c117 c118 c122 c123 c125 c126 c128 c129 c130
                  · exact absurd (nI_le (Nat.le_refl _) (by omega)) b98
                | succ i ihk =>
                  intro k my u5 u6 h hk hI hx c117 c118 c122 c123 c125 c126 c128 c129 c130
                  have hlt : k < Q.length := by omega
                  have hsm := getD_mem hlt
                  have hs4 := hQ4 _ hsm
                  have hmk := hmxl _ hsm
                  have inner : ∀ (i c : Nat) (my : Nat → Nat) (h1 : Hp), c + i = 16 → RI a st j Q mx my k c → Ex [117, 118, 122, 123, 125, 126, 128, 129, 130] h0 h1 → h1.1 117 = some (mO (upd (upd v 0 0) 25 (nI Q.length))) → h1.1 118 = some (aI 3531 (nA a)) → h1.1 122 = some (aI 900 f4) → h1.1 123 = some (aI 9 w4) → h1.1 125 = some (aI 40960 f3) → h1.1 126 = some (aI 655360 g2) → h1.1 128 = some (aZ 40960 kn3) → h1.1 129 = some (aL 40960 ((lA mx))) → h1.1 130 = some (aL 40960 ((lA my))) → Fr E mX10_rows d 113 [.ref 117, .int (nI st), .int (nI n), .int (nI hr), .int (nI k), .int (nI (Q.getD k 0)), .int (nI c)] [] h1 (RP (.long (lN (cB a st n (packS a)))) h0 v a hi tp rs rm nu) := by
                    intro i
                    induction i with
                    | zero =>
                      intro c my h hci hI hx c117 c118 c122 c123 c125 c126 c128 c129 c130
                      obtain rfl : c = 16 := by omega
                      refine r_iload (pc2 := 115) 6 dX10_rows_113 rfl rfl ?_
                      refine r_bipush (pc2 := 117) (v := 16) dX10_rows_115 (by decide) rfl ?_
                      refine r_icmp_ge (tgt := 183) (pc2 := 120) dX10_rows_117 (by decide) rfl (fun b117 => ?_) (fun b117 => ?_)
                      · skip
                        obtain ⟨x183, e183⟩ : ∃ z : Int32, z = (nI k) + (1) := ⟨_, rfl⟩
                        refine r_iinc (pc2 := 186) (ls2 := [.ref 117, .int (nI st), .int (nI n), .int (nI hr), .int x183, .int (nI (Q.getD k 0)), .int (nI 16)]) (v := x183) 4 dX10_rows_183 rfl (by rw [e183]; rfl) rfl rfl rfl ?_
                        refine r_goto (pc2 := 92) dX10_rows_186 (by decide) ?_
                        rw [e183, nI_1]
                        exact ihk (k + 1) my _ _ _ (by omega) (hI.K hlt) hx c117 c118 c122 c123 c125 c126 c128 c129 c130
                      · exact absurd (show nI 16 ≤ nI 16 from nI_le (Nat.le_refl _) (by decide)) b117
                    | succ i ihc =>
                      intro c my h hci hI hx c117 c118 c122 c123 c125 c126 c128 c129 c130
                      have hc : c < 16 := by omega
                      by_cases h0x : mx (Q.getD k 0) = 0
                      · skip
                        refine r_iload (pc2 := 115) 6 dX10_rows_113 rfl rfl ?_
                        refine r_bipush (pc2 := 117) (v := 16) dX10_rows_115 (by decide) rfl ?_
                        refine r_icmp_ge (tgt := 183) (pc2 := 120) dX10_rows_117 (by decide) rfl (fun b117 => ?_) (fun b117 => ?_)
                        · exact absurd b117 (nI_ge (b := 16) hc (by decide))
                        · skip
                          refine r_aload_n (pc2 := 121) 0 dX10_rows_120 rfl rfl rfl rfl ?_
                          refine r_getf (pc2 := 124) (v := .ref 129) fX10_53 dX10_rows_121 c117 (by decide) rfl rfl ?_
                          refine r_iload (pc2 := 126) 5 dX10_rows_124 rfl rfl ?_
                          refine r_laldN (pc2 := 127) (Q.getD k 0) dX10_rows_126 c129 (by decide) rfl (by omega) (by decide) rfl ?_
                          refine r_castl (lN (mx (Q.getD k 0))) (rfl) ?_
                          refine r_lconst (pc2 := 128) (v := 0) dX10_rows_127 (by decide) rfl ?_
                          refine r_lcmp (pc2 := 129) dX10_rows_128 rfl ?_
                          refine r_if_le (tgt := 183) (pc2 := 132) dX10_rows_129 (by decide) rfl (fun b129 => ?_) (fun b129 => ?_)
                          · skip
                            obtain ⟨x183, e183⟩ : ∃ z : Int32, z = (nI k) + (1) := ⟨_, rfl⟩
                            refine r_iinc (pc2 := 186) (ls2 := [.ref 117, .int (nI st), .int (nI n), .int (nI hr), .int x183, .int (nI (Q.getD k 0)), .int (nI c)]) (v := x183) 4 dX10_rows_183 rfl (by rw [e183]; rfl) rfl rfl rfl ?_
                            refine r_goto (pc2 := 92) dX10_rows_186 (by decide) ?_
                            rw [e183, nI_1]
                            exact ihk (k + 1) my _ _ _ (by omega) (hI.K0 hlt h0x) hx c117 c118 c122 c123 c125 c126 c128 c129 c130
                          · exact absurd ((lgc_le _ _).mpr (by rw [h0x]; decide)) b129
                      · by_cases ho : okS a (Q.getD k 0) c
                        · have hnm : (nxS a (Q.getD k 0) c) ∈ Q := (hmem _).mpr (((hmem _).mp hsm).step hc ho)
                          have hn4 := hQ4 _ hnm
                          refine r_iload (pc2 := 115) 6 dX10_rows_113 rfl rfl ?_
                          refine r_bipush (pc2 := 117) (v := 16) dX10_rows_115 (by decide) rfl ?_
                          refine r_icmp_ge (tgt := 183) (pc2 := 120) dX10_rows_117 (by decide) rfl (fun b117 => ?_) (fun b117 => ?_)
                          · exact absurd b117 (nI_ge (b := 16) hc (by decide))
                          · skip
                            refine r_aload_n (pc2 := 121) 0 dX10_rows_120 rfl rfl rfl rfl ?_
                            refine r_getf (pc2 := 124) (v := .ref 129) fX10_53 dX10_rows_121 c117 (by decide) rfl rfl ?_
                            refine r_iload (pc2 := 126) 5 dX10_rows_124 rfl rfl ?_
                            refine r_laldN (pc2 := 127) (Q.getD k 0) dX10_rows_126 c129 (by decide) rfl (by omega) (by decide) rfl ?_
                            refine r_castl (lN (mx (Q.getD k 0))) (rfl) ?_
                            refine r_lconst (pc2 := 128) (v := 0) dX10_rows_127 (by decide) rfl ?_
                            refine r_lcmp (pc2 := 129) dX10_rows_128 rfl ?_
                            refine r_if_le (tgt := 183) (pc2 := 132) dX10_rows_129 (by decide) rfl (fun b129 => ?_) (fun b129 => ?_)
                            · exact absurd ((lgc_le _ _).mp b129) (fun z => by have := (pk_lLE (b := 0) (by omega) (by decide)).mp z; omega)
                            · skip
                              refine r_aload_n (pc2 := 133) 0 dX10_rows_132 rfl rfl rfl rfl ?_
                              refine r_getf (pc2 := 136) (v := .ref 126) fX10_44 dX10_rows_133 c117 (by decide) rfl rfl ?_
                              refine r_bipush (pc2 := 138) (v := 16) dX10_rows_136 (by decide) rfl ?_
                              refine r_iload (pc2 := 140) 5 dX10_rows_138 rfl rfl ?_
                              refine r_imul (pc2 := 141) dX10_rows_140 rfl ?_
                              refine r_cast (nI (16 * (Q.getD k 0))) (pk_mul 16 _) ?_
                              refine r_iload (pc2 := 143) 6 dX10_rows_141 rfl rfl ?_
                              refine r_iadd (pc2 := 144) dX10_rows_143 rfl ?_
                              refine r_cast (nI (16 * (Q.getD k 0) + c)) (nI_add _ _) ?_
                              refine r_ialdN (pc2 := 145) (16 * (Q.getD k 0) + c) dX10_rows_144 c126 (by decide) rfl (by omega) (by decide) rfl ?_
                              refine r_cast (nI (nxS a (Q.getD k 0) c)) (by rw [hgc _ hsm c hc, nxI, if_pos ho]) ?_
                              refine r_iconst (pc2 := 146) (v := -1) dX10_rows_145 (by decide) rfl ?_
                              refine r_icmp_eq (tgt := 177) (pc2 := 149) dX10_rows_146 (by decide) rfl (fun b146 => ?_) (fun b146 => ?_)
                              · exact absurd b146 (nI_nm1 (by omega))
                              · skip
                                refine r_aload_n (pc2 := 150) 0 dX10_rows_149 rfl rfl rfl rfl ?_
                                refine r_getf (pc2 := 153) (v := .ref 130) fX10_57 dX10_rows_150 c117 (by decide) rfl rfl ?_
                                refine r_aload_n (pc2 := 154) 0 dX10_rows_153 rfl rfl rfl rfl ?_
                                refine r_getf (pc2 := 157) (v := .ref 126) fX10_44 dX10_rows_154 c117 (by decide) rfl rfl ?_
                                refine r_bipush (pc2 := 159) (v := 16) dX10_rows_157 (by decide) rfl ?_
                                refine r_iload (pc2 := 161) 5 dX10_rows_159 rfl rfl ?_
                                refine r_imul (pc2 := 162) dX10_rows_161 rfl ?_
                                refine r_cast (nI (16 * (Q.getD k 0))) (pk_mul 16 _) ?_
                                refine r_iload (pc2 := 164) 6 dX10_rows_162 rfl rfl ?_
                                refine r_iadd (pc2 := 165) dX10_rows_164 rfl ?_
                                refine r_cast (nI (16 * (Q.getD k 0) + c)) (nI_add _ _) ?_
                                refine r_ialdN (pc2 := 166) (16 * (Q.getD k 0) + c) dX10_rows_165 c126 (by decide) rfl (by omega) (by decide) rfl ?_
                                refine r_cast (nI (nxS a (Q.getD k 0) c)) (by rw [hgc _ hsm c hc, nxI, if_pos ho]) ?_
                                refine r_dup2 (pc2 := 167) dX10_rows_166 rfl rfl rfl ?_
                                refine r_laldN (pc2 := 168) (nxS a (Q.getD k 0) c) dX10_rows_167 c130 (by decide) rfl (by omega) (by decide) rfl ?_
                                refine r_castl (lN (my (nxS a (Q.getD k 0) c))) (rfl) ?_
                                refine r_aload_n (pc2 := 169) 0 dX10_rows_168 rfl rfl rfl rfl ?_
                                refine r_getf (pc2 := 172) (v := .ref 129) fX10_53 dX10_rows_169 c117 (by decide) rfl rfl ?_
                                refine r_iload (pc2 := 174) 5 dX10_rows_172 rfl rfl ?_
                                refine r_laldN (pc2 := 175) (Q.getD k 0) dX10_rows_174 c129 (by decide) rfl (by omega) (by decide) rfl ?_
                                refine r_castl (lN (mx (Q.getD k 0))) (rfl) ?_
                                refine r_ladd (pc2 := 176) dX10_rows_175 rfl ?_
                                refine r_castl (lN (my (nxS a (Q.getD k 0) c) + mx (Q.getD k 0))) (lN_add _ _) ?_
                                refine r_lastN (pc2 := 177) (nxS a (Q.getD k 0) c) dX10_rows_176 c130 (by decide) rfl (by omega) (by decide) rfl (fun h z176 o176 c130 => ?_)
                                have c117 := (o176 117 (by decide)).trans c117
                                have c118 := (o176 118 (by decide)).trans c118
                                have c122 := (o176 122 (by decide)).trans c122
                                have c123 := (o176 123 (by decide)).trans c123
                                have c125 := (o176 125 (by decide)).trans c125
                                have c126 := (o176 126 (by decide)).trans c126
                                have c128 := (o176 128 (by decide)).trans c128
                                have c129 := (o176 129 (by decide)).trans c129
                                have hx := hx.step (a := 130) (by decide) z176 o176
                                rw [upd_lA] at c130
                                obtain ⟨x177, e177⟩ : ∃ z : Int32, z = (nI c) + (1) := ⟨_, rfl⟩
                                refine r_iinc (pc2 := 180) (ls2 := [.ref 117, .int (nI st), .int (nI n), .int (nI hr), .int (nI k), .int (nI (Q.getD k 0)), .int x177]) (v := x177) 6 dX10_rows_177 rfl (by rw [e177]; rfl) rfl rfl rfl ?_
                                refine r_goto (pc2 := 113) dX10_rows_180 (by decide) ?_
                                rw [e177, nI_1]
                                exact ihc (c + 1) _ _ (by omega) (hI.yes hnd ho hnm) hx c117 c118 c122 c123 c125 c126 c128 c129 c130
                        · skip
                          refine r_iload (pc2 := 115) 6 dX10_rows_113 rfl rfl ?_
                          refine r_bipush (pc2 := 117) (v := 16) dX10_rows_115 (by decide) rfl ?_
                          refine r_icmp_ge (tgt := 183) (pc2 := 120) dX10_rows_117 (by decide) rfl (fun b117 => ?_) (fun b117 => ?_)
                          · exact absurd b117 (nI_ge (b := 16) hc (by decide))
                          · skip
                            refine r_aload_n (pc2 := 121) 0 dX10_rows_120 rfl rfl rfl rfl ?_
                            refine r_getf (pc2 := 124) (v := .ref 129) fX10_53 dX10_rows_121 c117 (by decide) rfl rfl ?_
                            refine r_iload (pc2 := 126) 5 dX10_rows_124 rfl rfl ?_
                            refine r_laldN (pc2 := 127) (Q.getD k 0) dX10_rows_126 c129 (by decide) rfl (by omega) (by decide) rfl ?_
                            refine r_castl (lN (mx (Q.getD k 0))) (rfl) ?_
                            refine r_lconst (pc2 := 128) (v := 0) dX10_rows_127 (by decide) rfl ?_
                            refine r_lcmp (pc2 := 129) dX10_rows_128 rfl ?_
                            refine r_if_le (tgt := 183) (pc2 := 132) dX10_rows_129 (by decide) rfl (fun b129 => ?_) (fun b129 => ?_)
                            · exact absurd ((lgc_le _ _).mp b129) (fun z => by have := (pk_lLE (b := 0) (by omega) (by decide)).mp z; omega)
                            · skip
                              refine r_aload_n (pc2 := 133) 0 dX10_rows_132 rfl rfl rfl rfl ?_
                              refine r_getf (pc2 := 136) (v := .ref 126) fX10_44 dX10_rows_133 c117 (by decide) rfl rfl ?_
                              refine r_bipush (pc2 := 138) (v := 16) dX10_rows_136 (by decide) rfl ?_
                              refine r_iload (pc2 := 140) 5 dX10_rows_138 rfl rfl ?_
                              refine r_imul (pc2 := 141) dX10_rows_140 rfl ?_
                              refine r_cast (nI (16 * (Q.getD k 0))) (pk_mul 16 _) ?_
                              refine r_iload (pc2 := 143) 6 dX10_rows_141 rfl rfl ?_
                              refine r_iadd (pc2 := 144) dX10_rows_143 rfl ?_
                              refine r_cast (nI (16 * (Q.getD k 0) + c)) (nI_add _ _) ?_
                              refine r_ialdN (pc2 := 145) (16 * (Q.getD k 0) + c) dX10_rows_144 c126 (by decide) rfl (by omega) (by decide) rfl ?_
                              refine r_cast (-1) (by rw [hgc _ hsm c hc, nxI, if_neg ho]) ?_
                              refine r_iconst (pc2 := 146) (v := -1) dX10_rows_145 (by decide) rfl ?_
                              refine r_icmp_eq (tgt := 177) (pc2 := 149) dX10_rows_146 (by decide) rfl (fun b146 => ?_) (fun b146 => ?_)
                              · skip
                                obtain ⟨x177, e177⟩ : ∃ z : Int32, z = (nI c) + (1) := ⟨_, rfl⟩
                                refine r_iinc (pc2 := 180) (ls2 := [.ref 117, .int (nI st), .int (nI n), .int (nI hr), .int (nI k), .int (nI (Q.getD k 0)), .int x177]) (v := x177) 6 dX10_rows_177 rfl (by rw [e177]; rfl) rfl rfl rfl ?_
                                refine r_goto (pc2 := 113) dX10_rows_180 (by decide) ?_
                                rw [e177, nI_1]
                                exact ihc (c + 1) my _ (by omega) (hI.no ho) hx c117 c118 c122 c123 c125 c126 c128 c129 c130
                              · exact absurd rfl b146
                  refine r_iload (pc2 := 94) 4 dX10_rows_92 rfl rfl ?_
                  refine r_aload_n (pc2 := 95) 0 dX10_rows_94 rfl rfl rfl rfl ?_
                  refine r_getf (pc2 := 98) (v := .int (nI Q.length)) fX10_344 dX10_rows_95 c117 (by decide) rfl rfl ?_
                  refine r_icmp_ge (tgt := 189) (pc2 := 101) dX10_rows_98 (by decide) rfl (fun b98 => ?_) (fun b98 => ?_)
                  · exact absurd b98 (nI_ge hlt (by omega))
                  · skip
                    refine r_aload_n (pc2 := 102) 0 dX10_rows_101 rfl rfl rfl rfl ?_
                    refine r_getf (pc2 := 105) (v := .ref 125) fX10_40 dX10_rows_102 c117 (by decide) rfl rfl ?_
                    refine r_iload (pc2 := 107) 4 dX10_rows_105 rfl rfl ?_
                    refine r_ialdN (pc2 := 108) k dX10_rows_107 c125 (by decide) rfl (by omega) (by decide) rfl ?_
                    refine r_cast (nI (Q.getD k 0)) (hfQ k hlt) ?_
                    refine r_istore (pc2 := 110) (ls2 := [.ref 117, .int (nI st), .int (nI n), .int (nI hr), .int (nI k), .int (nI (Q.getD k 0)), u6]) 5 dX10_rows_108 (by decide) rfl rfl rfl ?_
                    refine r_iconst (pc2 := 111) (v := 0) dX10_rows_110 (by decide) rfl ?_
                    refine r_istore (pc2 := 113) (ls2 := [.ref 117, .int (nI st), .int (nI n), .int (nI hr), .int (nI k), .int (nI (Q.getD k 0)), .int 0]) 6 dX10_rows_111 (by decide) rfl rfl rfl ?_
                    exact inner 16 0 my _ (by omega) hI hx c117 c118 c122 c123 c125 c126 c128 c129 c130
              refine r_iload_n (pc2 := 85) 3 dX10_rows_84 rfl rfl rfl ?_
              refine r_iload_n (pc2 := 86) 2 dX10_rows_85 rfl rfl rfl ?_
              refine r_icmp_ge (tgt := 250) (pc2 := 89) dX10_rows_86 (by decide) rfl (fun b86 => ?_) (fun b86 => ?_)
              · exact absurd b86 (nI_ge hrl (by omega))
              · skip
                refine r_iconst (pc2 := 90) (v := 0) dX10_rows_89 (by decide) rfl ?_
                refine r_istore (pc2 := 92) (ls2 := [.ref 117, .int (nI st), .int (nI n), .int (nI hr), .int 0, u5, u6]) 4 dX10_rows_90 (by decide) rfl rfl rfl ?_
                exact move Q.length 0 my _ _ _ (by omega) hI0 hx c117 c118 c122 c123 c125 c126 c128 c129 c130
          have init : ∀ (m k : Nat) (mx my : Nat → Nat) (h1 : Hp), k + m = Q.length → INI Q mx my k → Ex [117, 118, 122, 123, 125, 126, 128, 129, 130] h0 h1 → h1.1 117 = some (mO (upd (upd v 0 0) 25 (nI Q.length))) → h1.1 118 = some (aI 3531 (nA a)) → h1.1 122 = some (aI 900 f4) → h1.1 123 = some (aI 9 w4) → h1.1 125 = some (aI 40960 f3) → h1.1 126 = some (aI 655360 g2) → h1.1 128 = some (aZ 40960 kn3) → h1.1 129 = some (aL 40960 ((lA mx))) → h1.1 130 = some (aL 40960 ((lA my))) → Fr E mX10_rows d 36 [.ref 117, .int (nI st), .int (nI n), .int (nI k), .float 0, .float 0, .float 0] [] h1 (RP (.long (lN (cB a st n (packS a)))) h0 v a hi tp rs rm nu) := by
            intro m
            induction m with
            | zero =>
              intro k mx my h hk hI hx c117 c118 c122 c123 c125 c126 c128 c129 c130
              obtain rfl : k = Q.length := by omega
              refine r_iload_n (pc2 := 37) 3 dX10_rows_36 rfl rfl rfl ?_
              refine r_aload_n (pc2 := 38) 0 dX10_rows_37 rfl rfl rfl rfl ?_
              refine r_getf (pc2 := 41) (v := .int (nI Q.length)) fX10_344 dX10_rows_38 c117 (by decide) rfl rfl ?_
              refine r_icmp_ge (tgt := 82) (pc2 := 44) dX10_rows_41 (by decide) rfl (fun b41 => ?_) (fun b41 => ?_)
              · skip
                refine r_iconst (pc2 := 83) (v := 0) dX10_rows_82 (by decide) rfl ?_
                refine r_istore_n (pc2 := 84) (ls2 := [.ref 117, .int (nI st), .int (nI n), .int 0, .float 0, .float 0, .float 0]) 3 dX10_rows_83 rfl (by decide) rfl rfl rfl ?_
                exact hours n 0 mx my _ _ _ _ (by omega) ((INI_sum (W := fun s => cB a st n s) hI hnd hq1).trans (by rw [hq0])) (by have := INI_sum (W := fun _ => 1) hI hnd hq1; simp only [Nat.mul_one] at this; rw [this]; decide) (fun s hs => by obtain ⟨i, hi, rfl⟩ := mem_getD hs; exact (hI i hi).2) hx c117 c118 c122 c123 c125 c126 c128 c129 c130
              · exact absurd (nI_le (Nat.le_refl _) (by omega)) b41
            | succ m ih =>
              intro k mx my h hk hI hx c117 c118 c122 c123 c125 c126 c128 c129 c130
              have hlt : k < Q.length := by omega
              have hs4 := hQ4 _ (getD_mem hlt)
              by_cases hk0 : k = 0
              · skip
                refine r_iload_n (pc2 := 37) 3 dX10_rows_36 rfl rfl rfl ?_
                refine r_aload_n (pc2 := 38) 0 dX10_rows_37 rfl rfl rfl rfl ?_
                refine r_getf (pc2 := 41) (v := .int (nI Q.length)) fX10_344 dX10_rows_38 c117 (by decide) rfl rfl ?_
                refine r_icmp_ge (tgt := 82) (pc2 := 44) dX10_rows_41 (by decide) rfl (fun b41 => ?_) (fun b41 => ?_)
                · exact absurd b41 (nI_ge hlt (by omega))
                · skip
                  refine r_aload_n (pc2 := 45) 0 dX10_rows_44 rfl rfl rfl rfl ?_
                  refine r_getf (pc2 := 48) (v := .ref 129) fX10_53 dX10_rows_45 c117 (by decide) rfl rfl ?_
                  refine r_aload_n (pc2 := 49) 0 dX10_rows_48 rfl rfl rfl rfl ?_
                  refine r_getf (pc2 := 52) (v := .ref 125) fX10_40 dX10_rows_49 c117 (by decide) rfl rfl ?_
                  refine r_iload_n (pc2 := 53) 3 dX10_rows_52 rfl rfl rfl ?_
                  refine r_ialdN (pc2 := 54) k dX10_rows_53 c125 (by decide) rfl (by omega) (by decide) rfl ?_
                  refine r_cast (nI (Q.getD k 0)) (hfQ k hlt) ?_
                  refine r_iload_n (pc2 := 55) 3 dX10_rows_54 rfl rfl rfl ?_
                  refine r_if_ne (tgt := 62) (pc2 := 58) dX10_rows_55 (by decide) rfl (fun b55 => ?_) (fun b55 => ?_)
                  · exact absurd b55 (fun z => z (by rw [hk0]; rfl))
                  · skip
                    refine r_lconst (pc2 := 59) (v := 1) dX10_rows_58 (by decide) rfl ?_
                    refine r_goto (pc2 := 63) dX10_rows_59 (by decide) ?_
                    refine r_castl (lN (if k = 0 then 1 else 0)) (by rw [hk0]; rfl) ?_
                    refine r_lastN (pc2 := 64) (Q.getD k 0) dX10_rows_63 c129 (by decide) rfl (by omega) (by decide) rfl (fun h z63 o63 c129 => ?_)
                    have c117 := (o63 117 (by decide)).trans c117
                    have c118 := (o63 118 (by decide)).trans c118
                    have c122 := (o63 122 (by decide)).trans c122
                    have c123 := (o63 123 (by decide)).trans c123
                    have c125 := (o63 125 (by decide)).trans c125
                    have c126 := (o63 126 (by decide)).trans c126
                    have c128 := (o63 128 (by decide)).trans c128
                    have c130 := (o63 130 (by decide)).trans c130
                    have hx := hx.step (a := 129) (by decide) z63 o63
                    rw [upd_lA] at c129
                    refine r_aload_n (pc2 := 65) 0 dX10_rows_64 rfl rfl rfl rfl ?_
                    refine r_getf (pc2 := 68) (v := .ref 130) fX10_57 dX10_rows_65 c117 (by decide) rfl rfl ?_
                    refine r_aload_n (pc2 := 69) 0 dX10_rows_68 rfl rfl rfl rfl ?_
                    refine r_getf (pc2 := 72) (v := .ref 125) fX10_40 dX10_rows_69 c117 (by decide) rfl rfl ?_
                    refine r_iload_n (pc2 := 73) 3 dX10_rows_72 rfl rfl rfl ?_
                    refine r_ialdN (pc2 := 74) k dX10_rows_73 c125 (by decide) rfl (by omega) (by decide) rfl ?_
                    refine r_cast (nI (Q.getD k 0)) (hfQ k hlt) ?_
                    refine r_lconst (pc2 := 75) (v := 0) dX10_rows_74 (by decide) rfl ?_
                    refine r_lastN (pc2 := 76) (Q.getD k 0) dX10_rows_75 c130 (by decide) rfl (by omega) (by decide) rfl (fun h z75 o75 c130 => ?_)
                    have c117 := (o75 117 (by decide)).trans c117
                    have c118 := (o75 118 (by decide)).trans c118
                    have c122 := (o75 122 (by decide)).trans c122
                    have c123 := (o75 123 (by decide)).trans c123
                    have c125 := (o75 125 (by decide)).trans c125
                    have c126 := (o75 126 (by decide)).trans c126
                    have c128 := (o75 128 (by decide)).trans c128
                    have c129 := (o75 129 (by decide)).trans c129
                    have hx := hx.step (a := 130) (by decide) z75 o75
                    rw [show vp_updL (lA my) (Q.getD k 0) 0 = lA (va_up my (Q.getD k 0) 0) from upd_lA my _ 0] at c130
                    obtain ⟨x76, e76⟩ : ∃ z : Int32, z = (nI k) + (1) := ⟨_, rfl⟩
                    refine r_iinc (pc2 := 79) (ls2 := [.ref 117, .int (nI st), .int (nI n), .int x76, .float 0, .float 0, .float 0]) (v := x76) 3 dX10_rows_76 rfl (by rw [e76]; rfl) rfl rfl rfl ?_
                    refine r_goto (pc2 := 36) dX10_rows_79 (by decide) ?_
                    rw [e76, nI_1]
                    exact ih (k + 1) _ _ _ (by omega) (INI_s hI hnd hlt) hx c117 c118 c122 c123 c125 c126 c128 c129 c130
              · skip
                refine r_iload_n (pc2 := 37) 3 dX10_rows_36 rfl rfl rfl ?_
                refine r_aload_n (pc2 := 38) 0 dX10_rows_37 rfl rfl rfl rfl ?_
                refine r_getf (pc2 := 41) (v := .int (nI Q.length)) fX10_344 dX10_rows_38 c117 (by decide) rfl rfl ?_
                refine r_icmp_ge (tgt := 82) (pc2 := 44) dX10_rows_41 (by decide) rfl (fun b41 => ?_) (fun b41 => ?_)
                · exact absurd b41 (nI_ge hlt (by omega))
                · skip
                  refine r_aload_n (pc2 := 45) 0 dX10_rows_44 rfl rfl rfl rfl ?_
                  refine r_getf (pc2 := 48) (v := .ref 129) fX10_53 dX10_rows_45 c117 (by decide) rfl rfl ?_
                  refine r_aload_n (pc2 := 49) 0 dX10_rows_48 rfl rfl rfl rfl ?_
                  refine r_getf (pc2 := 52) (v := .ref 125) fX10_40 dX10_rows_49 c117 (by decide) rfl rfl ?_
                  refine r_iload_n (pc2 := 53) 3 dX10_rows_52 rfl rfl rfl ?_
                  refine r_ialdN (pc2 := 54) k dX10_rows_53 c125 (by decide) rfl (by omega) (by decide) rfl ?_
                  refine r_cast (nI (Q.getD k 0)) (hfQ k hlt) ?_
                  refine r_iload_n (pc2 := 55) 3 dX10_rows_54 rfl rfl rfl ?_
                  refine r_if_ne (tgt := 62) (pc2 := 58) dX10_rows_55 (by decide) rfl (fun b55 => ?_) (fun b55 => ?_)
                  · skip
                    refine r_lconst (pc2 := 63) (v := 0) dX10_rows_62 (by decide) rfl ?_
                    refine r_castl (lN (if k = 0 then 1 else 0)) (by rw [if_neg hk0]; rfl) ?_
                    refine r_lastN (pc2 := 64) (Q.getD k 0) dX10_rows_63 c129 (by decide) rfl (by omega) (by decide) rfl (fun h z63 o63 c129 => ?_)
                    have c117 := (o63 117 (by decide)).trans c117
                    have c118 := (o63 118 (by decide)).trans c118
                    have c122 := (o63 122 (by decide)).trans c122
                    have c123 := (o63 123 (by decide)).trans c123
                    have c125 := (o63 125 (by decide)).trans c125
                    have c126 := (o63 126 (by decide)).trans c126
                    have c128 := (o63 128 (by decide)).trans c128
                    have c130 := (o63 130 (by decide)).trans c130
                    have hx := hx.step (a := 129) (by decide) z63 o63
                    rw [upd_lA] at c129
                    refine r_aload_n (pc2 := 65) 0 dX10_rows_64 rfl rfl rfl rfl ?_
                    refine r_getf (pc2 := 68) (v := .ref 130) fX10_57 dX10_rows_65 c117 (by decide) rfl rfl ?_
                    refine r_aload_n (pc2 := 69) 0 dX10_rows_68 rfl rfl rfl rfl ?_
                    refine r_getf (pc2 := 72) (v := .ref 125) fX10_40 dX10_rows_69 c117 (by decide) rfl rfl ?_
                    refine r_iload_n (pc2 := 73) 3 dX10_rows_72 rfl rfl rfl ?_
                    refine r_ialdN (pc2 := 74) k dX10_rows_73 c125 (by decide) rfl (by omega) (by decide) rfl ?_
                    refine r_cast (nI (Q.getD k 0)) (hfQ k hlt) ?_
                    refine r_lconst (pc2 := 75) (v := 0) dX10_rows_74 (by decide) rfl ?_
                    refine r_lastN (pc2 := 76) (Q.getD k 0) dX10_rows_75 c130 (by decide) rfl (by omega) (by decide) rfl (fun h z75 o75 c130 => ?_)
                    have c117 := (o75 117 (by decide)).trans c117
                    have c118 := (o75 118 (by decide)).trans c118
                    have c122 := (o75 122 (by decide)).trans c122
                    have c123 := (o75 123 (by decide)).trans c123
                    have c125 := (o75 125 (by decide)).trans c125
                    have c126 := (o75 126 (by decide)).trans c126
                    have c128 := (o75 128 (by decide)).trans c128
                    have c129 := (o75 129 (by decide)).trans c129
                    have hx := hx.step (a := 130) (by decide) z75 o75
                    rw [show vp_updL (lA my) (Q.getD k 0) 0 = lA (va_up my (Q.getD k 0) 0) from upd_lA my _ 0] at c130
                    obtain ⟨x76, e76⟩ : ∃ z : Int32, z = (nI k) + (1) := ⟨_, rfl⟩
                    refine r_iinc (pc2 := 79) (ls2 := [.ref 117, .int (nI st), .int (nI n), .int x76, .float 0, .float 0, .float 0]) (v := x76) 3 dX10_rows_76 rfl (by rw [e76]; rfl) rfl rfl rfl ?_
                    refine r_goto (pc2 := 36) dX10_rows_79 (by decide) ?_
                    rw [e76, nI_1]
                    exact ih (k + 1) _ _ _ (by omega) (INI_s hI hnd hlt) hx c117 c118 c122 c123 c125 c126 c128 c129 c130
                  · exact absurd (nI_z0 (by omega) b55) hk0
          exact init Q.length 0 mx0 my0 _ (by omega) (fun i hi => absurd hi (Nat.not_lt_zero _)) hx c117 c118 c122 c123 c125 c126 c128 c129 c130
        · exact absurd b23 (if1 hn8)
    · skip
      refine Cn.go (ls := [.ref 117, .int y, .int z, .float 0, .float 0, .float 0, .float 0]) (by decide +kernel) rfl (Nat.le_of_ble_eq_true rfl) ?_
      refine r_aload_n (pc2 := 1) 0 dX10_rows_0 rfl rfl rfl rfl ?_
      refine r_iconst (pc2 := 2) (v := 0) dX10_rows_1 (by decide) rfl ?_
      refine r_putfX (pc2 := 5) (moL (upd v 0 0)) fX10_1 dX10_rows_2 c117 (by decide) (Nat.le_of_ble_eq_true rfl) rfl rfl rfl (fun h z2 o2 c117 => ?_)
      have c118 := (o2 118 (by decide)).trans c118
      have c122 := (o2 122 (by decide)).trans c122
      have c123 := (o2 123 (by decide)).trans c123
      have c125 := (o2 125 (by decide)).trans c125
      have c126 := (o2 126 (by decide)).trans c126
      have c128 := (o2 128 (by decide)).trans c128
      have c129 := (o2 129 (by decide)).trans c129
      have c130 := (o2 130 (by decide)).trans c130
      have hx := hx.step (a := 117) (by decide) z2 o2
      refine r_aload_n (pc2 := 6) 0 dX10_rows_5 rfl rfl rfl rfl ?_
      refine r_iload_n (pc2 := 7) 1 dX10_rows_6 rfl rfl rfl ?_
      refine r_i2l (pc2 := 8) dX10_rows_7 rfl ?_
      refine r_callV1 (pc2 := 11) (As := [.long (Int32.toInt64 y)]) (st := []) kX10_259 rfl rfl dX10_rows_8 c117 (by decide) rfl rfl (Nat.le_of_ble_eq_true rfl) (by omega) (c_isSet c117 c118 hA.G (by omega)) rfl (fun h2 hq8 => ?_)
      subst hq8
      refine r_if_eq (tgt := 26) (pc2 := 14) dX10_rows_11 (by decide) rfl (fun b11 => ?_) (fun b11 => ?_)
      · exact absurd b11 (if1 hv)
      · skip
        refine r_iload_n (pc2 := 15) 2 dX10_rows_14 rfl rfl rfl ?_
        refine r_i2l (pc2 := 16) dX10_rows_15 rfl ?_
        refine r_lconst (pc2 := 17) (v := 0) dX10_rows_16 (by decide) rfl ?_
        refine r_ldc2 (pc2 := 20) (v := 8) qX10_367 dX10_rows_17 rfl ?_
        refine r_callS1 (pc2 := 23) (As := [.long (Int32.toInt64 z), .long 0, .long 8]) (st := []) kX10_152 dX10_rows_20 rfl rfl (Nat.le_of_ble_eq_true rfl) (by omega) (c_within (Int32.toInt64 z) 0 8) rfl (fun h2 hq20 => ?_)
        subst hq20
        refine r_if_ne (tgt := 30) (pc2 := 26) dX10_rows_23 (by decide) rfl (fun b23 => ?_) (fun b23 => ?_)
        · exact absurd (if0 hn8) b23
        · skip
          refine r_ldc2 (pc2 := 29) (v := -3) qX10_369 dX10_rows_26 rfl ?_
          exact r_lret rfl dX10_rows_29 ⟨by rw [rowsF, if_neg (fun z => hn8 z.2)], (upd v 0 0), ⟨rfl, rfl, rfl⟩, ⟨c117, c118, hx.get (by decide) k119, hx.get (by decide) k120, ⟨_, hx.get (by decide) k121⟩, ⟨_, c122⟩, ⟨_, c123⟩, ⟨_, hx.get (by decide) k124⟩, ⟨_, c125⟩, ⟨_, c126⟩, ⟨_, hx.get (by decide) k127⟩, ⟨_, c128⟩, ⟨_, c129⟩, ⟨_, c130⟩, ⟨_, hx.get (by decide) k131⟩, ⟨_, hx.get (by decide) k132⟩, ⟨_, hx.get (by decide) k133⟩, ⟨_, hx.get (by decide) k134⟩, ⟨_, hx.get (by decide) k135⟩, hx.get (by decide) k136, hx.get (by decide) k137, hx.get (by decide) k138⟩, hx.mono (by decide)⟩
  · skip
    refine Cn.go (ls := [.ref 117, .int y, .int z, .float 0, .float 0, .float 0, .float 0]) (by decide +kernel) rfl (Nat.le_of_ble_eq_true rfl) ?_
    refine r_aload_n (pc2 := 1) 0 dX10_rows_0 rfl rfl rfl rfl ?_
    refine r_iconst (pc2 := 2) (v := 0) dX10_rows_1 (by decide) rfl ?_
    refine r_putfX (pc2 := 5) (moL (upd v 0 0)) fX10_1 dX10_rows_2 c117 (by decide) (Nat.le_of_ble_eq_true rfl) rfl rfl rfl (fun h z2 o2 c117 => ?_)
    have c118 := (o2 118 (by decide)).trans c118
    have c122 := (o2 122 (by decide)).trans c122
    have c123 := (o2 123 (by decide)).trans c123
    have c125 := (o2 125 (by decide)).trans c125
    have c126 := (o2 126 (by decide)).trans c126
    have c128 := (o2 128 (by decide)).trans c128
    have c129 := (o2 129 (by decide)).trans c129
    have c130 := (o2 130 (by decide)).trans c130
    have hx := hx.step (a := 117) (by decide) z2 o2
    refine r_aload_n (pc2 := 6) 0 dX10_rows_5 rfl rfl rfl rfl ?_
    refine r_iload_n (pc2 := 7) 1 dX10_rows_6 rfl rfl rfl ?_
    refine r_i2l (pc2 := 8) dX10_rows_7 rfl ?_
    refine r_callV1 (pc2 := 11) (As := [.long (Int32.toInt64 y)]) (st := []) kX10_259 rfl rfl dX10_rows_8 c117 (by decide) rfl rfl (Nat.le_of_ble_eq_true rfl) (by omega) (c_isSet c117 c118 hA.G (by omega)) rfl (fun h2 hq8 => ?_)
    subst hq8
    refine r_if_eq (tgt := 26) (pc2 := 14) dX10_rows_11 (by decide) rfl (fun b11 => ?_) (fun b11 => ?_)
    · skip
      refine r_ldc2 (pc2 := 29) (v := -3) qX10_369 dX10_rows_26 rfl ?_
      exact r_lret rfl dX10_rows_29 ⟨by rw [rowsF, if_neg (fun z => hv z.1)], (upd v 0 0), ⟨rfl, rfl, rfl⟩, ⟨c117, c118, hx.get (by decide) k119, hx.get (by decide) k120, ⟨_, hx.get (by decide) k121⟩, ⟨_, c122⟩, ⟨_, c123⟩, ⟨_, hx.get (by decide) k124⟩, ⟨_, c125⟩, ⟨_, c126⟩, ⟨_, hx.get (by decide) k127⟩, ⟨_, c128⟩, ⟨_, c129⟩, ⟨_, c130⟩, ⟨_, hx.get (by decide) k131⟩, ⟨_, hx.get (by decide) k132⟩, ⟨_, hx.get (by decide) k133⟩, ⟨_, hx.get (by decide) k134⟩, ⟨_, hx.get (by decide) k135⟩, hx.get (by decide) k136, hx.get (by decide) k137, hx.get (by decide) k138⟩, hx.mono (by decide)⟩
    · exact absurd (if0 hv) b11
