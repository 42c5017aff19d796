/-! new cells, and heaps that grew -/
theorem okA {t : FieldType} {a : Nat} (h : 64 ≤ a) : okW (.array t) (.ref a) = true := decide_eq_true h
theorem okO {t : String} {a : Nat} (h : 64 ≤ a) : okW (.object t) (.ref a) = true := decide_eq_true h
theorem r_newX {E : EnvT} {M : MD} {d pc pc2 idx ci N : Nat} {ls st fs : List Value} {h : Hp} {Q : Option Value → Hp → Prop} (f : NL M.1.cls idx ci N fs) (hd : decode M.2.1 pc = .ok (.new idx, 3)) (hp : pc + 3 = pc2) (h64 : 64 ≤ h.2.1) (kk : ∀ (q : Nat) (h2 : Hp), q = h.2.1 → h2.2.1 = q + 1 → h2.2.2 = h.2.2 + N → (∀ b, b ≠ q → h2.1 b = h.1 b) → h2.1 q = some (.inr (ci, fs)) → Fr E M d pc2 ls (.ref q :: st) h2 Q) : Fr E M d pc ls st h Q :=
  r_new f hd hp (fun _ => kk h.2.1 _ rfl rfl rfl (fun _ hb => hn_ne h _ _ hb) (hn_same h _ _)) h64
theorem r_newiX {E : EnvT} {M : MD} {d pc pc2 N : Nat} {n : Int32} {ls st : List Value} {h : Hp} {Q : Option Value → Hp → Prop} (hA : Cond.arrayClass .int ∈ gT) (hd : decode M.2.1 pc = .ok (.newarray .int, 2)) (hn : ¬ n < 0) (hN : n.toNatClampNeg = N) (hbig : N ≤ 1000000) (hp : pc + 2 = pc2) (h64 : 64 ≤ h.2.1) (kk : ∀ (q : Nat) (h2 : Hp), q = h.2.1 → h2.2.1 = q + 1 → h2.2.2 = h.2.2 + N → (∀ b, b ≠ q → h2.1 b = h.1 b) → h2.1 q = some (.inl (0, N, .inl (fun _ => 0))) → Fr E M d pc2 ls (.ref q :: st) h2 Q) : Fr E M d pc ls (.int n :: st) h Q :=
  r_newi hA hd hn hN hbig hp (kk h.2.1 _ rfl rfl rfl (fun _ hb => hn_ne h _ _ hb) (hn_same h _ _)) h64
theorem r_newlX {E : EnvT} {M : MD} {d pc pc2 N : Nat} {n : Int32} {ls st : List Value} {h : Hp} {Q : Option Value → Hp → Prop} (hA : Cond.arrayClass .long ∈ gT) (hd : decode M.2.1 pc = .ok (.newarray .long, 2)) (hn : ¬ n < 0) (hN : n.toNatClampNeg = N) (hbig : N ≤ 1000000) (hp : pc + 2 = pc2) (h64 : 64 ≤ h.2.1) (kk : ∀ (q : Nat) (h2 : Hp), q = h.2.1 → h2.2.1 = q + 1 → h2.2.2 = h.2.2 + N → (∀ b, b ≠ q → h2.1 b = h.1 b) → h2.1 q = some (.inl (1, N, .inr (.inl (fun _ => 0)))) → Fr E M d pc2 ls (.ref q :: st) h2 Q) : Fr E M d pc ls (.int n :: st) h Q :=
  r_newl hA hd hn hN hbig hp (kk h.2.1 _ rfl rfl rfl (fun _ hb => hn_ne h _ _ hb) (hn_same h _ _)) h64
theorem r_newbX {E : EnvT} {M : MD} {d pc pc2 N : Nat} {n : Int32} {ls st : List Value} {h : Hp} {Q : Option Value → Hp → Prop} (hA : Cond.arrayClass .byte ∈ gT) (hd : decode M.2.1 pc = .ok (.newarray .byte, 2)) (hn : ¬ n < 0) (hN : n.toNatClampNeg = N) (hbig : N ≤ 1000000) (hp : pc + 2 = pc2) (h64 : 64 ≤ h.2.1) (kk : ∀ (q : Nat) (h2 : Hp), q = h.2.1 → h2.2.1 = q + 1 → h2.2.2 = h.2.2 + N → (∀ b, b ≠ q → h2.1 b = h.1 b) → h2.1 q = some (.inl (2, N, .inl (fun _ => 0))) → Fr E M d pc2 ls (.ref q :: st) h2 Q) : Fr E M d pc ls (.int n :: st) h Q :=
  r_newb hA hd hn hN hbig hp (kk h.2.1 _ rfl rfl rfl (fun _ hb => hn_ne h _ _ hb) (hn_same h _ _)) h64
theorem r_newzX {E : EnvT} {M : MD} {d pc pc2 N : Nat} {n : Int32} {ls st : List Value} {h : Hp} {Q : Option Value → Hp → Prop} (hA : Cond.arrayClass .boolean ∈ gT) (hd : decode M.2.1 pc = .ok (.newarray .boolean, 2)) (hn : ¬ n < 0) (hN : n.toNatClampNeg = N) (hbig : N ≤ 1000000) (hp : pc + 2 = pc2) (h64 : 64 ≤ h.2.1) (kk : ∀ (q : Nat) (h2 : Hp), q = h.2.1 → h2.2.1 = q + 1 → h2.2.2 = h.2.2 + N → (∀ b, b ≠ q → h2.1 b = h.1 b) → h2.1 q = some (.inl (3, N, .inl (fun _ => 0))) → Fr E M d pc2 ls (.ref q :: st) h2 Q) : Fr E M d pc ls (.int n :: st) h Q :=
  r_newz hA hd hn hN hbig hp (kk h.2.1 _ rfl rfl rfl (fun _ hb => hn_ne h _ _ hb) (hn_same h _ _)) h64
theorem r_newqX {E : EnvT} {M : MD} {d pc pc2 N k idx : Nat} {n : Int32} {C9 : String} {ls st : List Value} {h : Hp} {Q : Option Value → Hp → Prop} (hk : ∀ E : EnvT, (kinds E)[k]? = some (e_k E k, .object C9)) (hA : C9 = "SleepAct$Stand" ∨ C9 = "SleepAct$Street" ∨ C9 = "SleepAct$Tray") (hL : Cond.classLink M.1.cls idx C9 ∈ gT) (hd : decode M.2.1 pc = .ok (.anewarray idx, 3)) (hn : ¬ n < 0) (hN : n.toNatClampNeg = N) (hbig : N ≤ 1000000) (hp : pc + 3 = pc2) (h64 : 64 ≤ h.2.1) (kk : ∀ (q : Nat) (h2 : Hp), q = h.2.1 → h2.2.1 = q + 1 → h2.2.2 = h.2.2 + N → (∀ b, b ≠ q → h2.1 b = h.1 b) → h2.1 q = some (.inl (k, N, .inr (.inr (.inr (.inr (fun _ => none)))))) → Fr E M d pc2 ls (.ref q :: st) h2 Q) : Fr E M d pc ls (.int n :: st) h Q :=
  r_newq hk hA hL hd hn hN hbig hp (kk h.2.1 _ rfl rfl rfl (fun _ hb => hn_ne h _ _ hb) (hn_same h _ _)) h64
theorem r_aastX {E : EnvT} {M : MD} {d pc pc2 a n k b ci j : Nat} {r : vw_C} {i : Int32} {f : Nat → Option Nat} {ls st fs : List Value} {h : Hp} {Q : Option Value → Hp → Prop} (hd : decode M.2.1 pc = .ok (.aastore, 1)) (ha : h.1 a = some (.inl (k, n, .inr (.inr (.inr (.inr f)))))) (hc : vwCl[ci]? = some r) (hk : ∀ E : EnvT, (kinds E)[k]? = some (e_k E k, .object r.1)) (h64 : 64 ≤ a) (hin : vp_in i n) (hj : i.toNatClampNeg = j) (hv : h.1 b = some (.inr (ci, fs))) (hb : 64 ≤ b) (hp : pc + 1 = pc2) (kk : ∀ h2 : Hp, h2.2 = h.2 → (∀ b, b ≠ a → h2.1 b = h.1 b) → h2.1 a = some (.inl (k, n, .inr (.inr (.inr (.inr (va_up f j (some b))))))) → Fr E M d pc2 ls st h2 Q) : Fr E M d pc ls (.ref b :: .int i :: .ref a :: st) h Q := by
  subst hj
  exact r_aast hd ha hc hk h64 hin hv hb hp (kk _ rfl (fun _ q => hs_ne h _ q) (hs_same h _ _))
abbrev aR (k n : Nat) (f : Nat → Option Nat) : va_E := .inl (k, n, .inr (.inr (.inr (.inr f))))
/-- what lay there before and isn't of S lies there as it did -/
def Gx (S : List Nat) (h h2 : Hp) : Prop := h.2.1 ≤ h2.2.1 ∧ ∀ q, q < h.2.1 → q ∉ S → h2.1 q = h.1 q
theorem Gx.rf {S : List Nat} {h : Hp} : Gx S h h := ⟨Nat.le_refl _, fun _ _ _ => rfl⟩
theorem Gx.ex {S S2 : List Nat} {h h1 h2 : Hp} (x : Gx S h h1) (y : Ex S2 h1 h2) (hs : ∀ a ∈ S2, a ∈ S) : Gx S h h2 := ⟨by rw [y.1]; exact x.1, fun q a b => (y.2 q (fun z => b (hs q z))).trans (x.2 q a b)⟩
theorem Gx.trans {S S2 : List Nat} {h h1 h2 : Hp} (x : Gx S h h1) (y : Gx S2 h1 h2) (hs : ∀ a ∈ S2, a ∈ S) : Gx S h h2 := ⟨Nat.le_trans x.1 y.1, fun q a b => (y.2 q (Nat.lt_of_lt_of_le a x.1) (fun z => b (hs q z))).trans (x.2 q a b)⟩
theorem Gx.mono {S S2 : List Nat} {h h2 : Hp} (x : Gx S h h2) (hs : ∀ a ∈ S, a ∈ S2) : Gx S2 h h2 := ⟨x.1, fun q a b => x.2 q a (fun z => b (hs q z))⟩
theorem Gx.get {S : List Nat} {h h2 : Hp} (x : Gx S h h2) {a : Nat} {e : Option va_E} (ha : a ∉ S) (hl : a < h.2.1) (c : h.1 a = e) : h2.1 a = e := (x.2 a hl ha).trans c
theorem Ex.gx {S : List Nat} {h h2 : Hp} (x : Ex S h h2) : Gx S h h2 := ⟨by rw [x.1]; exact Nat.le_refl _, fun q _ b => x.2 q b⟩
/-- what may stand in a field that holds a street -/
abbrev GV : Type := {n : Nat // 64 ≤ n}
def LWA (h : Hp) (reg : Nat → FR) (ns kd : Nat) : Prop := (∃ (V0 : GV) (V1 V2 : Value), h.1 82 = some (.inr (2, [.ref V0.1, V1, V2, .ref 87, kdV kd, .ref 88, .ref 89]))) ∧ (∃ kn, h.1 87 = some (aI 280 kn) ∧ CN reg ns kn) ∧ (∃ w, h.1 88 = some (aI 6 w)) ∧ (∃ f, h.1 89 = some (aI 64 f)) ∧ (kd ≠ 0 → 139 ≤ kd ∧ ∃ g, h.1 kd = some (aI 32000 g) ∧ CD reg ns g)
theorem LWS.any {h : Hp} {reg : Nat → FR} {ns s sg dr kd : Nat} (x : LWS h reg ns s sg dr kd) (h64 : 64 ≤ s := by first | assumption | omega) : LWA h reg ns kd := ⟨⟨⟨s, h64⟩, _, _, x.1⟩, x.2⟩
/-- depths are kept from now on, or as before -/
def KQ (h h2 : Hp) (kd kd2 : Nat) : Prop := (kd2 = kd ∧ h2.2 = h.2) ∨ (kd = 0 ∧ kd2 = h.2.1 ∧ h2.2.1 = h.2.1 + 1 ∧ h2.2.2 = h.2.2 + 32000)
theorem CD.zero {reg : Nat → FR} {ns : Nat} (hns : ns ≤ 900) : CD reg ns (fun _ => 0) := fun j hj sg dr h1 h2 e => by
  have e : (0 : Int32) >>> ((4 : Int32) &&& 31) = nI (stN sg dr) := e
  rw [show (0 : Int32) >>> ((4 : Int32) &&& 31) = nI 0 by decide] at e
  have := (nI_eq (by omega) (by unfold stN; omega)).mp e
  unfold stN at this
  omega
theorem Gx.step {S : List Nat} {h h1 h2 : Hp} {a : Nat} (x : Gx S h h1) (ha : a ∈ S) (o : ∀ b, b ≠ a → h2.1 b = h1.1 b) (z : h2.2 = h1.2) : Gx S h h2 := ⟨by rw [z]; exact x.1, fun q h3 h4 => (o q (fun e => h4 (e ▸ ha))).trans (x.2 q h3 h4)⟩
theorem Gx.fresh {S : List Nat} {h h1 h2 : Hp} {a : Nat} (x : Gx S h h1) (ha : h.2.1 ≤ a) (o : ∀ b, b ≠ a → h2.1 b = h1.1 b) (z : h1.2.1 ≤ h2.2.1) : Gx S h h2 := ⟨Nat.le_trans x.1 z, fun q h3 h4 => (o q (by omega)).trans (x.2 q h3 h4)⟩
set_option maxRecDepth 20000 in
set_option maxHeartbeats 1000000 in
theorem c_take {E : EnvT} {d : Nat} {h0 : Hp} {Z : Nat → Prop} {reg : Nat → FR} {b : FR} {ns s sg dr kd : Nat} (hL : LWA h0 reg ns kd) (hS : StO Z h0 s sg b) (hZ : ZL Z kd) (hb : LK b) (hns : ns ≤ 900) (hsl : s < h0.2.1) (hn : 139 ≤ h0.2.1) : Cn E mX2_take d [.ref 82, .ref s, .int (nI dr)] h0 (fun r h2 => r = none ∧ ∃ kd2, KQ h0 h2 kd kd2 ∧ (b 9 = 1 → kd2 ≠ 0) ∧ LWS h2 reg ns s sg dr kd2 ∧ Gx [82] h0 h2) := by
  obtain ⟨⟨V0, V1, V2, c82⟩, ⟨kn, c87, hCN⟩, ⟨w, c88⟩, ⟨f, c89⟩, hKD⟩ := hL
  obtain ⟨lo, so, sa, nl, sl, ⟨zs, zlo, zso, zsa⟩, cs, _, _, _, hl0, hl1⟩ := hS
  have hx : Ex [82] h0 h0 := Ex.rf
  have hg : Gx [82] h0 h0 := Gx.rf
  by_cases hk0 : kd = 0
  · subst hk0
    rw [show kdV 0 = .null from if_pos rfl] at c82
    rcases hl1 with ⟨h9, rfl⟩ | ⟨h9, na, fc, rfl, zna, cna, hfc⟩
    · have h9 : b 9 = 0 := h9
      refine Cn.go (ls := [.ref 82, .ref s, .int (nI dr)]) (by decide +kernel) rfl (Nat.le_of_ble_eq_true rfl) ?_
      refine r_aload_n (pc2 := 1) 0 dX2_take_0 rfl rfl rfl rfl ?_
      refine r_aload_n (pc2 := 2) 1 dX2_take_1 rfl rfl rfl rfl ?_
      refine r_putfX (pc2 := 5) [.ref s, V1, V2, .ref 87, .null, .ref 88, .ref 89] fX2_14 dX2_take_2 c82 (by decide) (Nat.le_of_ble_eq_true rfl) (by simp [okW]; exact (hZ s zs).1) rfl rfl (fun h z2 o2 c82 => ?_)
      have cs := (o2 s (hZ s zs).2.1).trans cs
      have c87 := (o2 87 (by decide)).trans c87
      have c88 := (o2 88 (by decide)).trans c88
      have c89 := (o2 89 (by decide)).trans c89
      have hx := hx.step (a := 82) (by decide) z2 o2
      refine r_aload_n (pc2 := 6) 0 dX2_take_5 rfl rfl rfl rfl ?_
      refine r_iload_n (pc2 := 7) 2 dX2_take_6 rfl rfl rfl ?_
      refine r_putfX (pc2 := 10) [.ref s, .int (nI dr), V2, .ref 87, .null, .ref 88, .ref 89] fX2_30 dX2_take_7 c82 (by decide) (Nat.le_of_ble_eq_true rfl) rfl rfl rfl (fun h z7 o7 c82 => ?_)
      have cs := (o7 s (hZ s zs).2.1).trans cs
      have c87 := (o7 87 (by decide)).trans c87
      have c88 := (o7 88 (by decide)).trans c88
      have c89 := (o7 89 (by decide)).trans c89
      have hx := hx.step (a := 82) (by decide) z7 o7
      refine r_aload_n (pc2 := 11) 0 dX2_take_10 rfl rfl rfl rfl ?_
      refine r_aload_n (pc2 := 12) 1 dX2_take_11 rfl rfl rfl rfl ?_
      refine r_getf (pc2 := 15) (v := .int (nI sg)) fX2_34 dX2_take_12 cs (hZ s zs).1 rfl rfl ?_
      refine r_bipush (pc2 := 17) (v := 10) dX2_take_15 (by decide) rfl ?_
      refine r_imul (pc2 := 18) dX2_take_17 rfl ?_
      refine r_cast (nI (sg * 10)) (pk_mul sg 10) ?_
      refine r_iload_n (pc2 := 19) 2 dX2_take_18 rfl rfl rfl ?_
      refine r_iadd (pc2 := 20) dX2_take_19 rfl ?_
      refine r_cast (nI (sg * 10 + dr)) (nI_add _ _) ?_
      refine r_iconst (pc2 := 21) (v := 1) dX2_take_20 (by decide) rfl ?_
      refine r_iadd (pc2 := 22) dX2_take_21 rfl ?_
      refine r_cast (nI (stN sg dr)) (by rw [nI_1]; congr 1; unfold stN; omega) ?_
      refine r_putfX (pc2 := 25) [.ref s, .int (nI dr), .int (nI (stN sg dr)), .ref 87, .null, .ref 88, .ref 89] fX2_37 dX2_take_22 c82 (by decide) (Nat.le_of_ble_eq_true rfl) rfl rfl rfl (fun h z22 o22 c82 => ?_)
      have cs := (o22 s (hZ s zs).2.1).trans cs
      have c87 := (o22 87 (by decide)).trans c87
      have c88 := (o22 88 (by decide)).trans c88
      have c89 := (o22 89 (by decide)).trans c89
      have hx := hx.step (a := 82) (by decide) z22 o22
      refine r_aload_n (pc2 := 26) 0 dX2_take_25 rfl rfl rfl rfl ?_
      refine r_getf (pc2 := 29) (v := .null) fX2_40 dX2_take_26 c82 (by decide) rfl rfl ?_
      refine r_ifnonnullN (pc2 := 32) dX2_take_29 rfl ?_
      refine r_aload_n (pc2 := 33) 1 dX2_take_32 rfl rfl rfl rfl ?_
      refine r_getf (pc2 := 36) (v := .null) fX2_43 dX2_take_33 cs (hZ s zs).1 rfl rfl ?_
      refine r_ifnullN (tgt := 48) dX2_take_36 (by decide) ?_
      exact r_vret rfl dX2_take_48 ⟨rfl, 0, Or.inl ⟨rfl, hx.1⟩, fun z => by omega, ⟨(by  exact c82), ⟨kn, c87, hCN⟩, ⟨w, c88⟩, ⟨f, c89⟩, fun z => absurd rfl z⟩, hx.gx⟩
    · have h9 : b 9 = 1 := h9
      refine Cn.go (ls := [.ref 82, .ref s, .int (nI dr)]) (by decide +kernel) rfl (Nat.le_of_ble_eq_true rfl) ?_
      refine r_aload_n (pc2 := 1) 0 dX2_take_0 rfl rfl rfl rfl ?_
      refine r_aload_n (pc2 := 2) 1 dX2_take_1 rfl rfl rfl rfl ?_
      refine r_putfX (pc2 := 5) [.ref s, V1, V2, .ref 87, .null, .ref 88, .ref 89] fX2_14 dX2_take_2 c82 (by decide) (Nat.le_of_ble_eq_true rfl) (by simp [okW]; exact (hZ s zs).1) rfl rfl (fun h z2 o2 c82 => ?_)
      have cs := (o2 s (hZ s zs).2.1).trans cs
      have c87 := (o2 87 (by decide)).trans c87
      have c88 := (o2 88 (by decide)).trans c88
      have c89 := (o2 89 (by decide)).trans c89
      have hg := hg.step (a := 82) (by decide) o2 z2
      have hn : 139 ≤ h.2.1 := by rw [z2]; exact hn
      refine r_aload_n (pc2 := 6) 0 dX2_take_5 rfl rfl rfl rfl ?_
      refine r_iload_n (pc2 := 7) 2 dX2_take_6 rfl rfl rfl ?_
      refine r_putfX (pc2 := 10) [.ref s, .int (nI dr), V2, .ref 87, .null, .ref 88, .ref 89] fX2_30 dX2_take_7 c82 (by decide) (Nat.le_of_ble_eq_true rfl) rfl rfl rfl (fun h z7 o7 c82 => ?_)
      have cs := (o7 s (hZ s zs).2.1).trans cs
      have c87 := (o7 87 (by decide)).trans c87
      have c88 := (o7 88 (by decide)).trans c88
      have c89 := (o7 89 (by decide)).trans c89
      have hg := hg.step (a := 82) (by decide) o7 z7
      have hn : 139 ≤ h.2.1 := by rw [z7]; exact hn
      refine r_aload_n (pc2 := 11) 0 dX2_take_10 rfl rfl rfl rfl ?_
      refine r_aload_n (pc2 := 12) 1 dX2_take_11 rfl rfl rfl rfl ?_
      refine r_getf (pc2 := 15) (v := .int (nI sg)) fX2_34 dX2_take_12 cs (hZ s zs).1 rfl rfl ?_
      refine r_bipush (pc2 := 17) (v := 10) dX2_take_15 (by decide) rfl ?_
      refine r_imul (pc2 := 18) dX2_take_17 rfl ?_
      refine r_cast (nI (sg * 10)) (pk_mul sg 10) ?_
      refine r_iload_n (pc2 := 19) 2 dX2_take_18 rfl rfl rfl ?_
      refine r_iadd (pc2 := 20) dX2_take_19 rfl ?_
      refine r_cast (nI (sg * 10 + dr)) (nI_add _ _) ?_
      refine r_iconst (pc2 := 21) (v := 1) dX2_take_20 (by decide) rfl ?_
      refine r_iadd (pc2 := 22) dX2_take_21 rfl ?_
      refine r_cast (nI (stN sg dr)) (by rw [nI_1]; congr 1; unfold stN; omega) ?_
      refine r_putfX (pc2 := 25) [.ref s, .int (nI dr), .int (nI (stN sg dr)), .ref 87, .null, .ref 88, .ref 89] fX2_37 dX2_take_22 c82 (by decide) (Nat.le_of_ble_eq_true rfl) rfl rfl rfl (fun h z22 o22 c82 => ?_)
      have cs := (o22 s (hZ s zs).2.1).trans cs
      have c87 := (o22 87 (by decide)).trans c87
      have c88 := (o22 88 (by decide)).trans c88
      have c89 := (o22 89 (by decide)).trans c89
      have hg := hg.step (a := 82) (by decide) o22 z22
      have hn : 139 ≤ h.2.1 := by rw [z22]; exact hn
      refine r_aload_n (pc2 := 26) 0 dX2_take_25 rfl rfl rfl rfl ?_
      refine r_getf (pc2 := 29) (v := .null) fX2_40 dX2_take_26 c82 (by decide) rfl rfl ?_
      refine r_ifnonnullN (pc2 := 32) dX2_take_29 rfl ?_
      refine r_aload_n (pc2 := 33) 1 dX2_take_32 rfl rfl rfl rfl ?_
      refine r_getf (pc2 := 36) (v := .ref na) fX2_43 dX2_take_33 cs (hZ s zs).1 rfl rfl ?_
      refine r_ifnull (pc2 := 39) dX2_take_36 (hZ na zna).1 rfl ?_
      refine r_aload_n (pc2 := 40) 0 dX2_take_39 rfl rfl rfl rfl ?_
      refine r_sipush (pc2 := 43) (v := 32000) dX2_take_40 (by decide) rfl ?_
      refine r_newiX (pc2 := 45) (N := 32000) aC_int dX2_take_43 (by decide) (by decide) (by decide) rfl (by omega) (fun q43 h eq43 zc43 zs43 o43 c_q43 => ?_)
      have c82 := (o43 82 (by omega)).trans c82
      have cs := (o43 s (by have := hg.1; omega)).trans cs
      have c87 := (o43 87 (by omega)).trans c87
      have c88 := (o43 88 (by omega)).trans c88
      have c89 := (o43 89 (by omega)).trans c89
      have hg := hg.fresh (a := q43) (by have := hg.1; omega) o43 (by omega)
      have hn : 139 ≤ h.2.1 := by omega
      refine r_putfX (pc2 := 48) [.ref s, .int (nI dr), .int (nI (stN sg dr)), .ref 87, .ref q43, .ref 88, .ref 89] fX2_40 dX2_take_45 c82 (by decide) (Nat.le_of_ble_eq_true rfl) (okA (by have := eq43; have := zc43; omega)) rfl rfl (fun h z45 o45 c82 => ?_)
      have cs := (o45 s (hZ s zs).2.1).trans cs
      have c87 := (o45 87 (by decide)).trans c87
      have c88 := (o45 88 (by decide)).trans c88
      have c89 := (o45 89 (by decide)).trans c89
      have c_q43 := (o45 q43 (by omega)).trans c_q43
      have hg := hg.step (a := 82) (by decide) o45 z45
      have hn : 139 ≤ h.2.1 := by rw [z45]; exact hn
      have e1 : q43 = h0.2.1 := by rw [eq43, z22, z7, z2]
      have n1 : h.2.1 = h0.2.1 + 1 := by rw [z45, zc43, e1]
      have n2 : h.2.2 = h0.2.2 + 32000 := by rw [z45, zs43, z22, z7, z2]
      exact r_vret rfl dX2_take_48 ⟨rfl, q43, Or.inr ⟨rfl, e1, n1, n2⟩, fun _ => by omega, ⟨(by rw [show kdV q43 = .ref q43 from if_neg (by omega)]; exact c82), ⟨kn, c87, hCN⟩, ⟨w, c88⟩, ⟨f, c89⟩, fun _ => ⟨by omega, _, c_q43, CD.zero hns⟩⟩, hg⟩
  · rw [show kdV kd = .ref kd from if_neg hk0] at c82
    have hk9 := (hKD hk0).1
    refine Cn.go (ls := [.ref 82, .ref s, .int (nI dr)]) (by decide +kernel) rfl (Nat.le_of_ble_eq_true rfl) ?_
    refine r_aload_n (pc2 := 1) 0 dX2_take_0 rfl rfl rfl rfl ?_
    refine r_aload_n (pc2 := 2) 1 dX2_take_1 rfl rfl rfl rfl ?_
    refine r_putfX (pc2 := 5) [.ref s, V1, V2, .ref 87, .ref kd, .ref 88, .ref 89] fX2_14 dX2_take_2 c82 (by decide) (Nat.le_of_ble_eq_true rfl) (by simp [okW]; exact (hZ s zs).1) rfl rfl (fun h z2 o2 c82 => ?_)
    have cs := (o2 s (hZ s zs).2.1).trans cs
    have c87 := (o2 87 (by decide)).trans c87
    have c88 := (o2 88 (by decide)).trans c88
    have c89 := (o2 89 (by decide)).trans c89
    have hx := hx.step (a := 82) (by decide) z2 o2
    refine r_aload_n (pc2 := 6) 0 dX2_take_5 rfl rfl rfl rfl ?_
    refine r_iload_n (pc2 := 7) 2 dX2_take_6 rfl rfl rfl ?_
    refine r_putfX (pc2 := 10) [.ref s, .int (nI dr), V2, .ref 87, .ref kd, .ref 88, .ref 89] fX2_30 dX2_take_7 c82 (by decide) (Nat.le_of_ble_eq_true rfl) rfl rfl rfl (fun h z7 o7 c82 => ?_)
    have cs := (o7 s (hZ s zs).2.1).trans cs
    have c87 := (o7 87 (by decide)).trans c87
    have c88 := (o7 88 (by decide)).trans c88
    have c89 := (o7 89 (by decide)).trans c89
    have hx := hx.step (a := 82) (by decide) z7 o7
    refine r_aload_n (pc2 := 11) 0 dX2_take_10 rfl rfl rfl rfl ?_
    refine r_aload_n (pc2 := 12) 1 dX2_take_11 rfl rfl rfl rfl ?_
    refine r_getf (pc2 := 15) (v := .int (nI sg)) fX2_34 dX2_take_12 cs (hZ s zs).1 rfl rfl ?_
    refine r_bipush (pc2 := 17) (v := 10) dX2_take_15 (by decide) rfl ?_
    refine r_imul (pc2 := 18) dX2_take_17 rfl ?_
    refine r_cast (nI (sg * 10)) (pk_mul sg 10) ?_
    refine r_iload_n (pc2 := 19) 2 dX2_take_18 rfl rfl rfl ?_
    refine r_iadd (pc2 := 20) dX2_take_19 rfl ?_
    refine r_cast (nI (sg * 10 + dr)) (nI_add _ _) ?_
    refine r_iconst (pc2 := 21) (v := 1) dX2_take_20 (by decide) rfl ?_
    refine r_iadd (pc2 := 22) dX2_take_21 rfl ?_
    refine r_cast (nI (stN sg dr)) (by rw [nI_1]; congr 1; unfold stN; omega) ?_
    refine r_putfX (pc2 := 25) [.ref s, .int (nI dr), .int (nI (stN sg dr)), .ref 87, .ref kd, .ref 88, .ref 89] fX2_37 dX2_take_22 c82 (by decide) (Nat.le_of_ble_eq_true rfl) rfl rfl rfl (fun h z22 o22 c82 => ?_)
    have cs := (o22 s (hZ s zs).2.1).trans cs
    have c87 := (o22 87 (by decide)).trans c87
    have c88 := (o22 88 (by decide)).trans c88
    have c89 := (o22 89 (by decide)).trans c89
    have hx := hx.step (a := 82) (by decide) z22 o22
    refine r_aload_n (pc2 := 26) 0 dX2_take_25 rfl rfl rfl rfl ?_
    refine r_getf (pc2 := 29) (v := .ref kd) fX2_40 dX2_take_26 c82 (by decide) rfl rfl ?_
    refine r_ifnonnull (tgt := 48) dX2_take_29 (by omega) (by decide) ?_
    exact r_vret rfl dX2_take_48 ⟨rfl, kd, Or.inl ⟨rfl, hx.1⟩, fun _ => hk0, ⟨(by rw [show kdV kd = .ref kd from if_neg hk0]; exact c82), ⟨kn, c87, hCN⟩, ⟨w, c88⟩, ⟨f, c89⟩, fun z => ⟨(hKD z).1, by obtain ⟨g9, q, r⟩ := (hKD z).2; exact ⟨g9, hx.get (by have := (hKD z).1; simp; omega) q, r⟩⟩⟩, hx.gx⟩
