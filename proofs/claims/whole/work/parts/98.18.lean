/-! the class: walks: kept between calls; begun; made -/
theorem SG_stat {a b : FR} (h : Stat a b) : SG a = SG b := funext fun s => by
  unfold SG
  rw [h 1 (by omega), h 3 (by omega)]
theorem okS_stat {a b : FR} (h : Stat a b) : okS a = okS b := funext fun s => funext fun c => by
  unfold okS why2
  rw [h 1 (by omega), h 3 (by omega)]
theorem nxS_stat {a b : FR} (h : Stat a b) (hb : AOK b) : nxS a = fun s c => hourN b s c 0 (a 27) := funext fun s => funext fun c => hourN_stat h hb s c 0 (a 27)
def isN (v : Value) : Nat := match v with
  | .null => 1
  | _ => 0
def ptC (wk dt : Value) (kd : Nat) : Nat := (if kd = 0 then 1 else 0) + 8 * isN wk + 3 * isN dt
def ptS (wk dt : Value) (kd : Nat) : Nat := 32000 * (if kd = 0 then 1 else 0) + 73000 * isN wk + 49000 * isN dt
/-- how much room a call takes, what is made once being counted ahead -/
def RmE (c e : Nat) (h h2 : Hp) (wk dt : Value) (kd : Nat) (wk2 dt2 : Value) (kd2 : Nat) : Prop := h.2.1 ≤ h2.2.1 ∧ h2.2.1 + ptC wk2 dt2 kd2 ≤ h.2.1 + ptC wk dt kd + c ∧ h2.2.2 + ptS wk2 dt2 kd2 ≤ h.2.2 + ptS wk dt kd + e ∧ (kd2 = kd ∨ (kd = 0 ∧ h.2.1 ≤ kd2)) ∧ (kd < h.2.1 → kd2 < h2.2.1)
theorem KQ.rm {h h2 : Hp} {wk dt : Value} {kd kd2 : Nat} (x : KQ h h2 kd kd2) (hn : 139 ≤ h.2.1) : RmE 0 0 h h2 wk dt kd wk dt kd2 := by
  unfold RmE ptC ptS
  rcases x with ⟨x1, x2⟩ | ⟨x1, x2, x3, x4⟩
  · rw [x1, x2]
    exact ⟨Nat.le_refl _, Nat.le_refl _, Nat.le_refl _, Or.inl rfl, fun z => z⟩
  · rw [if_neg (show ¬ kd2 = 0 by omega), if_pos x1]
    refine ⟨by omega, by omega, by omega, Or.inr ⟨x1, by omega⟩, fun z => by omega⟩
theorem RmE.trans {c e c2 e2 : Nat} {h h1 h2 : Hp} {wk dt wk1 dt1 wk2 dt2 : Value} {kd kd1 kd2 : Nat} (x : RmE c e h h1 wk dt kd wk1 dt1 kd1) (y : RmE c2 e2 h1 h2 wk1 dt1 kd1 wk2 dt2 kd2) (hn : 139 ≤ h.2.1) : RmE (c + c2) (e + e2) h h2 wk dt kd wk2 dt2 kd2 := by
  obtain ⟨x1, x2, x3, x4, x5⟩ := x
  obtain ⟨y1, y2, y3, y4, y5⟩ := y
  refine ⟨by omega, by omega, by omega, ?_, fun z => y5 (x5 z)⟩
  rcases x4 with x4 | x4 <;> rcases y4 with y4 | y4
  · exact Or.inl (y4.trans x4)
  · exact Or.inr ⟨by omega, by omega⟩
  · exact Or.inr ⟨x4.1, by omega⟩
  · omega
theorem StO.zmono {Z Z2 : Nat → Prop} {h : Hp} {s sg : Nat} {b : FR} (o : StO Z h s sg b) (e : ∀ y, Z y → Z2 y) : StO Z2 h s sg b := by
  obtain ⟨lo, so, sa, nl, sl, ⟨z1, z2, z3, z4⟩, c, c2, c3, c4, c5, c6⟩ := o
  have lw : ∀ i v, LWv Z h b i v → LWv Z2 h b i v := fun i v x => by
    rcases x with x | ⟨x1, na, fc, x2, x3, x4⟩
    · exact Or.inl x
    · exact Or.inr ⟨x1, na, fc, x2, e _ x3, x4⟩
  exact ⟨lo, so, sa, nl, sl, ⟨e _ z1, e _ z2, e _ z3, e _ z4⟩, c, c2, c3, c4, lw _ _ c5, lw _ _ c6⟩
def WKf (Z : Nat → Prop) (h : Hp) (reg : Nat → FR) (ns ws : Nat) (wd wst wsd lk fd : Int32) (fb od : Nat → Int32) : Prop := (wst = -1 ∧ fd = 0 ∧ ∀ x, x < 24010 → fb x = 0) ∨ ∃ (sgw dw x0 : Nat) (Q : List Nat) (Kf : Nat → Nat) (k : Nat), StO Z h ws sgw (reg sgw) ∧ sgw ≤ ns ∧ LK (reg sgw) ∧ (wd = nI dw ∧ dw ≤ 9) ∧ (wst = nI (tws x0) ∧ wsd = nI (x0 / 4096)) ∧ SG (reg sgw) x0 ∧ (lk = nI k ∧ fd = nI Q.length) ∧ BF (SG (reg sgw)) (okS (reg sgw)) (fun s c => hourN (reg sgw) s c 0 dw) x0 Q Kf fb od k
/-- walks as they lie between calls -/
def WKP (Z : Nat → Prop) (h : Hp) (reg : Nat → FR) (ns q : Nat) : Prop := q + 7 < h.2.1 ∧ ∃ (ws : Nat) (wd wst wsd lk fd go gh op pa : Int32) (fb od nz sh ps : Nat → Int32) (rt rh : Nat → Int64), 64 ≤ ws ∧ h.1 q = some (.inr (8, wkL q ws wd wst wsd lk fd go gh op pa)) ∧ h.1 (q + 1) = some (aI 24010 fb) ∧ h.1 (q + 2) = some (aI 24010 od) ∧ h.1 (q + 3) = some (aL 24010 rt) ∧ h.1 (q + 4) = some (aL 10 rh) ∧ h.1 (q + 5) = some (aI 16 nz) ∧ h.1 (q + 6) = some (aI 16 sh) ∧ h.1 (q + 7) = some (aI 16 ps) ∧ (nz 0 = 0 ∧ sh 0 = 0 ∧ ps 0 = 0) ∧ (∀ x, x < 24010 → rt x = 0) ∧ WKf Z h reg ns ws wd wst wsd lk fd fb od
theorem WKf.frame {Z Z2 : Nat → Prop} {h h2 : Hp} {reg reg2 : Nat → FR} {ns ns2 ws : Nat} {wd wst wsd lk fd : Int32} {fb od : Nat → Int32} (x : WKf Z h reg ns ws wd wst wsd lk fd fb od) (e : ∀ y, Z y → Z2 y ∧ h2.1 y = h.1 y) (er : ∀ j, j ≤ ns → reg2 j = reg j) (en : ns ≤ ns2) : WKf Z2 h2 reg2 ns2 ws wd wst wsd lk fd fb od := by
  rcases x with x | ⟨sgw, dw, x0, Q, Kf, k, x1, x2, x3⟩
  · exact Or.inl x
  · refine Or.inr ⟨sgw, dw, x0, Q, Kf, k, ?_, by omega, ?_⟩
    · rw [er sgw x2]; exact (x1.mono (fun y z => (e y z).2)).zmono (fun y z => (e y z).1)
    · rw [er sgw x2]; exact x3
theorem WKP.frame {Z Z2 : Nat → Prop} {h h2 : Hp} {reg reg2 : Nat → FR} {ns ns2 q : Nat} (x : WKP Z h reg ns q) (hq : ∀ y, q ≤ y → y ≤ q + 7 → h2.1 y = h.1 y) (hl : h.2.1 ≤ h2.2.1) (e : ∀ y, Z y → Z2 y ∧ h2.1 y = h.1 y) (er : ∀ j, j ≤ ns → reg2 j = reg j) (en : ns ≤ ns2) : WKP Z2 h2 reg2 ns2 q := by
  obtain ⟨x0, ws, wd, wst, wsd, lk, fd, go, gh, op, pa, fb, od, nz, sh, ps, rt, rh, x1, x2, x3, x4, x5, x6, x7, x8, x9, x10, x11, x12⟩ := x
  exact ⟨by omega, ws, wd, wst, wsd, lk, fd, go, gh, op, pa, fb, od, nz, sh, ps, rt, rh, x1, (hq _ (by omega) (by omega)).trans x2, (hq _ (by omega) (by omega)).trans x3, (hq _ (by omega) (by omega)).trans x4, (hq _ (by omega) (by omega)).trans x5, (hq _ (by omega) (by omega)).trans x6, (hq _ (by omega) (by omega)).trans x7, (hq _ (by omega) (by omega)).trans x8, (hq _ (by omega) (by omega)).trans x9, x10, x11, x12.frame e er en⟩
theorem BF.init {sp : Nat → Prop} {ok : Nat → Nat → Prop} {nx : Nat → Nat → Nat} {x0 : Nat} {fb od : Nat → Int32} (hs : sp x0) (hl : cst x0 < 24010) (h0 : ∀ x, x < 24010 → fb x = 0) : BF sp ok nx x0 [x0] (fun _ => 1) (upd fb (cst x0) (-1)) (upd od 0 (nI (cst x0))) 0 := by
  refine ⟨⟨by simp, fun s m => ?_, ⟨by simp, rfl⟩, fun i hi => ?_, fun x hx => ?_, fun i hi => ?_, fun i j hij hj => ?_, fun i c hi => absurd hi (Nat.not_lt_zero _)⟩, Nat.zero_le _, fun i j _ _ _ => (by show 1 < 16 * 1; decide)⟩
  · rw [List.mem_singleton] at m; rw [m]; exact ⟨hs, hl⟩
  · have : i = 0 := by have : [x0].length = 1 := rfl; omega
    subst this
    exact if_pos rfl
  · by_cases z : x = cst x0
    · rw [show upd fb (cst x0) (-1) x = -1 from if_pos z]
      exact ⟨fun e => absurd e (by decide), fun e => absurd z.symm (e x0 (List.mem_singleton.mpr rfl))⟩
    · rw [show upd fb (cst x0) (-1) x = fb x from if_neg z]
      exact ⟨fun _ s m => by rw [List.mem_singleton] at m; rw [m]; exact fun e => z e.symm, fun _ => h0 x hx⟩
  · have : i = 0 := by have : [x0].length = 1 := rfl; omega
    subst this
    exact ⟨0, Nat.le_refl _, rfl, rfl, if_pos rfl⟩
  · have : [x0].length = 1 := rfl
    omega
theorem StO.same {Z : Nat → Prop} {h : Hp} {s sg sg2 : Nat} {b b2 : FR} (x : StO Z h s sg b) (y : StO Z h s sg2 b2) (h1 : sg ≤ 900) (h2 : sg2 ≤ 900) : sg = sg2 := by
  obtain ⟨lo, so, sa, nl, sl, _, c, _⟩ := x
  obtain ⟨lo2, so2, sa2, nl2, sl2, _, c2, _⟩ := y
  have e := c.symm.trans c2
  have e2 := Sum.inr.inj (Option.some.inj e)
  have e3 := (Prod.mk.inj e2).2
  unfold stL at e3
  have e4 := (List.cons.inj e3).1
  exact (nI_eq (by omega) (by omega)).mp (Value.int.inj e4)
set_option maxRecDepth 20000 in
set_option maxHeartbeats 1000000 in
theorem c_wkinit {E : EnvT} {d : Nat} {h0 : Hp} {q : Nat} {V0 : GV} {V1 V2 V4 : Value} (cq : h0.1 q = some (.inr (8, [.null, .null, .int 0, .int 0, .int 0, .null, .null, .int 0, .int 0, .int 0, .int 0, .null, .null, .null, .null, .null, .int 0, .int 0]))) (c82 : h0.1 82 = some (.inr (2, [.ref V0.1, V1, V2, .ref 87, V4, .ref 88, .ref 89]))) (hq : 139 ≤ q) (hn : h0.2.1 = q + 1) (hd : 1 ≤ d) : Cn E mX8_init d [.ref q, .ref 82] h0 (fun r h2 => r = none ∧ h2.2.1 = q + 8 ∧ h2.2.2 = h0.2.2 + 72088 ∧ Gx [q] h0 h2 ∧ h2.1 q = some (.inr (8, wkL q V0.1 0 (-1) 0 0 0 0 0 0 0)) ∧ h2.1 (q + 1) = some (aI 24010 (fun _ => 0)) ∧ h2.1 (q + 2) = some (aI 24010 (fun _ => 0)) ∧ h2.1 (q + 3) = some (aL 24010 (fun _ => 0)) ∧ h2.1 (q + 4) = some (aL 10 (fun _ => 0)) ∧ h2.1 (q + 5) = some (aI 16 (fun _ => 0)) ∧ h2.1 (q + 6) = some (aI 16 (fun _ => 0)) ∧ h2.1 (q + 7) = some (aI 16 (fun _ => 0))) := by
  have hgx : Gx [q] h0 h0 := Gx.rf
  have hV0 := V0.2
  refine Cn.go (ls := [.ref q, .ref 82]) (by decide +kernel) rfl (Nat.le_of_ble_eq_true rfl) ?_
  refine r_aload_n (pc2 := 1) 0 dX8_init_0 rfl rfl rfl rfl ?_
  refine r_objInit (pc2 := 4) oX8_3 dX8_init_1 (by omega) (Nat.le_of_ble_eq_true rfl) (by omega) rfl ?_
  refine r_aload_n (pc2 := 5) 0 dX8_init_4 rfl rfl rfl rfl ?_
  refine r_iconst (pc2 := 6) (v := -1) dX8_init_5 (by decide) rfl ?_
  refine r_putfX (pc2 := 9) [.null, .null, .int 0, .int (-1), .int 0, .null, .null, .int 0, .int 0, .int 0, .int 0, .null, .null, .null, .null, .null, .int 0, .int 0] fX8_9 dX8_init_6 cq (by omega) (Nat.le_of_ble_eq_true rfl) rfl rfl rfl (fun h z6 o6 cq => ?_)
  have c82 := (o6 82 (by omega)).trans c82
  have hgx := hgx.step (a := q) (by simp) o6 z6
  have y1z6 := congrArg Prod.fst z6
  have y2z6 := congrArg Prod.snd z6
  refine r_aload_n (pc2 := 10) 0 dX8_init_9 rfl rfl rfl rfl ?_
  refine r_sipush (pc2 := 13) (v := 24010) dX8_init_10 (by decide) rfl ?_
  refine r_newiX (pc2 := 15) (N := 24010) aC_int dX8_init_13 (by decide) (by decide) (by decide) rfl (by omega) (fun n1 h en1 zc13 zs13 o13 c_n1 => ?_)
  have cq := (o13 q (by omega)).trans cq
  have c82 := (o13 82 (by omega)).trans c82
  have hgx := hgx.fresh (a := n1) (by have := hgx.1; omega) o13 (by omega)
  refine r_putFX (pc2 := 18) [.null, .null, .int 0, .int (-1), .int 0, .ref n1, .null, .int 0, .int 0, .int 0, .int 0, .null, .null, .null, .null, .null, .int 0, .int 0] FX8_15 rfl dX8_init_15 cq (by omega) (Nat.le_of_ble_eq_true rfl) (okA (by omega)) rfl rfl (fun h z15 o15 cq => ?_)
  have c82 := (o15 82 (by omega)).trans c82
  have c_n1 := (o15 n1 (by omega)).trans c_n1
  have hgx := hgx.step (a := q) (by simp) o15 z15
  have y1z15 := congrArg Prod.fst z15
  have y2z15 := congrArg Prod.snd z15
  refine r_aload_n (pc2 := 19) 0 dX8_init_18 rfl rfl rfl rfl ?_
  refine r_sipush (pc2 := 22) (v := 24010) dX8_init_19 (by decide) rfl ?_
  refine r_newiX (pc2 := 24) (N := 24010) aC_int dX8_init_22 (by decide) (by decide) (by decide) rfl (by omega) (fun n2 h en2 zc22 zs22 o22 c_n2 => ?_)
  have cq := (o22 q (by omega)).trans cq
  have c82 := (o22 82 (by omega)).trans c82
  have c_n1 := (o22 n1 (by omega)).trans c_n1
  have hgx := hgx.fresh (a := n2) (by have := hgx.1; omega) o22 (by omega)
  refine r_putFX (pc2 := 27) [.null, .null, .int 0, .int (-1), .int 0, .ref n1, .ref n2, .int 0, .int 0, .int 0, .int 0, .null, .null, .null, .null, .null, .int 0, .int 0] FX8_19 rfl dX8_init_24 cq (by omega) (Nat.le_of_ble_eq_true rfl) (okA (by omega)) rfl rfl (fun h z24 o24 cq => ?_)
  have c82 := (o24 82 (by omega)).trans c82
  have c_n1 := (o24 n1 (by omega)).trans c_n1
  have c_n2 := (o24 n2 (by omega)).trans c_n2
  have hgx := hgx.step (a := q) (by simp) o24 z24
  have y1z24 := congrArg Prod.fst z24
  have y2z24 := congrArg Prod.snd z24
  refine r_aload_n (pc2 := 28) 0 dX8_init_27 rfl rfl rfl rfl ?_
  refine r_sipush (pc2 := 31) (v := 24010) dX8_init_28 (by decide) rfl ?_
  refine r_newlX (pc2 := 33) (N := 24010) aC_long dX8_init_31 (by decide) (by decide) (by decide) rfl (by omega) (fun n3 h en3 zc31 zs31 o31 c_n3 => ?_)
  have cq := (o31 q (by omega)).trans cq
  have c82 := (o31 82 (by omega)).trans c82
  have c_n1 := (o31 n1 (by omega)).trans c_n1
  have c_n2 := (o31 n2 (by omega)).trans c_n2
  have hgx := hgx.fresh (a := n3) (by have := hgx.1; omega) o31 (by omega)
  refine r_putFX (pc2 := 36) [.null, .null, .int 0, .int (-1), .int 0, .ref n1, .ref n2, .int 0, .int 0, .int 0, .int 0, .ref n3, .null, .null, .null, .null, .int 0, .int 0] FX8_22 rfl dX8_init_33 cq (by omega) (Nat.le_of_ble_eq_true rfl) (okA (by omega)) rfl rfl (fun h z33 o33 cq => ?_)
  have c82 := (o33 82 (by omega)).trans c82
  have c_n1 := (o33 n1 (by omega)).trans c_n1
  have c_n2 := (o33 n2 (by omega)).trans c_n2
  have c_n3 := (o33 n3 (by omega)).trans c_n3
  have hgx := hgx.step (a := q) (by simp) o33 z33
  have y1z33 := congrArg Prod.fst z33
  have y2z33 := congrArg Prod.snd z33
  refine r_aload_n (pc2 := 37) 0 dX8_init_36 rfl rfl rfl rfl ?_
  refine r_bipush (pc2 := 39) (v := 10) dX8_init_37 (by decide) rfl ?_
  refine r_newlX (pc2 := 41) (N := 10) aC_long dX8_init_39 (by decide) (by decide) (by decide) rfl (by omega) (fun n4 h en4 zc39 zs39 o39 c_n4 => ?_)
  have cq := (o39 q (by omega)).trans cq
  have c82 := (o39 82 (by omega)).trans c82
  have c_n1 := (o39 n1 (by omega)).trans c_n1
  have c_n2 := (o39 n2 (by omega)).trans c_n2
  have c_n3 := (o39 n3 (by omega)).trans c_n3
  have hgx := hgx.fresh (a := n4) (by have := hgx.1; omega) o39 (by omega)
  refine r_putFX (pc2 := 44) [.null, .null, .int 0, .int (-1), .int 0, .ref n1, .ref n2, .int 0, .int 0, .int 0, .int 0, .ref n3, .ref n4, .null, .null, .null, .int 0, .int 0] FX8_26 rfl dX8_init_41 cq (by omega) (Nat.le_of_ble_eq_true rfl) (okA (by omega)) rfl rfl (fun h z41 o41 cq => ?_)
  have c82 := (o41 82 (by omega)).trans c82
  have c_n1 := (o41 n1 (by omega)).trans c_n1
  have c_n2 := (o41 n2 (by omega)).trans c_n2
  have c_n3 := (o41 n3 (by omega)).trans c_n3
  have c_n4 := (o41 n4 (by omega)).trans c_n4
  have hgx := hgx.step (a := q) (by simp) o41 z41
  have y1z41 := congrArg Prod.fst z41
  have y2z41 := congrArg Prod.snd z41
  refine r_aload_n (pc2 := 45) 0 dX8_init_44 rfl rfl rfl rfl ?_
  refine r_bipush (pc2 := 47) (v := 16) dX8_init_45 (by decide) rfl ?_
  refine r_newiX (pc2 := 49) (N := 16) aC_int dX8_init_47 (by decide) (by decide) (by decide) rfl (by omega) (fun n5 h en5 zc47 zs47 o47 c_n5 => ?_)
  have cq := (o47 q (by omega)).trans cq
  have c82 := (o47 82 (by omega)).trans c82
  have c_n1 := (o47 n1 (by omega)).trans c_n1
  have c_n2 := (o47 n2 (by omega)).trans c_n2
  have c_n3 := (o47 n3 (by omega)).trans c_n3
  have c_n4 := (o47 n4 (by omega)).trans c_n4
  have hgx := hgx.fresh (a := n5) (by have := hgx.1; omega) o47 (by omega)
  refine r_putFX (pc2 := 52) [.null, .null, .int 0, .int (-1), .int 0, .ref n1, .ref n2, .int 0, .int 0, .int 0, .int 0, .ref n3, .ref n4, .ref n5, .null, .null, .int 0, .int 0] FX8_29 rfl dX8_init_49 cq (by omega) (Nat.le_of_ble_eq_true rfl) (okA (by omega)) rfl rfl (fun h z49 o49 cq => ?_)
  have c82 := (o49 82 (by omega)).trans c82
  have c_n1 := (o49 n1 (by omega)).trans c_n1
  have c_n2 := (o49 n2 (by omega)).trans c_n2
  have c_n3 := (o49 n3 (by omega)).trans c_n3
  have c_n4 := (o49 n4 (by omega)).trans c_n4
  have c_n5 := (o49 n5 (by omega)).trans c_n5
  have hgx := hgx.step (a := q) (by simp) o49 z49
  have y1z49 := congrArg Prod.fst z49
  have y2z49 := congrArg Prod.snd z49
  refine r_aload_n (pc2 := 53) 0 dX8_init_52 rfl rfl rfl rfl ?_
  refine r_bipush (pc2 := 55) (v := 16) dX8_init_53 (by decide) rfl ?_
  refine r_newiX (pc2 := 57) (N := 16) aC_int dX8_init_55 (by decide) (by decide) (by decide) rfl (by omega) (fun n6 h en6 zc55 zs55 o55 c_n6 => ?_)
  have cq := (o55 q (by omega)).trans cq
  have c82 := (o55 82 (by omega)).trans c82
  have c_n1 := (o55 n1 (by omega)).trans c_n1
  have c_n2 := (o55 n2 (by omega)).trans c_n2
  have c_n3 := (o55 n3 (by omega)).trans c_n3
  have c_n4 := (o55 n4 (by omega)).trans c_n4
  have c_n5 := (o55 n5 (by omega)).trans c_n5
  have hgx := hgx.fresh (a := n6) (by have := hgx.1; omega) o55 (by omega)
  refine r_putFX (pc2 := 60) [.null, .null, .int 0, .int (-1), .int 0, .ref n1, .ref n2, .int 0, .int 0, .int 0, .int 0, .ref n3, .ref n4, .ref n5, .ref n6, .null, .int 0, .int 0] FX8_32 rfl dX8_init_57 cq (by omega) (Nat.le_of_ble_eq_true rfl) (okA (by omega)) rfl rfl (fun h z57 o57 cq => ?_)
  have c82 := (o57 82 (by omega)).trans c82
  have c_n1 := (o57 n1 (by omega)).trans c_n1
  have c_n2 := (o57 n2 (by omega)).trans c_n2
  have c_n3 := (o57 n3 (by omega)).trans c_n3
  have c_n4 := (o57 n4 (by omega)).trans c_n4
  have c_n5 := (o57 n5 (by omega)).trans c_n5
  have c_n6 := (o57 n6 (by omega)).trans c_n6
  have hgx := hgx.step (a := q) (by simp) o57 z57
  have y1z57 := congrArg Prod.fst z57
  have y2z57 := congrArg Prod.snd z57
  refine r_aload_n (pc2 := 61) 0 dX8_init_60 rfl rfl rfl rfl ?_
  refine r_bipush (pc2 := 63) (v := 16) dX8_init_61 (by decide) rfl ?_
  refine r_newiX (pc2 := 65) (N := 16) aC_int dX8_init_63 (by decide) (by decide) (by decide) rfl (by omega) (fun n7 h en7 zc63 zs63 o63 c_n7 => ?_)
  have cq := (o63 q (by omega)).trans cq
  have c82 := (o63 82 (by omega)).trans c82
  have c_n1 := (o63 n1 (by omega)).trans c_n1
  have c_n2 := (o63 n2 (by omega)).trans c_n2
  have c_n3 := (o63 n3 (by omega)).trans c_n3
  have c_n4 := (o63 n4 (by omega)).trans c_n4
  have c_n5 := (o63 n5 (by omega)).trans c_n5
  have c_n6 := (o63 n6 (by omega)).trans c_n6
  have hgx := hgx.fresh (a := n7) (by have := hgx.1; omega) o63 (by omega)
  refine r_putFX (pc2 := 68) [.null, .null, .int 0, .int (-1), .int 0, .ref n1, .ref n2, .int 0, .int 0, .int 0, .int 0, .ref n3, .ref n4, .ref n5, .ref n6, .ref n7, .int 0, .int 0] FX8_35 rfl dX8_init_65 cq (by omega) (Nat.le_of_ble_eq_true rfl) (okA (by omega)) rfl rfl (fun h z65 o65 cq => ?_)
  have c82 := (o65 82 (by omega)).trans c82
  have c_n1 := (o65 n1 (by omega)).trans c_n1
  have c_n2 := (o65 n2 (by omega)).trans c_n2
  have c_n3 := (o65 n3 (by omega)).trans c_n3
  have c_n4 := (o65 n4 (by omega)).trans c_n4
  have c_n5 := (o65 n5 (by omega)).trans c_n5
  have c_n6 := (o65 n6 (by omega)).trans c_n6
  have c_n7 := (o65 n7 (by omega)).trans c_n7
  have hgx := hgx.step (a := q) (by simp) o65 z65
  have y1z65 := congrArg Prod.fst z65
  have y2z65 := congrArg Prod.snd z65
  refine r_aload_n (pc2 := 69) 0 dX8_init_68 rfl rfl rfl rfl ?_
  refine r_aload_n (pc2 := 70) 1 dX8_init_69 rfl rfl rfl rfl ?_
  refine r_putFX (pc2 := 73) [.ref 82, .null, .int 0, .int (-1), .int 0, .ref n1, .ref n2, .int 0, .int 0, .int 0, .int 0, .ref n3, .ref n4, .ref n5, .ref n6, .ref n7, .int 0, .int 0] FX8_38 rfl dX8_init_70 cq (by omega) (Nat.le_of_ble_eq_true rfl) rfl rfl rfl (fun h z70 o70 cq => ?_)
  have c82 := (o70 82 (by omega)).trans c82
  have c_n1 := (o70 n1 (by omega)).trans c_n1
  have c_n2 := (o70 n2 (by omega)).trans c_n2
  have c_n3 := (o70 n3 (by omega)).trans c_n3
  have c_n4 := (o70 n4 (by omega)).trans c_n4
  have c_n5 := (o70 n5 (by omega)).trans c_n5
  have c_n6 := (o70 n6 (by omega)).trans c_n6
  have c_n7 := (o70 n7 (by omega)).trans c_n7
  have hgx := hgx.step (a := q) (by simp) o70 z70
  have y1z70 := congrArg Prod.fst z70
  have y2z70 := congrArg Prod.snd z70
  refine r_aload_n (pc2 := 74) 0 dX8_init_73 rfl rfl rfl rfl ?_
  refine r_aload_n (pc2 := 75) 1 dX8_init_74 rfl rfl rfl rfl ?_
  refine r_getf (pc2 := 78) (v := .ref V0.1) fX8_42 dX8_init_75 c82 (by decide) rfl rfl ?_
  refine r_putfX (pc2 := 81) [.ref 82, .ref V0.1, .int 0, .int (-1), .int 0, .ref n1, .ref n2, .int 0, .int 0, .int 0, .int 0, .ref n3, .ref n4, .ref n5, .ref n6, .ref n7, .int 0, .int 0] fX8_48 dX8_init_78 cq (by omega) (Nat.le_of_ble_eq_true rfl) (okO V0.2) rfl rfl (fun h z78 o78 cq => ?_)
  have c82 := (o78 82 (by omega)).trans c82
  have c_n1 := (o78 n1 (by omega)).trans c_n1
  have c_n2 := (o78 n2 (by omega)).trans c_n2
  have c_n3 := (o78 n3 (by omega)).trans c_n3
  have c_n4 := (o78 n4 (by omega)).trans c_n4
  have c_n5 := (o78 n5 (by omega)).trans c_n5
  have c_n6 := (o78 n6 (by omega)).trans c_n6
  have c_n7 := (o78 n7 (by omega)).trans c_n7
  have hgx := hgx.step (a := q) (by simp) o78 z78
  have y1z78 := congrArg Prod.fst z78
  have y2z78 := congrArg Prod.snd z78
  obtain rfl : n1 = q + 1 := by omega
  obtain rfl : n2 = q + 2 := by omega
  obtain rfl : n3 = q + 3 := by omega
  obtain rfl : n4 = q + 4 := by omega
  obtain rfl : n5 = q + 5 := by omega
  obtain rfl : n6 = q + 6 := by omega
  obtain rfl : n7 = q + 7 := by omega
  exact r_vret rfl dX8_init_81 ⟨rfl, by omega, by omega, hgx, cq, c_n1, c_n2, c_n3, c_n4, c_n5, c_n6, c_n7⟩
