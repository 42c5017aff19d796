/-! what a launch gives at the law's entry -/
theorem arr_prim {args : Array Value} {s : State} {ty : FieldType} (h : (Cond.arrayClass ty).before args s = true) (hp : ∀ n, ty ≠ .object n) : ∃ c : ClassId, ArrOfT s c ty ∧ va_RA s c ty := by
  obtain ⟨c, k, comp, h1, h2, h3⟩ := Cond.arrayClass_spec h
  refine ⟨c, fun N z => ⟨(fun k h => by cases h), k, h2, comp, h3⟩, ?_⟩
  cases ty with
  | object n => exact absurd rfl (hp n)
  | _ => exact h1
theorem arr_ref {args : Array Value} {s : State} {C : String} (h : (Cond.arrayOver (.object C)).before args s = true) : ∃ c : ClassId, ArrOfT s c (.object C) ∧ va_RA s c (.object C) := by
  obtain ⟨comp, c, k, h1, h2, h3, h4, h5⟩ := Cond.arrayOver_spec h
  exact ⟨c, fun N z => ⟨(fun k h => by cases h), k, h3, comp, h4⟩, k, comp, h3, h4, h1, h5⟩

set_option maxHeartbeats 4000000 in
set_option maxRecDepth 100000 in
theorem env_at {s : State} {b L : Nat} {xs : Nat → Int32} (l : Launch) (hts : ∀ w ∈ lw_tbl, w.before #[Value.ref b] s = true) (hX : va_X b L xs s s.heap) (hbl : b < s.heap.size) (hgv : (Jvm.Cond.and given_1 narrow_1).before #[Value.ref b] s = true) : ∃ E : EnvT, e_l E = l ∧ e_b E = s.heap.size ∧ e_x E 61 = b ∧ e_n E = L ∧ e_s E = xs ∧ XOK E s := by
  have hfl : ∀ w ∈ flt, w.before #[Value.ref b] s = true := flat_of_before _ hgv
  have hg : ∀ w ∈ gT, w.before #[Value.ref b] s = true := fun w h => hts w (List.mem_filter.mp h).1
  have hA : ∀ a : Nat, a < s.heap.size → ¬ (fun q : Nat => s.heap.size ≤ q) a := fun a h => Nat.not_le.mpr h
  obtain ⟨c0, i0, kn0⟩ := u_known (C := RX0) (T := TX0) (N := 6) (n := 6) hg inX0 (hts (.instantiable RX0 6) (List.mem_of_getElem? (i := 1124) (by decide +kernel)))
  obtain ⟨c1, i1, kn1⟩ := u_known (C := RX1) (T := TX1) (N := 1) (n := 1) hg inX1 (hts (.instantiable RX1 1) (List.mem_of_getElem? (i := 862) (by decide +kernel)))
  obtain ⟨c2, i2, kn2⟩ := u_known (C := RX2) (T := TX2) (N := 7) (n := 7) hg inX2 (hts (.instantiable RX2 7) (List.mem_of_getElem? (i := 326) (by decide +kernel)))
  obtain ⟨c3, i3, kn3⟩ := u_known (C := RX3) (T := TX3) (N := 14) (n := 14) hg inX3 (hts (.instantiable RX3 14) (List.mem_of_getElem? (i := 158) (by decide +kernel)))
  obtain ⟨c4, i4, kn4⟩ := u_known (C := RX4) (T := TX4) (N := 7) (n := 7) hg inX4 (hts (.instantiable RX4 7) (List.mem_of_getElem? (i := 360) (by decide +kernel)))
  obtain ⟨c5, i5, kn5⟩ := u_known (C := RX5) (T := TX5) (N := 6) (n := 6) hg inX5 (hts (.instantiable RX5 6) (List.mem_of_getElem? (i := 170) (by decide +kernel)))
  obtain ⟨c6, i6, kn6⟩ := u_known (C := RX6) (T := TX6) (N := 13) (n := 13) hg inX6 (hts (.instantiable RX6 13) (List.mem_of_getElem? (i := 164) (by decide +kernel)))
  obtain ⟨c7, i7, kn7⟩ := u_known (C := RX7) (T := TX7) (N := 4) (n := 4) hg inX7 (hts (.instantiable RX7 4) (List.mem_of_getElem? (i := 389) (by decide +kernel)))
  obtain ⟨c8, i8, kn8⟩ := u_known (C := RX8) (T := TX8) (N := 18) (n := 18) hg inX8 (hts (.instantiable RX8 18) (List.mem_of_getElem? (i := 889) (by decide +kernel)))
  obtain ⟨c9, i9, kn9⟩ := u_known (C := RX9) (T := TX9) (N := 17) (n := 17) hg inX9 (hts (.instantiable RX9 17) (List.mem_of_getElem? (i := 150) (by decide +kernel)))
  obtain ⟨c10, i10, kn10⟩ := u_known (C := RX10) (T := TX10) (N := 42) (n := 42) hg inX10 (hts (.instantiable RX10 42) (List.mem_of_getElem? (i := 1247) (by decide +kernel)))
  obtain ⟨k0, ka0, kb0⟩ := arr_prim (hts (.arrayClass .int) (List.mem_of_getElem? (i := 205) (by decide +kernel))) (fun n e => by cases e)
  obtain ⟨k1, ka1, kb1⟩ := arr_prim (hts (.arrayClass .long) (List.mem_of_getElem? (i := 409) (by decide +kernel))) (fun n e => by cases e)
  obtain ⟨k2, ka2, kb2⟩ := arr_prim (hts (.arrayClass .byte) (List.mem_of_getElem? (i := 204) (by decide +kernel))) (fun n e => by cases e)
  obtain ⟨k3, ka3, kb3⟩ := arr_prim (hts (.arrayClass .boolean) (List.mem_of_getElem? (i := 1385) (by decide +kernel))) (fun n e => by cases e)
  have ao4 : va_AO "SleepAct$Stand" s := va_AO.of (hts (.arrayOver (.object "SleepAct$Stand")) (List.mem_of_getElem? (i := 321) (by decide +kernel)))
  obtain ⟨k4, ka4, kb4⟩ := arr_ref (hts (.arrayOver (.object "SleepAct$Stand")) (List.mem_of_getElem? (i := 321) (by decide +kernel)))
  have ao5 : va_AO "SleepAct$Street" s := va_AO.of (hts (.arrayOver (.object "SleepAct$Street")) (List.mem_of_getElem? (i := 322) (by decide +kernel)))
  obtain ⟨k5, ka5, kb5⟩ := arr_ref (hts (.arrayOver (.object "SleepAct$Street")) (List.mem_of_getElem? (i := 322) (by decide +kernel)))
  have ao6 : va_AO "SleepAct$Tray" s := va_AO.of (hts (.arrayOver (.object "SleepAct$Tray")) (List.mem_of_getElem? (i := 324) (by decide +kernel)))
  obtain ⟨k6, ka6, kb6⟩ := arr_ref (hts (.arrayOver (.object "SleepAct$Tray")) (List.mem_of_getElem? (i := 324) (by decide +kernel)))
  obtain ⟨adK, adV, hS, hSe⟩ := vk_Sof (args := #[Value.ref b]) (s := s) (N := 25) (tm := tmS) (len := xLen) (byt := xByt) (A := fun q : Nat => s.heap.size ≤ q) (by decide) (fun i hi => hfl _ (List.mem_of_getElem? (st_ex i hi))) (fun i hi => hfl _ (List.mem_of_getElem? (st_co i hi))) (fun i hi => hfl _ (List.mem_of_getElem? (st_ar i hi))) (fun i hi => hfl _ (List.mem_of_getElem? (st_le i hi))) (fun i hi j hj => hfl _ (List.mem_of_getElem? (st_el i hi j hj))) (fun i j hi hj hn => (st_ne i hi j hj hn).imp (fun h => hfl _ (List.mem_of_getElem? h)) (fun h => hfl _ (List.mem_of_getElem? h))) hA
  obtain ⟨wt, hwt, hT⟩ := va_Tof (args := #[Value.ref b]) (s := s) (tm := .static "SleepAct" "WEIGHT" "[I") (ty := .int) (N := 5) (f := fun j => .int (xW j)) (A := fun q : Nat => s.heap.size ≤ q) (by decide) (hfl _ (List.mem_of_getElem? (i := 10) (by decide +kernel))) (va_eqt (hfl _ (List.mem_of_getElem? (i := 11) (by decide +kernel)))) (fun j hj => by
    match j, hj with
    | 0, _ => exact va_eqt (hfl _ (List.mem_of_getElem? (i := 12) (by decide +kernel)))
    | 1, _ => exact va_eqt (hfl _ (List.mem_of_getElem? (i := 13) (by decide +kernel)))
    | 2, _ => exact va_eqt (hfl _ (List.mem_of_getElem? (i := 14) (by decide +kernel)))
    | 3, _ => exact va_eqt (hfl _ (List.mem_of_getElem? (i := 15) (by decide +kernel)))
    | 4, _ => exact va_eqt (hfl _ (List.mem_of_getElem? (i := 16) (by decide +kernel)))
    ) hA
  have hZc := va_Zof (A := fun q : Nat => s.heap.size ≤ q) (hts (.laysStatic "java/lang/String" "COMPACT_STRINGS" "Z") (List.mem_of_getElem? (i := 526) (by decide +kernel))) (hts (.initialized "java/lang/String") (List.mem_of_getElem? (i := 138) (by decide +kernel))) (va_eqi (z := 1) (hfl _ (List.mem_of_getElem? (i := 4) (by decide +kernel)))) hA
  have hZf := va_Zqof (A := fun q : Nat => s.heap.size ≤ q) (hts (.laysStatic "jdk/internal/util/Preconditions" "SIOOBE_FORMATTER" "Ljava/util/function/BiFunction;") (List.mem_of_getElem? (i := 542) (by decide +kernel))) (hts (.initialized "jdk/internal/util/Preconditions") (List.mem_of_getElem? (i := 140) (by decide +kernel))) (hfl _ (List.mem_of_getElem? (i := 5) (by decide +kernel))) hA
  have hZw := va_Zref (A := fun q : Nat => s.heap.size ≤ q) (hts (.laysStatic "SleepAct" "WEIGHT" "[I") (List.mem_of_getElem? (i := 600) (by decide +kernel))) (hts (.initialized "SleepAct") (List.mem_of_getElem? (i := 129) (by decide +kernel))) hwt hA
  have hf : ∃ fv : Value, va_Z "jdk/internal/util/Preconditions" "SIOOBE_FORMATTER" "Ljava/util/function/BiFunction;" fv (fun q : Nat => s.heap.size ≤ q) s s.heap ∧ (fv = .null ∨ ∃ a, fv = .ref a) := by
    rcases hZf with h | ⟨t, h⟩
    · exact ⟨_, h, Or.inl rfl⟩
    · exact ⟨_, h, Or.inr ⟨t, rfl⟩⟩
  obtain ⟨fv, hfv, hfr⟩ := hf
  refine ⟨(l, (fun k => [c0, c1, c2, c3, c4, c5, c6, c7, c8, c9, c10].getD k 0, fun k => [i0, i1, i2, i3, i4, i5, i6, i7, i8, i9, i10].getD k i0), fun k => [k0, k1, k2, k3, k4, k5, k6].getD k 0, s.heap.size, fun a => if a < 25 then adK a else if 32 ≤ a ∧ a < 57 then adV (a - 32) else if a = 60 then wt else b, fv, L, xs), rfl, rfl, rfl, rfl, rfl, ?_⟩
  refine ⟨Nat.le_refl _, ⟨?_, ?_⟩, ?_, hT, ⟨hX, hbl⟩, hZc, hfv, hZw, ?_, hfr, fun w hw => va_Nw.of (by have g := (List.mem_filter.mp hw).2; cases w <;> simp [nW] at g <;> rfl) (hts w (List.mem_filter.mp hw).1), ao4, ao5, ao6⟩
  · intro k q hq
    match k, hq with
    | 0, hq => cases hq; exact kn0
    | 1, hq => cases hq; exact kn1
    | 2, hq => cases hq; exact kn2
    | 3, hq => cases hq; exact kn3
    | 4, hq => cases hq; exact kn4
    | 5, hq => cases hq; exact kn5
    | 6, hq => cases hq; exact kn6
    | 7, hq => cases hq; exact kn7
    | 8, hq => cases hq; exact kn8
    | 9, hq => cases hq; exact kn9
    | 10, hq => cases hq; exact kn10
    | k + 11, hq => simp [vwCl] at hq
  · intro k q hq
    match k, hq with
    | 0, hq => cases hq; exact ⟨ka0, kb0⟩
    | 1, hq => cases hq; exact ⟨ka1, kb1⟩
    | 2, hq => cases hq; exact ⟨ka2, kb2⟩
    | 3, hq => cases hq; exact ⟨ka3, kb3⟩
    | 4, hq => cases hq; exact ⟨ka4, kb4⟩
    | 5, hq => cases hq; exact ⟨ka5, kb5⟩
    | 6, hq => cases hq; exact ⟨ka6, kb6⟩
    | k + 7, hq => simp [kinds] at hq
  · refine ⟨fun i hi => ?_, fun i j hi hj e => ?_⟩
    · have h1 := hS.1 i hi
      show va_O _ (if i < 25 then adK i else _) _ _ _ ∧ va_OF _ _ _ _ (if i < 25 then adK i else _) _ _ _ ∧ va_OF _ _ _ (.ref (if 32 + i < 25 then adK (32 + i) else if 32 ≤ 32 + i ∧ 32 + i < 57 then adV (32 + i - 32) else _)) (if i < 25 then adK i else _) _ _ _ ∧ va_T _ (if 32 + i < 25 then adK (32 + i) else if 32 ≤ 32 + i ∧ 32 + i < 57 then adV (32 + i - 32) else _) _ _ _ _ _
      rw [if_pos hi, if_neg (by omega), if_pos (by omega), show 32 + i - 32 = i by omega]
      exact h1
    · have e : (if i < 25 then adK i else _) = (if j < 25 then adK j else _) := e
      rw [if_pos hi, if_pos hj] at e
      exact hS.2 i j hi hj e
  · intro i hi
    show vk_R _ _ _ (if i < 25 then adK i else _) _
    rw [if_pos hi]
    exact vk_R.of (hts _ (List.mem_of_getElem? (st_rf i hi))) (hSe i hi)

/-- the heap of the law's own, at its entry -/
def h00 (n : Nat) (xs : Nat → Int32) : Hp := (fun a => if a < 64 then xT n xs a else none, 64, 0)
theorem rel00 {E : EnvT} {H : Heap} (h : H.size = e_b E) : RelH E (h00 (e_n E) (e_s E)) H := by
  refine ⟨Nat.le_refl _, h, fun a e ha h64 => ?_, fun a ha => ?_⟩
  · have ha : (if a < 64 then xT (e_n E) (e_s E) a else none) = some e := ha
    rw [if_neg (by omega)] at ha
    cases ha
  · show (if a < 64 then xT (e_n E) (e_s E) a else none) = _
    rw [if_pos ha]
abbrev mL : MD := (x, code, 4, ret)
