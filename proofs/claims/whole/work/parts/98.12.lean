/-! the class: walks, pure: stands found hour by hour -/
/-- the number of a stand in the class -/
def cst (s : Nat) : Nat := 10 * tws s + s / 4096
theorem cst_d {s : Nat} (h : s / 4096 ≤ 9) : cst s % 10 = s / 4096 ∧ cst s / 10 = tws s := by unfold cst; omega
theorem SG.tl {a : FR} {s : Nat} (h : SG a s) (hC : a 1 ≤ 6) : tws s < 2401 := tws_lt h.2.1 hC
theorem cst_lt {a : FR} {s : Nat} (h : SG a s) (hC : a 1 ≤ 6) : cst s < 24010 := by
  have := h.tl hC
  have := h.dep
  unfold cst
  omega
theorem cst_inj {a : FR} {s t : Nat} (hs : SG a s) (ht : SG a t) (hC : a 1 ≤ 6) (e : cst s = cst t) : s = t := by
  have d1 := cst_d hs.dep
  have d2 := cst_d ht.dep
  rw [e] at d1
  have et : tws s = tws t := d1.2.symm.trans d2.2
  have ed : s / 4096 = t / 4096 := d1.1.symm.trans d2.1
  have dg : ∀ g, g < 4 → s / 8 ^ g % 8 = t / 8 ^ g % 8 := fun g hg => by
    rw [← tws_dig hs.2.1 hC g hg, ← tws_dig ht.2.1 hC g hg, et]
  have g0 : s % 8 = t % 8 := by have := dg 0 (by decide); rwa [Nat.pow_zero, Nat.div_one, Nat.div_one] at this
  have g1 : s / 8 % 8 = t / 8 % 8 := dg 1 (by decide)
  have g2 : s / 64 % 8 = t / 64 % 8 := dg 2 (by decide)
  have g3 : s / 512 % 8 = t / 512 % 8 := dg 3 (by decide)
  omega
/-- rows of sets as numbers: 1 ahead, then each set to the base 16 -/
def cdw (K : Nat) (l : List Nat) : Nat := l.foldl (fun K c => 16 * K + c) K
theorem cdw_c (K c : Nat) (l : List Nat) : cdw K (c :: l) = cdw (16 * K + c) l := rfl
theorem cdw_s (K c : Nat) (l : List Nat) : cdw K (l ++ [c]) = 16 * cdw K l + c := by
  unfold cdw
  rw [List.foldl_append]
  rfl
def alD (l : List Nat) : Prop := ∀ c ∈ l, c < 16
theorem cdw_lt : ∀ (l m : List Nat) (K L : Nat), l.length = m.length → alD l → alD m → K < L → cdw K l < cdw L m
  | [], [], K, L, _, _, _, h => h
  | [], _ :: _, _, _, e, _, _, _ => by cases e
  | _ :: _, [], _, _, e, _, _, _ => by cases e
  | c :: l, e :: m, K, L, hl, h1, h2, h => by
    rw [cdw_c, cdw_c]
    have := h1 c List.mem_cons_self
    have := h2 e List.mem_cons_self
    exact cdw_lt l m _ _ (Nat.succ.inj hl) (fun x hx => h1 x (List.mem_cons_of_mem _ hx)) (fun x hx => h2 x (List.mem_cons_of_mem _ hx)) (by omega)
theorem cdw_bd : ∀ (l : List Nat) (K : Nat), alD l → K * 16 ^ l.length ≤ cdw K l ∧ cdw K l < (K + 1) * 16 ^ l.length
  | [], K, _ => by
    show K * 1 ≤ K ∧ K < (K + 1) * 1
    omega
  | c :: l, K, h => by
    have hc := h c List.mem_cons_self
    have ih := cdw_bd l (16 * K + c) (fun x hx => h x (List.mem_cons_of_mem _ hx))
    rw [cdw_c, List.length_cons, Nat.pow_succ]
    have e1 : K * (16 ^ l.length * 16) = (16 * K) * 16 ^ l.length := by rw [Nat.mul_comm (16 ^ l.length) 16, ← Nat.mul_assoc, Nat.mul_comm K 16]
    have e2 : (K + 1) * (16 ^ l.length * 16) = (16 * K + 16) * 16 ^ l.length := by rw [Nat.mul_comm (16 ^ l.length) 16, ← Nat.mul_assoc, Nat.add_mul]; congr 1; omega
    have e3 : (16 * K) * 16 ^ l.length ≤ (16 * K + c) * 16 ^ l.length := Nat.mul_le_mul_right _ (by omega)
    have e4 : (16 * K + c + 1) * 16 ^ l.length ≤ (16 * K + 16) * 16 ^ l.length := Nat.mul_le_mul_right _ (by omega)
    omega
theorem cdw_inj : ∀ (l m : List Nat) (K : Nat), l.length = m.length → alD l → alD m → cdw K l = cdw K m → l = m
  | [], [], _, _, _, _, _ => rfl
  | [], _ :: _, _, e, _, _, _ => by cases e
  | _ :: _, [], _, e, _, _, _ => by cases e
  | c :: l, e :: m, K, hl, h1, h2, h => by
    have hl9 : l.length = m.length := Nat.succ.inj hl
    have g1 : alD l := fun x hx => h1 x (List.mem_cons_of_mem _ hx)
    have g2 : alD m := fun x hx => h2 x (List.mem_cons_of_mem _ hx)
    rw [cdw_c, cdw_c] at h
    have : c = e := by
      rcases Nat.lt_trichotomy c e with z | z | z
      · have := cdw_lt l m (16 * K + c) (16 * K + e) hl9 g1 g2 (by omega); omega
      · exact z
      · have := cdw_lt m l (16 * K + e) (16 * K + c) hl9.symm g2 g1 (by omega); omega
    subst this
    rw [cdw_inj l m _ hl9 g1 g2 h]
section WALK
variable {ok : Nat → Nat → Prop} {nx : Nat → Nat → Nat} {x0 : Nat}
def vw (ok : Nat → Nat → Prop) (nx : Nat → Nat → Nat) : Nat → List Nat → Nat → Prop
  | s, [], t => t = s
  | s, c :: l, t => (c < 16 ∧ ok s c) ∧ vw ok nx (nx s c) l t
theorem vw_s : ∀ (l : List Nat) (s t c : Nat), vw ok nx s l t → c < 16 → ok t c → vw ok nx s (l ++ [c]) (nx t c)
  | [], s, t, c, h, hc, ho => by
    have h : t = s := h
    subst h
    exact ⟨⟨hc, ho⟩, rfl⟩
  | e :: l, s, t, c, h, hc, ho => ⟨h.1, vw_s l _ t c h.2 hc ho⟩
theorem vw_al : ∀ (l : List Nat) (s t : Nat), vw ok nx s l t → alD l
  | [], _, _, _ => fun c h => by cases h
  | e :: l, s, t, h => fun c hc => by
    rcases List.mem_cons.mp hc with z | z
    · rw [z]; exact h.1.1
    · exact vw_al l _ t h.2 c z
/-- how a stand was found -/
def WB (ok : Nat → Nat → Prop) (nx : Nat → Nat → Nat) (x0 : Nat) (fb : Nat → Int32) : Nat → Nat → Nat → Prop
  | 0, K, s => K = 1 ∧ s = x0 ∧ fb (cst s) = -1
  | n + 1, K, s => ∃ K' s' c, c < 16 ∧ ok s' c ∧ K = 16 * K' + c ∧ s = nx s' c ∧ fb (cst s) = nI (16 * cst s' + c + 1) ∧ cst s' < 24010 ∧ WB ok nx x0 fb n K' s'
theorem WB.path {fb : Nat → Int32} : ∀ {n K s : Nat}, WB ok nx x0 fb n K s → ∃ l, l.length = n ∧ vw ok nx x0 l s ∧ cdw 1 l = K
  | 0, K, s, h => ⟨[], rfl, h.2.1, h.1.symm⟩
  | n + 1, K, s, h => by
    obtain ⟨K', s', c, h1, h2, h3, h4, _, _, h5⟩ := h
    obtain ⟨l, g1, g2, g3⟩ := h5.path
    refine ⟨l ++ [c], by rw [List.length_append, g1]; rfl, ?_, by rw [cdw_s, g3, h3]⟩
    rw [h4]
    exact vw_s l _ _ c g2 h1 h2
theorem WB.nz {fb : Nat → Int32} : ∀ {n K s : Nat}, WB ok nx x0 fb n K s → fb (cst s) ≠ 0
  | 0, K, s, h => by rw [h.2.2]; decide
  | n + 1, K, s, h => by
    obtain ⟨K', s', c, h1, _, _, _, h5, h6, _⟩ := h
    rw [h5]
    exact nI_ne0 (by omega) (by omega)
theorem WB.mono {fb fb2 : Nat → Int32} (e : ∀ x, fb x ≠ 0 → fb2 x = fb x) : ∀ {n K s : Nat}, WB ok nx x0 fb n K s → WB ok nx x0 fb2 n K s
  | 0, K, s, h => ⟨h.1, h.2.1, (e _ (WB.nz (n := 0) h)).trans h.2.2⟩
  | n + 1, K, s, h => by
    have hz := WB.nz (n := n + 1) h
    obtain ⟨K', s', c, h1, h2, h3, h4, h5, h6, h7⟩ := h
    exact ⟨K', s', c, h1, h2, h3, h4, (e _ hz).trans h5, h6, h7.mono e⟩
/-- what was found, of which the first k were looked at -/
def BB (sp : Nat → Prop) (ok : Nat → Nat → Prop) (nx : Nat → Nat → Nat) (x0 : Nat) (Q : List Nat) (Kf : Nat → Nat) (fb od : Nat → Int32) (k : Nat) : Prop :=
  Q.Nodup ∧ (∀ s ∈ Q, sp s ∧ cst s < 24010) ∧ (0 < Q.length ∧ Q.getD 0 0 = x0) ∧ (∀ i, i < Q.length → od i = nI (cst (Q.getD i 0))) ∧ (∀ x, x < 24010 → (fb x = 0 ↔ ∀ s ∈ Q, cst s ≠ x)) ∧ (∀ i, i < Q.length → ∃ n, n ≤ i ∧ WB ok nx x0 fb n (Kf i) (Q.getD i 0)) ∧ (∀ i j, i < j → j < Q.length → Kf i < Kf j) ∧ (∀ i c, i < k → c < 16 → ok (Q.getD i 0) c → ∃ j, j < Q.length ∧ Q.getD j 0 = nx (Q.getD i 0) c ∧ Kf j ≤ 16 * Kf i + c)
def BF (sp : Nat → Prop) (ok : Nat → Nat → Prop) (nx : Nat → Nat → Nat) (x0 : Nat) (Q : List Nat) (Kf : Nat → Nat) (fb od : Nat → Int32) (k : Nat) : Prop :=
  BB sp ok nx x0 Q Kf fb od k ∧ k ≤ Q.length ∧ ∀ i j, i < Q.length → k ≤ j → j < Q.length → Kf i < 16 * Kf j
def BM (sp : Nat → Prop) (ok : Nat → Nat → Prop) (nx : Nat → Nat → Nat) (x0 : Nat) (Q : List Nat) (Kf : Nat → Nat) (fb od : Nat → Int32) (k c : Nat) : Prop :=
  BB sp ok nx x0 Q Kf fb od k ∧ k < Q.length ∧ (∀ i, i < Q.length → Kf i < 16 * Kf k + c) ∧ ∀ e, e < c → ok (Q.getD k 0) e → ∃ j, j < Q.length ∧ Q.getD j 0 = nx (Q.getD k 0) e ∧ Kf j ≤ 16 * Kf k + e
variable {sp : Nat → Prop} {Q : List Nat} {Kf : Nat → Nat} {fb od : Nat → Int32} {k : Nat}
theorem BB.len (h : BB sp ok nx x0 Q Kf fb od k) (inj : ∀ s t, sp s → sp t → cst s = cst t → s = t) : Q.length ≤ 24010 := by
  have h1 : (Q.map cst).Nodup := by
    have : ∀ L : List Nat, L.Nodup → (∀ s ∈ L, sp s) → (L.map cst).Nodup := by
      intro L
      induction L with
      | nil => intro _ _; exact List.nodup_nil
      | cons x L ih =>
        intro hn hs
        rw [List.nodup_cons] at hn
        rw [List.map_cons, List.nodup_cons]
        refine ⟨fun m => ?_, ih hn.2 (fun s hm => hs s (List.mem_cons_of_mem _ hm))⟩
        obtain ⟨y, hy, e⟩ := List.mem_map.mp m
        have := inj y x (hs y (List.mem_cons_of_mem _ hy)) (hs x List.mem_cons_self) e
        exact hn.1 (this ▸ hy)
    exact this Q h.1 (fun s hs => (h.2.1 s hs).1)
  have h2 := nodup_le 24010 (Q.map cst) h1 (fun x hx => by
    obtain ⟨s, hs, e⟩ := List.mem_map.mp hx
    rw [← e]
    exact (h.2.1 s hs).2)
  rwa [List.length_map] at h2
theorem BF.to0 (h : BF sp ok nx x0 Q Kf fb od k) (hk : k < Q.length) : BM sp ok nx x0 Q Kf fb od k 0 := ⟨h.1, hk, fun i hi => h.2.2 i k hi (Nat.le_refl _) hk, fun e he => absurd he (Nat.not_lt_zero _)⟩
theorem BM.no {c : Nat} (h : BM sp ok nx x0 Q Kf fb od k c) (ho : ¬ ok (Q.getD k 0) c) : BM sp ok nx x0 Q Kf fb od k (c + 1) := ⟨h.1, h.2.1, fun i hi => Nat.lt_succ_of_lt (h.2.2.1 i hi), fun e he o => by
  rcases Nat.lt_succ_iff_lt_or_eq.mp he with z | z
  · exact h.2.2.2 e z o
  · exact absurd (z ▸ o) ho⟩
theorem BM.skip {c : Nat} (h : BM sp ok nx x0 Q Kf fb od k c) (hc : c ≤ 16) (ho : ∀ e, c ≤ e → e < 16 → ¬ ok (Q.getD k 0) e) : BM sp ok nx x0 Q Kf fb od k 16 := ⟨h.1, h.2.1, fun i hi => by have := h.2.2.1 i hi; omega, fun e he o => by
  rcases Nat.lt_or_ge e c with z | z
  · exact h.2.2.2 e z o
  · exact absurd o (ho e z he)⟩
theorem BM.old {c : Nat} (h : BM sp ok nx x0 Q Kf fb od k c) (hm : nx (Q.getD k 0) c ∈ Q) : BM sp ok nx x0 Q Kf fb od k (c + 1) := ⟨h.1, h.2.1, fun i hi => Nat.lt_succ_of_lt (h.2.2.1 i hi), fun e he o => by
  rcases Nat.lt_succ_iff_lt_or_eq.mp he with z | z
  · exact h.2.2.2 e z o
  · obtain ⟨j, hj, ej⟩ := mem_getD hm
    rw [z]
    exact ⟨j, hj, ej, Nat.le_of_lt (h.2.2.1 j hj)⟩⟩
theorem BM.add {c : Nat} (h : BM sp ok nx x0 Q Kf fb od k c) (hc : c < 16) (ho : ok (Q.getD k 0) c) (hs : sp (nx (Q.getD k 0) c)) (hl : cst (nx (Q.getD k 0) c) < 24010) (hz : fb (cst (nx (Q.getD k 0) c)) = 0) : BM sp ok nx x0 (Q ++ [nx (Q.getD k 0) c]) (va_up Kf Q.length (16 * Kf k + c)) (upd fb (cst (nx (Q.getD k 0) c)) (nI (16 * cst (Q.getD k 0) + c + 1))) (upd od Q.length (nI (cst (nx (Q.getD k 0) c)))) k (c + 1) := by
  obtain ⟨⟨b1, b2, b3, b4, b5, b6, b7, b8⟩, hk, h3, h4⟩ := h
  generalize ht : nx (Q.getD k 0) c = t at *
  have hnot : ∀ s ∈ Q, cst s ≠ cst t := (b5 _ hl).mp hz
  have hn : t ∉ Q := fun m => hnot t m rfl
  have hkq := b2 _ (getD_mem hk)
  have hlen : (Q ++ [t]).length = Q.length + 1 := by rw [List.length_append]; rfl
  have kf : ∀ i, i < Q.length → va_up Kf Q.length (16 * Kf k + c) i = Kf i := fun i hi => va_up_ne _ _ (by omega)
  have fbm : ∀ x, fb x ≠ 0 → upd fb (cst t) (nI (16 * cst (Q.getD k 0) + c + 1)) x = fb x := fun x hx => if_neg (fun e => hx (by rw [e]; exact hz))
  have sub : ∀ i e, i < Q.length → e < 16 → (∃ j, j < Q.length ∧ Q.getD j 0 = nx (Q.getD i 0) e ∧ Kf j ≤ 16 * Kf i + e) → ∃ j, j < (Q ++ [t]).length ∧ (Q ++ [t]).getD j 0 = nx ((Q ++ [t]).getD i 0) e ∧ va_up Kf Q.length (16 * Kf k + c) j ≤ 16 * va_up Kf Q.length (16 * Kf k + c) i + e := fun i e hi he q => by
    obtain ⟨j, j1, j2, j3⟩ := q
    exact ⟨j, by omega, by rw [gd_app j1, gd_app hi]; exact j2, by rw [kf j j1, kf i hi]; exact j3⟩
  refine ⟨⟨?_, ?_, ⟨by omega, by rw [gd_app b3.1]; exact b3.2⟩, ?_, ?_, ?_, ?_, fun i e hi he o => ?_⟩, by omega, fun i hi => ?_, fun e he o => ?_⟩
  · rw [List.nodup_append]
    refine ⟨b1, by simp, fun x hx y hy => ?_⟩
    rw [List.mem_singleton] at hy
    exact fun z => hn (hy ▸ z ▸ hx)
  · intro x hx
    rcases List.mem_append.mp hx with z | z
    · exact b2 x z
    · rw [List.mem_singleton] at z; rw [z]; exact ⟨hs, hl⟩
  · intro i hi
    by_cases z : i = Q.length
    · rw [z, gd_end]; exact if_pos rfl
    · rw [gd_app (show i < Q.length by omega)]; exact (if_neg z).trans (b4 i (by omega))
  · intro x hx
    by_cases z : x = cst t
    · constructor
      · intro e
        rw [show upd fb (cst t) (nI (16 * cst (Q.getD k 0) + c + 1)) x = nI (16 * cst (Q.getD k 0) + c + 1) from if_pos z] at e
        exact absurd e (nI_ne0 (by omega) (by have := hkq.2; omega))
      · intro e
        exact absurd z.symm (e t (List.mem_append_right _ (List.mem_singleton.mpr rfl)))
    · rw [show upd fb (cst t) (nI (16 * cst (Q.getD k 0) + c + 1)) x = fb x from if_neg z, b5 x hx]
      constructor
      · intro e s hs
        rcases List.mem_append.mp hs with y | y
        · exact e s y
        · rw [List.mem_singleton] at y; rw [y]; exact fun q => z q.symm
      · intro e s hs
        exact e s (List.mem_append_left _ hs)
  · intro i hi
    by_cases z : i = Q.length
    · rw [z, gd_end, va_up_self]
      obtain ⟨n, n1, n2⟩ := b6 k hk
      exact ⟨n + 1, by omega, Kf k, Q.getD k 0, c, hc, ho, rfl, ht.symm, if_pos rfl, hkq.2, n2.mono fbm⟩
    · obtain ⟨n, n1, n2⟩ := b6 i (by omega)
      refine ⟨n, n1, ?_⟩
      rw [gd_app (show i < Q.length by omega), kf i (by omega)]
      exact n2.mono fbm
  · intro i j hij hj
    by_cases z : j = Q.length
    · rw [z, va_up_self, kf i (by omega)]
      exact h3 i (by omega)
    · rw [kf i (by omega), kf j (by omega)]
      exact b7 i j hij (by omega)
  · rw [gd_app (show i < Q.length by omega)] at o
    exact sub i e (by omega) he (b8 i e hi he o)
  · rw [kf k hk]
    by_cases z : i = Q.length
    · rw [z, va_up_self]; omega
    · rw [kf i (by omega)]
      have := h3 i (by omega)
      omega
  · rw [gd_app hk] at o
    rcases Nat.lt_succ_iff_lt_or_eq.mp he with z | z
    · obtain ⟨j, j1, j2, j3⟩ := h4 e z o
      exact ⟨j, by omega, by rw [gd_app j1, gd_app hk]; exact j2, by rw [kf j j1, kf k hk]; exact j3⟩
    · refine ⟨Q.length, by omega, by rw [gd_end, gd_app hk, z, ht], by rw [va_up_self, kf k hk, z]; exact Nat.le_refl _⟩
theorem BM.to (h : BM sp ok nx x0 Q Kf fb od k 16) : BF sp ok nx x0 Q Kf fb od (k + 1) := by
  obtain ⟨⟨b1, b2, b3, b4, b5, b6, b7, b8⟩, hk, h3, h4⟩ := h
  refine ⟨⟨b1, b2, b3, b4, b5, b6, b7, fun i c hi hc o => ?_⟩, hk, fun i j hi hj hl => ?_⟩
  · rcases Nat.lt_succ_iff_lt_or_eq.mp hi with z | z
    · exact b8 i c z hc o
    · rw [z] at o ⊢
      exact h4 c hc o
  · have h5 := h3 i hi
    have h6 := b7 k j (by omega) hl
    omega
/-- by each row one was found, and not later, or all that were found are earlier -/
theorem BF.cover (h : BF sp ok nx x0 Q Kf fb od k) (l : List Nat) (t : Nat) (hv : vw ok nx x0 l t) : (∃ i, i < Q.length ∧ Q.getD i 0 = t ∧ Kf i ≤ cdw 1 l) ∨ (k < Q.length ∧ ∀ i, i < Q.length → Kf i < cdw 1 l) := by
  have key : ∀ (l : List Nat) (s t K : Nat), (∃ i, i < Q.length ∧ Q.getD i 0 = s ∧ Kf i ≤ K) → vw ok nx s l t → (∃ i, i < Q.length ∧ Q.getD i 0 = t ∧ Kf i ≤ cdw K l) ∨ (k < Q.length ∧ ∀ i, i < Q.length → Kf i < cdw K l) := by
    intro l
    induction l with
    | nil => intro s t K hi hv; rw [show t = s from hv]; exact Or.inl hi
    | cons c l ih =>
      intro s t K hi hv
      obtain ⟨i, i1, i2, i3⟩ := hi
      rcases Nat.lt_or_ge i k with z | z
      · obtain ⟨j, j1, j2, j3⟩ := h.1.2.2.2.2.2.2.2 i c z hv.1.1 (by rw [i2]; exact hv.1.2)
        exact ih (nx s c) t (16 * K + c) ⟨j, j1, by rw [j2, i2], by omega⟩ hv.2
      · refine Or.inr ⟨by omega, fun i' hi' => ?_⟩
        have h1 := h.2.2 i' i hi' z i1
        have h2 := (cdw_bd (c :: l) K (vw_al _ s t hv)).1
        have h3 : K * 16 ≤ K * 16 ^ (c :: l).length := Nat.mul_le_mul_left _ (by
          rw [List.length_cons, Nat.pow_succ]
          have : 0 < 16 ^ l.length := Nat.pow_pos (by decide)
          omega)
        omega
  obtain ⟨n, n0, n1⟩ := h.1.2.2.2.2.2.1 0 h.1.2.2.1.1
  have hn : n = 0 := by omega
  subst hn
  exact key l x0 t 1 ⟨0, h.1.2.2.1.1, h.1.2.2.1.2, by rw [n1.1]; exact Nat.le_refl _⟩ hv
end WALK
theorem cdw_take {l : List Nat} {m : Nat} (h : m < l.length) : cdw 1 (l.take (m + 1)) = 16 * cdw 1 (l.take m) + l.getD m 0 := by
  rw [List.take_succ_eq_append_getElem h, cdw_s, gd_get h]
section GOAL
variable {a : FR} {st : Nat}
theorem vw_pt : ∀ (l : List Nat) (s t : Nat), vw (okS a) (nxS a) s l t → byB a st t → pt a st l.length s
  | [], s, t, h, hb => by rw [show t = s from h] at hb; exact hb
  | c :: l, s, t, h, hb => ⟨c, h.1.1, h.1.2, vw_pt l _ t h.2 hb⟩
theorem grd_vw : ∀ (n s : Nat) (l : List Nat), grd a st n s l → pt a st n s → ∃ t, vw (okS a) (nxS a) s l t ∧ byB a st t
  | 0, s, l, h, hp => by rw [show l = [] from h]; exact ⟨s, rfl, hp⟩
  | n + 1, s, l, h, _ => by
    obtain ⟨c, l', rfl, h1, h2, _, h4⟩ := h
    obtain ⟨t, t1, t2⟩ := grd_vw n _ l' h4 h2.2
    exact ⟨t, ⟨⟨h1, h2.1⟩, t1⟩, t2⟩
theorem grd_min : ∀ (n s t K : Nat) (l m : List Nat), grd a st n s l → pt a st n s → vw (okS a) (nxS a) s m t → byB a st t → m.length = n → cdw K l ≤ cdw K m
  | 0, s, t, K, l, m, h, _, _, _, hm => by
    rw [show l = [] from h, List.length_eq_zero_iff.mp hm]
    exact Nat.le_refl _
  | n + 1, s, t, K, l, m, h, hp, hv, hb, hm => by
    obtain ⟨c, l', rfl, h1, h2, h3, h4⟩ := h
    match m, hm with
    | e :: m', hm =>
      have hm' : m'.length = n := Nat.succ.inj hm
      have hp2 : pt a st n (nxS a s e) := hm' ▸ vw_pt m' _ t hv.2 hb
      have hce : c ≤ e := Nat.le_of_not_lt (fun z => h3 e z ⟨hv.1.2, hp2⟩)
      rw [cdw_c, cdw_c]
      rcases Nat.lt_or_ge c e with z | z
      · obtain ⟨u, u1, _⟩ := grd_vw n _ l' h4 h2.2
        exact Nat.le_of_lt (cdw_lt l' m' _ _ (by rw [grd_len n _ _ h4, hm']) (vw_al _ _ _ u1) (vw_al _ _ _ hv.2) (by omega))
      · have : c = e := by omega
        subst this
        exact grd_min n _ t _ l' m' h4 h2.2 hv.2 hb hm'
variable {sp : Nat → Prop} {Q l : List Nat} {Kf : Nat → Nat} {fb od : Nat → Int32} {k j x : Nat}
theorem BF.goal (h : BF sp (okS a) (nxS a) (packS a) Q Kf fb od k) (hl : Q.length ≤ 24010) (hj : j < Q.length) (hb : byB a st (Q.getD j 0)) (hf : ∀ i, i < j → ¬ byB a st (Q.getD i 0)) (hX : FD a st (packS a) x) (hg : x < 268435456 → grd a st x (packS a) l) : x < 24010 ∧ WB (okS a) (nxS a) (packS a) fb x (cdw 1 l) (Q.getD j 0) ∧ l.length = x := by
  obtain ⟨n, n1, n2⟩ := h.1.2.2.2.2.2.1 j hj
  obtain ⟨m, m1, m2, m3⟩ := n2.path
  have hpn : pt a st n (packS a) := m1 ▸ vw_pt m _ _ m2 hb
  rcases hX with ⟨x1, x2, x3⟩ | ⟨x1, x2⟩
  · have hxn : x ≤ n := Nat.le_of_not_lt (fun z => x3 n z hpn)
    have hgl := hg x1
    have hll := grd_len _ _ _ hgl
    obtain ⟨t, t1, t2⟩ := grd_vw _ _ _ hgl x2
    have hK : Kf j ≤ cdw 1 l := by
      rcases h.cover l t t1 with ⟨i, i1, i2, i3⟩ | ⟨_, q⟩
      · have : j ≤ i := Nat.le_of_not_lt (fun z => hf i z (by rw [i2]; exact t2))
        rcases Nat.lt_or_ge j i with z | z
        · have := h.1.2.2.2.2.2.2.1 j i z i1; omega
        · have : j = i := by omega
          rw [this]; exact i3
      · exact Nat.le_of_lt (q j hj)
    have b1 := (cdw_bd m 1 (vw_al _ _ _ m2)).1
    have b2 := (cdw_bd l 1 (vw_al _ _ _ t1)).2
    rw [m1, m3] at b1
    rw [hll] at b2
    have hnx : n = x := by
      rcases Nat.lt_or_ge x n with z | z
      · have p1 : 16 ^ (x + 1) ≤ 16 ^ n := Nat.pow_le_pow_right (by decide) z
        rw [Nat.pow_succ] at p1
        omega
      · omega
    subst hnx
    have e1 := grd_min n (packS a) _ 1 l m hgl x2 m2 hb m1
    rw [m3] at e1
    have e2 : Kf j = cdw 1 l := by omega
    rw [← e2]
    exact ⟨by omega, n2, hll⟩
  · exact absurd hpn (x2 n (by omega))
theorem BF.none (h : BF sp (okS a) (nxS a) (packS a) Q Kf fb od Q.length) (hf : ∀ i, i < Q.length → ¬ byB a st (Q.getD i 0)) (hX : FD a st (packS a) x) : x = 268435456 := by
  rcases hX with ⟨x1, x2, x3⟩ | ⟨x1, x2⟩
  · obtain ⟨l, hgl⟩ := grd_ex _ _ x2
    obtain ⟨t, t1, t2⟩ := grd_vw _ _ _ hgl x2
    rcases h.cover l t t1 with ⟨i, i1, i2, i3⟩ | ⟨q, _⟩
    · exact absurd (by rw [i2]; exact t2) (hf i i1)
    · omega
  · exact x1
theorem rc_vw : ∀ (n t : Nat), rc a n t → ∃ l, vw (okS a) (nxS a) (packS a) l t
  | 0, t, h => ⟨[], h⟩
  | n + 1, t, h => by
    obtain ⟨s, c, h1, h2, h3, h4⟩ := h
    obtain ⟨l, hl⟩ := rc_vw n s h1
    rw [h4]
    exact ⟨l ++ [c], vw_s l _ _ c hl h2 h3⟩
theorem WB.rch : ∀ {n K s : Nat}, WB (okS a) (nxS a) (packS a) fb n K s → Rch a s
  | 0, K, s, h => by rw [h.2.1]; exact Rch.now
  | n + 1, K, s, h => by
    obtain ⟨K', s', c, h1, h2, h3, h4, _, _, h5⟩ := h
    rw [h4]
    exact h5.rch.step h1 h2
theorem BF.all (h : BF sp (okS a) (nxS a) (packS a) Q Kf fb od Q.length) : ∀ s, s ∈ Q ↔ Rch a s := fun s => by
  constructor
  · intro hs
    obtain ⟨i, i1, i2⟩ := mem_getD hs
    obtain ⟨n, _, n2⟩ := h.1.2.2.2.2.2.1 i i1
    rw [← i2]
    exact n2.rch
  · intro ⟨n, hn⟩
    obtain ⟨l, hl⟩ := rc_vw n s hn
    rcases h.cover l s hl with ⟨i, i1, i2, i3⟩ | ⟨q, _⟩
    · rw [← i2]; exact getD_mem i1
    · omega
end GOAL
