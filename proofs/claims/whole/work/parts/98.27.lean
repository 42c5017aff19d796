/-! the class: daring -/
def ownS (a : FR) (st f : Nat) : Nat := sd a st (1 - f)
theorem ownS_lt {a : FR} {st f : Nat} (h : st < 2 ^ (a 3)) : ownS a st f < 2 ^ (a 3) := sd_lt h
theorem ownS_o {a : FR} {st f : Nat} (hG : a 3 ≤ 4) (hf : f ≤ 1) (h : st < 2 ^ (a 3)) : dif (2 ^ (a 3) - 1) (ownS a st f) = ownS a st (1 - f) := sd_o hG (by omega) h
def rm9 (a : FR) (x : Nat) : Nat := 4 * a 1 - dgS x
/-- what is known: its stamp is not later than now; with the stamp of now it is right -/
def KnB (kn : Nat → Int32) (sp : Nat) : Prop := ∀ p, p < 48020 → ∃ k v, kn p = nI (4 * k + v) ∧ v < 4 ∧ k ≤ sp
def KnV (a : FR) (st sp : Nat) (kn : Nat → Int32) : Prop := ∀ x f, SG a x → x / 4096 ≠ 0 → f ≤ 1 → kn (2 * cst x + f) >>> ((2 : Int32) &&& 31) = nI sp → (kn (2 * cst x + f) &&& 3) - 1 = dV a x (ownS a st f)
def drL (q ws : Nat) (wd sp : Int32) : List Value := [.ref 82, .ref ws, .int wd, .ref (q + 1), .int sp, .ref (q + 2)]
def DRI (Z : Nat → Prop) (reg : Nat → FR) (ns s sg kd : Nat) (a b : FR) (q st sp : Nat) (kn : Nat → Int32) (h : Hp) : Prop := h.1 q = some (.inr (0, drL q s (nI (a 27)) (nI sp))) ∧ (∃ f, h.1 (q + 1) = some (aI 2 f) ∧ f 0 = nI (ownS a st 0) ∧ f 1 = nI (ownS a st 1)) ∧ h.1 (q + 2) = some (aI 48020 kn) ∧ KnB kn sp ∧ KnV a st sp kn ∧ LQ Z h reg ns s sg (a 27) kd b
def QDr (Z : Nat → Prop) (reg : Nat → FR) (ns s sg kd : Nat) (a b : FR) (q st sp : Nat) (v : Int32) (h : Hp) : Option Value → Hp → Prop := fun r h2 => r = some (.int v) ∧ ∃ kn, DRI Z reg ns s sg kd a b q st sp kn h2 ∧ GQ [q + 2] kd h h2 kd
def WD (Z : Nat → Prop) (kd q : Nat) : Prop := 139 ≤ q ∧ (kd < q ∨ q + 2 < kd) ∧ ∀ x, Z x → x < q ∨ q + 2 < x
theorem WD.off {Z : Nat → Prop} {kd q : Nat} (h : WD Z kd q) {S : List Nat} (hS : ∀ y ∈ S, q ≤ y ∧ y ≤ q + 2) : OffL Z kd S := fun y m => by
  have h1 := hS y m
  have h2 := h.1
  have h3 := h.2.1
  exact ⟨fun z => by have := h.2.2 y z; omega, by omega, by omega, by omega, by omega, by omega⟩
def DCx (Z : Nat → Prop) (reg : Nat → FR) (ns s sg kd : Nat) (a b : FR) (q st sp : Nat) : Prop := AIN a ∧ Stat a b ∧ WD Z kd q ∧ st < 2 ^ (a 3) ∧ sp < 10000
def BST (E : EnvT) (Z : Nat → Prop) (reg : Nat → FR) (ns s sg kd : Nat) (a b : FR) (q st sp : Nat) (r : Nat) : Prop := ∀ (x f lv d : Nat) (h : Hp) (kn : Nat → Int32), SG a x → x / 4096 ≠ 0 → f ≤ 1 → dOp a x (ownS a st f) ≠ 0 → rm9 a x ≤ r → lv + rm9 a x ≤ 24 → 3 * r + 8 ≤ d → DRI Z reg ns s sg kd a b q st sp kn h → Cn E mX0_bestOf d [.ref q, .int (nI (tws x)), .int (nI (x / 4096)), .int (nI f), .int (nI lv)] h (QDr Z reg ns s sg kd a b q st sp (dV a x (ownS a st f)) h)
def OUT (E : EnvT) (Z : Nat → Prop) (reg : Nat → FR) (ns s sg kd : Nat) (a b : FR) (q st sp : Nat) (r : Nat) : Prop := ∀ (x f lv d : Nat) (h : Hp) (kn : Nat → Int32), SG a x → x / 4096 ≠ 0 → f ≤ 1 → rm9 a x ≤ r → lv + rm9 a x ≤ 24 → 3 * r + 9 ≤ d → DRI Z reg ns s sg kd a b q st sp kn h → Cn E mX0_outcome d [.ref q, .int (nI (tws x)), .int (nI (x / 4096)), .int (nI f), .int (nI lv)] h (QDr Z reg ns s sg kd a b q st sp (dV a x (ownS a st f)) h)
def STP (E : EnvT) (Z : Nat → Prop) (reg : Nat → FR) (ns s sg kd : Nat) (a b : FR) (q st sp : Nat) (r : Nat) : Prop := ∀ (x f g lv d : Nat) (h : Hp) (kn : Nat → Int32), SG a x → f ≤ 1 → g < a 3 → okS a x (2 ^ g) → rm9 a x ≤ r + 1 → lv + rm9 a x ≤ 24 → 3 * r + 10 ≤ d → DRI Z reg ns s sg kd a b q st sp kn h → Cn E mX0_byStep d [.ref q, .int (nI (tws x)), .int (nI (x / 4096)), .int (nI f), .int (nI g), .int (nI lv)] h (QDr Z reg ns s sg kd a b q st sp (dBy (dV a) a x (2 ^ g) (ownS a st f)) h)
theorem and1 : ∀ f, f ≤ 1 → nI f &&& 1 = nI f := fun f h => by
  match f, h with
  | 0, _ => decide
  | 1, _ => decide
theorem one_sub : ∀ f, f ≤ 1 → (1 : Int32) - nI f = nI (1 - f) := fun f h => by
  match f, h with
  | 0, _ => decide
  | 1, _ => decide
theorem neg3 {x : Int32} (h : x = -1 ∨ x = 0 ∨ x = 1) : -x = -1 ∨ -x = 0 ∨ -x = 1 := by rcases h with rfl | rfl | rfl <;> decide
/-- the greatest, -1 if there is none -/
def mxB (o : Nat) (F : Nat → Int32) : Nat → Int32
  | 0 => -1
  | g + 1 => if o.testBit g = true then (if mxB o F g < F g then F g else mxB o F g) else mxB o F g
theorem mxB_v {o : Nat} {F : Nat → Int32} (hF : ∀ g, F g = -1 ∨ F g = 0 ∨ F g = 1) : ∀ g, mxB o F g = -1 ∨ mxB o F g = 0 ∨ mxB o F g = 1
  | 0 => Or.inl rfl
  | g + 1 => by
    unfold mxB
    split
    · split
      · exact hF g
      · exact mxB_v hF g
    · exact mxB_v hF g
theorem mxB_top {o : Nat} {F : Nat → Int32} (hF : ∀ g, F g = -1 ∨ F g = 0 ∨ F g = 1) {g : Nat} (h : mxB o F g = 1) : ∀ j, mxB o F (g + j) = 1
  | 0 => h
  | j + 1 => by
    have ih := mxB_top hF h j
    show mxB o F (g + j + 1) = 1
    unfold mxB
    rw [ih]
    rcases hF (g + j) with e | e | e <;> rw [e] <;> split <;> decide
theorem dBst_mx {o : Nat} {F : Nat → Int32} (hF : ∀ g, F g = -1 ∨ F g = 0 ∨ F g = 1) : ∀ n, (dBst o F n = 268435456 ∧ mxB o F n = -1) ∨ dBst o F n = mxB o F n
  | 0 => Or.inl ⟨rfl, rfl⟩
  | n + 1 => by
    have ih := dBst_mx (o := o) hF n
    unfold dBst mxB
    by_cases c : o.testBit n = true
    · rw [if_pos c, if_pos c]
      refine Or.inr ?_
      rcases ih with ⟨i1, i2⟩ | ih
      · rw [if_pos (Or.inl i1), i2]
        rcases hF n with e | e | e <;> rw [e] <;> decide
      · rw [ih]
        rcases mxB_v (o := o) hF n with e | e | e <;> rcases hF n with e2 | e2 | e2 <;> rw [e, e2] <;> decide
    · rw [if_neg c, if_neg c]
      exact ih
theorem mxB_all {o G : Nat} {F : Nat → Int32} (hG : G ≤ 4) (ho : o < 2 ^ G) (ho16 : o < 16) : mxB o F 4 = mxB o F G := by
  have hb := (lt_bits G hG o ho16).mp ho
  have key : ∀ j, G + j ≤ 4 → mxB o F (G + j) = mxB o F G := by
    intro j
    induction j with
    | zero => intro _; rfl
    | succ j ih =>
      intro h
      refine Eq.trans ?_ (ih (by omega))
      show (if o.testBit (G + j) = true then _ else mxB o F (G + j)) = _
      rw [hb (G + j) (by omega) (by omega), if_neg (by decide)]
  have := key (4 - G) (by omega)
  rwa [show G + (4 - G) = 4 by omega] at this
section DRE
variable {a : FR} {x own : Nat}
theorem dBy_v9 (a : FR) (x c own : Nat) : dBy (dV a) a x c own = -1 ∨ dBy (dV a) a x c own = 0 ∨ dBy (dV a) a x c own = 1 := dBy_v (dV_v a)
/-- who can step does the best -/
theorem dV_best (hs : SG a x) (hA : AIN a) (hd : x / 4096 ≠ 0) (hw : own < 2 ^ (a 3)) (ho : dOp a x own ≠ 0) : dV a x own = mxB (dOp a x own) (fun g => dBy (dV a) a x (2 ^ g) own) 4 := by
  have hG := hA.G
  have h16 : own < 16 := Nat.lt_of_lt_of_le hw (pw16 hG)
  have ho16 : dOp a x own < 16 := dOp_lt h16
  have hol : dOp a x own < 2 ^ (a 3) := Nat.lt_of_le_of_lt (dif_le _ _) hw
  have hnp : pastN (a 1) x (a 3) ≠ 2 ^ (a 3) - 1 := fun e => ho (by
    refine dOp_0 hG hw (fun g hg => ?_)
    unfold dOp
    rw [dif_b own h16 _ (pastN_16 _ _ hG) g (by omega), e]
    have : (2 ^ (a 3) - 1).testBit g = true := by rw [Nat.testBit_two_pow_sub_one]; exact decide_eq_true hg
    rw [this]
    simp)
  rw [dV_eq hs hG hA.C hd hw]
  unfold dOne
  rw [if_neg hnp, mxB_all hG hol ho16]
  rcases dBst_v (o := dOp a x own) (F := fun g => dBy (dV a) a x (2 ^ g) own) (a 3) (fun g _ _ => dBy_v9 a x (2 ^ g) own) with ⟨_, z⟩ | ⟨z, _⟩
  · exact absurd (dOp_0 hG hw z) ho
  · rcases dBst_mx (o := dOp a x own) (F := fun g => dBy (dV a) a x (2 ^ g) own) (fun g => dBy_v9 a x (2 ^ g) own) (a 3) with ⟨y, _⟩ | y
    · rw [y] at z; exact absurd z (by decide)
    · rw [if_neg (fun e => by rw [e] at z; exact absurd z (by decide)), y]
theorem dV_past (hs : SG a x) (hA : AIN a) (hd : x / 4096 ≠ 0) (hw : own < 2 ^ (a 3)) (hp : pastN (a 1) x (a 3) = 2 ^ (a 3) - 1) : dV a x own = 0 := by
  rw [dV_eq hs hA.G hA.C hd hw]
  unfold dOne
  rw [if_pos hp]
theorem dV_none (hs : SG a x) (hA : AIN a) (hd : x / 4096 ≠ 0) (hw : own < 2 ^ (a 3)) (hp : pastN (a 1) x (a 3) ≠ 2 ^ (a 3) - 1) (ho : dOp a x own = 0) : dV a x own = dBy (dV a) a x 0 own := by
  rw [dV_eq hs hA.G hA.C hd hw]
  unfold dOne
  rw [if_neg hp, if_pos (dBst_no ho _)]
end DRE
theorem pack2 {S v : Nat} (hS : S < 10000) (hv : v < 4) : (nI S <<< ((2 : Int32) &&& 31)) ||| nI v = nI (4 * S + v) := by
  rw [pk_shlN _ 2 (by decide) (by omega), nI_or, Nat.mul_comm S]
  congr 1
  exact (Nat.two_pow_add_eq_or_of_lt (i := 2) (b := v) hv S).symm
theorem unp2 {S v : Nat} (hS : S < 10000) (hv : v < 4) : nI (4 * S + v) &&& 3 = nI v := by
  rw [pk_andN (by omega) 2 (by decide)]
  congr 1
  omega
theorem sh2 {S v : Nat} (hS : S < 10000) (hv : v < 4) : nI (4 * S + v) >>> ((2 : Int32) &&& 31) = nI S := by
  rw [pk_shrN (by omega) _ 2 (by decide)]
  congr 1
  omega
