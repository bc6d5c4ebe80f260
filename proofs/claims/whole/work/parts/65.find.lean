section FIND
variable {G : GG} {n : Nat} {kd : KD} {I Z : II} {R : RR} {J : JJ} {em K cap hm : Nat} {u : Nat → Int32} {kn : Nat → Nat} {key : Nat → Key}
theorem pr_eq (h : Core G em n kd I R J Z u K cap hm kn key) (o : Option Nat) : prI I o = Z 22 23 + nI (oC o) * Z 22 24 := by
  cases o with
  | none => show I 14 0 + I 14 1 = _ + nI 1 * _; rw [h.co.1, h.co.2.1, nI1, Int32.one_mul]
  | some b => show I 14 0 + nI 2 * I 14 1 = _ + nI 2 * _; rw [h.co.1, h.co.2.1]
theorem cG_eq (h : Core G em n kd I R J Z u K cap hm kn key) {m : Nat} (hO : OpR I R Z m) (hOp : okOpen Z) {a f : Nat} {o : Option Nat} (ha : a < 40) (ho : ∀ b, o = some b → b < 40) (hf : f < 8) : cG G I R J m a o f = mGs Z a o f 8 := by
  unfold cG svI tcI wTal wBel
  rw [tal_T h hO ha ho, tal_G h hO ha ho, tal_G h hO ha ho, gs_eq hOp hf, h.co.2.2.1 0 (by decide), h.co.2.2.1 f hf, pr_eq h]
def xN (Z : II) (a : Nat) (o : Option Nat) (f : Nat) : Nat := tn (Z 42 f) * (tT Z a o - mThere Z a o f)
theorem th_le (Z : II) (a : Nat) (o : Option Nat) (f : Nat) : mThere Z a o f ≤ tT Z a o := cnt_imp (fun k hk => by
  unfold mTP at hk
  rw [Bool.and_eq_true, Bool.and_eq_true] at hk
  rw [hk.1, hk.2.1]
  rfl) _
theorem x_eq (h : Core G em n kd I R J Z u K cap hm kn key) {a f : Nat} {o : Option Nat} (hf : f < 8) : Z 42 f * (nI (tT Z a o) - nI (mThere Z a o f)) = nI (xN Z a o f) := by
  unfold xN
  rw [pk_sub (th_le Z a o f), ← pk_mul, ← (h.co.2.2.2.2.2 f hf).eq]
theorem x_le (h : Core G em n kd I R J Z u K cap hm kn key) {a f : Nat} {o : Option Nat} (hf : f < 8) : xN Z a o f ≤ 100000 := by
  have h1 : tn (Z 42 f) ≤ 1000 := (h.co.2.2.2.2.2 f hf).le
  have h2 : tT Z a o ≤ mN Z := cnt_le _ _
  have h3 : mN Z ≤ 100 := h.mb.1.le
  exact Nat.mul_le_mul h1 (Nat.le_trans (Nat.sub_le _ _) (Nat.le_trans h2 h3))
theorem un_cnt (Z : II) (a : Nat) (o : Option Nat) : tT Z a o - mThere Z a o 0 = cnt (fun k => (mOpen Z k && mPassO Z k a o) && !decide (Z 31 k = nI 0)) (mN Z) := by
  have e := cnt_split (fun k => mOpen Z k && mPassO Z k a o) (fun k => decide (Z 31 k = nI 0)) (mN Z)
  have e2 : cnt (fun k => (mOpen Z k && mPassO Z k a o) && decide (Z 31 k = nI 0)) (mN Z) = mThere Z a o 0 := cnt_cong (fun k hk => by unfold mTP; rw [Bool.and_assoc])
  rw [e2] at e
  unfold tT
  omega
theorem x0_le (Z : II) (a b : Nat) : xN Z a (some b) 0 ≤ xN Z a none 0 ∧ xN Z a (some b) 0 ≤ xN Z b none 0 := by
  unfold xN
  rw [un_cnt, un_cnt, un_cnt]
  refine ⟨Nat.mul_le_mul_left _ (cnt_imp (fun k hk => ?_) _), Nat.mul_le_mul_left _ (cnt_imp (fun k hk => ?_) _)⟩
  · unfold mPassO at hk ⊢
    rw [Bool.and_eq_true, Bool.and_eq_true, Bool.and_eq_true] at hk
    rw [hk.1.1, hk.1.2.1, hk.2]
    rfl
  · unfold mPassO at hk ⊢
    rw [Bool.and_eq_true, Bool.and_eq_true, Bool.and_eq_true] at hk
    rw [hk.1.1, hk.2]
    simp only [hk.1.2.2]
    rfl
theorem stk_eq (h : Core G em n kd I R J Z u K cap hm kn key) {m : Nat} (hO : OpR I R Z m) {a : Nat} (ha : a < 40) : stkC G I R J m a = nI (xN Z a none 0) := by
  unfold stkC tcI wTal wBel
  rw [tal_T h hO ha (fun b hb => by cases hb), tal_G h hO ha (fun b hb => by cases hb), h.co.2.2.1 0 (by decide)]
  exact x_eq h (by decide)
theorem prune (h : Core G em n kd I R J Z u K cap hm kn key) {m : Nat} (hO : OpR I R Z m) (hOp : okOpen Z) {a b : Nat} (ha : a < 40) (hb : b < 40) {t : Int32} (hp : ¬ t < cPr G I R J m a b) {f : Nat} (hf : f < 8) : ¬ t < mGs Z a (some b) f 8 := by
  intro hlt
  refine hp (Int32.lt_of_lt_of_le hlt ?_)
  rw [gs_eq hOp hf, x_eq h (by decide), x_eq h hf]
  unfold cPr
  rw [stk_eq h hO ha, stk_eq h hO hb, pr_eq h]
  show _ ≤ _ - (Z 22 23 + nI 2 * Z 22 24)
  show _ - _ - (Z 22 23 + nI 2 * Z 22 24) ≤ _
  rw [show Z 22 23 = nI (tn (Z 22 23)) from h.co.2.2.2.1.eq, show Z 22 24 = nI (tn (Z 22 24)) from h.co.2.2.2.2.1.eq, pk_mul, nI_add]
  have r1 : tn (Z 22 23) ≤ 100 := h.co.2.2.2.1.le
  have r2 : tn (Z 22 24) ≤ 100 := h.co.2.2.2.2.1.le
  have x1 := x_le h (a := a) (o := some b) (f := 0) (by decide)
  have x2 := x_le h (a := a) (o := some b) hf
  have x3 := x_le h (a := a) (o := none) (f := 0) (by decide)
  have x4 := x_le h (a := b) (o := none) (f := 0) (by decide)
  have x5 := x0_le Z a b
  have r3 : tn (Z 22 23) + 2 * tn (Z 22 24) ≤ 300 := by omega
  generalize tn (Z 22 23) + 2 * tn (Z 22 24) = p at r3 ⊢
  generalize xN Z a (some b) 0 = y0 at x1 x5 ⊢
  generalize xN Z a (some b) f = yf at x2 ⊢
  generalize xN Z a none 0 = ya at x3 x5 ⊢
  generalize xN Z b none 0 = yb at x4 x5 ⊢
  have e : nI y0 - nI yf - nI p = nI y0 - nI (yf + p) := by rw [← nI_add]; grind
  rw [e]
  split
  · rw [Int32.le_iff_toInt_le, pk_sub_toInt (by omega) (by omega), pk_sub_toInt (by omega) (by omega)]
    omega
  · rw [Int32.le_iff_toInt_le, pk_sub_toInt (by omega) (by omega), pk_sub_toInt (by omega) (by omega)]
    omega
/-- the best so far, on both sides -/
def Eq2 (t s : Bst) : Prop := t.1 = s.1 ∧ ¬ t.1 < 0 ∧ (0 < t.1 → t = s)
theorem Eq2.upd {t s : Bst} (e : Eq2 t s) (g : Nat → Int32) (x z : Int32) (f : Nat) : Eq2 (gUpd g x z f t) (gUpd g x z f s) := by
  obtain ⟨e1, e2, e3⟩ := e
  unfold gUpd
  rw [← e1]
  by_cases h : t.1 < g f
  · rw [if_pos h, if_pos h]
    exact ⟨rfl, Int32.not_lt.mpr (Int32.le_of_lt (Int32.lt_of_le_of_lt (Int32.not_lt.mp e2) h)), fun _ => rfl⟩
  · rw [if_neg h, if_neg h]
    exact ⟨e1, e2, e3⟩
theorem Eq2.bs {t s : Bst} (e : Eq2 t s) (g : Nat → Int32) (x z : Int32) : ∀ m, Eq2 (gBs g x z t m) (gBs g x z s m)
  | 0 => e
  | m + 1 => (Eq2.bs e g x z m).upd g x z m
theorem mBs_g (Z : II) (a : Nat) (o : Option Nat) (t : Bst) : ∀ m, mBs Z a o t m = gBs (fun f => mGs Z a o f 8) (nI a) (oI o) t m
  | 0 => rfl
  | m + 1 => by rw [mBs, gBs, mBs_g Z a o t m]; rfl
theorem gBs_no {g : Nat → Int32} {x z : Int32} {t : Bst} : ∀ {m : Nat}, (∀ f, f < m → ¬ t.1 < g f) → gBs g x z t m = t
  | 0, _ => rfl
  | m + 1, h => by rw [gBs, gBs_no (fun f hf => h f (by omega)), gUpd, if_neg (h m (by omega))]
theorem find_1 (h : Core G em n kd I R J Z u K cap hm kn key) {m : Nat} (hO : OpR I R Z m) (hOp : okOpen Z) {t s : Bst} (e : Eq2 t s) : ∀ a, a ≤ 40 → Eq2 (cL1 G I R J m t a) (mL1 Z s a)
  | 0, _ => e
  | a + 1, ha => by
    rw [cL1, mL1, mBs_g, gBs_cong (fun f hf => cG_eq h hO hOp (o := none) (by omega) (fun b hb => by cases hb) hf)]
    exact (find_1 h hO hOp e a (by omega)).bs _ _ _ 8
theorem find_2r (h : Core G em n kd I R J Z u K cap hm kn key) {m : Nat} (hO : OpR I R Z m) (hOp : okOpen Z) {t s : Bst} (e : Eq2 t s) {a : Nat} (ha : a < 40) : ∀ d, d ≤ 39 - a → Eq2 (cL2r G I R J m a t d) (mL2r Z a s d)
  | 0, _ => e
  | d + 1, hd => by
    have ih := find_2r h hO hOp e ha d (by omega)
    rw [cL2r, mL2r, mBs_g]
    by_cases hp : (cL2r G I R J m a t d).1 < cPr G I R J m a (a + 1 + d)
    · rw [if_pos hp, gBs_cong (fun f hf => cG_eq h hO hOp (o := some (a + 1 + d)) ha (fun b hb => by cases hb; omega) hf)]
      exact ih.bs _ _ _ 8
    · rw [if_neg hp, gBs_no (fun f hf => by rw [← ih.1]; exact prune h hO hOp ha (by omega) hp hf)]
      exact ih
theorem find_2 (h : Core G em n kd I R J Z u K cap hm kn key) {m : Nat} (hO : OpR I R Z m) (hOp : okOpen Z) {t s : Bst} (e : Eq2 t s) : ∀ a, a ≤ 40 → Eq2 (cL2 G I R J m t a) (mL2 Z s a)
  | 0, _ => e
  | a + 1, ha => by
    rw [cL2, mL2]
    exact find_2r h hO hOp (find_2 h hO hOp e a (by omega)) (by omega) _ (Nat.le_refl _)
theorem find_eq (h : Core G em n kd I R J Z u K cap hm kn key) {m : Nat} (hO : OpR I R Z m) (hOp : okOpen Z) (t : Bst) : Eq2 (cFB G I R J m t) (mLooks Z) := by
  have e0 : Eq2 (nI 0, t.2) (nI 0, (rB Z).2) := ⟨rfl, show ¬ nI 0 < 0 by decide, fun z => absurd z (show ¬ (0 : Int32) < nI 0 by decide)⟩
  exact find_2 h hO hOp (find_1 h hO hOp e0 40 (Nat.le_refl _)) 40 (Nat.le_refl _)
end FIND
