section EQV
variable {G : GG} {n : Nat} {kd : KD} {I Z : II} {R : RR} {J : JJ} {em K cap hm : Nat} {u : Nat → Int32} {kn : Nat → Nat} {key : Nat → Key}
theorem kth_cong {p : Nat} {q q' : Nat → Bool} : ∀ {m : Nat}, (∀ k, k < m → q k = q' k) → kth q p m = kth q' p m
  | 0, _ => rfl
  | m + 1, h => by rw [kth, kth, kth_cong (fun k hk => h k (by omega)), h m (by omega), cnt_cong (fun k hk => h k (by omega))]
theorem fstF_of {q : Nat → Bool} {p : Nat} : ∀ {m : Nat}, p < m → q p = true → (∀ j, j < p → q j = false) → fstF q m = some p
  | 0, h, _, _ => absurd h (Nat.not_lt_zero p)
  | m + 1, h, h1, h2 => by
    by_cases hp : p < m
    · rw [fstF, fstF_of hp h1 h2]
    · have e : p = m := by omega
      subst e
      have hn : fstF q p = none := by
        cases hh : fstF q p with
        | none => rfl
        | some k => have k1 := fstF_some hh; rw [h2 k k1.1] at k1; exact absurd k1.2.1 (by decide)
      rw [fstF, hn]
      simp [h1]
theorem fstF_no {q : Nat → Bool} {m : Nat} (h : ∀ j, j < m → q j = false) : fstF q m = none := by
  cases hh : fstF q m with
  | none => rfl
  | some k => have k1 := fstF_some hh; rw [h k k1.1] at k1; exact absurd k1.2.1 (by decide)
theorem cnt_lt {q : Nat → Bool} {a b : Nat} (h : a < b) (hq : q a = true) : cnt q a < cnt q b := by
  have hm := cnt_mono q (a + 1) (b - (a + 1))
  rw [show a + 1 + (b - (a + 1)) = b by omega, cnt_yes hq] at hm
  omega
theorem kth_at {q : Nat → Bool} {h m : Nat} (hh : h < m) (hq : q h = true) : kth q (cnt q h) m = some h := by
  obtain ⟨k, hk⟩ := kth_lt (cnt_lt hh hq)
  obtain ⟨k1, k2, k3⟩ := kth_some hk
  rw [hk]
  congr 1
  rcases Nat.lt_trichotomy k h with a | a | a
  · have := cnt_lt a k2; omega
  · exact a
  · have := cnt_lt a hq; omega
/-- the first place of a ROW that fits -/
theorem row_first {q A B : Nat → Bool} {L : Nat} {F : Nat ⊕ Nat → Bool} (hA : ∀ h, F (.inl h) = A h) (hB : ∀ l, F (.inr l) = B l) : fstF (fun p => F (match kth q p 10 with | some h => .inl h | none => .inr (p - cnt q 10))) (cnt q 10 + L) = (match fstF (fun h => q h && A h) 10 with | some h => some (cnt q h) | none => match fstF B L with | some j => some (cnt q 10 + j) | none => none) := by
  have lo : fstF (fun h => q h && A h) 10 = none → ∀ p, p < cnt q 10 → F (match kth q p 10 with | some h => .inl h | none => .inr (p - cnt q 10)) = false := fun hn p hp => by
    obtain ⟨h, hk⟩ := kth_lt hp
    obtain ⟨k1, k2, k3⟩ := kth_some hk
    have := fstF_none hn h k1
    rw [hk]
    simp only [hA]
    rw [k2, Bool.true_and] at this
    exact this
  cases h1 : fstF (fun h => q h && A h) 10 with
  | some h =>
    obtain ⟨k1, k2, k3⟩ := fstF_some h1
    rw [Bool.and_eq_true] at k2
    refine fstF_of (Nat.lt_of_lt_of_le (cnt_lt k1 k2.1) (Nat.le_add_right _ _)) ?_ (fun j hj => ?_)
    · simp only [kth_at k1 k2.1, hA]; exact k2.2
    · obtain ⟨h', hk⟩ := kth_lt (q := q) (n := 10) (Nat.lt_trans hj (cnt_lt k1 k2.1))
      obtain ⟨j1, j2, j3⟩ := kth_some hk
      simp only [hk, hA]
      have hlt : h' < h := by
        rcases Nat.lt_trichotomy h' h with a | a | a
        · exact a
        · subst a; omega
        · have := cnt_lt a k2.1; omega
      have := k3 h' hlt
      rw [j2, Bool.true_and] at this
      exact this
  | none =>
    have hi : ∀ p, cnt q 10 ≤ p → F (match kth q p 10 with | some h => .inl h | none => .inr (p - cnt q 10)) = B (p - cnt q 10) := fun p hp => by
      rw [kth_ge hp]
      exact hB _
    cases h2 : fstF B L with
    | some j =>
      obtain ⟨k1, k2, k3⟩ := fstF_some h2
      refine fstF_of (by omega) ?_ (fun p hp => ?_)
      · have k4 : B (cnt q 10 + j - cnt q 10) = true := by rw [show cnt q 10 + j - cnt q 10 = j by omega]; exact k2
        exact (hi (cnt q 10 + j) (by omega)).trans k4
      · by_cases hp2 : p < cnt q 10
        · exact lo h1 p hp2
        · exact (hi p (by omega)).trans (k3 _ (by omega))
    | none =>
      refine fstF_no (fun p hp => ?_)
      by_cases hp2 : p < cnt q 10
      · exact lo h1 p hp2
      · exact (hi p (by omega)).trans (fstF_none h2 _ (by omega))
theorem fit_eq {r l i t : Nat} {nm fo : Int32} {cd : Nat → Int32} (hl : PsR I J Z l i) (hr : RlR G n kd I R r nm fo t cd) : cFt G kd I R J r l = allT (fun j => mPass Z i (cd j)) t := by
  unfold cFt
  rw [hr.2.2.2.1]
  refine allT_cong (fun j hj => ?_)
  obtain ⟨e1, c, e2, hc⟩ := hr.2.2.2.2.1 j hj
  rw [e1, e2]
  exact pass_eq hl.1 hl.2.1 hl.2.2.1 hl.2.2.2.1 hl.2.2.2.2 hc
theorem th_eq (h : RowR G n kd I R Z u) {k : Nat} (hk : k < 10) : thC R k = mth Z k := (h.2.1 k hk).1.symm
theorem tcnt_eq (h : RowR G n kd I R Z u) {k : Nat} (hk : k ≤ 10) : cnt (thC R) k = cnt (mth Z) k := cnt_cong (fun j hj => th_eq h (by omega))
theorem cHf_eq (h : RowR G n kd I R Z u) {k l i : Nat} (hk : k < 10) (hl : PsR I J Z l i) : cHf G kd I R J l k = (mth Z k && mHandFits Z k i) := by
  unfold cHf
  rw [← th_eq h hk]
  cases ht : thC R k with
  | false => rw [Bool.false_and, Bool.false_and]
  | true => rw [fit_eq hl ((h.2.1 k hk).2 ht).2.1]; rfl
theorem cLf_eq (h : RowR G n kd I R Z u) {k l i : Nat} (hk : k < mL Z) (hl : PsR I J Z l i) : cLf G kd I R J l k = mLearntFits Z k i := by
  unfold cLf
  rw [fit_eq hl (h.2.2.2 k hk).2.1]
  rfl
theorem hand_eq (h : RowR G n kd I R Z u) {l i : Nat} (hl : PsR I J Z l i) : (fstF (cHf G kd I R J l) 10).isSome = mFitsHand Z i := by
  unfold mFitsHand
  rw [fstF_cong (fun k hk => cHf_eq h hk hl)]
theorem pl_eq (h : RowR G n kd I R Z u) {l i : Nat} (hl : PsR I J Z l i) : cPl G kd I R J (mL Z) l = mFirst Z i := by
  have e := row_first (q := mth Z) (A := fun k => mHandFits Z k i) (B := fun k => mLearntFits Z k i) (L := mL Z) (F := fun r => mFitsR Z r i) (fun _ => rfl) (fun _ => rfl)
  have e2 : mFirst Z i = _ := e
  rw [e2]
  unfold cPl
  rw [fstF_cong (fun k hk => cHf_eq h hk hl), fstF_cong (fun k hk => cLf_eq h hk hl)]
  cases h1 : fstF (fun k => mth Z k && mHandFits Z k i) 10 with
  | some k => simp only [tcnt_eq h (Nat.le_of_lt (fstF_some h1).1)]
  | none =>
    cases h2 : fstF (fun k => mLearntFits Z k i) (mL Z) with
    | some j => simp only [tcnt_eq h (Nat.le_refl 10)]
    | none => rfl
/-- the RULE at a place of the ROW -/
theorem row_rl (h : RowR G n kd I R Z u) {p : Nat} (hp : p < mH Z + mL Z) : ∃ r, (match kth (thC R) p 10 with | some k => R 6 k | none => if p - cnt (thC R) 10 < mL Z then R 7 (p - cnt (thC R) 10) else none) = some (gz G + r) ∧ RlR G n kd I R r (mNameR Z (mRow Z p)) (mFolderR Z (mRow Z p)) (mManyR Z (mRow Z p)) (mCodeR Z (mRow Z p)) ∧ u r = mByR Z (mRow Z p) := by
  rw [kth_cong (fun k hk => th_eq h hk), tcnt_eq h (Nat.le_refl 10)]
  unfold mRow
  cases hk : kth (mth Z) p 10 with
  | some k =>
    obtain ⟨k1, k2, k3⟩ := kth_some hk
    obtain ⟨a1, a2, a3⟩ := (h.2.1 k k1).2 (by rw [th_eq h k1]; exact k2)
    exact ⟨rc G R 6 k, a1.1, a2, a3⟩
  | none =>
    have hge := kth_none hk
    have hlt : p - mH Z < mL Z := by unfold mH at hp ⊢; omega
    obtain ⟨a1, a2, a3⟩ := h.2.2.2 (p - mH Z) hlt
    refine ⟨rc G R 7 (p - mH Z), ?_, a2, a3⟩
    exact (if_pos hlt).trans a1.1
theorem get_eq (h : RowR G n kd I R Z u) (x : Int32) : (rgl x 0 (mH Z + mL Z) = none ∧ cGet R (mL Z) x = none) ∨ ∃ p r, p < mH Z + mL Z ∧ rgl x 0 (mH Z + mL Z) = some p ∧ cGet R (mL Z) x = some (gz G + r) ∧ RlR G n kd I R r (mNameR Z (mRow Z p)) (mFolderR Z (mRow Z p)) (mManyR Z (mRow Z p)) (mCodeR Z (mRow Z p)) ∧ u r = mByR Z (mRow Z p) := by
  have hH := mH_le (I := Z)
  have hL6 : mL Z ≤ 6 := h.1.2.1.le
  cases hx : rgl x 0 (mH Z + mL Z) with
  | none =>
    refine Or.inl ⟨rfl, ?_⟩
    unfold cGet
    cases hy : rgl x 0 (2 ^ 31) with
    | none => rfl
    | some p =>
      obtain ⟨e1, -, e3⟩ := rgl_some hy
      have hge : mH Z + mL Z ≤ p := Nat.le_of_not_lt (fun z => rgl_none hx (Nat.zero_le p) z e3 e1)
      dsimp only
      rw [kth_ge (by rw [tcnt_eq h (Nat.le_refl 10)]; unfold mH at hge; omega), tcnt_eq h (Nat.le_refl 10)]
      dsimp only
      rw [if_neg (by unfold mH at hge; omega)]
  | some p =>
    obtain ⟨e1, -, e3⟩ := rgl_some hx
    obtain ⟨r, a1, a2, a3⟩ := row_rl h e3
    refine Or.inr ⟨p, r, e3, rfl, ?_, a2, a3⟩
    unfold cGet
    rw [e1, rgl_nI (Nat.zero_le _) (by omega) (by omega)]
    exact a1
theorem u_pos (h : UR G n kd R u K hm) (hb : K ≤ 4000 ∧ hm ≤ 4000) {r : Nat} (hr : iO n kd r 7) : u r ≠ -1 := fun z => by
  rcases (h.1 r hr).2 with ⟨j, hj, e⟩ | ⟨s, hs, e⟩
  · exact absurd (show nI (100 + j) < 0 by rw [← e, z]; decide) (nI_pos (by omega))
  · exact absurd (show nI (10000 + s) < 0 by rw [← e, z]; decide) (nI_pos (by omega))
theorem so_eq (h : UR G n kd R u K hm) (hb : K ≤ 4000 ∧ hm ≤ 4000) {r l i : Nat} (hr : iO n kd r 7) (hs : SoR G n kd I R Z u l i) : decide (R l 2 = some (gz G + r)) = decide (Z 28 i = u r) := by
  rcases hs with ⟨a1, a2, -⟩ | ⟨r', a1, a2, a3, -⟩
  · rw [a1, a2, decide_eq_false (fun z => by cases z), decide_eq_false (fun z => u_pos h hb hr z.symm)]
  · rw [a1, ← a3]
    refine decide_eq_decide.mpr ⟨fun z => ?_, fun z => ?_⟩
    · have z2 := Option.some.inj z
      rw [show r' = r by omega]
    · rw [h.2 r' r a2 hr z]
theorem sn_eq (h : UR G n kd R u K hm) (hb : K ≤ 4000 ∧ hm ≤ 4000) {l i : Nat} (hs : SoR G n kd I R Z u l i) : decide (R l 2 = none) = decide (Z 28 i = -1) := by
  rcases hs with ⟨a1, a2, -⟩ | ⟨r', a1, a2, a3, -⟩
  · rw [a1, a2, decide_eq_true rfl, decide_eq_true rfl]
  · rw [a1, ← a3, decide_eq_false (fun z => by cases z), decide_eq_false (fun z => u_pos h hb a2 z)]
theorem bN_ne {x : Int32} {b : Nat} (h : bN x b) (hb : b < 2 ^ 31) : x ≠ -1 := fun z => by
  obtain ⟨j, h1, h2⟩ := h
  exact absurd (show nI j < 0 by rw [← h2, z]; decide) (nI_pos (by omega))
theorem cSo_eq (h : Core G em n kd I R J Z u K cap hm kn key) (hb : K ≤ 4000 ∧ hm ≤ 4000) {r : Nat} (hr : iO n kd r 7) {i : Nat} (hi : i < mN Z) : cSo G R (some (gz G + r)) i = decide (Z 28 i = u r) := so_eq h.ur hb hr (h.le.2.1 i hi).2.2.2.2.2.2.2.2.2.2
theorem cRi_eq (h : Core G em n kd I R J Z u K cap hm kn key) (hb : K ≤ 4000 ∧ hm ≤ 4000) {r : Nat} (hr : iO n kd r 7) (hf : bN (I r 2) 7) {i : Nat} (hi : i < mN Z) : cRi G I R r i = mJudgedP Z (u r) (I r 2) true i := by
  have hl := (h.le.2.1 i hi).2
  unfold cRi mJudgedP
  rw [so_eq h.ur hb hr hl.2.2.2.2.2.2.2.2.2, hl.2.2.2.2.1]
  by_cases e : Z 31 i = I r 2
  · rw [e, decide_eq_true rfl, decide_eq_false (bN_ne hf (by decide))]
    rfl
  · rw [decide_eq_false e]
    cases decide (Z 31 i = -1) <;> rfl
theorem cWr_eq (h : Core G em n kd I R J Z u K cap hm kn key) (hb : K ≤ 4000 ∧ hm ≤ 4000) {r : Nat} (hr : iO n kd r 7) {i : Nat} (hi : i < mN Z) : cWr G I R r i = mJudgedP Z (u r) (I r 2) false i := by
  have hl := (h.le.2.1 i hi).2
  unfold cWr mJudgedP
  rw [so_eq h.ur hb hr hl.2.2.2.2.2.2.2.2.2, hl.2.2.2.2.1]
  cases decide (Z 31 i = I r 2) <;> rfl
end EQV
