section OBS
variable {G : GG} {n : Nat} {kd : KD} {I Z : II} {R : RR} {J : JJ} {em K cap hm : Nat} {u : Nat → Int32} {kn : Nat → Nat} {key : Nat → Key}
theorem rgl_sh (x : Int32) {a m : Nat} (hm : a + m < 2 ^ 31) : rgl (x - nI a) 0 m = (rgl x a (a + m)).map (fun j => j - a) := by
  cases h : rgl x a (a + m) with
  | some j =>
    obtain ⟨rfl, h1, h2⟩ := rgl_some h
    rw [pk_sub h1, rgl_nI (Nat.zero_le _) (by omega) (by omega)]
    rfl
  | none =>
    cases h2 : rgl (x - nI a) 0 m with
    | none => rfl
    | some j =>
      obtain ⟨e, -, hj⟩ := rgl_some h2
      have e2 : x = nI (j + a) := by
        rw [← nI_add, ← e]
        simp
      exact absurd e2 (rgl_none h (by omega) (by omega) (by omega))
theorem many_le (h : Core G em n kd I R J Z u K cap hm kn key) {r t : Nat} {nm fo : Int32} {cd : Nat → Int32} (hr : RlR G n kd I R r nm fo t cd) : t ≤ 4 := by
  rw [← hr.2.2.2.1]
  exact hr.1.2.2.1.2.2.2
theorem rule_eq (h : Core G em n kd I R J Z u K cap hm kn key) (x w : Int32) : cRule G kd I R (mL Z) x w = mRule Z x w := by
  unfold cRule mRule
  rcases get_eq h.row x with ⟨e1, e2⟩ | ⟨p, r, hp, e1, e2, hr, -⟩
  · rw [e1, e2]
  · rw [e1, e2]
    have h4 := many_le h hr
    obtain ⟨r1, r2, r3, r4, r5, r6⟩ := hr
    show cRuleR G kd I R (gz G + r - gz G) w = mRuleR Z (mRow Z p) w
    rw [gz_sub]
    unfold cRuleR mRuleR
    by_cases w0 : w = nI 0
    · rw [w0, if_pos rfl, rgl_nI (j := 0) (by decide) (by decide) (by decide)]
      exact r2
    · rw [if_neg w0]
      by_cases w1 : w = nI 1
      · rw [w1, if_pos rfl, rgl_nI (j := 1) (by decide) (by decide) (by decide)]
        exact r3
      · rw [if_neg w1]
        by_cases w2 : w = nI 2
        · rw [w2, if_pos rfl, rgl_nI (j := 2) (by decide) (by decide) (by decide)]
          exact congrArg nI r4
        · rw [if_neg w2]
          have hn : rgl w 0 3 = none := by
            cases hh : rgl w 0 3 with
            | none => rfl
            | some j =>
              obtain ⟨e, -, hj⟩ := rgl_some hh
              match j, hj with
              | 0, _ => exact absurd e w0
              | 1, _ => exact absurd e w1
              | 2, _ => exact absurd e w2
          rw [hn]
          dsimp only
          unfold cAt
          rw [r4, rgl_sh w (by omega)]
          cases hh : rgl w 10 (10 + mManyR Z (mRow Z p)) with
          | none => rfl
          | some j =>
            obtain ⟨-, hj1, hj2⟩ := rgl_some hh
            exact (r5 (j - 10) (by omega)).1
theorem rec_eq (h : Core G em n kd I R J Z u K cap hm kn key) (hb : K ≤ 4000 ∧ hm ≤ 4000) (x w : Int32) : cRec G I R (mN Z) (mL Z) x w = askR x w (mH Z + mL Z) 4 (mRecord Z) := by
  unfold cRec askR
  rcases get_eq h.row x with ⟨e1, e2⟩ | ⟨p, r, hp, e1, e2, hr, hu⟩
  · rw [e1, e2]
  · rw [e1, e2]
    dsimp only
    rw [gz_sub]
    obtain ⟨r1, r2, r3, r4, r5, r6⟩ := hr
    cases rgl w 0 4 with
    | none => rfl
    | some j =>
      have a1 : cnt (cSo G R (some (gz G + r))) (mN Z) = mSorted Z (mByR Z (mRow Z p)) 0 := cnt_cong (fun i hi => by
        rw [cSo_eq h hb r1.1 hi, hu]
        unfold mSortedP
        rw [decide_eq_true (Nat.zero_le i), Bool.true_and])
      have a2 : cnt (cRi G I R r) (mN Z) = mJudged Z (mByR Z (mRow Z p)) (mFolderR Z (mRow Z p)) true := cnt_cong (fun i hi => by
        rw [cRi_eq h hb r1.1 (by rw [r3]; exact r6) hi, hu, r3])
      have a3 : cnt (cWr G I R r) (mN Z) = mJudged Z (mByR Z (mRow Z p)) (mFolderR Z (mRow Z p)) false := cnt_cong (fun i hi => by
        rw [cWr_eq h hb r1.1 hi, hu, r3])
      have a4 : lstF (cSo G R (some (gz G + r))) (mN Z) = lstF (fun k => decide (Z 28 k = mByR Z (mRow Z p))) (mN Z) := lstF_cong (fun i hi => by
        rw [cSo_eq h hb r1.1 hi, hu])
      unfold cRecR mRecord
      rw [a1, a2, a3, a4]
      match j with
      | 0 => rfl
      | 1 => rfl
      | 2 => rfl
      | k + 3 => rfl
theorem fitR_eq (h : RowR G n kd I R Z u) {p r l i : Nat} (hr : RlR G n kd I R r (mNameR Z (mRow Z p)) (mFolderR Z (mRow Z p)) (mManyR Z (mRow Z p)) (mCodeR Z (mRow Z p))) (hl : PsR I J Z l i) : cFt G kd I R J r l = mFitsR Z (mRow Z p) i := by
  rw [fit_eq hl hr]
  cases mRow Z p with
  | inl k => rfl
  | inr k => rfl
theorem both_eq (h : Core G em n kd I R J Z u K cap hm kn key) (x w : Int32) : cBothA G kd I R J (mN Z) (mL Z) x w = askR x w (mH Z + mL Z) (mH Z + mL Z) (mBoth Z) := by
  unfold cBothA askR
  rcases get_eq h.row x with ⟨e1, e2⟩ | ⟨p, r, hp, e1, e2, hr, -⟩
  · rw [e1, e2]
  · rw [e1, e2]
    dsimp only
    rcases get_eq h.row w with ⟨f1, f2⟩ | ⟨q, s, hq, f1, f2, hs, -⟩
    · rw [f1, f2]
    · rw [f1, f2]
      dsimp only
      rw [gz_sub, gz_sub]
      unfold mBoth
      rw [fstF_cong (fun i hi => by
        have hl := (h.le.2.1 i hi).2
        show cBoth G kd I R J r s i = (mFitsR Z (mRow Z p) i && mFitsR Z (mRow Z q) i)
        unfold cBoth
        rw [fitR_eq h.row hr hl.ps, fitR_eq h.row hs hl.ps])]
theorem fi_eq (h : RowR G n kd I R Z u) {l i : Nat} (hl : PsR I J Z l i) : (mFirst Z i = none ∧ cFi G kd I R J (mL Z) l = none) ∨ ∃ p r, p < mH Z + mL Z ∧ mFirst Z i = some p ∧ cFi G kd I R J (mL Z) l = some (gz G + r) ∧ RlR G n kd I R r (mNameR Z (mRow Z p)) (mFolderR Z (mRow Z p)) (mManyR Z (mRow Z p)) (mCodeR Z (mRow Z p)) ∧ u r = mByR Z (mRow Z p) := by
  have hH := mH_le (I := Z)
  have hL6 : mL Z ≤ 6 := h.1.2.1.le
  have e : cGet R (mL Z) (oI (mFirst Z i)) = cFi G kd I R J (mL Z) l := by rw [← pl_eq h hl]; exact cGet_cPl hL6
  rw [← e]
  cases hf : mFirst Z i with
  | none => exact Or.inl ⟨rfl, by unfold cGet; rfl⟩
  | some p =>
    have hp := mFirst_lt hf
    rcases get_eq h (oI (some p)) with ⟨e1, e2⟩ | ⟨q, r, hq, e1, e2, hr, hu⟩
    · rw [show oI (some p) = nI p from rfl, rgl_nI (Nat.zero_le _) hp (by omega)] at e1
      cases e1
    · rw [show oI (some p) = nI p from rfl, rgl_nI (Nat.zero_le _) hp (by omega)] at e1
      cases e1
      exact Or.inr ⟨p, r, hp, rfl, e2, hr, hu⟩
theorem sorter_c (h : Core G em n kd I R J Z u K cap hm kn key) : ∀ k, k < mN Z → ¬ R (rc G R 9 k) 2 = none → isC G n kd R (rc G R 9 k) 2 7 := fun k hk hne => by
  rcases (h.le.2.1 k hk).2.2.2.2.2.2.2.2.2.2 with ⟨a1, -, -⟩ | ⟨r, a1, a2, -, -⟩
  · exact absurd a1 hne
  · exact isC_of a1 a2.2 a2.1
theorem about_eq (h : Core G em n kd I R J Z u K cap hm kn key) (x w : Int32) : cAbout G kd I R J (mN Z) (mL Z) x w = askR x w (mN Z) 5 (mAbout Z) := by
  unfold cAbout askR
  cases hx : rgl x 0 (mN Z) with
  | none => rfl
  | some k =>
    obtain ⟨-, -, hk⟩ := rgl_some hx
    have hl := (h.le.2.1 k hk).2
    dsimp only
    cases rgl w 0 5 with
    | none => rfl
    | some j =>
      dsimp only
      unfold cAboutJ mAbout
      rw [pl_eq h.row hl.ps, hl.2.2.1, hl.2.2.2.1, hl.2.2.2.2.1]
      match j with
      | 0 => rfl
      | 1 =>
        rcases hl.2.2.2.2.2.2.2.2.2 with ⟨a1, -, a3⟩ | ⟨r, a1, -, -, a4⟩
        · rw [a1]; exact a3.symm
        · rw [a1]; show I (gz G + r - gz G) 0 = _; rw [gz_sub]; exact a4
      | 2 => rfl
      | 3 => rfl
      | k + 4 => rfl
theorem un_eq (h : Core G em n kd I R J Z u K cap hm kn key) (hb : K ≤ 4000 ∧ hm ≤ 4000) {c : Nat} (hc : c < 40) : cnt (cUn G I R J (nI c)) (mN Z) = mHeapOf Z (nI c) := cnt_cong (fun i hi => by
  have hl := (h.le.2.1 i hi).2
  unfold cUn mHeapP
  rw [sn_eq h.ur hb hl.2.2.2.2.2.2.2.2.2, hl.2.2.2.2.1, pass_eq hl.2.1 hl.2.2.2.2.2.1 hl.2.2.2.2.2.2.1 hl.2.2.2.2.2.2.2.1 hl.2.2.2.2.2.2.2.2.1 (Or.inl hc)])
theorem hps_eq (h : Core G em n kd I R J Z u K cap hm kn key) (hb : K ≤ 4000 ∧ hm ≤ 4000) (m : Nat) : ∀ c, c ≤ 40 → hpS (cUnN G I R J (mN Z)) m c = mHeapS Z m c
  | 0, _ => rfl
  | c + 1, hc => by rw [hpS, mHeapS, hps_eq h hb m c (by omega), show cUnN G I R J (mN Z) c = mHeapOf Z (nI c) from un_eq h hb (by omega)]
theorem heaped_eq (h : Core G em n kd I R J Z u K cap hm kn key) (hb : K ≤ 4000 ∧ hm ≤ 4000) (x : Int32) : (if (rgl x 0 40).isSome then nI (cnt (cUn G I R J x) (mN Z)) else -1) = mHeaped Z x := by
  unfold mHeaped
  cases hx : rgl x 0 40 with
  | none => rfl
  | some c =>
    obtain ⟨e, -, hc⟩ := rgl_some hx
    rw [e, un_eq h hb hc]
theorem fo_eq (h : RowR G n kd I R Z u) {l i : Nat} (hl : PsR I J Z l i) : cFo G I (cFi G kd I R J (mL Z) l) = mWho Z mFolderR (nI 0) (mFirst Z i) := by
  rcases fi_eq h hl with ⟨e1, e2⟩ | ⟨p, r, hp, e1, e2, hr, -⟩
  · rw [e1, e2]; rfl
  · rw [e1, e2]; show I (gz G + r - gz G) 2 = _; rw [gz_sub]; exact hr.2.2.1
theorem ot_eq (h : Core G em n kd I R J Z u K cap hm kn key) {i : Nat} (hi : i < mN Z) : cOt G kd I R J (mL Z) i = mOther Z i := by
  have hl := (h.le.2.1 i hi).2
  unfold cOt mOther
  rw [fo_eq h.row hl.ps, hl.2.2.1]
theorem differs_eq (h : Core G em n kd I R J Z u K cap hm kn key) (x : Int32) : cDiffers G kd I R J (mL Z) (mN Z) x = mDiffers Z x := by
  unfold cDiffers mDiffers
  cases rgl x 0 (2 ^ 31) with
  | none => rfl
  | some p => simp only [kth_cong (fun i hi => ot_eq h hi)]
theorem count_eq (h : Core G em n kd I R J Z u K cap hm kn key) (x : Int32) : cCount G I R (mN Z) x = mCount Z x := by
  unfold cCount mCount
  cases hx : rgl x 0 6 with
  | some j =>
    dsimp only
    unfold cCountJ mCountJ
    rw [h.le.1, h.ln.1, h.mv.1, h.tp.1, h.kw.1.1, ← h.kw.2.1, tcnt_eq h.row (Nat.le_refl 10), ← (show Z 22 0 = nI (mN Z) from h.mb.1.eq), ← (show Z 22 16 = nI (mL Z) from h.mb.2.1.eq)]
    match j with
    | 0 => rfl
    | 1 => rfl
    | 2 => rfl
    | 3 => rfl
    | 4 => rfl
    | k + 5 => rfl
  | none =>
    dsimp only
    rw [rgl_sh x (by decide)]
    cases hy : rgl x 20 (20 + 8) with
    | none =>
      rfl
    | some j =>
      obtain ⟨e, h1, h2⟩ := rgl_some hy
      show nI (cnt (cLy G I R (x - nI 20)) (mN Z)) = nI (cnt (mLying Z (j - 20)) (mN Z))
      rw [e, pk_sub h1, cnt_cong (fun i hi => by
        show cLy G I R (nI (j - 20)) i = mLying Z (j - 20) i
        unfold cLy mLying
        rw [(h.le.2.1 i hi).2.2.2.2.1])]
theorem learnt_eq (h : RsR I Z) (x : Int32) : cLearnt I x = mLearnt Z x := by
  obtain ⟨h1, h2, h3, h4, h5, h6⟩ := h
  unfold cLearnt mLearnt
  rw [h1]
  split
  · rfl
  · cases rgl x 0 5 with
    | none => rfl
    | some j =>
      match j with
      | 0 => exact h2
      | 1 => exact h3
      | 2 => exact h4
      | 3 => exact h5
      | k + 4 => exact h6
end OBS
