section MUT5
variable {G : GG} {n : Nat} {kd : KD} {I Z : II} {R : RR} {J : JJ} {em K cap hm : Nat} {u : Nat → Int32} {kn : Nat → Nat} {key : Nat → Key}
theorem lstF_none {q : Nat → Bool} : ∀ {m : Nat}, lstF q m = none → ∀ j, j < m → q j = false
  | 0, _, j, hj => absurd hj (Nat.not_lt_zero j)
  | m + 1, h, j, hj => by
    rw [lstF] at h
    split at h
    · cases h
    · rename_i hq
      by_cases e : j = m
      · rw [e]; exact Bool.eq_false_iff.mpr hq
      · exact lstF_none h j (by omega)
theorem lstF_some {q : Nat → Bool} : ∀ {m j : Nat}, lstF q m = some j → j < m ∧ q j = true ∧ ∀ k, j < k → k < m → q k = false
  | 0, j, h => by cases h
  | m + 1, j, h => by
    rw [lstF] at h
    split at h
    · rename_i hq
      cases h
      exact ⟨Nat.lt_succ_self _, hq, fun k h1 h2 => by omega⟩
    · rename_i hq
      obtain ⟨a1, a2, a3⟩ := lstF_some h
      refine ⟨by omega, a2, fun k h1 h2 => ?_⟩
      by_cases e : k = m
      · rw [e]; exact Bool.eq_false_iff.mpr hq
      · exact a3 k h1 (by omega)
theorem last_lt {p : Nat → Bool} {N f : Nat} (hN : N ≤ 100) (hf : f ≤ N) : decide (oI (lstF p N) < nI f) = decide (cnt (fun k => decide (f ≤ k) && p k) N = 0) := by
  cases h : lstF p N with
  | none =>
    rw [decide_eq_true, decide_eq_true]
    · exact cnt_zero (fun k hk => by rw [lstF_none h k hk, Bool.and_false])
    · show (-1 : Int32) < nI f
      have := nI_pos (n := f) (by omega)
      exact Int32.lt_of_lt_of_le (by decide) (Int32.not_lt.mp this)
  | some j =>
    obtain ⟨a1, a2, a3⟩ := lstF_some h
    refine decide_eq_decide.mpr ((nI_ltI (by omega) (by omega)).trans ⟨fun hj => ?_, fun hc => ?_⟩)
    · refine cnt_zero (fun k hk => ?_)
      by_cases e : f ≤ k
      · rw [a3 k (by omega) hk, Bool.and_false]
      · rw [decide_eq_false e, Bool.false_and]
    · refine Nat.lt_of_not_le (fun hfj => ?_)
      have := cnt_lt (q := fun k => decide (f ≤ k) && p k) a1 (by simp [hfj, a2])
      omega
theorem fd_eq (h : Core G em n kd I R J Z u K cap hm kn key) (hb : K ≤ 4000 ∧ hm ≤ 4000) {l : Nat} (hl : l < mL Z) (m : Nat) : cFq G I R (mN Z) m l = fdP Z (mN Z - m) l := by
  obtain ⟨b1, b2, b3⟩ := h.ln.2 l hl
  have hN : mN Z ≤ 100 := h.mb.1.le
  unfold cFq cFad fdP
  rw [lstF_cong (fun i hi => cSo_eq h hb b2.1.1 hi), b3, cnt_cong (fun i hi => cRi_eq h hb b2.1.1 (by rw [b2.2.2.1]; exact b2.2.2.2.2.2) hi), cnt_cong (fun i hi => cWr_eq h hb b2.1.1 hi), b3, b2.2.2.1, last_lt hN (Nat.sub_le _ _)]
  rfl
/-- fading, step by step, on both sides -/
def FaI (R : RR) (Z : II) (L i : Nat) (g : Nat → Option Nat) (c : Nat) (Zi : II) : Prop := c ≤ i ∧ (∀ a, a ≠ 37 → a ≠ 38 → a ≠ 39 → a ≠ 40 → Zi a = Z a) ∧ (∀ l, i ≤ l → g l = R 7 l ∧ Zi 37 l = Z 37 l ∧ Zi 38 l = Z 38 l ∧ Zi 40 l = Z 40 l ∧ ∀ t, t < 2 → Zi 39 (2 * l + t) = Z 39 (2 * l + t)) ∧ ∀ l, l < c → ∃ j, j < L ∧ g l = R 7 j ∧ Zi 37 l = Z 37 j ∧ Zi 38 l = Z 38 j ∧ Zi 40 l = Z 40 j ∧ ∀ t, t < 2 → Zi 39 (2 * l + t) = Z 39 (2 * j + t)
theorem fdP_row {Zi : II} {f i : Nat} (h : ∀ a, a ≠ 37 → a ≠ 38 → a ≠ 39 → a ≠ 40 → Zi a = Z a) (h1 : Zi 37 i = Z 37 i) (h2 : Zi 40 i = Z 40 i) : fdP Zi f i = fdP Z f i := by
  unfold fdP mSorted mJudged mSortedP mJudgedP mN
  rw [h1, h2, h 28 (by decide) (by decide) (by decide) (by decide), h 31 (by decide) (by decide) (by decide) (by decide), h 22 (by decide) (by decide) (by decide) (by decide)]
theorem fa_inv {q : Nat → Bool} {f L : Nat} (hq : ∀ i, i < L → q i = fdP Z f i) : ∀ i, i ≤ L → (cFS q (R 7) i).2 = (mFS Z f i).2 ∧ FaI R Z L i (cFS q (R 7) i).1 (cFS q (R 7) i).2 (mFS Z f i).1
  | 0, _ => ⟨rfl, Nat.le_refl _, fun a _ _ _ _ => rfl, fun l _ => ⟨rfl, rfl, rfl, rfl, fun _ _ => rfl⟩, fun l hl => absurd hl (Nat.not_lt_zero l)⟩
  | i + 1, hi => by
    obtain ⟨e, a1, a2, a3, a4⟩ := fa_inv hq i (by omega)
    obtain ⟨b1, b2, b3, b4, b5⟩ := a3 i (Nat.le_refl _)
    have ef : fdP (mFS Z f i).1 f i = q i := by rw [fdP_row a2 b2 b4, hq i (by omega)]
    rw [cFS, mFS, ef]
    cases hqi : q i with
    | true =>
      rw [if_pos rfl, if_pos rfl]
      exact ⟨e, by omega, a2, fun l hl => a3 l (by omega), a4⟩
    | false =>
      rw [if_neg (by decide), if_neg (by decide), ← e]
      generalize hc : (cFS q (R 7) i).2 = c at a1 a4 ⊢
      generalize hg : (cFS q (R 7) i).1 = g at a3 a4 b1 ⊢
      generalize hz : (mFS Z f i).1 = Y at a2 a3 a4 b2 b3 b4 b5 ⊢
      have y37 : ∀ l, cpy Y i c 37 l = if l = c then Y 37 i else Y 37 l := fun l => rfl
      have y38 : ∀ l, cpy Y i c 38 l = if l = c then Y 38 i else Y 38 l := fun l => rfl
      have y40 : ∀ l, cpy Y i c 40 l = if l = c then Y 40 i else Y 40 l := fun l => rfl
      have y39 : ∀ x, cpy Y i c 39 x = if x = 2 * c + 1 then (if 2 * i + 1 = 2 * c then Y 39 (2 * i) else Y 39 (2 * i + 1)) else if x = 2 * c then Y 39 (2 * i) else Y 39 x := fun x => rfl
      have yo : ∀ a, a ≠ 37 → a ≠ 38 → a ≠ 39 → a ≠ 40 → cpy Y i c a = Y a := fun a h1 h2 h3 h4 => by
        rw [cpy, cp5, u2_row _ _ _ h4, cp4, u2_row _ _ _ h3, cp3, u2_row _ _ _ h3, cp2, u2_row _ _ _ h2, cp1, u2_row _ _ _ h1]
      show _ ∧ FaI R Z L (i + 1) (va_up g c (g i)) (c + 1) (cpy Y i c)
      refine ⟨rfl, by omega, fun a h1 h2 h3 h4 => by rw [yo a h1 h2 h3 h4]; exact a2 a h1 h2 h3 h4, fun l hl => ?_, fun l hl => ?_⟩
      · obtain ⟨d1, d2, d3, d4, d5⟩ := a3 l (by omega)
        rw [y37, y38, y40, if_neg (by omega), if_neg (by omega), if_neg (by omega)]
        refine ⟨by rw [vz_up_ne _ _ (by omega)]; exact d1, d2, d3, d4, fun t ht => ?_⟩
        rw [y39, if_neg (by omega), if_neg (by omega)]
        exact d5 t ht
      · by_cases hlc : l = c
        · refine ⟨i, by omega, ?_⟩
          rw [y37, y38, y40, hlc, if_pos rfl, if_pos rfl, if_pos rfl, vz_up_same]
          refine ⟨b1, b2, b3, b4, fun t ht => ?_⟩
          rw [y39]
          match t, ht with
          | 0, _ => rw [if_neg (by omega), if_pos (by omega)]; exact b5 0 (by decide)
          | 1, _ => rw [if_pos rfl, if_neg (by omega)]; exact b5 1 (by decide)
        · obtain ⟨j, j1, d1, d2, d3, d4, d5⟩ := a4 l (by omega)
          refine ⟨j, j1, ?_⟩
          rw [y37, y38, y40, if_neg hlc, if_neg hlc, if_neg hlc, vz_up_ne _ _ hlc]
          refine ⟨d1, d2, d3, d4, fun t ht => ?_⟩
          rw [y39, if_neg (by omega), if_neg (by omega)]
          exact d5 t ht
theorem core_fade (h : Core G em n kd I R J Z u K cap hm kn key) (hb : K ≤ 4000 ∧ hm ≤ 4000) (m : Nat) : (cFS (cFq G I R (mN Z) m) (R 7) (mL Z)).2 = (mFS Z (mN Z - m) (mL Z)).2 ∧ Core G em n kd (u2 I 5 2 (nI (cFS (cFq G I R (mN Z) m) (R 7) (mL Z)).2)) (va_up R 7 (cFS (cFq G I R (mN Z) m) (R 7) (mL Z)).1) J (mFade Z m).2 u K cap hm kn key := by
  have hL6 : mL Z ≤ 6 := h.mb.2.1.le
  have hn := h.shC.1
  obtain ⟨e, a1, a2, a3, a4⟩ := fa_inv (R := R) (q := cFq G I R (mN Z) m) (f := mN Z - m) (L := mL Z) (fun i hi => fd_eq h hb hi m) (mL Z) (Nat.le_refl _)
  obtain ⟨o1, o2, o3⟩ := mFS_ok h.mb (mN Z - m) (mL Z) hL6
  refine ⟨e, ?_⟩
  unfold mFade
  dsimp only
  rw [← e]
  generalize (cFS (cFq G I R (mN Z) m) (R 7) (mL Z)).2 = c at a1 a4 ⊢
  generalize (cFS (cFq G I R (mN Z) m) (R 7) (mL Z)).1 = g at a3 a4 ⊢
  generalize (mFS Z (mN Z - m) (mL Z)).1 = Y at a2 a3 a4 o1 o3 ⊢
  have rR : ∀ a, a ≠ 7 → va_up R 7 g a = R a := fun a ha => vz_up_ne _ _ ha
  have F : Fr n kd I R J n kd (u2 I 5 2 (nI c)) (va_up R 7 g) J := ⟨Nat.le_refl n, fun a _ => rfl, fun a h1 _ _ => ⟨u2_row _ _ _ (by omega), rR a (by omega), rfl⟩⟩
  have yr : ∀ a, 23 ≤ a → a ≠ 37 → a ≠ 38 → a ≠ 39 → a ≠ 40 → u2 Y 22 16 (nI c) a = Z a := fun a h0 h1 h2 h3 h4 => by rw [u2_row _ _ _ (by omega)]; exact a2 a h1 h2 h3 h4
  have yc : ∀ q, q ≠ 16 → u2 Y 22 16 (nI c) 22 q = Z 22 q := fun q hq => by rw [u2_col _ _ _ hq]; exact o3 q
  have yl : mL (u2 Y 22 16 (nI c)) = c := by unfold mL; rw [u2_same]; exact tn_nI (by omega)
  refine ⟨h.shC.row g (by decide), h.shM, ⟨o1.1, bN_nI (by omega), o1.2.2⟩, ?_, h.ur.fr F.rul (fun r h1 h2 => by omega) (fun _ _ => rfl), ⟨?_, ?_⟩, ?_, ?_, h.le.fr h.ur F rfl rfl (yc _ (by decide)) (yr _ (by decide) (by decide) (by decide) (by decide) (by decide)) (yr _ (by decide) (by decide) (by decide) (by decide) (by decide)) (yr _ (by decide) (by decide) (by decide) (by decide) (by decide)) (yr _ (by decide) (by decide) (by decide) (by decide) (by decide)) (yr _ (by decide) (by decide) (by decide) (by decide) (by decide)) (yr _ (by decide) (by decide) (by decide) (by decide) (by decide)) (yr _ (by decide) (by decide) (by decide) (by decide) (by decide)) (yr _ (by decide) (by decide) (by decide) (by decide) (by decide)) (yr _ (by decide) (by decide) (by decide) (by decide) (by decide)) (fun _ _ => rfl), h.ha.fr F.rul rfl (yr _ (by decide) (by decide) (by decide) (by decide) (by decide)) (yr _ (by decide) (by decide) (by decide) (by decide) (by decide)) (yr _ (by decide) (by decide) (by decide) (by decide) (by decide)) (yr _ (by decide) (by decide) (by decide) (by decide) (by decide)) (yr _ (by decide) (by decide) (by decide) (by decide) (by decide)) (fun _ _ => rfl), ⟨?_, fun l hl => ?_⟩, h.kw.fr F.rul (h.kw.1.grow2 (Nat.le_refl n) (fun _ _ => rfl) rfl rfl (fun a h1 h2 => rR a (by omega))) (yc _ (by decide)) (yr _ (by decide) (by decide) (by decide) (by decide) (by decide)) (fun _ _ => rfl), (yc _ (by decide)).trans h.hm'⟩
  · unfold KN; rw [yr _ (by decide) (by decide) (by decide) (by decide) (by decide)]; exact h.kn'
  · rw [yc _ (by decide)]; exact h.tp.1
  · obtain ⟨b, b1, b2⟩ := h.tp.2
    refine ⟨b, ?_, b2⟩
    unfold TB; rw [yr _ (by decide) (by decide) (by decide) (by decide) (by decide)]; exact b1
  · unfold CoR
    rw [yc 23 (by decide), yc 24 (by decide), yr 42 (by decide) (by decide) (by decide) (by decide) (by decide)]
    exact h.co
  · unfold MvR mN
    rw [yc 26 (by decide), yc 0 (by decide), yr 43 (by decide) (by decide) (by decide) (by decide) (by decide), yr 44 (by decide) (by decide) (by decide) (by decide) (by decide), yr 45 (by decide) (by decide) (by decide) (by decide) (by decide)]
    exact h.mv
  · rw [yl, u2_same]
  · rw [yl] at hl
    obtain ⟨j, j1, d1, d2, d3, d4, d5⟩ := a4 l hl
    obtain ⟨b1, b2, b3⟩ := h.ln.2 j j1
    have e7 : va_up R 7 g 7 l = R 7 j := by rw [vz_up_same]; exact d1
    have er : rc G (va_up R 7 g) 7 l = rc G R 7 j := by unfold rc; rw [e7]
    have d2' : u2 Y 22 16 (nI c) 37 l = Z 37 j := d2
    have d3' : u2 Y 22 16 (nI c) 38 l = Z 38 j := d3
    have d4' : u2 Y 22 16 (nI c) 40 l = Z 40 j := d4
    have ht2 : tn (Z 38 j) ≤ 2 := (h.mb.2.2.2.1 j (by omega)).le
    rw [er, d2', d3', d4']
    refine ⟨⟨by rw [er, e7]; exact b1.1, by rw [er]; exact b1.2.1, by rw [er]; exact b1.2.2⟩, (b2.fr F.rul).cd (fun t ht => ?_), b3⟩
    exact d5 t (by omega)
end MUT5
