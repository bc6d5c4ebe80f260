section LPURE
variable {G : GG} {n n' sz : Nat} {kd kd' : KD} {I I' Z Z' Zs : II} {R R' : RR} {J J' : JJ} {em K K' cap cap' hm : Nat} {u u' : Nat → Int32} {kn kn' : Nat → Nat} {key key' : Nat → Key}
/-- what is no scratch of the reference's own numbers -/
def okCol (c : Nat) : Prop := c = 0 ∨ c = 15 ∨ c = 16 ∨ c = 21 ∨ c = 23 ∨ c = 24 ∨ c = 26 ∨ c = 31
theorem Core.scr (h : Core G em n kd I R J Z u K cap hm kn key) (hI : ∀ q, q ≠ 3 → q ≠ 4 → q ≠ 16 → q ≠ 20 → q ≠ 21 → I' q = I q) (hR : ∀ q, q ≠ 18 → q ≠ 19 → R' q = R q) (hz1 : ∀ q, 23 ≤ q → q ≤ 48 → q ≠ 47 → Z' q = Z q) (hz2 : ∀ c, okCol c → Z' 22 c = Z 22 c) : Core G em n kd I' R' J Z' u K cap hm kn key := by
  have F : Fr n kd I R J n kd I' R' J := ⟨Nat.le_refl n, fun a _ => rfl, fun a h1 _ _ => ⟨hI a (by omega) (by omega) (by omega) (by omega) (by omega), hR a (by omega) (by omega), rfl⟩⟩
  have z := fun q (h1 : 23 ≤ q) (h2 : q ≤ 48) (h3 : q ≠ 47) => hz1 q h1 h2 h3
  have r := fun q (h1 : q ≠ 18) (h2 : q ≠ 19) => hR q h1 h2
  have i := fun q (h1 : q ≠ 3) (h2 : q ≠ 4) (h3 : q ≠ 16) (h4 : q ≠ 20) (h5 : q ≠ 21) => hI q h1 h2 h3 h4 h5
  have c0 := hz2 0 (by unfold okCol; omega)
  have c1 := hz2 15 (by unfold okCol; omega)
  have c2 := hz2 16 (by unfold okCol; omega)
  have c3 := hz2 21 (by unfold okCol; omega)
  have c4 := hz2 23 (by unfold okCol; omega)
  have c5 := hz2 24 (by unfold okCol; omega)
  have c6 := hz2 26 (by unfold okCol; omega)
  have c7 := hz2 31 (by unfold okCol; omega)
  refine ⟨⟨h.shC.1, h.shC.2.1, fun q hq => by have := cref_lt q hq; rw [r _ (by omega) (by omega)]; exact h.shC.2.2 q hq⟩, h.shM.grow (Nat.le_refl n) (fun _ _ => rfl) (r 22 (by decide) (by decide)), ?_, ?_, h.ur.fr F.rul (fun q h1 h2 => by omega) (fun _ _ => rfl), ⟨?_, ?_⟩, ?_, ?_, h.le.fr h.ur F (by rw [i 8 (by decide) (by decide) (by decide) (by decide) (by decide)]) (r 9 (by decide) (by decide)) c0 (z _ (by decide) (by decide) (by decide)) (z _ (by decide) (by decide) (by decide)) (z _ (by decide) (by decide) (by decide)) (z _ (by decide) (by decide) (by decide)) (z _ (by decide) (by decide) (by decide)) (z _ (by decide) (by decide) (by decide)) (z _ (by decide) (by decide) (by decide)) (z _ (by decide) (by decide) (by decide)) (z _ (by decide) (by decide) (by decide)) (fun _ _ => rfl), h.ha.fr F.rul (r 6 (by decide) (by decide)) (z _ (by decide) (by decide) (by decide)) (z _ (by decide) (by decide) (by decide)) (z _ (by decide) (by decide) (by decide)) (z _ (by decide) (by decide) (by decide)) (z _ (by decide) (by decide) (by decide)) (fun _ _ => rfl), h.ln.fr F.rul (by rw [i 5 (by decide) (by decide) (by decide) (by decide) (by decide)]) (r 7 (by decide) (by decide)) c2 (z _ (by decide) (by decide) (by decide)) (z _ (by decide) (by decide) (by decide)) (z _ (by decide) (by decide) (by decide)) (z _ (by decide) (by decide) (by decide)) (fun _ _ => rfl), h.kw.fr F.rul (h.kw.1.grow2 (Nat.le_refl n) (fun _ _ => rfl) (i 17 (by decide) (by decide) (by decide) (by decide) (by decide)) (r 17 (by decide) (by decide)) (fun a h1 h2 => r a (by omega) (by omega))) c3 (z _ (by decide) (by decide) (by decide)) (fun _ _ => rfl), c1.trans h.hm'⟩
  · unfold MB
    rw [c0, c2, c6, c7, z 34 (by decide) (by decide) (by decide), z 38 (by decide) (by decide) (by decide), z 43 (by decide) (by decide) (by decide), z 31 (by decide) (by decide) (by decide)]
    exact h.mb
  · unfold KN; rw [z _ (by decide) (by decide) (by decide)]; exact h.kn'
  · rw [i 1 (by decide) (by decide) (by decide) (by decide) (by decide), c7]; exact h.tp.1
  · obtain ⟨b, b1, b2⟩ := h.tp.2
    refine ⟨b, ?_, fun q hq => by rw [i 2 (by decide) (by decide) (by decide) (by decide) (by decide)]; exact b2 q hq⟩
    unfold TB; rw [z _ (by decide) (by decide) (by decide)]; exact b1
  · unfold CoR
    rw [i 14 (by decide) (by decide) (by decide) (by decide) (by decide), i 15 (by decide) (by decide) (by decide) (by decide) (by decide), c4, c5, z 42 (by decide) (by decide) (by decide)]
    exact h.co
  · unfold MvR mN
    rw [i 10 (by decide) (by decide) (by decide) (by decide) (by decide), i 11 (by decide) (by decide) (by decide) (by decide) (by decide), i 12 (by decide) (by decide) (by decide) (by decide) (by decide), i 13 (by decide) (by decide) (by decide) (by decide) (by decide), c6, c0, z 43 (by decide) (by decide) (by decide), z 44 (by decide) (by decide) (by decide), z 45 (by decide) (by decide) (by decide)]
    exact h.mv
theorem core_zero (h : Core G em n kd I R J Z u K cap hm kn key) : Core G em n kd (u2 I 5 2 (nI 0)) R J (u2 Z 22 16 (nI 0)) u K cap hm kn key := by
  have F : Fr n kd I R J n kd (u2 I 5 2 (nI 0)) R J := ⟨Nat.le_refl n, fun a _ => rfl, fun a h1 _ _ => ⟨u2_row _ _ _ (by omega), rfl, rfl⟩⟩
  refine ⟨h.shC, h.shM, ⟨h.mb.1, bN_nI (Nat.zero_le 6), h.mb.2.2⟩, h.kn', h.ur, h.tp, h.co, h.mv, h.le.fr h.ur F rfl rfl rfl rfl rfl rfl rfl rfl rfl rfl rfl rfl (fun _ _ => rfl), h.ha.fr F.rul rfl rfl rfl rfl rfl rfl (fun _ _ => rfl), ⟨rfl, fun l hl => ?_⟩, h.kw.fr F.rul (h.kw.1.grow2 (Nat.le_refl n) (fun _ _ => rfl) rfl rfl (fun _ _ _ => rfl)) rfl rfl (fun _ _ => rfl), h.hm'⟩
  exact absurd hl (Nat.not_lt_zero l)
theorem OV_of (h : Core G em n kd I R J Z u K cap hm kn key) {m : Nat} (hO : OpR I R Z m) (hOp : okOpen Z) : OV G n kd I R m := by
  have hN : mN Z ≤ 100 := h.mb.1.le
  refine ⟨by rw [hO.2.1]; exact Nat.le_trans (cnt_le _ _) hN, fun j hj => ?_⟩
  rw [hO.2.1] at hj
  obtain ⟨k, hk⟩ := kth_lt hj
  obtain ⟨k1, k2, k3⟩ := kth_some hk
  obtain ⟨b1, b2⟩ := h.le.2.1 k k1
  have e := hO.2.2 k k1 k2
  rw [k3] at e
  have er : rc G R 19 j = rc G R 9 k := by unfold rc; rw [e]
  refine ⟨⟨by rw [er, e]; exact b1.1, by rw [er]; exact b1.2.1, by rw [er]; exact b1.2.2⟩, by rw [er]; exact b2.1, ?_⟩
  rw [er, b2.2.2.2.2.1]
  exact hOp k k1 k2
theorem pcs_eq (hB : MB Z) : ∀ i, i ≤ 100 → pcs Z i = Z 42 0 * nI (cnt (fun k => opn Z k && !decide (Z 31 k = nI 0)) i)
  | 0, _ => by show nI 0 = _ * nI 0; rw [nI0]; grind
  | i + 1, hi => by
    have ih := pcs_eq hB i (by omega)
    rw [pcs, ih]
    cases ho : opn Z i with
    | false => rw [if_neg (by decide), cnt_no (by rw [ho, Bool.false_and]), Nat.add_zero]
    | true =>
      rw [if_pos rfl]
      have hne : Z 31 i ≠ -1 := by
        unfold opn at ho
        rw [Bool.and_eq_true, Bool.not_eq_true', decide_eq_false_iff_not] at ho
        exact ho.1
      rcases hB.2.2.2.2.2.2.2 i (by omega) with hb | hb
      · exact absurd hb hne
      · have hbe : Z 31 i = nI (tn (Z 31 i)) := hb.eq
        have hb7 : tn (Z 31 i) ≤ 7 := hb.le
        unfold mWrong
        by_cases h0 : tn (Z 31 i) = 0
        · rw [cnt_no (by rw [ho, hbe, h0]; rfl), if_pos h0.symm, nI0, Nat.add_zero]
          grind
        · have hbn : ¬ Z 31 i = nI 0 := fun z => h0 (by rw [z]; rfl)
          rw [cnt_yes (by rw [ho, decide_eq_false hbn]; rfl), if_neg (fun z => h0 z.symm), ← nI_add, nI1]
          grind
theorem orT_fst (q : Nat → Bool) : ∀ m, orT q m = (fstF q m).isSome
  | 0 => rfl
  | m + 1 => by
    rw [orT, orT_fst q m, fstF]
    cases fstF q m with
    | some k => rfl
    | none => cases hq : q m <;> simp [hq]
def ErR (G : GG) (n : Nat) (kd : KD) (I : II) (R : RR) (Z : II) (u : Nat → Int32) (L0 : Nat) : Prop := I 16 9 = nI L0 ∧ L0 ≤ 6 ∧ ∀ j, j < L0 → isC G n kd R 18 j 7 ∧ u (rc G R 18 j) = Z 51 j
theorem same_eq (h : Core G em n kd I R J Z u K cap hm kn key) {L0 : Nat} (hE : ErR G n kd I R Z u L0) {l j : Nat} (hl : l < mL Z) (hj : j < L0) : decide (R 7 l = R 18 j) = decide (Z 51 j = Z 37 l) := by
  obtain ⟨a1, a2, a3⟩ := h.ln.2 l hl
  obtain ⟨b1, b2⟩ := hE.2.2 j hj
  rw [a1.1, b1.1, ← a3, ← b2]
  refine decide_eq_decide.mpr ⟨fun z => ?_, fun z => ?_⟩
  · have := Option.some.inj z
    rw [show rc G R 7 l = rc G R 18 j by omega]
  · rw [h.ur.2 _ _ b1.o a1.o z]
theorem new_eq (h : Core G em n kd I R J Z u K cap hm kn key) {L0 : Nat} (hE : ErR G n kd I R Z u L0) : cnt (msP R 7 18 L0) (mL Z) = cnt (nwP Z L0) (mL Z) := cnt_cong (fun l hl => by
  unfold msP nwP mAmong
  rw [orT_fst, fstF_cong (fun j hj => same_eq h hE hl hj)])
theorem gone_eq (h : Core G em n kd I R J Z u K cap hm kn key) {L0 : Nat} (hE : ErR G n kd I R Z u L0) : cnt (msP R 18 7 (mL Z)) L0 = cnt (gnP Z) L0 := cnt_cong (fun j hj => by
  unfold msP gnP mIsLearnt
  rw [orT_fst, fstF_cong (fun l hl => (decide_eq_decide.mpr (eq_comm (a := R 18 j) (b := R 7 l))).trans ((same_eq h hE hl hj).trans (decide_eq_decide.mpr eq_comm)))])
/-- the open LETTERS behind a step -/
theorem open_step {m : Nat} {r : Nat} (h : Core G em n kd I R J Zs u K cap hm kn key) (hN : mN Zs = mN Z) (hm : m = cnt (mOpen Z) (mN Z)) (h19 : ∀ k, k < mN Z → mOpen Z k = true → R 19 (cnt (mOpen Z) k) = R 9 k) {k : Nat} (hk : k < mL Zs) (hr : rc G R 7 k = r) (hop : ∀ c, c < mN Z → mOpen Zs c = (mOpen Z c && !mLearntFits Zs k c)) {g : Nat → Option Nat} (hg : ∀ j, j < m → clP G kd I R J r j = true → g (cnt (clP G kd I R J r) j) = R 19 j) : cnt (clP G kd I R J r) m = cnt (mOpen Zs) (mN Zs) ∧ ∀ c, c < mN Zs → mOpen Zs c = true → g (cnt (mOpen Zs) c) = R 9 c := by
  have pc : ∀ c, c < mN Z → mOpen Z c = true → clP G kd I R J r (cnt (mOpen Z) c) = !mLearntFits Zs k c := fun c hc ho => by
    unfold clP
    have e : rc G R 19 (cnt (mOpen Z) c) = rc G R 9 c := by unfold rc; rw [h19 c hc ho]
    have hl := (h.le.2.1 c (by rw [hN]; exact hc)).2.ps
    have e2 := cLf_eq h.row hk hl
    unfold cLf at e2
    rw [e, ← hr, e2]
  have cc : ∀ N, N ≤ mN Z → cnt (clP G kd I R J r) (cnt (mOpen Z) N) = cnt (mOpen Zs) N := fun N hN' => by
    rw [cnt_sub (p := fun c => !mLearntFits Zs k c) (fun c hc ho => pc c (by omega) ho)]
    exact cnt_cong (fun c hc => (hop c (by omega)).symm)
  refine ⟨by rw [hm, hN]; exact cc _ (Nat.le_refl _), fun c hc ho => ?_⟩
  rw [hN] at hc
  rw [hop c hc, Bool.and_eq_true] at ho
  rw [← cc c (by omega), hg _ (by rw [hm]; exact cnt_lt hc ho.1) (by rw [pc c hc ho.1]; exact ho.2)]
  exact h19 c hc ho.1
end LPURE
