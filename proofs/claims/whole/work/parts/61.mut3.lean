section MUT3
variable {G : GG} {n n' sz : Nat} {kd kd' : KD} {I I' Z Z' : II} {R R' : RR} {J J' : JJ} {em K cap hm : Nat} {u u' : Nat → Int32} {kn : Nat → Nat} {key : Nat → Key}
theorem ShM.grow (h : ShM G n kd R) (h1 : n ≤ n') (h2 : ∀ i, i < 52 → kd' i = kd i) (h3 : R' 22 = R 22) : ShM G n' kd' R' :=
  ⟨Nat.le_trans h.1 h1, by rw [h2 22 (by decide)]; exact h.2.1, fun i hi => by rw [h2 _ (by omega)]; exact h.2.2.1 i hi, fun i hi => by rw [h3]; exact h.2.2.2 i hi⟩
theorem ok_parts {f l s w : Int32} (h : okLet Z f l s w = true) : mN Z ≠ 100 ∧ (rgl f 0 16).isSome = true ∧ (decide (l = -1) || (rgl l 0 8).isSome) = true ∧ (rgl w 0 65536).isSome = true := by
  unfold okLet at h
  rw [Bool.and_eq_true, Bool.and_eq_true, Bool.and_eq_true, Bool.and_eq_true, Bool.not_eq_true', decide_eq_false_iff_not] at h
  exact ⟨h.1, h.2.1, h.2.2.1, h.2.2.2.2⟩
theorem core_letter (h : Core G em n kd I R J Z u K cap hm kn key) {f l s w : Int32} (hok : okLet Z f l s w = true) : ∀ o, o = cLetO G n kd I R J (mL Z) f l s w → Core G em (n + 1) (lKd kd n) (u2 (u2 (u2 (lI I n s) n 3 (cFo G (lI I n s) o)) n 4 (cFo G (lI I n s) o)) 8 1 (nI (mN Z + 1))) (u2 (u2 (lR R n) n 2 o) 9 (mN Z) (some (gz G + n))) (lJ J n (cMark f l w)) (mLet Z f l s w) u K cap hm kn key := by
  intro o ho
  have hn := h.shC.1
  have hN : mN Z ≤ 100 := h.mb.1.le
  obtain ⟨g1, g2, g3, g4⟩ := ok_parts hok
  have hN1 : mN Z < 100 := by omega
  have lIr : ∀ a, a ≠ n → lI I n s a = I a := fun a ha => by rw [lI, u2_row _ _ _ ha, u2_row _ _ _ ha, vz_up_ne _ _ ha]
  have lRr : ∀ a, a ≠ n → lR R n a = R a := fun a ha => by rw [lR, vz_up_ne _ _ ha]
  have lJr : ∀ a, a ≠ n → lJ J n (cMark f l w) a = J a := fun a ha => by rw [lJ, u2_row _ _ _ ha, vz_up_ne _ _ ha]
  have lKr : ∀ a, a < n → lKd kd n a = kd a := fun a ha => by rw [lKd, vz_up_ne _ _ (by omega)]
  have F5 : Fr n kd I R J (n + 1) (lKd kd n) (lI I n s) (lR R n) (lJ J n (cMark f l w)) := ⟨by omega, lKr, fun a h1 h2 _ => ⟨lIr a (by omega), lRr a (by omega), lJr a (by omega)⟩⟩
  have hRow : RowR G (n + 1) (lKd kd n) (lI I n s) (lR R n) (mLet5 Z f l s w) u := ⟨mLet5_B h.mb hN1 f l s w, h.ha.fr F5.rul (lRr 6 (by omega)) rfl rfl rfl rfl rfl (fun _ _ => rfl), h.ln.fr F5.rul (by rw [lIr 5 (by omega)]) (lRr 7 (by omega)) rfl rfl rfl rfl rfl (fun _ _ => rfl)⟩
  have z23 : mLet5 Z f l s w 23 (mN Z) = f := u2_same Z 23 (mN Z) f
  have z24 : mLet5 Z f l s w 24 (mN Z) = l := u2_same (u2 Z 23 (mN Z) f) 24 (mN Z) l
  have z25 : mLet5 Z f l s w 25 (mN Z) = s := u2_same (u2 (u2 Z 23 (mN Z) f) 24 (mN Z) l) 25 (mN Z) s
  have z26 : mLet5 Z f l s w 26 (mN Z) = w := u2_same (u2 (u2 (u2 Z 23 (mN Z) f) 24 (mN Z) l) 25 (mN Z) s) 26 (mN Z) w
  have lI1 : lI I n s n 1 = s := by rw [lI, u2_col _ _ _ (by decide), u2_same]
  have lI5 : lI I n s n 5 = -1 := by rw [lI, u2_same]
  have lJ0 : lJ J n (cMark f l w) n 0 = cMark f l w := by rw [lJ, u2_same]
  have hPs : PsR (lI I n s) (lJ J n (cMark f l w)) (mLet5 Z f l s w) n (mN Z) := by
    unfold PsR
    rw [z23, z24, z25, z26]
    exact ⟨lI1, lJ0, g2, g3, g4⟩
  have hfi := fi_eq hRow hPs
  have hfo := fo_eq hRow hPs
  have eo : cFi G (lKd kd n) (lI I n s) (lR R n) (lJ J n (cMark f l w)) (mL (mLet5 Z f l s w)) n = o := by rw [ho]; rfl
  rw [eo] at hfi hfo
  generalize hfe : cFo G (lI I n s) o = fo at hfo ⊢
  have rI : ∀ a, a ≠ n → a ≠ 8 → u2 (u2 (u2 (lI I n s) n 3 fo) n 4 fo) 8 1 (nI (mN Z + 1)) a = I a := fun a h1 h2 => by rw [u2_row _ _ _ h2, u2_row _ _ _ h1, u2_row _ _ _ h1, lIr a h1]
  have rR : ∀ a, a ≠ n → a ≠ 9 → u2 (u2 (lR R n) n 2 o) 9 (mN Z) (some (gz G + n)) a = R a := fun a h1 h2 => by rw [u2_row _ _ _ h2, u2_row _ _ _ h1, lRr a h1]
  have r9 : ∀ i, i ≠ mN Z → u2 (u2 (lR R n) n 2 o) 9 (mN Z) (some (gz G + n)) 9 i = R 9 i := fun i hi => by rw [u2_col _ _ _ hi, u2_row _ _ _ (by omega), lRr 9 (by omega)]
  have r9N : u2 (u2 (lR R n) n 2 o) 9 (mN Z) (some (gz G + n)) 9 (mN Z) = some (gz G + n) := u2_same _ _ _ _
  have F : Fr n kd I R J (n + 1) (lKd kd n) (u2 (u2 (u2 (lI I n s) n 3 fo) n 4 fo) 8 1 (nI (mN Z + 1))) (u2 (u2 (lR R n) n 2 o) 9 (mN Z) (some (gz G + n))) (lJ J n (cMark f l w)) := ⟨by omega, lKr, fun a h1 h2 _ => ⟨rI a (by omega) (by omega), rR a (by omega) (by omega), lJr a (by omega)⟩⟩
  have eN : mN (mLet Z f l s w) = mN Z + 1 := tn_nI (j := mN Z + 1) (by omega)
  refine ⟨?_, h.shM.grow (by omega) (fun i hi => lKr i (by omega)) (rR 22 (by omega) (by omega)), ⟨bN_nI (j := mN Z + 1) (by omega), h.mb.2.1, h.mb.2.2.1, h.mb.2.2.2.1, h.mb.2.2.2.2.1, h.mb.2.2.2.2.2.1, h.mb.2.2.2.2.2.2.1, fun i hi => ?_⟩, h.kn', h.ur.fr F.rul (fun r h1 h2 z => ?_) (fun _ _ => rfl), ⟨?_, ?_⟩, ?_, ⟨?_, fun i hi => ?_⟩, ⟨?_, fun i hi => ?_, fun i j hi hj hij => ?_⟩, h.ha.fr F.rul (rR 6 (by omega) (by omega)) rfl rfl rfl rfl rfl (fun _ _ => rfl), h.ln.fr F.rul (by rw [rI 5 (by omega) (by omega)]) (rR 7 (by omega) (by omega)) rfl rfl rfl rfl rfl (fun _ _ => rfl), h.kw.fr F.rul (h.kw.1.grow2 (by omega) lKr (rI 17 (by omega) (by omega)) (rR 17 (by omega) (by omega)) (fun a h1 h2 => rR a (by omega) (by omega))) rfl rfl (fun _ _ => rfl), h.hm'⟩
  · exact (((h.shC.grow (n' := n + 1) (kd' := lKd kd n) (R' := lR R n) (by omega) (fun i hi => lKr i (by omega)) (fun i hi => lRr i (by omega))).put (a := n) 2 o (fun i hi => by have := cref_lt i hi; omega)).put (a := 9) (mN Z) (some (gz G + n)) (by decide))
  · by_cases hik : i = mN Z
    · left; rw [hik]; exact u2_same _ 31 (mN Z) (-1)
    · have e : mLet Z f l s w 31 i = Z 31 i := u2_col _ 31 (-1) hik
      rw [e]; exact h.mb.2.2.2.2.2.2.2 i hi
  · rw [show r = n by omega, lKd, vz_up_same] at z
    cases z
  · rw [rI 1 (by omega) (by omega)]; exact h.tp.1
  · obtain ⟨b, b1, b2⟩ := h.tp.2
    exact ⟨b, b1, fun i hi => by rw [rI 2 (by omega) (by omega)]; exact b2 i hi⟩
  · unfold CoR
    rw [rI 14 (by omega) (by omega), rI 15 (by omega) (by omega)]
    exact h.co
  · rw [rI 10 (by omega) (by omega)]; exact h.mv.1
  · obtain ⟨m1, m2, m3, m4, m5⟩ := h.mv.2 i hi
    rw [rI 11 (by omega) (by omega), rI 12 (by omega) (by omega), rI 13 (by omega) (by omega), eN]
    exact ⟨m1, m2, m3, Nat.lt_succ_of_lt m4, m5⟩
  · rw [eN, u2_same]
  · rw [eN] at hi
    by_cases hik : i = mN Z
    · subst hik
      have ern : rc G (u2 (u2 (lR R n) n 2 o) 9 (mN Z) (some (gz G + n))) 9 (mN Z) = n := rc_some r9N
      refine ⟨isC_of r9N (by omega) (by rw [lKd, vz_up_same]), ?_⟩
      rw [ern]
      have a23 : mLet Z f l s w 23 (mN Z) = f := z23
      have a24 : mLet Z f l s w 24 (mN Z) = l := z24
      have a25 : mLet Z f l s w 25 (mN Z) = s := z25
      have a26 : mLet Z f l s w 26 (mN Z) = w := z26
      have a27 : mLet Z f l s w 27 (mN Z) = mWho (mLet5 Z f l s w) mFolderR (nI 0) (mFirst (mLet5 Z f l s w) (mN Z)) := u2_same _ 27 (mN Z) _
      have a28 : mLet Z f l s w 28 (mN Z) = mWho (mLet5 Z f l s w) mByR (-1) (mFirst (mLet5 Z f l s w) (mN Z)) := u2_same _ 28 (mN Z) _
      have a29 : mLet Z f l s w 29 (mN Z) = mWho (mLet5 Z f l s w) mNameR (-1) (mFirst (mLet5 Z f l s w) (mN Z)) := u2_same _ 29 (mN Z) _
      have a30 : mLet Z f l s w 30 (mN Z) = mWho (mLet5 Z f l s w) mFolderR (nI 0) (mFirst (mLet5 Z f l s w) (mN Z)) := u2_same _ 30 (mN Z) _
      have a31 : mLet Z f l s w 31 (mN Z) = -1 := u2_same _ 31 (mN Z) _
      unfold LtR SoR
      rw [a23, a24, a25, a26, a27, a28, a29, a30, a31, ← hfo]
      have rn : ∀ c, u2 (u2 (u2 (lI I n s) n 3 fo) n 4 fo) 8 1 (nI (mN Z + 1)) n c = u2 (u2 (lI I n s) n 3 fo) n 4 fo n c := fun c => by rw [u2_row _ _ _ (by omega)]
      refine ⟨hn, ?_, ?_, ?_, ?_, lJ0, g2, g3, g4, ?_⟩
      · rw [rn, u2_col _ _ _ (by decide), u2_col _ _ _ (by decide)]; exact lI1
      · rw [rn, u2_col _ _ _ (by decide), u2_same]
      · rw [rn, u2_same]
      · rw [rn, u2_col _ _ _ (by decide), u2_col _ _ _ (by decide)]; exact lI5
      · have ro : u2 (u2 (lR R n) n 2 o) 9 (mN Z) (some (gz G + n)) n 2 = o := by rw [u2_row _ _ _ (by omega), u2_same]
        rw [ro]
        rcases hfi with ⟨e1, e2⟩ | ⟨p, r, hp, e1, e2, hr, hu⟩
        · left; rw [e1]; exact ⟨e2, rfl, rfl⟩
        · right
          have hrn : r ≠ n := fun z => by have q := hr.1.1.1; rw [z, lKd, vz_up_same] at q; cases q
          have hr52 := hr.1.2.1
          refine ⟨r, e2, hr.1.1, by rw [e1]; exact hu, ?_⟩
          rw [e1, rI r hrn (by omega), ← lIr r hrn]
          exact hr.2.1
    · obtain ⟨q1, q2⟩ := h.le.2.1 i (by omega)
      obtain ⟨c1, c2⟩ := q1.fr (n' := n + 1) (kd' := lKd kd n) (by omega) lKr (r9 i hik)
      refine ⟨c1, ?_⟩
      rw [c2]
      have h52 := q2.1
      have hlt := q1.2.1
      exact q2.fr h.ur F.rul (rI _ (by omega) (by omega)) (rR _ (by omega) (by omega)) (lJr _ (by omega)) (u2_col _ 23 f hik) (u2_col _ 24 l hik) (u2_col _ 25 s hik) (u2_col _ 26 w hik) (u2_col _ 27 _ hik) (u2_col _ 28 _ hik) (u2_col _ 29 _ hik) (u2_col _ 30 _ hik) (u2_col _ 31 _ hik) (fun _ _ => rfl)
  · rw [eN] at hi hj
    have old : ∀ i, i < mN Z → rc G (u2 (u2 (lR R n) n 2 o) 9 (mN Z) (some (gz G + n))) 9 i = rc G R 9 i ∧ rc G R 9 i < n := fun i hi => ⟨by unfold rc; rw [r9 i (by omega)], (h.le.2.1 i hi).1.2.1⟩
    have new : rc G (u2 (u2 (lR R n) n 2 o) 9 (mN Z) (some (gz G + n))) 9 (mN Z) = n := rc_some r9N
    by_cases hiN : i = mN Z
    · by_cases hjN : j = mN Z
      · omega
      · rw [hiN, new, (old j (by omega)).1] at hij
        have := (old j (by omega)).2
        omega
    · by_cases hjN : j = mN Z
      · rw [hjN, new, (old i (by omega)).1] at hij
        have := (old i (by omega)).2
        omega
      · rw [(old i (by omega)).1, (old j (by omega)).1] at hij
        exact h.le.2.2 i j (by omega) (by omega) hij
end MUT3
