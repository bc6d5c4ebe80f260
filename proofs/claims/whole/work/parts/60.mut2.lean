section MUT2
variable {G : GG} {n n' : Nat} {kd kd' : KD} {I I' Z Z' : II} {R R' : RR} {J J' : JJ} {em K cap hm : Nat} {u u' : Nat → Int32} {kn : Nat → Nat} {key : Nat → Key}
theorem core_drop (h : Core G em n kd I R J Z u K cap hm kn key) {k : Nat} (hk : k < 10) : Core G em n kd I (u2 R 6 k none) J (u2 Z 32 k (nI 0)) u K cap hm kn key := by
  have F : Fr n kd I R J n kd I (u2 R 6 k none) J := ⟨Nat.le_refl n, fun a _ => rfl, fun a h1 _ _ => ⟨rfl, u2_row _ _ _ (by omega), rfl⟩⟩
  refine ⟨h.shC.put k none (by decide), h.shM, h.mb, h.kn', h.ur.fr F.rul (fun r h1 h2 => by omega) (fun _ _ => rfl), h.tp, h.co, h.mv, h.le.fr h.ur F rfl rfl rfl rfl rfl rfl rfl rfl rfl rfl rfl rfl (fun _ _ => rfl), fun q hq => ?_, h.ln.fr F.rul rfl rfl rfl rfl rfl rfl rfl (fun _ _ => rfl), h.kw.fr F.rul (h.kw.1.grow2 (Nat.le_refl n) (fun _ _ => rfl) rfl rfl (fun a h1 h2 => u2_row _ _ _ (by omega))) rfl rfl (fun _ _ => rfl), h.hm'⟩
  by_cases hqk : q = k
  · subst hqk
    have e1 : thC (u2 R 6 q none) q = false := thC_n (u2_same _ _ _ _)
    have e2 : mth (u2 Z 32 q (nI 0)) q = false := by unfold mth; rw [u2_same]; exact decide_eq_false (fun z => z rfl)
    rw [e1, e2]
    exact ⟨rfl, fun z => by cases z⟩
  · obtain ⟨a1, a2⟩ := h.ha q hq
    have e1 : u2 R 6 k none 6 q = R 6 q := u2_col _ _ _ hqk
    have e2 : thC (u2 R 6 k none) q = thC R q := by unfold thC; rw [e1]
    have e3 : mth (u2 Z 32 k (nI 0)) q = mth Z q := by unfold mth; rw [u2_col _ _ _ hqk]
    refine ⟨by rw [e2, e3]; exact a1, fun ht => ?_⟩
    rw [e2] at ht
    obtain ⟨b1, b2, b3⟩ := a2 ht
    obtain ⟨c1, c2⟩ := b1.fr (Nat.le_refl n) (fun _ _ => rfl) e1
    rw [c2]
    exact ⟨c1, b2.fr F.rul, b3⟩
theorem rg_bN {x : Int32} {m : Nat} (he : (rgl x 0 (m + 1)).isSome = true) : bN x m := by
  obtain ⟨j, hj⟩ := Option.isSome_iff_exists.mp he
  obtain ⟨e, -, h2⟩ := rgl_some hj
  exact ⟨j, by omega, e⟩
theorem core_move (h : Core G em n kd I R J Z u K cap hm kn key) {k : Nat} (hk : k < mN Z) (hP : tn (Z 22 26) < 200) {f : Int32} (hf : (rgl f 0 8).isSome = true) : Core G em n kd (cMove I (tn (Z 22 26)) k (rc G R 9 k) f) R J (mMove Z k f) u K cap hm kn key := by
  have hN : mN Z ≤ 100 := h.mb.1.le
  obtain ⟨lc, lt⟩ := h.le.2.1 k hk
  have h52 := lt.1
  have hfb : bN f 7 := rg_bN hf
  generalize hPe : tn (Z 22 26) = P at hP ⊢
  generalize hle : rc G R 9 k = l at lc lt h52 ⊢
  have rw1 : ∀ a, a ≠ l → a ≠ 10 → a ≠ 11 → a ≠ 12 → a ≠ 13 → cMove I P k l f a = I a := fun a h1 h2 h3 h4 h5 => by
    rw [cMove, u2_row _ _ _ h1, u2_row _ _ _ h1, cPush, u2_row _ _ _ h2, u2_row _ _ _ h5, u2_row _ _ _ h4, u2_row _ _ _ h3]
  have hlk : kd l = .inl 3 := by rw [← hle]; exact (h.le.2.1 k hk).1.2.2
  have F : FrR n kd I R n kd (cMove I P k l f) R := ⟨Nat.le_refl n, fun a _ => rfl, fun a h1 h2 h3 => ⟨rw1 a (fun z => by rw [z, hlk] at h3; rcases h3 with h3 | ⟨c, h3⟩ <;> cases h3) (by omega) (by omega) (by omega) (by omega), rfl⟩⟩
  have ez : mMove Z k f = u2 (u2 (u2 (u2 (u2 (u2 Z 43 P (nI k)) 44 P (Z 27 k)) 45 P (Z 31 k)) 22 26 (nI (P + 1))) 27 k f) 31 k f := by unfold mMove; rw [hPe]
  rw [ez]
  have eb : ∀ i, u2 (u2 (u2 (u2 (u2 (u2 Z 43 P (nI k)) 44 P (Z 27 k)) 45 P (Z 31 k)) 22 26 (nI (P + 1))) 27 k f) 31 k f 31 i = if i = k then f else Z 31 i := fun i => rfl
  have el : ∀ i, u2 (u2 (u2 (u2 (u2 (u2 Z 43 P (nI k)) 44 P (Z 27 k)) 45 P (Z 31 k)) 22 26 (nI (P + 1))) 27 k f) 31 k f 27 i = if i = k then f else Z 27 i := fun i => rfl
  have em_ : ∀ i, u2 (u2 (u2 (u2 (u2 (u2 Z 43 P (nI k)) 44 P (Z 27 k)) 45 P (Z 31 k)) 22 26 (nI (P + 1))) 27 k f) 31 k f 43 i = if i = P then nI k else Z 43 i := fun i => rfl
  have ew : ∀ i, u2 (u2 (u2 (u2 (u2 (u2 Z 43 P (nI k)) 44 P (Z 27 k)) 45 P (Z 31 k)) 22 26 (nI (P + 1))) 27 k f) 31 k f 44 i = if i = P then Z 27 k else Z 44 i := fun i => rfl
  have ex : ∀ i, u2 (u2 (u2 (u2 (u2 (u2 Z 43 P (nI k)) 44 P (Z 27 k)) 45 P (Z 31 k)) 22 26 (nI (P + 1))) 27 k f) 31 k f 45 i = if i = P then Z 31 k else Z 45 i := fun i => rfl
  have hbk := h.mb.2.2.2.2.2.2.2 k (by omega)
  have hcp : ∀ a b, a ≠ l → cMove I P k l f a b = cPush I P (nI k) l a b := fun a b h1 => by rw [cMove, u2_row _ _ _ h1, u2_row _ _ _ h1]
  refine ⟨h.shC, h.shM, ⟨h.mb.1, h.mb.2.1, h.mb.2.2.1, h.mb.2.2.2.1, h.mb.2.2.2.2.1, bN_nI (by omega), fun i hi => ?_, fun i hi => ?_⟩, h.kn', h.ur, ?_, ?_, ⟨?_, fun i hi => ?_⟩, ⟨?_, fun i hi => ?_, h.le.2.2⟩, h.ha.fr F rfl rfl rfl rfl rfl rfl (fun _ _ => rfl), h.ln.fr F (by rw [rw1 5 (by omega) (by omega) (by omega) (by omega) (by omega)]) rfl rfl rfl rfl rfl rfl (fun _ _ => rfl), h.kw.fr F (h.kw.1.grow2 (Nat.le_refl n) (fun _ _ => rfl) (rw1 17 (by omega) (by omega) (by omega) (by omega) (by omega)) rfl (fun a h1 h2 => rfl)) rfl rfl (fun _ _ => rfl), h.hm'⟩
  · rw [em_]
    split
    · exact bN_nI (by omega)
    · exact h.mb.2.2.2.2.2.2.1 i hi
  · rw [eb]
    split
    · exact Or.inr hfb
    · exact h.mb.2.2.2.2.2.2.2 i hi
  · refine ⟨by rw [rw1 1 (by omega) (by omega) (by omega) (by omega) (by omega)]; exact h.tp.1, ?_⟩
    obtain ⟨b, b1, b2⟩ := h.tp.2
    exact ⟨b, b1, fun i hi => by rw [rw1 2 (by omega) (by omega) (by omega) (by omega) (by omega)]; exact b2 i hi⟩
  · unfold CoR
    rw [rw1 14 (by omega) (by omega) (by omega) (by omega) (by omega), rw1 15 (by omega) (by omega) (by omega) (by omega) (by omega)]
    exact h.co
  · rw [hcp _ _ (by omega)]
    rfl
  · have hi2 : i < P + 1 := by have e : tn (nI (P + 1)) = P + 1 := tn_nI (by omega); rw [← e]; exact hi
    rw [em_, ew, ex, hcp _ _ (by omega), hcp _ _ (by omega), hcp _ _ (by omega)]
    have p1 : cPush I P (nI k) l 11 i = if i = P then nI k else I 11 i := rfl
    have p2 : cPush I P (nI k) l 12 i = if i = P then I l 4 else I 12 i := rfl
    have p3 : cPush I P (nI k) l 13 i = if i = P then I l 5 else I 13 i := rfl
    rw [p1, p2, p3]
    by_cases hiP : i = P
    · rw [if_pos hiP, if_pos hiP, if_pos hiP, if_pos hiP, if_pos hiP, if_pos hiP]
      exact ⟨rfl, lt.2.2.2.1, lt.2.2.2.2.1, by rw [tn_nI (by omega)]; exact hk, hbk⟩
    · rw [if_neg hiP, if_neg hiP, if_neg hiP, if_neg hiP, if_neg hiP, if_neg hiP]
      exact h.mv.2 i (by rw [hPe]; omega)
  · rw [rw1 8 (by omega) (by omega) (by omega) (by omega) (by omega)]
    exact h.le.1
  · obtain ⟨q1, q2⟩ := h.le.2.1 i hi
    refine ⟨q1, ?_⟩
    by_cases hik : i = k
    · subst hik
      rw [hle]
      obtain ⟨d0, d1, d2, d3, d4, d5, d6, d7, d8, d9⟩ := lt
      have c1 : ∀ c, c ≠ 4 → c ≠ 5 → cMove I P i l f l c = I l c := fun c h4 h5 => by
        rw [cMove, u2_col _ _ _ h5, u2_col _ _ _ h4, cPush, u2_row _ _ _ (by omega), u2_row _ _ _ (by omega), u2_row _ _ _ (by omega), u2_row _ _ _ (by omega)]
      refine ⟨d0, by rw [c1 1 (by decide) (by decide)]; exact d1, by rw [c1 3 (by decide) (by decide)]; exact d2, ?_, ?_, d5, d6, d7, d8, d9.fr h.ur F rfl rfl rfl (fun _ _ => rfl)⟩
      · rw [el, if_pos rfl, cMove, u2_col _ _ _ (by decide), u2_same]
      · rw [eb, if_pos rfl, cMove, u2_same]
    · have hne : rc G R 9 i ≠ l := fun z => hik (h.le.2.2 i k hi hk (by rw [z, hle]))
      have h52i := q2.1
      exact q2.fr h.ur F (rw1 _ hne (by omega) (by omega) (by omega) (by omega)) rfl rfl rfl rfl rfl rfl (by rw [el, if_neg hik]) rfl rfl rfl (by rw [eb, if_neg hik]) (fun _ _ => rfl)
theorem core_undo (h : Core G em n kd I R J Z u K cap hm kn key) {P : Nat} (hP : tn (Z 22 26) = P + 1) : I 11 P = nI (tn (Z 43 P)) ∧ tn (Z 43 P) < mN Z ∧ Core G em n kd (cBack I P (rc G R 9 (tn (Z 43 P)))) R J (mUndo Z) u K cap hm kn key := by
  have hN : mN Z ≤ 100 := h.mb.1.le
  have hP2 : tn (Z 22 26) ≤ 200 := h.mb.2.2.2.2.2.1.le
  obtain ⟨m1, m2, m3, m4, m5⟩ := h.mv.2 P (by omega)
  have m6 : Z 43 P = nI (tn (Z 43 P)) := (h.mb.2.2.2.2.2.2.1 P (by omega)).eq
  refine ⟨by rw [m1]; exact m6, m4, ?_⟩
  generalize hke : tn (Z 43 P) = k at m4 m6 ⊢
  obtain ⟨lc, lt⟩ := h.le.2.1 k m4
  have h52 := lt.1
  generalize hle : rc G R 9 k = l at lc lt h52 ⊢
  have rw1 : ∀ a, a ≠ l → a ≠ 10 → cBack I P l a = I a := fun a h1 h2 => by
    rw [cBack, u2_row _ _ _ h1, u2_row _ _ _ h1, u2_row _ _ _ h2]
  have hlk : kd l = .inl 3 := by rw [← hle]; exact (h.le.2.1 k m4).1.2.2
  have F : FrR n kd I R n kd (cBack I P l) R := ⟨Nat.le_refl n, fun a _ => rfl, fun a h1 h2 h3 => ⟨rw1 a (fun z => by rw [z, hlk] at h3; rcases h3 with h3 | ⟨c, h3⟩ <;> cases h3) (by omega), rfl⟩⟩
  have ez : mUndo Z = u2 (u2 (u2 Z 22 26 (nI P)) 27 k (Z 44 P)) 31 k (Z 45 P) := by unfold mUndo; rw [hP, show P + 1 - 1 = P from rfl]; dsimp only; rw [hke]
  rw [ez]
  have eb : ∀ i, u2 (u2 (u2 Z 22 26 (nI P)) 27 k (Z 44 P)) 31 k (Z 45 P) 31 i = if i = k then Z 45 P else Z 31 i := fun i => rfl
  have el : ∀ i, u2 (u2 (u2 Z 22 26 (nI P)) 27 k (Z 44 P)) 31 k (Z 45 P) 27 i = if i = k then Z 44 P else Z 27 i := fun i => rfl
  refine ⟨h.shC, h.shM, ⟨h.mb.1, h.mb.2.1, h.mb.2.2.1, h.mb.2.2.2.1, h.mb.2.2.2.2.1, bN_nI (by omega), h.mb.2.2.2.2.2.2.1, fun i hi => ?_⟩, h.kn', h.ur, ?_, ?_, ⟨?_, fun i hi => ?_⟩, ⟨?_, fun i hi => ?_, h.le.2.2⟩, h.ha.fr F rfl rfl rfl rfl rfl rfl (fun _ _ => rfl), h.ln.fr F (by rw [rw1 5 (by omega) (by omega)]) rfl rfl rfl rfl rfl rfl (fun _ _ => rfl), h.kw.fr F (h.kw.1.grow2 (Nat.le_refl n) (fun _ _ => rfl) (rw1 17 (by omega) (by omega)) rfl (fun a h1 h2 => rfl)) rfl rfl (fun _ _ => rfl), h.hm'⟩
  · rw [eb]
    split
    · exact m5
    · exact h.mb.2.2.2.2.2.2.2 i hi
  · refine ⟨by rw [rw1 1 (by omega) (by omega)]; exact h.tp.1, ?_⟩
    obtain ⟨b, b1, b2⟩ := h.tp.2
    exact ⟨b, b1, fun i hi => by rw [rw1 2 (by omega) (by omega)]; exact b2 i hi⟩
  · unfold CoR
    rw [rw1 14 (by omega) (by omega), rw1 15 (by omega) (by omega)]
    exact h.co
  · rw [cBack, u2_row _ _ _ (by omega), u2_row _ _ _ (by omega)]
    rfl
  · have hi2 : i < P := by have e : tn (nI P) = P := tn_nI (by omega); rw [← e]; exact hi
    rw [rw1 11 (by omega) (by omega), rw1 12 (by omega) (by omega), rw1 13 (by omega) (by omega)]
    exact h.mv.2 i (by omega)
  · rw [rw1 8 (by omega) (by omega)]
    exact h.le.1
  · obtain ⟨q1, q2⟩ := h.le.2.1 i hi
    refine ⟨q1, ?_⟩
    by_cases hik : i = k
    · subst hik
      rw [hle]
      obtain ⟨d0, d1, d2, d3, d4, d5, d6, d7, d8, d9⟩ := lt
      have c1 : ∀ c, c ≠ 4 → c ≠ 5 → cBack I P l l c = I l c := fun c h4 h5 => by
        rw [cBack, u2_col _ _ _ h5, u2_col _ _ _ h4, u2_row _ _ _ (by omega)]
      refine ⟨d0, by rw [c1 1 (by decide) (by decide)]; exact d1, by rw [c1 3 (by decide) (by decide)]; exact d2, ?_, ?_, d5, d6, d7, d8, d9.fr h.ur F rfl rfl rfl (fun _ _ => rfl)⟩
      · rw [el, if_pos rfl, cBack, u2_col _ _ _ (by decide), u2_same]; exact m2
      · rw [eb, if_pos rfl, cBack, u2_same]; exact m3
    · have hne : rc G R 9 i ≠ l := fun z => hik (h.le.2.2 i k hi m4 (by rw [z, hle]))
      have h52i := q2.1
      exact q2.fr h.ur F (rw1 _ hne (by omega)) rfl rfl rfl rfl rfl rfl (by rw [el, if_neg hik]) rfl rfl rfl (by rw [eb, if_neg hik]) (fun _ _ => rfl)
end MUT2
