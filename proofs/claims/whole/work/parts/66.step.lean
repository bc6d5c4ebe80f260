section STEP
variable {G : GG} {n n' : Nat} {kd kd' : KD} {I I' Z Zs : II} {R R' : RR} {J J' : JJ} {em K K' cap cap' hm : Nat} {u u' : Nat → Int32} {kn kn' : Nat → Nat} {key key' : Nat → Key}
theorem num_mono : ∀ a, a < 40 → ∀ a', a' < 40 → a < a' → 40 + a * 40 - a * (a + 1) / 2 + 39 ≤ 40 + a' * 40 - a' * (a' + 1) / 2 + a := by decide +kernel
theorem num_ge : ∀ a, a < 40 → 40 ≤ 40 + a * 40 - a * (a + 1) / 2 := by decide +kernel
theorem num_inj {k k' : Key} (h : vK k) (h' : vK k') (e : mNum k.1 k.2.1 k.2.2 = mNum k'.1 k'.2.1 k'.2.2) : k = k' := by
  obtain ⟨a, o, f⟩ := k
  obtain ⟨a', o', f'⟩ := k'
  obtain ⟨h1, h2, h3⟩ := h
  obtain ⟨g1, g2, g3⟩ := h'
  dsimp only at *
  have n1 := num_ok a h1
  have n2 := num_ok a' g1
  have n3 := num_ge a h1
  have n4 := num_ge a' g1
  cases o with
  | none =>
    cases o' with
    | none =>
      simp only [mNum] at e
      rw [show a = a' by omega, show f = f' by omega]
    | some b' =>
      have := g2 b' rfl
      simp only [mNum] at e
      omega
  | some b =>
    have hb := h2 b rfl
    cases o' with
    | none =>
      simp only [mNum] at e
      omega
    | some b' =>
      have hb' := g2 b' rfl
      simp only [mNum] at e
      have ef : f = f' := by omega
      rcases Nat.lt_trichotomy a a' with c | c | c
      · have := num_mono a h1 a' g1 c; omega
      · subst c
        rw [ef, show b = b' by omega]
      · have := num_mono a' g1 a h1 c; omega
/-- what a step of learning does to the reference -/
def StF (Z Zs : II) (t : Bst) (a : Nat) (o : Option Nat) (f : Nat) : Prop := (∀ q, 23 ≤ q → q ≤ 36 → Zs q = Z q) ∧ (∀ q, 42 ≤ q → q ≤ 48 → Zs q = Z q) ∧ (∀ c, c ≠ 16 → c ≠ 21 → c ≠ 41 → c < 49 → Zs 22 c = Z 22 c) ∧ Zs 22 41 = Z 22 41 - t.1 ∧ (∀ l, Zs 37 l = if l = mL Z then Zs 41 (mNum a o f) else Z 37 l) ∧ (∀ l, Zs 38 l = if l = mL Z then nI (oC o) else Z 38 l) ∧ (∀ l, Zs 40 l = if l = mL Z then nI f else Z 40 l) ∧ (∀ x, Zs 39 x = if x = 2 * mL Z + 1 then oI o else if x = 2 * mL Z then nI a else Z 39 x) ∧ ((¬ Z 41 (mNum a o f) = 0 ∧ Zs 41 = Z 41 ∧ Zs 22 21 = Z 22 21) ∨ (Z 41 (mNum a o f) = 0 ∧ Zs 22 21 = Z 22 21 + nI 1 ∧ ∀ x, Zs 41 x = if x = mNum a o f then nI 100 + Z 22 21 else Z 41 x)) ∧ Zs 51 = Z 51 ∧ ∀ c, c < mN Z → mOpen Zs c = (mOpen Z c && !mLearntFits Zs (mL Z) c)
theorem fO_row {h : Nat → Bool} {m q : Nat} (hq : q ≠ 49) : fO I h m q = I q := by funext c; unfold fO; simp [hq]
theorem wB_row {t : Bst} {q : Nat} (hq : q ≠ 22) : wB I t q = I q := by rw [wB, u2_row _ _ _ hq, u2_row _ _ _ hq, u2_row _ _ _ hq, u2_row _ _ _ hq]
theorem wB_col {t : Bst} {c : Nat} (hc : c < 49) : wB I t 22 c = I 22 c := by rw [wB, u2_col _ _ _ (by omega), u2_col _ _ _ (by omega), u2_col _ _ _ (by omega), u2_col _ _ _ (by omega)]
def ad4 (Y : II) (k a : Nat) (o : Option Nat) (f : Nat) : II := u2 (u2 (u2 (u2 Y 38 k (nI (oC o))) 39 (2 * k) (nI a)) 39 (2 * k + 1) (oI o)) 40 k (nI f)
def ad5 (Y4 Y : II) (nu : Nat) : II := u2 (u2 Y4 41 nu (nI 100 + Y 22 21)) 22 21 (Y 22 21 + nI 1)
def ad7 (Y5 : II) (k nu : Nat) : II := u2 (u2 Y5 37 k (Y5 41 nu)) 22 16 (nI (k + 1))
theorem mAd7_e (Y : II) (a : Nat) (o : Option Nat) (f : Nat) : mAd7 Y a o f = ad7 (if Y 41 (mNum a o f) = 0 then ad5 (ad4 Y (mL Y) a o f) Y (mNum a o f) else ad4 Y (mL Y) a o f) (mL Y) (mNum a o f) := rfl
theorem mStep_at {t : Bst} {a f : Nat} {o : Option Nat} (ha : a < 40) (ho : ∀ b, o = some b → b < 40) (hf : f < 8) (e1 : t.2.1 = nI a) (e2 : t.2.2.1 = oI o) (e3 : t.2.2.2 = nI f) : mStep Z t = u2 (mAdds (wB Z t) a o f) 22 41 (mAdds (wB Z t) a o f 22 41 - t.1) := by
  unfold mStep
  rw [e1, e2, e3, tn_nI (by omega), tn_nI (by omega), pickO_oI (fun b hb => by have := ho b hb; omega)]
theorem mStep_f {t : Bst} {a f : Nat} {o : Option Nat} (hmL : mL Z < 6) (ha : a < 40) (ho : ∀ b, o = some b → b < 40) (hf : f < 8) (e1 : t.2.1 = nI a) (e2 : t.2.2.1 = oI o) (e3 : t.2.2.2 = nI f) : StF Z (mStep Z t) t a o f := by
  rw [mStep_at ha ho hf e1 e2 e3]
  have hL : mL (wB Z t) = mL Z := rfl
  have hN : mN (wB Z t) = mN Z := rfl
  have key : ∀ Y7 : II, mAd7 (wB Z t) a o f = Y7 → (∀ q, 23 ≤ q → q ≤ 36 → Y7 q = Z q) → (∀ q, 42 ≤ q → q ≤ 51 → Y7 q = Z q) → (∀ c, c ≠ 16 → c ≠ 21 → c < 49 → Y7 22 c = Z 22 c) → (∀ l, Y7 37 l = if l = mL Z then Y7 41 (mNum a o f) else Z 37 l) → (∀ l, Y7 38 l = if l = mL Z then nI (oC o) else Z 38 l) → (∀ l, Y7 40 l = if l = mL Z then nI f else Z 40 l) → (∀ x, Y7 39 x = if x = 2 * mL Z + 1 then oI o else if x = 2 * mL Z then nI a else Z 39 x) → ((¬ Z 41 (mNum a o f) = 0 ∧ Y7 41 = Z 41 ∧ Y7 22 21 = Z 22 21) ∨ (Z 41 (mNum a o f) = 0 ∧ Y7 22 21 = Z 22 21 + nI 1 ∧ ∀ x, Y7 41 x = if x = mNum a o f then nI 100 + Z 22 21 else Z 41 x)) → StF Z (u2 (mAdds (wB Z t) a o f) 22 41 (mAdds (wB Z t) a o f 22 41 - t.1)) t a o f := by
    intro Y7 eY k1 k2 k3 k4 k5 k6 k7 k8
    have eA : mAdds (wB Z t) a o f = fO Y7 (mAdP Y7 (mL Z)) (mN Z) := by unfold mAdds; rw [eY, hL, hN]
    rw [eA]
    refine ⟨fun q h1 h2 => ?_, fun q h1 h2 => ?_, fun c h1 h2 h3 h4 => ?_, ?_, k4, k5, k6, k7, k8, k2 51 (by decide) (by decide), fun c hc => ?_⟩
    · rw [u2_row _ _ _ (by omega), fO_row (by omega)]; exact k1 q h1 h2
    · rw [u2_row _ _ _ (by omega), fO_row (by omega)]; exact k2 q h1 (by omega)
    · rw [u2_col _ _ _ h3, fO_row (by decide)]; exact k3 c h1 h2 h4
    · rw [u2_same, fO_row (by decide), k3 _ (by decide) (by decide) (by decide)]
    · have e : mOpen (u2 (fO Y7 (mAdP Y7 (mL Z)) (mN Z)) 22 41 (fO Y7 (mAdP Y7 (mL Z)) (mN Z) 22 41 - t.1)) c = mOpen (fO Y7 (mAdP Y7 (mL Z)) (mN Z)) c := rfl
      rw [e, bi_mOpen _ _ _ hc]
      unfold mAdP
      have e2 : mOpen Y7 c = mOpen Z c := by unfold mOpen; rw [k2 49 (by decide) (by decide)]
      rw [e2]
      rfl
  by_cases hz : Z 41 (mNum a o f) = 0
  · have hz' : wB Z t 41 (mNum a o f) = 0 := hz
    refine key (ad7 (ad5 (ad4 (wB Z t) (mL Z) a o f) (wB Z t) (mNum a o f)) (mL Z) (mNum a o f)) (by rw [mAd7_e, if_pos hz', hL]) (fun q h1 h2 => ?_) (fun q h1 h2 => ?_) (fun c h1 h2 h3 => ?_) (fun l => rfl) (fun l => rfl) (fun l => rfl) (fun x => rfl) (Or.inr ⟨hz, rfl, fun x => rfl⟩)
    · rw [ad7, u2_row _ _ _ (by omega), u2_row _ _ _ (by omega), ad5, u2_row _ _ _ (by omega), u2_row _ _ _ (by omega), ad4, u2_row _ _ _ (by omega), u2_row _ _ _ (by omega), u2_row _ _ _ (by omega), u2_row _ _ _ (by omega), wB_row (by omega)]
    · rw [ad7, u2_row _ _ _ (by omega), u2_row _ _ _ (by omega), ad5, u2_row _ _ _ (by omega), u2_row _ _ _ (by omega), ad4, u2_row _ _ _ (by omega), u2_row _ _ _ (by omega), u2_row _ _ _ (by omega), u2_row _ _ _ (by omega), wB_row (by omega)]
    · rw [ad7, u2_col _ _ _ h1, u2_row _ _ _ (by decide), ad5, u2_col _ _ _ h2, u2_row _ _ _ (by decide), ad4, u2_row _ _ _ (by decide), u2_row _ _ _ (by decide), u2_row _ _ _ (by decide), u2_row _ _ _ (by decide), wB_col h3]
  · have hz' : ¬ wB Z t 41 (mNum a o f) = 0 := hz
    refine key (ad7 (ad4 (wB Z t) (mL Z) a o f) (mL Z) (mNum a o f)) (by rw [mAd7_e, if_neg hz', hL]) (fun q h1 h2 => ?_) (fun q h1 h2 => ?_) (fun c h1 h2 h3 => ?_) (fun l => rfl) (fun l => rfl) (fun l => rfl) (fun x => rfl) (Or.inl ⟨hz, rfl, rfl⟩)
    · rw [ad7, u2_row _ _ _ (by omega), u2_row _ _ _ (by omega), ad4, u2_row _ _ _ (by omega), u2_row _ _ _ (by omega), u2_row _ _ _ (by omega), u2_row _ _ _ (by omega), wB_row (by omega)]
    · rw [ad7, u2_row _ _ _ (by omega), u2_row _ _ _ (by omega), ad4, u2_row _ _ _ (by omega), u2_row _ _ _ (by omega), u2_row _ _ _ (by omega), u2_row _ _ _ (by omega), wB_row (by omega)]
    · rw [ad7, u2_col _ _ _ h1, u2_row _ _ _ (by decide), ad4, u2_row _ _ _ (by decide), u2_row _ _ _ (by decide), u2_row _ _ _ (by decide), u2_row _ _ _ (by decide), wB_col h3]
theorem oC_le (o : Option Nat) : oC o ≤ 2 ∧ 1 ≤ oC o := by cases o with
  | none => decide
  | some b => exact ⟨Nat.le_refl 2, (by decide : 1 ≤ 2)⟩
theorem core_step (h : Core G em n kd I R J Z u K cap hm kn key) {t : Bst} {a f : Nat} {o : Option Nat} (S : StF Z Zs t a o f) (hmb : MB Zs) (hmL : mL Zs = mL Z + 1) (F : Fr n kd I R J n' kd' I' R' J') (hC : ShC G n' kd' R') (hM : ShM G n' kd' R') (hu : ∀ q, q < n → u' q = u q) (hUR : UR G n' kd' R' u' K' hm) (hI : ∀ q, q < 16 → q ≠ 5 → I' q = I q) (h5 : I' 5 2 = nI (mL Z + 1)) (h6 : R' 6 = R 6) (h9 : R' 9 = R 9) (h7 : ∀ l, l ≠ mL Z → R' 7 l = R 7 l) {r : Nat} (h7k : R' 7 (mL Z) = some (gz G + r)) (hr : RlR G n' kd' I' R' r (Zs 41 (mNum a o f)) (nI f) (oC o) (kcd (a, o, f))) (hur : u' r = Zs 41 (mNum a o f)) (hKn : KnR G em n' kd' I' R' Zs u' K' cap' kn' key') : Core G em n' kd' I' R' J' Zs u' K' cap' hm kn' key' := by
  obtain ⟨s1, s2, s3, s4, s5, s6, s7, s8, s9, s10, s11⟩ := S
  refine ⟨hC, hM, hmb, ?_, hUR, ⟨?_, ?_⟩, ?_, ?_, h.le.fr h.ur F (by rw [hI 8 (by decide) (by decide)]) h9 (s3 _ (by decide) (by decide) (by decide) (by decide)) (s1 _ (by decide) (by decide)) (s1 _ (by decide) (by decide)) (s1 _ (by decide) (by decide)) (s1 _ (by decide) (by decide)) (s1 _ (by decide) (by decide)) (s1 _ (by decide) (by decide)) (s1 _ (by decide) (by decide)) (s1 _ (by decide) (by decide)) (s1 _ (by decide) (by decide)) hu, h.ha.fr F.rul h6 (s1 _ (by decide) (by decide)) (s1 _ (by decide) (by decide)) (s1 _ (by decide) (by decide)) (s1 _ (by decide) (by decide)) (s1 _ (by decide) (by decide)) hu, ⟨by rw [hmL]; exact h5, fun l hl => ?_⟩, hKn, (s3 _ (by decide) (by decide) (by decide) (by decide)).trans h.hm'⟩
  · unfold KN; rw [s2 _ (by decide) (by decide)]; exact h.kn'
  · rw [hI 1 (by decide) (by decide), s3 _ (by decide) (by decide) (by decide) (by decide)]; exact h.tp.1
  · obtain ⟨b, b1, b2⟩ := h.tp.2
    refine ⟨b, ?_, fun i hi => by rw [hI 2 (by decide) (by decide)]; exact b2 i hi⟩
    unfold TB; rw [s2 _ (by decide) (by decide)]; exact b1
  · unfold CoR
    rw [hI 14 (by decide) (by decide), hI 15 (by decide) (by decide), s3 23 (by decide) (by decide) (by decide) (by decide), s3 24 (by decide) (by decide) (by decide) (by decide), s2 42 (by decide) (by decide)]
    exact h.co
  · unfold MvR mN
    rw [hI 10 (by decide) (by decide), hI 11 (by decide) (by decide), hI 12 (by decide) (by decide), hI 13 (by decide) (by decide), s3 26 (by decide) (by decide) (by decide) (by decide), s3 0 (by decide) (by decide) (by decide) (by decide), s2 43 (by decide) (by decide), s2 44 (by decide) (by decide), s2 45 (by decide) (by decide)]
    exact h.mv
  · rw [hmL] at hl
    by_cases hlk : l = mL Z
    · subst hlk
      have er : rc G R' 7 (mL Z) = r := rc_some h7k
      rw [er, s5, s6, s7, if_pos rfl, if_pos rfl, if_pos rfl, tn_nI (by have := (oC_le o).1; omega)]
      refine ⟨isC_of h7k hr.1.1.2 hr.1.1.1, hr.cd (fun j hj => ?_), hur⟩
      have h2 := (oC_le o).1
      rw [s8]
      match j with
      | 0 => rw [if_neg (by omega), if_pos (by omega)]; rfl
      | 1 => rw [if_pos rfl]; rfl
      | j + 2 => omega
    · obtain ⟨b1, b2, b3⟩ := h.ln.2 l (by omega)
      obtain ⟨c1, c2⟩ := b1.fr F.1 F.2.1 (h7 l hlk)
      have ht2 : tn (Z 38 l) ≤ 2 := (h.mb.2.2.2.1 l (by have : mL Z ≤ 6 := h.mb.2.1.le; omega)).le
      rw [c2, s5, s6, s7, if_neg hlk, if_neg hlk, if_neg hlk, hu _ b1.2.1]
      refine ⟨c1, (b2.fr F.rul).cd (fun j hj => ?_), b3⟩
      rw [s8, if_neg (by omega), if_neg (by omega)]
end STEP
