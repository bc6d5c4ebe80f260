section REL
abbrev II : Type := Nat → Nat → Int32
abbrev RR : Type := Nat → Nat → Option Nat
abbrev JJ : Type := Nat → Nat → Int64
abbrev KD : Type := Nat → AKd
abbrev Key : Type := Nat × Option Nat × Nat
/-- a CODE that a TEST can have -/
def okCd (c : Nat) : Prop := c < 40 ∨ (100 ≤ c ∧ c < 2100)
/-- nothing that is kept of RULES and LETTERS has changed -/
def Fr (n : Nat) (kd : KD) (I : II) (R : RR) (J : JJ) (n' : Nat) (kd' : KD) (I' : II) (R' : RR) (J' : JJ) : Prop := n ≤ n' ∧ (∀ a, a < n → kd' a = kd a) ∧ ∀ a, 52 ≤ a → a < n → (∀ c, kd a ≠ .inr (5, c)) → I' a = I a ∧ R' a = R a ∧ J' a = J a
def FrR (n : Nat) (kd : KD) (I : II) (R : RR) (n' : Nat) (kd' : KD) (I' : II) (R' : RR) : Prop := n ≤ n' ∧ (∀ a, a < n → kd' a = kd a) ∧ ∀ a, 52 ≤ a → a < n → (kd a = .inl 7 ∨ ∃ c, kd a = .inr (0, c)) → I' a = I a ∧ R' a = R a
/-- a RULE object -/
def RuO (G : GG) (n : Nat) (kd : KD) (R : RR) (r : Nat) : Prop := iO n kd r 7 ∧ 52 ≤ r ∧ RuS G n kd R r ∧ 52 ≤ rc G R r 1
/-- what a RULE tells -/
def RlR (G : GG) (n : Nat) (kd : KD) (I : II) (R : RR) (r : Nat) (nm fo : Int32) (t : Nat) (cd : Nat → Int32) : Prop := RuO G n kd R r ∧ I r 0 = nm ∧ I r 2 = fo ∧ cM G kd R r = t ∧ (∀ j, j < t → I (rc G R r 1) j = cd j ∧ ∃ c, cd j = nI c ∧ okCd c) ∧ bN fo 7
/-- RULES are told apart by their marks -/
def UR (G : GG) (n : Nat) (kd : KD) (R : RR) (u : Nat → Int32) (K hm : Nat) : Prop := (∀ r, iO n kd r 7 → RuO G n kd R r ∧ ((∃ j, j < K ∧ u r = nI (100 + j)) ∨ ∃ s, s < hm ∧ u r = nI (10000 + s))) ∧ ∀ r r', iO n kd r 7 → iO n kd r' 7 → u r = u r' → r = r'
def TpR (I Z : II) : Prop := I 1 1 = Z 22 31 ∧ ∃ b, TB Z b ∧ TC I b
def CoR (I Z : II) : Prop := I 14 0 = Z 22 23 ∧ I 14 1 = Z 22 24 ∧ (∀ f, f < 8 → I 15 f = Z 42 f) ∧ bN (Z 22 23) 100 ∧ bN (Z 22 24) 100 ∧ ∀ f, f < 8 → bN (Z 42 f) 1000
def MvR (I Z : II) : Prop := I 10 3 = Z 22 26 ∧ ∀ i, i < tn (Z 22 26) → I 11 i = Z 43 i ∧ I 12 i = Z 44 i ∧ I 13 i = Z 45 i ∧ tn (Z 43 i) < mN Z ∧ (Z 45 i = -1 ∨ bN (Z 45 i) 7)
def SoR (G : GG) (n : Nat) (kd : KD) (I : II) (R : RR) (Z : II) (u : Nat → Int32) (l i : Nat) : Prop := (R l 2 = none ∧ Z 28 i = -1 ∧ Z 29 i = -1) ∨ ∃ r, R l 2 = some (gz G + r) ∧ iO n kd r 7 ∧ u r = Z 28 i ∧ I r 0 = Z 29 i
def LtR (G : GG) (n : Nat) (kd : KD) (I : II) (R : RR) (J : JJ) (Z : II) (u : Nat → Int32) (l i : Nat) : Prop := 52 ≤ l ∧ I l 1 = Z 25 i ∧ I l 3 = Z 30 i ∧ I l 4 = Z 27 i ∧ I l 5 = Z 31 i ∧ J l 0 = cMark (Z 23 i) (Z 24 i) (Z 26 i) ∧ (rgl (Z 23 i) 0 16).isSome = true ∧ (decide (Z 24 i = -1) || (rgl (Z 24 i) 0 8).isSome) = true ∧ (rgl (Z 26 i) 0 65536).isSome = true ∧ SoR G n kd I R Z u l i
def PsR (I : II) (J : JJ) (Z : II) (l i : Nat) : Prop := I l 1 = Z 25 i ∧ J l 0 = cMark (Z 23 i) (Z 24 i) (Z 26 i) ∧ (rgl (Z 23 i) 0 16).isSome = true ∧ (decide (Z 24 i = -1) || (rgl (Z 24 i) 0 8).isSome) = true ∧ (rgl (Z 26 i) 0 65536).isSome = true
def LeR (G : GG) (n : Nat) (kd : KD) (I : II) (R : RR) (J : JJ) (Z : II) (u : Nat → Int32) : Prop := I 8 1 = nI (mN Z) ∧ (∀ i, i < mN Z → isC G n kd R 9 i 3 ∧ LtR G n kd I R J Z u (rc G R 9 i) i) ∧ ∀ i j, i < mN Z → j < mN Z → rc G R 9 i = rc G R 9 j → i = j
def HaR (G : GG) (n : Nat) (kd : KD) (I : II) (R : RR) (Z : II) (u : Nat → Int32) : Prop := ∀ h, h < 10 → mth Z h = thC R h ∧ (thC R h = true → isC G n kd R 6 h 7 ∧ RlR G n kd I R (rc G R 6 h) (nI h) (Z 36 h) (tn (Z 34 h)) (fun t => Z 35 (4 * h + t)) ∧ u (rc G R 6 h) = Z 33 h)
def LnR (G : GG) (n : Nat) (kd : KD) (I : II) (R : RR) (Z : II) (u : Nat → Int32) : Prop := I 5 2 = nI (mL Z) ∧ ∀ l, l < mL Z → isC G n kd R 7 l 7 ∧ RlR G n kd I R (rc G R 7 l) (Z 37 l) (Z 40 l) (tn (Z 38 l)) (fun t => Z 39 (2 * l + t)) ∧ u (rc G R 7 l) = Z 37 l
def vK (k : Key) : Prop := k.1 < 40 ∧ (∀ b, k.2.1 = some b → k.1 < b ∧ b < 40) ∧ k.2.2 < 8
def kcd (k : Key) (j : Nat) : Int32 := if j = 0 then nI k.1 else oI k.2.1
def nmO (o : Option Nat) : Int32 := match o with
  | none => 0
  | some i => nI (100 + i)
def kF (key : Nat → Key) (k : Key) (K : Nat) : Option Nat := fstF (fun i => decide (key i = k)) K
def KnR (G : GG) (em n : Nat) (kd : KD) (I : II) (R : RR) (Z : II) (u : Nat → Int32) (K cap : Nat) (kn : Nat → Nat) (key : Nat → Key) : Prop := Ls G em n kd I R K cap kn ∧ Z 22 21 = nI K ∧ (∀ i, i < K → u (kn i) = nI (100 + i) ∧ vK (key i) ∧ RlR G n kd I R (kn i) (nI (100 + i)) (nI (key i).2.2) (oC (key i).2.1) (kcd (key i))) ∧ ∀ k, vK k → Z 41 (mNum k.1 k.2.1 k.2.2) = nmO (kF key k K)
def RsR (I Z : II) : Prop := I 16 2 = Z 22 40 ∧ I 16 3 = Z 22 41 ∧ I 16 4 = Z 22 42 ∧ I 16 5 = Z 22 43 ∧ I 16 6 = Z 22 44 ∧ I 16 7 = Z 22 45
def Core (G : GG) (em n : Nat) (kd : KD) (I : II) (R : RR) (J : JJ) (Z : II) (u : Nat → Int32) (K cap hm : Nat) (kn : Nat → Nat) (key : Nat → Key) : Prop := ShC G n kd R ∧ ShM G n kd R ∧ MB Z ∧ KN Z ∧ UR G n kd R u K hm ∧ TpR I Z ∧ CoR I Z ∧ MvR I Z ∧ LeR G n kd I R J Z u ∧ HaR G n kd I R Z u ∧ LnR G n kd I R Z u ∧ KnR G em n kd I R Z u K cap kn key ∧ Z 22 15 = nI hm
def RowR (G : GG) (n : Nat) (kd : KD) (I : II) (R : RR) (Z : II) (u : Nat → Int32) : Prop := MB Z ∧ HaR G n kd I R Z u ∧ LnR G n kd I R Z u
variable {G : GG} {n n' : Nat} {kd kd' : KD} {I I' Z Z' : II} {R R' : RR} {J J' : JJ} {em mi K cap hm : Nat} {u u' : Nat → Int32} {kn : Nat → Nat} {key : Nat → Key}
theorem Core.shC (h : Core G em n kd I R J Z u K cap hm kn key) : ShC G n kd R := h.1
theorem Core.shM (h : Core G em n kd I R J Z u K cap hm kn key) : ShM G n kd R := h.2.1
theorem Core.mb (h : Core G em n kd I R J Z u K cap hm kn key) : MB Z := h.2.2.1
theorem Core.kn' (h : Core G em n kd I R J Z u K cap hm kn key) : KN Z := h.2.2.2.1
theorem Core.ur (h : Core G em n kd I R J Z u K cap hm kn key) : UR G n kd R u K hm := h.2.2.2.2.1
theorem Core.tp (h : Core G em n kd I R J Z u K cap hm kn key) : TpR I Z := h.2.2.2.2.2.1
theorem Core.co (h : Core G em n kd I R J Z u K cap hm kn key) : CoR I Z := h.2.2.2.2.2.2.1
theorem Core.mv (h : Core G em n kd I R J Z u K cap hm kn key) : MvR I Z := h.2.2.2.2.2.2.2.1
theorem Core.le (h : Core G em n kd I R J Z u K cap hm kn key) : LeR G n kd I R J Z u := h.2.2.2.2.2.2.2.2.1
theorem Core.ha (h : Core G em n kd I R J Z u K cap hm kn key) : HaR G n kd I R Z u := h.2.2.2.2.2.2.2.2.2.1
theorem Core.ln (h : Core G em n kd I R J Z u K cap hm kn key) : LnR G n kd I R Z u := h.2.2.2.2.2.2.2.2.2.2.1
theorem Core.kw (h : Core G em n kd I R J Z u K cap hm kn key) : KnR G em n kd I R Z u K cap kn key := h.2.2.2.2.2.2.2.2.2.2.2.1
theorem Core.hm' (h : Core G em n kd I R J Z u K cap hm kn key) : Z 22 15 = nI hm := h.2.2.2.2.2.2.2.2.2.2.2.2
theorem Core.row (h : Core G em n kd I R J Z u K cap hm kn key) : RowR G n kd I R Z u := ⟨h.mb, h.ha, h.ln⟩
theorem LtR.ps {l i : Nat} (h : LtR G n kd I R J Z u l i) : PsR I J Z l i := ⟨h.2.1, h.2.2.2.2.2.1, h.2.2.2.2.2.2.1, h.2.2.2.2.2.2.2.1, h.2.2.2.2.2.2.2.2.1⟩
theorem Core.hv (h : Core G em n kd I R J Z u K cap hm kn key) : HV G n kd R := fun i hi hne => by
  have q := (h.ha i hi).2 (by cases e : R 6 i with | none => exact absurd e hne | some a => exact thC_s e)
  exact ⟨q.1, q.2.1.1.2.2.1⟩
theorem Core.kv (h : Core G em n kd I R J Z u K cap hm kn key) : KV G n kd R (mL Z) := ⟨h.mb.2.1.le, fun l hl => ⟨(h.ln.2 l hl).1, (h.ln.2 l hl).2.1.1.2.2.1⟩⟩
theorem Core.lv (h : Core G em n kd I R J Z u K cap hm kn key) : LV G n kd R (mN Z) := ⟨h.mb.1.le, fun i hi => (h.le.2.1 i hi).1⟩
theorem Core.l52 (h : Core G em n kd I R J Z u K cap hm kn key) : ∀ i, i < mN Z → 52 ≤ rc G R 9 i := fun i hi => (h.le.2.1 i hi).2.1
theorem Fr.rul (F : Fr n kd I R J n' kd' I' R' J') : FrR n kd I R n' kd' I' R' := ⟨F.1, F.2.1, fun a h1 h2 h3 => by
  have q := F.2.2 a h1 h2 (fun c z => by rcases h3 with h3 | ⟨d, h3⟩ <;> rw [h3] at z <;> cases z)
  exact ⟨q.1, q.2.1⟩⟩
theorem iO.fr {r ci : Nat} (h : iO n kd r ci) (h1 : n ≤ n') (h2 : ∀ a, a < n → kd' a = kd a) : iO n' kd' r ci := ⟨by rw [h2 r h.2]; exact h.1, Nat.lt_of_lt_of_le h.2 h1⟩
theorem RuO.fr {r : Nat} (h : RuO G n kd R r) (F : FrR n kd I R n' kd' I' R') : RuO G n' kd' R' r ∧ I' r = I r ∧ R' r = R r ∧ I' (rc G R r 1) = I (rc G R r 1) ∧ rc G R' r 1 = rc G R r 1 ∧ cM G kd' R' r = cM G kd R r := by
  obtain ⟨h1, h2, h3, h4⟩ := h
  obtain ⟨g1, g2⟩ := F.2.2 r h2 h1.2 (Or.inl h1.1)
  obtain ⟨k1, k2⟩ := F.2.2 (rc G R r 1) h4 h3.2.1 (Or.inr ⟨_, h3.2.2.1⟩)
  have e1 : rc G R' r 1 = rc G R r 1 := rc_cong g2
  have e2 : cM G kd' R' r = cM G kd R r := by unfold cM; rw [e1, F.2.1 _ h3.2.1]
  refine ⟨⟨h1.fr F.1 F.2.1, h2, ⟨by rw [g2, e1]; exact h3.1, by rw [e1]; exact Nat.lt_of_lt_of_le h3.2.1 F.1, by rw [e1, e2, F.2.1 _ h3.2.1]; exact h3.2.2.1, by rw [e2]; exact h3.2.2.2⟩, by rw [e1]; exact h4⟩, g1, g2, k1, e1, e2⟩
theorem RlR.fr {r t : Nat} {nm fo : Int32} {cd : Nat → Int32} (h : RlR G n kd I R r nm fo t cd) (F : FrR n kd I R n' kd' I' R') : RlR G n' kd' I' R' r nm fo t cd := by
  obtain ⟨h1, h2, h3, h4, h5, h6⟩ := h
  obtain ⟨g1, g2, g3, g4, g5, g6⟩ := h1.fr F
  exact ⟨g1, by rw [g2]; exact h2, by rw [g2]; exact h3, by rw [g6]; exact h4, fun j hj => by rw [g5, g4]; exact h5 j hj, h6⟩
theorem isC.fr {a i ci : Nat} (h : isC G n kd R a i ci) (h1 : n ≤ n') (h2 : ∀ a, a < n → kd' a = kd a) (h3 : R' a i = R a i) : isC G n' kd' R' a i ci ∧ rc G R' a i = rc G R a i := by
  have e : rc G R' a i = rc G R a i := by unfold rc; rw [h3]
  refine ⟨⟨by rw [e, h3]; exact h.1, by rw [e]; exact Nat.lt_of_lt_of_le h.2.1 h1, by rw [e, h2 _ h.2.1]; exact h.2.2⟩, e⟩
theorem SoR.fr {l i : Nat} (h : SoR G n kd I R Z u l i) (hu : UR G n kd R u K hm) (F : FrR n kd I R n' kd' I' R') (hl : R' l = R l) (h1 : Z' 28 i = Z 28 i) (h2 : Z' 29 i = Z 29 i) (h3 : ∀ r, r < n → u' r = u r) : SoR G n' kd' I' R' Z' u' l i := by
  rcases h with ⟨a1, a2, a3⟩ | ⟨r, a1, a2, a3, a4⟩
  · exact Or.inl ⟨by rw [hl]; exact a1, by rw [h1]; exact a2, by rw [h2]; exact a3⟩
  · exact Or.inr ⟨r, by rw [hl]; exact a1, a2.fr F.1 F.2.1, by rw [h3 r a2.2, h1]; exact a3, by rw [((hu.1 r a2).1.fr F).2.1, h2]; exact a4⟩
theorem LtR.fr {l i : Nat} (h : LtR G n kd I R J Z u l i) (hu : UR G n kd R u K hm) (F : FrR n kd I R n' kd' I' R') (h1 : I' l = I l) (h2 : R' l = R l) (h4 : J' l = J l) (h23 : Z' 23 i = Z 23 i) (h24 : Z' 24 i = Z 24 i) (h25 : Z' 25 i = Z 25 i) (h26 : Z' 26 i = Z 26 i) (h27 : Z' 27 i = Z 27 i) (h28 : Z' 28 i = Z 28 i) (h29 : Z' 29 i = Z 29 i) (h30 : Z' 30 i = Z 30 i) (h31 : Z' 31 i = Z 31 i) (h3 : ∀ r, r < n → u' r = u r) : LtR G n' kd' I' R' J' Z' u' l i := by
  obtain ⟨d0, d1, d2, d3, d4, d5, d6, d7, d8, d9⟩ := h
  unfold LtR
  rw [h1, h4, h23, h24, h25, h26, h27, h30, h31]
  exact ⟨d0, d1, d2, d3, d4, d5, d6, d7, d8, d9.fr hu F h2 h28 h29 h3⟩
theorem UR.fr (h : UR G n kd R u K hm) (F : FrR n kd I R n' kd' I' R') (hno : ∀ r, n ≤ r → r < n' → kd' r ≠ .inl 7) (hu : ∀ r, r < n → u' r = u r) : UR G n' kd' R' u' K hm := by
  have old : ∀ r, iO n' kd' r 7 → iO n kd r 7 := fun r hr => by
    have hlt : r < n := Nat.lt_of_not_le (fun z => hno r z hr.2 hr.1)
    exact ⟨by rw [← F.2.1 r hlt]; exact hr.1, hlt⟩
  refine ⟨fun r hr => ?_, fun r r' hr hr' e => ?_⟩
  · have q := h.1 r (old r hr)
    rw [hu r (old r hr).2]
    exact ⟨(q.1.fr F).1, q.2⟩
  · rw [hu r (old r hr).2, hu r' (old r' hr').2] at e
    exact h.2 r r' (old r hr) (old r' hr') e
theorem Ls.grow2 (h : Ls G em n kd I R K cap kn) (hn : n ≤ n') (h1 : ∀ a, a < n → kd' a = kd a) (h2 : I' 17 = I 17) (h3 : R' 17 = R 17) (h4 : ∀ a, 52 ≤ a → a < n → R' a = R a) : Ls G em n' kd' I' R' K cap kn := by
  obtain ⟨g1, g2, g3, g4, g5⟩ := h
  refine ⟨by rw [h2]; exact g1, g2, g3, fun i hi => (g4 i hi).fr hn h1, ?_⟩
  rcases g5 with ⟨e1, e2, e3⟩ | ⟨E, e1, e2, e3, e4, e5, e6, e7⟩
  · exact Or.inl ⟨e1, e2, by rw [h3]; exact e3⟩
  · exact Or.inr ⟨E, e1, by omega, by rw [h3]; exact e3, by rw [h1 E e2]; exact e4, e5, fun i hi => by rw [h4 E e1 e2]; exact e6 i hi, fun i h1 h2 => by rw [h4 E e1 e2]; exact e7 i h1 h2⟩
/-- the LETTERS, where none has changed -/
theorem LeR.fr (h : LeR G n kd I R J Z u) (hu : UR G n kd R u K hm) (F : Fr n kd I R J n' kd' I' R' J') (h8 : I' 8 1 = I 8 1) (h9 : R' 9 = R 9) (hz : Z' 22 0 = Z 22 0) (h23 : Z' 23 = Z 23) (h24 : Z' 24 = Z 24) (h25 : Z' 25 = Z 25) (h26 : Z' 26 = Z 26) (h27 : Z' 27 = Z 27) (h28 : Z' 28 = Z 28) (h29 : Z' 29 = Z 29) (h30 : Z' 30 = Z 30) (h31 : Z' 31 = Z 31) (h3 : ∀ r, r < n → u' r = u r) : LeR G n' kd' I' R' J' Z' u' := by
  have eN : mN Z' = mN Z := by unfold mN; rw [hz]
  obtain ⟨a1, a2, a3⟩ := h
  refine ⟨by rw [h8, eN]; exact a1, fun i hi => ?_, fun i j hi hj hij => ?_⟩
  · rw [eN] at hi
    obtain ⟨b1, b2⟩ := a2 i hi
    obtain ⟨c1, c2⟩ := b1.fr F.1 F.2.1 (R' := R') (by rw [h9])
    refine ⟨c1, ?_⟩
    rw [c2]
    obtain ⟨d0, d1, d2, d3, d4, d5, d6, d7, d8, d9⟩ := b2
    obtain ⟨e1, e2, e3⟩ := F.2.2 _ d0 b1.2.1 (fun c z => by have := b1.2.2; rw [this] at z; cases z)
    unfold LtR
    rw [e1, e3, h23, h24, h25, h26, h27, h30, h31]
    exact ⟨d0, d1, d2, d3, d4, d5, d6, d7, d8, d9.fr hu F.rul e2 (by rw [h28]) (by rw [h29]) h3⟩
  · rw [eN] at hi hj
    rw [rc_cong (R := R) h9, rc_cong (R := R) h9] at hij
    exact a3 i j hi hj hij
theorem HaR.fr (h : HaR G n kd I R Z u) (F : FrR n kd I R n' kd' I' R') (h6 : R' 6 = R 6) (h32 : Z' 32 = Z 32) (h33 : Z' 33 = Z 33) (h34 : Z' 34 = Z 34) (h35 : Z' 35 = Z 35) (h36 : Z' 36 = Z 36) (h3 : ∀ r, r < n → u' r = u r) : HaR G n' kd' I' R' Z' u' := fun k hk => by
  obtain ⟨a1, a2⟩ := h k hk
  have et : thC R' k = thC R k := by unfold thC; rw [h6]
  refine ⟨by rw [et]; unfold mth; rw [h32]; exact a1, fun ht => ?_⟩
  rw [et] at ht
  obtain ⟨b1, b2, b3⟩ := a2 ht
  obtain ⟨c1, c2⟩ := b1.fr F.1 F.2.1 (R' := R') (by rw [h6])
  rw [c2, h33, h34, h35, h36, h3 _ b1.2.1]
  exact ⟨c1, b2.fr F, b3⟩
theorem LnR.fr (h : LnR G n kd I R Z u) (F : FrR n kd I R n' kd' I' R') (h5 : I' 5 2 = I 5 2) (h7 : R' 7 = R 7) (hz : Z' 22 16 = Z 22 16) (h37 : Z' 37 = Z 37) (h38 : Z' 38 = Z 38) (h39 : Z' 39 = Z 39) (h40 : Z' 40 = Z 40) (h3 : ∀ r, r < n → u' r = u r) : LnR G n' kd' I' R' Z' u' := by
  have eL : mL Z' = mL Z := by unfold mL; rw [hz]
  obtain ⟨a1, a2⟩ := h
  refine ⟨by rw [h5, eL]; exact a1, fun l hl => ?_⟩
  rw [eL] at hl
  obtain ⟨b1, b2, b3⟩ := a2 l hl
  obtain ⟨c1, c2⟩ := b1.fr F.1 F.2.1 (R' := R') (by rw [h7])
  rw [c2, h37, h38, h39, h40, h3 _ b1.2.1]
  exact ⟨c1, b2.fr F, b3⟩
theorem KnR.fr (h : KnR G em n kd I R Z u K cap kn key) (F : FrR n kd I R n' kd' I' R') (hL : Ls G em n' kd' I' R' K cap kn) (hz : Z' 22 21 = Z 22 21) (h41 : Z' 41 = Z 41) (h3 : ∀ r, r < n → u' r = u r) : KnR G em n' kd' I' R' Z' u' K cap kn key := by
  obtain ⟨a1, a2, a3, a4⟩ := h
  refine ⟨hL, by rw [hz]; exact a2, fun i hi => ?_, fun k hk => by rw [h41]; exact a4 k hk⟩
  obtain ⟨b1, b2, b3⟩ := a3 i hi
  exact ⟨by rw [h3 _ b3.1.1.2]; exact b1, b2, b3.fr F⟩
end REL
