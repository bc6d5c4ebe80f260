section MUT1
variable {G : GG} {n n' : Nat} {kd kd' : KD} {I I' Z Z' : II} {R R' : RR} {J J' : JJ} {em K cap hm : Nat} {u u' : Nat → Int32} {kn : Nat → Nat} {key : Nat → Key}
theorem sm_s : ∀ s, s < 32 → (nI s &&& 31).toBitVec.smod 32 = BitVec.ofNat 32 s := by decide +kernel
theorem us_s : ∀ s, s < 32 → (((nI s).toUInt32 &&& Int32.toUInt32 31).toBitVec % 32).toNat = s := by decide +kernel
theorem byte_c (v : Int32) {s : Nat} (hs : s ≤ 24) : cByte v s = nI (v.toBitVec.toNat / 2 ^ s % 256) := by
  unfold cByte
  rw [pk_and _ 8 (by decide), pk_ushr v (nI s) s (us_s s (by omega))]
theorem byte_m (v : Int32) {s : Nat} (hs : s ≤ 24) : mByte v s = sb_b (v.toBitVec.toNat / 2 ^ s % 256) := by
  unfold mByte sb_b
  have e : (v >>> (nI s &&& 31)).toInt8 = (nI (v.toBitVec.toNat / 2 ^ s % 256)).toInt8 := by
    rw [← Int8.toBitVec_inj, Int32.toBitVec_toInt8, Int32.toBitVec_toInt8, Int32.toBitVec_shiftRight, sm_s s (by omega)]
    refine BitVec.eq_of_getLsbD_eq (fun i hi => ?_)
    rw [BitVec.getLsbD_signExtend, BitVec.getLsbD_signExtend, if_pos (by omega), if_pos (by omega), BitVec.sshiftRight_eq', BitVec.toNat_ofNat, Nat.mod_eq_of_lt (by omega : s < 2 ^ 32), BitVec.getLsbD_sshiftRight, decide_eq_true hi, Bool.true_and, Bool.true_and, if_pos (by omega), decide_eq_false (by omega : ¬ 32 ≤ i), show (nI (v.toBitVec.toNat / 2 ^ s % 256)).toBitVec = BitVec.ofNat 32 (v.toBitVec.toNat / 2 ^ s % 256) from rfl, BitVec.getLsbD_ofNat, decide_eq_true (by omega : i < 32), show (256 : Nat) = 2 ^ 8 from rfl, Nat.testBit_mod_two_pow, decide_eq_true hi, Nat.testBit_div_two_pow]
    simp [BitVec.getLsbD, Nat.add_comm]
  rw [e]
/-- the TAPE of both -/
def TT (I Z : II) (b : Nat → Nat) : Prop := TB Z b ∧ TC I b
theorem TT.put {b : Nat → Nat} (h : TT I Z b) (P : Nat) (v : Int32) {s : Nat} (hs : s ≤ 24) : ∃ b', TT (cPut I P (cByte v s)) (mPut Z P (mByte v s)) b' := by
  refine ⟨va_up b P (v.toBitVec.toNat / 2 ^ s % 256), fun i hi => ?_, fun i hi => ?_⟩
  · have e : mPut Z P (mByte v s) 46 i = if i = P then mByte v s else Z 46 i := rfl
    rw [e]
    by_cases hp : i = P
    · rw [if_pos hp, hp, vz_up_same]; exact ⟨Nat.mod_lt _ (by decide), byte_m v hs⟩
    · rw [if_neg hp, vz_up_ne _ _ hp]; exact h.1 i hi
  · have e : cPut I P (cByte v s) 2 i = if i = P then cByte v s else I 2 i := rfl
    rw [e]
    by_cases hp : i = P
    · rw [if_pos hp, hp, vz_up_same]; exact ⟨Nat.mod_lt _ (by decide), byte_c v hs⟩
    · rw [if_neg hp, vz_up_ne _ _ hp]; exact h.2 i hi
theorem TT.four (h : ∃ b, TT I Z b) (P : Nat) (v : Int32) : ∃ b', TT (cFour I P v) (mFour Z P v) b' := by
  obtain ⟨b, h⟩ := h
  obtain ⟨b1, h1⟩ := h.put P v (s := 24) (by decide)
  obtain ⟨b2, h2⟩ := h1.put (P + 1) v (s := 16) (by decide)
  obtain ⟨b3, h3⟩ := h2.put (P + 2) v (s := 8) (by decide)
  exact h3.put (P + 3) v (s := 0) (by decide)
theorem TT.feed (h : ∃ b, TT I Z b) (P : Nat) (a b c d e : Int32) : ∃ b', TT (cFeed I P a b c d e) (mFeed Z P a b c d e) b' := TT.four (TT.four (TT.four (TT.four (TT.four h P a) (P + 4) b) (P + 8) c) (P + 12) d) (P + 16) e
theorem cPut_row {P a : Nat} {x : Int32} (h1 : a ≠ 1) (h2 : a ≠ 2) : cPut I P x a = I a := by rw [cPut, u2_row _ _ _ h1, u2_row _ _ _ h2]
theorem cFour_row {P a : Nat} {x : Int32} (h1 : a ≠ 1) (h2 : a ≠ 2) : cFour I P x a = I a := by rw [cFour, cPut_row h1 h2, cPut_row h1 h2, cPut_row h1 h2, cPut_row h1 h2]
theorem cFeed_row {P q : Nat} {a b c d e : Int32} (h1 : q ≠ 1) (h2 : q ≠ 2) : cFeed I P a b c d e q = I q := by rw [cFeed, cFour_row h1 h2, cFour_row h1 h2, cFour_row h1 h2, cFour_row h1 h2, cFour_row h1 h2]
theorem mPut_row {P a : Nat} {x : Int32} (h1 : a ≠ 46) (h2 : a ≠ 22) : mPut Z P x a = Z a := by rw [mPut, u2_row _ _ _ h2, u2_row _ _ _ h1]
theorem mPut_col {P c : Nat} {x : Int32} (h : c ≠ 31) : mPut Z P x 22 c = Z 22 c := by rw [mPut, u2_col _ _ _ h, u2_row _ _ _ (by decide)]
theorem mFour_row {P a : Nat} {x : Int32} (h1 : a ≠ 46) (h2 : a ≠ 22) : mFour Z P x a = Z a := by rw [mFour, mPut_row h1 h2, mPut_row h1 h2, mPut_row h1 h2, mPut_row h1 h2]
theorem mFour_col {P c : Nat} {x : Int32} (h : c ≠ 31) : mFour Z P x 22 c = Z 22 c := by rw [mFour, mPut_col h, mPut_col h, mPut_col h, mPut_col h]
theorem mFeed_row {P q : Nat} {a b c d e : Int32} (h1 : q ≠ 46) (h2 : q ≠ 22) : mFeed Z P a b c d e q = Z q := by rw [mFeed, mFour_row h1 h2, mFour_row h1 h2, mFour_row h1 h2, mFour_row h1 h2, mFour_row h1 h2]
theorem mFeed_col {P q : Nat} {a b c d e : Int32} (h : q ≠ 31) : mFeed Z P a b c d e 22 q = Z 22 q := by rw [mFeed, mFour_col h, mFour_col h, mFour_col h, mFour_col h, mFour_col h]
/-- what the reference keeps of LETTERS, RULES and names -/
def ZK (Z Z' : II) : Prop := Z' 22 0 = Z 22 0 ∧ Z' 22 15 = Z 22 15 ∧ Z' 22 16 = Z 22 16 ∧ Z' 22 21 = Z 22 21 ∧ ∀ a, 23 ≤ a → a ≤ 41 → Z' a = Z a
/-- a change beside LETTERS and RULES -/
theorem Core.simple (h : Core G em n kd I R J Z u K cap hm kn key) (h5 : I' 5 2 = I 5 2) (h8 : I' 8 1 = I 8 1) (h17 : I' 17 = I 17) (h52 : ∀ a, 52 ≤ a → I' a = I a) (hz : ZK Z Z') (hmb : MB Z') (hkn : KN Z') (ht : TpR I' Z') (hc : CoR I' Z') (hm' : MvR I' Z') : Core G em n kd I' R J Z' u K cap hm kn key := by
  obtain ⟨z1, z2, z3, z4, z5⟩ := hz
  have F : Fr n kd I R J n kd I' R J := ⟨Nat.le_refl n, fun a _ => rfl, fun a h1 _ _ => ⟨h52 a h1, rfl, rfl⟩⟩
  refine ⟨h.shC, h.shM, hmb, hkn, h.ur, ht, hc, hm', h.le.fr h.ur F h8 rfl z1 (z5 _ (by decide) (by decide)) (z5 _ (by decide) (by decide)) (z5 _ (by decide) (by decide)) (z5 _ (by decide) (by decide)) (z5 _ (by decide) (by decide)) (z5 _ (by decide) (by decide)) (z5 _ (by decide) (by decide)) (z5 _ (by decide) (by decide)) (z5 _ (by decide) (by decide)) (fun _ _ => rfl), h.ha.fr F.rul rfl (z5 _ (by decide) (by decide)) (z5 _ (by decide) (by decide)) (z5 _ (by decide) (by decide)) (z5 _ (by decide) (by decide)) (z5 _ (by decide) (by decide)) (fun _ _ => rfl), h.ln.fr F.rul h5 rfl z3 (z5 _ (by decide) (by decide)) (z5 _ (by decide) (by decide)) (z5 _ (by decide) (by decide)) (z5 _ (by decide) (by decide)) (fun _ _ => rfl), h.kw.fr F.rul ?_ z4 (z5 _ (by decide) (by decide)) (fun _ _ => rfl), z2.trans h.hm'⟩
  exact h.kw.1.grow (Nat.le_refl n) (sC_n17 h.shC) (fun a _ => rfl) h17 (fun a _ => rfl)
theorem MB.tp (h : MB Z) (e0 : Z' 22 0 = Z 22 0) (e1 : Z' 22 16 = Z 22 16) (e2 : Z' 34 = Z 34) (e3 : Z' 38 = Z 38) (e4 : bN (Z' 22 31) 100) (e5 : Z' 22 26 = Z 22 26) (e6 : Z' 43 = Z 43) (e7 : Z' 31 = Z 31) : MB Z' := by
  unfold MB
  rw [e0, e1, e2, e3, e5, e6, e7]
  exact ⟨h.1, h.2.1, h.2.2.1, h.2.2.2.1, e4, h.2.2.2.2.2⟩
theorem core_feed (h : Core G em n kd I R J Z u K cap hm kn key) (hP : tn (Z 22 31) ≤ 80) (a b c d e : Int32) : Core G em n kd (cFeed I (tn (Z 22 31)) a b c d e) R J (mFeed Z (tn (Z 22 31)) a b c d e) u K cap hm kn key := by
  have r := fun q (h1 : q ≠ 1) (h2 : q ≠ 2) => cFeed_row (I := I) (P := tn (Z 22 31)) (a := a) (b := b) (c := c) (d := d) (e := e) h1 h2
  have z := fun q (h1 : q ≠ 46) (h2 : q ≠ 22) => mFeed_row (Z := Z) (P := tn (Z 22 31)) (a := a) (b := b) (c := c) (d := d) (e := e) h1 h2
  have zc := fun q (h1 : q ≠ 31) => mFeed_col (Z := Z) (P := tn (Z 22 31)) (a := a) (b := b) (c := c) (d := d) (e := e) h1
  refine h.simple (by rw [r 5 (by decide) (by decide)]) (by rw [r 8 (by decide) (by decide)]) (r 17 (by decide) (by decide)) (fun q hq => r q (by omega) (by omega)) ⟨zc _ (by decide), zc _ (by decide), zc _ (by decide), zc _ (by decide), fun q h1 h2 => z q (by omega) (by omega)⟩ (h.mb.tp (zc _ (by decide)) (zc _ (by decide)) (z _ (by decide) (by decide)) (z _ (by decide) (by decide)) (bN_nI (j := tn (Z 22 31) + 16 + 3 + 1) (by omega)) (zc _ (by decide)) (z _ (by decide) (by decide)) (z _ (by decide) (by decide))) ?_ ⟨rfl, TT.feed h.tp.2 _ a b c d e⟩ ?_ ?_
  · unfold KN; rw [z _ (by decide) (by decide)]; exact h.kn'
  · unfold CoR; rw [r 14 (by decide) (by decide), r 15 (by decide) (by decide), zc 23 (by decide), zc 24 (by decide), z 42 (by decide) (by decide)]; exact h.co
  · unfold MvR mN; rw [r 10 (by decide) (by decide), r 11 (by decide) (by decide), r 12 (by decide) (by decide), r 13 (by decide) (by decide), zc 26 (by decide), zc 0 (by decide), z 43 (by decide) (by decide), z 44 (by decide) (by decide), z 45 (by decide) (by decide)]; exact h.mv
theorem core_end (h : Core G em n kd I R J Z u K cap hm kn key) {x : Int32} (hx : bN x 100) : Core G em n kd (u2 I 1 1 x) R J (u2 Z 22 31 x) u K cap hm kn key := by
  have r := fun q (h1 : q ≠ 1) => u2_row I 1 x h1
  have z := fun q (h1 : q ≠ 22) => u2_row Z 31 x h1
  refine h.simple rfl rfl rfl (fun q hq => r q (by omega)) ⟨rfl, rfl, rfl, rfl, fun q h1 h2 => z q (by omega)⟩ (h.mb.tp rfl rfl rfl rfl hx rfl rfl rfl) h.kn' ⟨rfl, h.tp.2⟩ h.co h.mv
theorem core_cost (h : Core G em n kd I R J Z u K cap hm kn key) (x c : Int32) : (cCost I x c).1 = (mCost Z x c).1 ∧ Core G em n kd (cCost I x c).2 R J (mCost Z x c).2 u K cap hm kn key := by
  have hc := h.co
  have nc : ∀ m, m < 2 ^ 31 → (rgl c 0 (m + 1)).isSome = true → bN c m := fun m hm he => by
    obtain ⟨j, hj⟩ := Option.isSome_iff_exists.mp he
    obtain ⟨e, -, h2⟩ := rgl_some hj
    exact ⟨j, by omega, e⟩
  unfold cCost mCost
  by_cases x0 : x = nI 0
  · rw [if_pos x0, if_pos x0]
    by_cases hr : (rgl c 0 101).isSome = true
    · rw [if_pos hr, if_pos hr]
      refine ⟨hc.1, h.simple rfl rfl rfl (fun q hq => u2_row I 0 c (by omega)) ⟨rfl, rfl, rfl, rfl, fun q h1 h2 => u2_row Z 23 c (by omega)⟩ h.mb h.kn' h.tp ⟨rfl, hc.2.1, hc.2.2.1, nc 100 (by decide) hr, hc.2.2.2.2⟩ h.mv⟩
    · rw [if_neg hr, if_neg hr]; exact ⟨rfl, h⟩
  · rw [if_neg x0, if_neg x0]
    by_cases x1 : x = nI 1
    · rw [if_pos x1, if_pos x1]
      by_cases hr : (rgl c 0 101).isSome = true
      · rw [if_pos hr, if_pos hr]
        refine ⟨hc.2.1, h.simple rfl rfl rfl (fun q hq => u2_row I 1 c (by omega)) ⟨rfl, rfl, rfl, rfl, fun q h1 h2 => u2_row Z 24 c (by omega)⟩ h.mb h.kn' h.tp ⟨hc.1, rfl, hc.2.2.1, hc.2.2.2.1, nc 100 (by decide) hr, hc.2.2.2.2.2⟩ h.mv⟩
      · rw [if_neg hr, if_neg hr]; exact ⟨rfl, h⟩
    · rw [if_neg x1, if_neg x1]
      cases hx : rgl x 10 18 with
      | none => exact ⟨rfl, h⟩
      | some j =>
        obtain ⟨-, j1, j2⟩ := rgl_some hx
        dsimp only
        by_cases hr : (rgl c 0 1001).isSome = true
        · rw [if_pos hr, if_pos hr]
          refine ⟨hc.2.2.1 _ (by omega), h.simple rfl rfl rfl (fun q hq => u2_row I (j - 10) c (by omega)) ⟨rfl, rfl, rfl, rfl, fun q h1 h2 => u2_row Z (j - 10) c (by omega)⟩ h.mb h.kn' h.tp ⟨hc.1, hc.2.1, fun f hf => ?_, hc.2.2.2.1, hc.2.2.2.2.1, fun f hf => ?_⟩ h.mv⟩
          · by_cases hfj : f = j - 10
            · rw [hfj]; exact (u2_same I 15 (j - 10) c).trans (u2_same Z 42 (j - 10) c).symm
            · exact (u2_col I 15 c hfj).trans ((hc.2.2.1 f hf).trans (u2_col Z 42 c hfj).symm)
          · by_cases hfj : f = j - 10
            · rw [hfj]; show bN (u2 Z 42 (j - 10) c 42 (j - 10)) 1000; rw [u2_same]; exact nc 1000 (by decide) hr
            · show bN (u2 Z 42 (j - 10) c 42 f) 1000; rw [u2_col _ _ _ hfj]; exact hc.2.2.2.2.2 f hf
        · rw [if_neg hr, if_neg hr]; exact ⟨rfl, h⟩
end MUT1
