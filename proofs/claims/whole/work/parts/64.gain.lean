section GAIN
variable {G : GG} {n : Nat} {kd : KD} {I Z : II} {R : RR} {J : JJ} {em K cap hm : Nat} {u : Nat → Int32} {kn : Nat → Nat} {key : Nat → Key}
theorem cnt_sub {q p' p : Nat → Bool} : ∀ {N : Nat}, (∀ k, k < N → q k = true → p' (cnt q k) = p k) → cnt p' (cnt q N) = cnt (fun k => q k && p k) N
  | 0, _ => rfl
  | N + 1, h => by
    have ih := cnt_sub (q := q) (p' := p') (p := p) (N := N) (fun k hk => h k (by omega))
    cases hq : q N with
    | false => rw [cnt_no hq, Nat.add_zero, ih, cnt_no (by rw [hq, Bool.false_and]), Nat.add_zero]
    | true =>
      rw [cnt_yes hq, cnt, ih, cnt, h N (Nat.lt_succ_self N) hq, hq, Bool.true_and]
theorem cnt_split (p q : Nat → Bool) : ∀ N, cnt p N = cnt (fun k => p k && q k) N + cnt (fun k => p k && !q k) N
  | 0 => rfl
  | N + 1 => by
    rw [cnt, cnt, cnt, cnt_split p q N]
    cases p N <;> cases q N <;> simp <;> omega
theorem cnt_imp {p q : Nat → Bool} (h : ∀ k, p k = true → q k = true) : ∀ N, cnt p N ≤ cnt q N
  | 0 => Nat.le_refl _
  | N + 1 => by
    have ih := cnt_imp h N
    rw [cnt, cnt]
    cases hp : p N with
    | false => simp; omega
    | true => rw [h N hp]; omega
theorem sumF_add (f g : Nat → Nat) : ∀ m, sumF (fun k => f k + g k) m = sumF f m + sumF g m
  | 0 => rfl
  | m + 1 => by rw [sumF, sumF, sumF, sumF_add f g m]; omega
theorem one_of : ∀ g0, g0 < 8 → sumF (fun g => if decide (nI g0 = nI g) = true then 1 else 0) 8 = 1 := by decide +kernel
theorem cnt_part {p : Nat → Bool} {b : Nat → Int32} : ∀ {N : Nat}, (∀ k, k < N → p k = true → bN (b k) 7) → cnt p N = sumF (fun g => cnt (fun k => p k && decide (b k = nI g)) N) 8
  | 0, _ => rfl
  | N + 1, h => by
    have ih := cnt_part (p := p) (b := b) (N := N) (fun k hk => h k (by omega))
    have e : sumF (fun g => cnt (fun k => p k && decide (b k = nI g)) (N + 1)) 8 = sumF (fun g => cnt (fun k => p k && decide (b k = nI g)) N) 8 + sumF (fun g => if (p N && decide (b N = nI g)) = true then 1 else 0) 8 := sumF_add _ _ 8
    rw [e, ← ih, cnt]
    congr 1
    cases hp : p N with
    | false => simp [sumF]
    | true =>
      obtain ⟨g0, h1, h2⟩ := h N (Nat.lt_succ_self N) hp
      rw [h2]
      simp only [Bool.true_and]
      rw [one_of g0 (by omega)]
      rfl
theorem two_bits (x : Int64) {a b : Nat} (ha : a < 64) (hb : b < 64) : decide (x &&& (sh1 (nI a) ||| sh1 (nI b)) = (sh1 (nI a) ||| sh1 (nI b))) = (decide (x &&& sh1 (nI a) = sh1 (nI a)) && decide (x &&& sh1 (nI b) = sh1 (nI b))) := by
  rw [bit_tst x ha, bit_tst x hb]
  have e : (x &&& (sh1 (nI a) ||| sh1 (nI b)) = (sh1 (nI a) ||| sh1 (nI b))) ↔ (x.toBitVec &&& (BitVec.twoPow 64 a ||| BitVec.twoPow 64 b) = (BitVec.twoPow 64 a ||| BitVec.twoPow 64 b)) := by
    rw [← Int64.toBitVec_inj, Int64.toBitVec_and, Int64.toBitVec_or, sh1_bv a ha, sh1_bv b hb]
  have bt : ∀ i, (BitVec.twoPow 64 a ||| BitVec.twoPow 64 b).getLsbD i = (decide (a = i) || decide (b = i)) := fun i => by
    rw [BitVec.getLsbD_or, BitVec.getLsbD_twoPow, BitVec.getLsbD_twoPow, decide_eq_true ha, decide_eq_true hb, Bool.true_and, Bool.true_and]
  rw [← Bool.decide_coe (x.toBitVec.getLsbD a && x.toBitVec.getLsbD b)]
  refine decide_eq_decide.mpr (e.trans ⟨fun z => ?_, fun z => ?_⟩)
  · have za := congrArg (fun v => v.getLsbD a) z
    have zb := congrArg (fun v => v.getLsbD b) z
    simp only [BitVec.getLsbD_and, bt] at za zb
    simp at za zb
    simp [za, zb]
  · refine BitVec.eq_of_getLsbD_eq (fun i hi => ?_)
    rw [BitVec.getLsbD_and, bt]
    rw [Bool.and_eq_true] at z
    by_cases h1 : a = i
    · subst h1; rw [z.1]; simp
    · by_cases h2 : b = i
      · subst h2; rw [z.2]; simp
      · simp [h1, h2]
/-- the open LETTERS of both -/
def OpR (I : II) (R : RR) (Z : II) (m : Nat) : Prop := I 16 11 = nI m ∧ m = cnt (mOpen Z) (mN Z) ∧ ∀ k, k < mN Z → mOpen Z k = true → R 19 (cnt (mOpen Z) k) = R 9 k
theorem mark_pass (h : Core G em n kd I R J Z u K cap hm kn key) {k a : Nat} {o : Option Nat} (hk : k < mN Z) (ha : a < 40) (ho : ∀ b, o = some b → b < 40) : decide (J (rc G R 9 k) 0 &&& mkW a o = mkW a o) = mPassO Z k a o := by
  have hl := (h.le.2.1 k hk).2.ps
  have one : ∀ c, c < 40 → decide (J (rc G R 9 k) 0 &&& sh1 (nI c) = sh1 (nI c)) = mPass Z k (nI c) := fun c hc => by
    rw [← pass_eq hl.1 hl.2.1 hl.2.2.1 hl.2.2.2.1 hl.2.2.2.2 (Or.inl hc)]
    unfold cPs
    rw [if_neg (fun z => absurd ((nI_leI (by decide) (by omega)).mp z) (by omega)), if_neg (fun z => absurd ((nI_leI (by decide) (by omega)).mp z) (by omega))]
  unfold mPassO
  cases o with
  | none =>
    rw [Bool.and_true]
    exact one a ha
  | some b =>
    have hb := ho b rfl
    exact (two_bits _ (by omega) (by omega)).trans (by rw [one a ha, one b hb])
def tT (Z : II) (a : Nat) (o : Option Nat) : Nat := cnt (fun k => mOpen Z k && mPassO Z k a o) (mN Z)
theorem open_rc {m : Nat} (hO : OpR I R Z m) {k : Nat} (hk : k < mN Z) (hq : mOpen Z k = true) : rc G R 19 (cnt (mOpen Z) k) = rc G R 9 k := by unfold rc; rw [hO.2.2 k hk hq]
theorem tal_T (h : Core G em n kd I R J Z u K cap hm kn key) {m : Nat} (hO : OpR I R Z m) {a : Nat} {o : Option Nat} (ha : a < 40) (ho : ∀ b, o = some b → b < 40) : cnt (tlP G R J (mkW a o)) m = tT Z a o := by
  rw [hO.2.1]
  exact cnt_sub (fun k hk hq => by unfold tlP; rw [open_rc hO hk hq, mark_pass h hk ha ho])
theorem tal_G (h : Core G em n kd I R J Z u K cap hm kn key) {m : Nat} (hO : OpR I R Z m) {a : Nat} {o : Option Nat} (ha : a < 40) (ho : ∀ b, o = some b → b < 40) (g : Nat) : cnt (tlG G I R J (mkW a o) g) m = mThere Z a o g := by
  rw [hO.2.1]
  exact cnt_sub (fun k hk hq => by unfold tlG tlP; rw [open_rc hO hk hq, mark_pass h hk ha ho, (h.le.2.1 k hk).2.2.2.2.2.1])
theorem tT_sum (hOp : okOpen Z) (a : Nat) (o : Option Nat) : tT Z a o = sumF (mThere Z a o) 8 := by
  unfold tT
  rw [cnt_part (b := Z 31) (fun k hk hp => hOp k hk (by rw [Bool.and_eq_true] at hp; exact hp.1))]
  refine sumF_cong (fun g hg => cnt_cong (fun k hk => ?_))
  unfold mTP
  rw [Bool.and_assoc]
theorem nI1 : nI 1 = 1 := rfl
theorem nI0 : nI 0 = 0 := rfl
theorem gs_eq (hOp : okOpen Z) {a f : Nat} {o : Option Nat} (hf : f < 8) : mGs Z a o f 8 = Z 42 0 * (nI (tT Z a o) - nI (mThere Z a o 0)) - Z 42 f * (nI (tT Z a o) - nI (mThere Z a o f)) - (Z 22 23 + nI (oC o) * Z 22 24) := by
  have e : nI (tT Z a o) = nI (mThere Z a o 0) + nI (mThere Z a o 1) + nI (mThere Z a o 2) + nI (mThere Z a o 3) + nI (mThere Z a o 4) + nI (mThere Z a o 5) + nI (mThere Z a o 6) + nI (mThere Z a o 7) := by
    rw [tT_sum hOp, nI_add, nI_add, nI_add, nI_add, nI_add, nI_add, nI_add]
    simp only [sumF, Nat.zero_add]
  rw [e]
  simp only [mGs, mWrong]
  match f, hf with
  | 0, _ => simp only [nI0]; grind
  | 1, _ => simp [nI0]; grind
  | 2, _ => simp [nI0]; grind
  | 3, _ => simp [nI0]; grind
  | 4, _ => simp [nI0]; grind
  | 5, _ => simp [nI0]; grind
  | 6, _ => simp [nI0]; grind
  | 7, _ => simp [nI0]; grind
end GAIN
