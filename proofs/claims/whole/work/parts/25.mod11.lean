section MOD11
variable {G : GG} {n sz : Nat} {kd : Nat → AKd} {I : Nat → Nat → Int32} {R : Nat → Nat → Option Nat} {J : Nat → Nat → Int64}
theorem u2_u2 (f : Nat → Nat → Int32) (r j : Nat) (x z : Int32) : u2 (u2 f r j x) r j z = u2 f r j z := by
  funext a b
  unfold u2
  split
  · split <;> rfl
  · rfl
theorem u2_sw (f : Nat → Nat → Int32) {r j r' j' : Nat} (x z : Int32) (h : r ≠ r' ∨ j ≠ j') : u2 (u2 f r j x) r' j' z = u2 (u2 f r' j' z) r j x := by
  funext a b
  unfold u2
  by_cases h1 : a = r <;> by_cases h2 : a = r' <;> by_cases h3 : b = j <;> by_cases h4 : b = j' <;> simp [h1, h2, h3, h4]
  all_goals first | rfl | (subst h1; subst h3; rcases h with h | h <;> first | exact absurd h2 h | exact absurd h4 h | simp [*]) | skip
  all_goals (rcases h with h | h <;> simp_all)
def wr (I : Nat → Nat → Int32) (m : Nat) : Nat → Nat → Int32 := fun r c => if r = 51 then (if c < m then I 37 c else I r c) else I r c
theorem wr_0 (I : Nat → Nat → Int32) : wr I 0 = I := by
  funext a b
  unfold wr
  simp
theorem wr_s (I : Nat → Nat → Int32) (m : Nat) : u2 (wr I m) 51 m (I 37 m) = wr I (m + 1) := by
  funext a b
  unfold u2 wr
  by_cases ha : a = 51
  · subst ha
    by_cases hb : b = m
    · subst hb; simp
    · simp only [if_true, if_neg hb]
      by_cases hlt : b < m
      · rw [if_pos hlt, if_pos (by omega)]
      · rw [if_neg hlt, if_neg (by omega)]
  · simp [ha]
theorem mT_self (I : Nat → Nat → Int32) : mT I (I 50) = I := by
  funext a b
  unfold mT
  split
  · rename_i h; rw [h]
  · rfl
def opn (I : Nat → Nat → Int32) (k : Nat) : Bool := !decide (I 31 k = -1) && !mFitsHand I k
def pcs (I : Nat → Nat → Int32) : Nat → Int32
  | 0 => nI 0
  | i + 1 => if opn I i then pcs I i + mWrong I 0 (tn (I 31 i)) else pcs I i
def mI2 (I : Nat → Nat → Int32) : Nat → Nat → Int32 := u2 (u2 (u2 (wr I (mL I)) 22 16 (nI 0)) 22 43 (nI 0)) 22 42 (nI 0)
def mI3 (I : Nat → Nat → Int32) (i : Nat) : Nat → Nat → Int32 := u2 (u2 (fO (mI2 I) (opn I) i) 22 43 (nI (cnt (opn I) i))) 22 42 (pcs I i)
theorem mI3_0 (I : Nat → Nat → Int32) : mI3 I 0 = mI2 I := by
  unfold mI3
  rw [fO_0]
  show u2 (u2 (mI2 I) 22 43 (mI2 I 22 43)) 22 42 (mI2 I 22 42) = _
  rw [u2_id, u2_id]
theorem mI3_o (I : Nat → Nat → Int32) (i : Nat) : u2 (mI3 I i) 49 i (bi (opn I i)) = u2 (u2 (fO (mI2 I) (opn I) (i + 1)) 22 43 (nI (cnt (opn I) i))) 22 42 (pcs I i) := by
  unfold mI3
  rw [u2_sw _ _ _ (Or.inl (by decide)), u2_sw (fO (mI2 I) (opn I) i) _ _ (Or.inl (by decide)), fO_s]
theorem mI3_B (hB : MB I) (i : Nat) : MB (mI3 I i) := ⟨hB.1, bN_nI (Nat.zero_le 6), hB.2.2⟩
def pickO (x : Int32) : Option Nat := if x < 0 then none else some (tn x)
theorem pickO_oI {o : Option Nat} (h : ∀ b, o = some b → b < 2 ^ 31) : pickO (oI o) = o := by
  cases o with
  | none => rfl
  | some b =>
    show (if nI b < 0 then none else some (tn (nI b))) = some b
    rw [if_neg (nI_pos (h b rfl))]
    exact congrArg some (tn_nI (h b rfl))
def mStep (I : Nat → Nat → Int32) (t : Bst) : Nat → Nat → Int32 := u2 (mAdds (wB I t) (tn t.2.1) (pickO t.2.2.1) (tn t.2.2.2)) 22 41 (mAdds (wB I t) (tn t.2.1) (pickO t.2.2.1) (tn t.2.2.2) 22 41 - t.1)
def mLoop : Nat → (Nat → Nat → Int32) → Nat → Nat → Int32
  | 0, I => I
  | d + 1, I => if 0 < (mLooks I).1 then mLoop d (mStep I (mLooks I)) else wB I (mLooks I)
def okT (t : Bst) : Prop := 0 < t.1 → ∃ a o f, a < 40 ∧ (∀ b, o = some b → a < b ∧ b < 40) ∧ f < 8 ∧ t.2.1 = nI a ∧ t.2.2.1 = oI o ∧ t.2.2.2 = nI f
theorem okT_bs {a : Nat} {o : Option Nat} {t : Bst} (ha : a < 40) (ho : ∀ b, o = some b → a < b ∧ b < 40) (ht : okT t) : ∀ m, m ≤ 8 → okT (mBs I a o t m)
  | 0, _ => ht
  | m + 1, h => by
    rw [mBs, mUpd]
    split
    · exact fun _ => ⟨a, o, m, ha, ho, by omega, rfl, rfl, rfl⟩
    · exact okT_bs ha ho ht m (by omega)
theorem okT_l1 {t : Bst} (ht : okT t) : ∀ m, m ≤ 40 → okT (mL1 I t m)
  | 0, _ => ht
  | m + 1, h => okT_bs (by omega) (fun b hb => by cases hb) (okT_l1 ht m (by omega)) 8 (Nat.le_refl 8)
theorem okT_l2r {a : Nat} {t : Bst} (ht : okT t) (ha : a < 40) : ∀ m, m ≤ 39 - a → okT (mL2r I a t m)
  | 0, _ => ht
  | m + 1, h => okT_bs ha (fun b hb => by cases hb; omega) (okT_l2r ht ha m (by omega)) 8 (Nat.le_refl 8)
theorem okT_l2 {t : Bst} (ht : okT t) : ∀ m, m ≤ 40 → okT (mL2 I t m)
  | 0, _ => ht
  | m + 1, h => okT_l2r (okT_l2 ht m (by omega)) (by omega) _ (Nat.le_refl _)
theorem okT_looks : okT (mLooks I) := okT_l2 (okT_l1 (fun h => absurd (show (0 : Int32) < nI 0 from h) (by decide)) 40 (Nat.le_refl _)) 40 (Nat.le_refl _)
theorem mStep_ok (hB : MB I) (hO : okOpen I) (hk : mL I < 6) (h : 0 < (mLooks I).1) : MB (mStep I (mLooks I)) ∧ okOpen (mStep I (mLooks I)) ∧ mL (mStep I (mLooks I)) = mL I + 1 ∧ mN (mStep I (mLooks I)) = mN I := by
  have hB1 : MB (wB I (mLooks I)) := hB
  generalize tn (mLooks I).2.1 = a
  have key : ∀ a o f, MB (mAdds (wB I (mLooks I)) a o f) ∧ okOpen (mAdds (wB I (mLooks I)) a o f) ∧ mL (mAdds (wB I (mLooks I)) a o f) = mL I + 1 ∧ mN (mAdds (wB I (mLooks I)) a o f) = mN I := by
    intro a o f
    have hB7 := mAd7_B hB1 hk a o f
    have eN : mAd7 (wB I (mLooks I)) a o f 22 0 = I 22 0 := by
      unfold mAd7
      split <;> rfl
    have eN2 : mN (mAdds (wB I (mLooks I)) a o f) = mN I := congrArg tn eN
    refine ⟨hB7, ?_, ?_, eN2⟩
    · intro k hk2 ho
      rw [eN2] at hk2
      have e1 : mOpen (mAdds (wB I (mLooks I)) a o f) k = mAdP (mAd7 (wB I (mLooks I)) a o f) (mL (wB I (mLooks I))) k := bi_mOpen _ _ _ hk2
      rw [e1, mAdP, Bool.and_eq_true] at ho
      have e2 : mOpen (mAd7 (wB I (mLooks I)) a o f) k = mOpen I k := by
        unfold mOpen mAd7
        split <;> rfl
      rw [e2] at ho
      have e3 : mAdds (wB I (mLooks I)) a o f 31 k = I 31 k := by
        show mAd7 (wB I (mLooks I)) a o f 31 k = _
        unfold mAd7
        split <;> rfl
      rw [e3]
      exact hO k hk2 ho.1
    · have e5 : mAdds (wB I (mLooks I)) a o f 22 16 = nI (mL I + 1) := rfl
      unfold mL
      rw [e5]
      exact tn_nI (by omega)
  exact key _ _ _
def nwP (I : Nat → Nat → Int32) (L l : Nat) : Bool := !mAmong I (I 37 l) L
def gnP (I : Nat → Nat → Int32) (l : Nat) : Bool := !mIsLearnt I (I 51 l)
def mLrnB (I : Nat → Nat → Int32) : Nat → Nat → Int32 := mLoop 6 (u2 (mI3 I (mN I)) 22 41 (pcs I (mN I)))
def mLearn (I : Nat → Nat → Int32) : Nat → Nat → Int32 := u2 (u2 (u2 (mLrnB I) 22 44 (nI (cnt (nwP (mLrnB I) (mL I)) (mL (mLrnB I))))) 22 45 (nI (cnt (gnP (mLrnB I)) (mL I)))) 22 40 (bi true)
end MOD11
