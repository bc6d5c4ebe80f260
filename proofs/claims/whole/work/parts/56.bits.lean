section BTS
theorem sh1_bv : ∀ k, k < 64 → (sh1 (nI k)).toBitVec = BitVec.twoPow 64 k := by decide +kernel
theorem bit_tst (x : Int64) {k : Nat} (hk : k < 64) : decide (x &&& sh1 (nI k) = sh1 (nI k)) = x.toBitVec.getLsbD k := by
  have e : (x &&& sh1 (nI k) = sh1 (nI k)) ↔ (x.toBitVec &&& BitVec.twoPow 64 k = BitVec.twoPow 64 k) := by
    rw [← Int64.toBitVec_inj, Int64.toBitVec_and, sh1_bv k hk]
  cases h : x.toBitVec.getLsbD k with
  | true => exact decide_eq_true (e.mpr (by rw [BitVec.and_twoPow, h]; rfl))
  | false =>
    refine decide_eq_false (fun z => ?_)
    have z1 := e.mp z
    rw [BitVec.and_twoPow, h] at z1
    have z2 : (0#64).getLsbD k = (BitVec.twoPow 64 k).getLsbD k := by rw [← z1]; rfl
    rw [BitVec.getLsbD_twoPow, BitVec.getLsbD_zero] at z2
    simp [hk] at z2
theorem w24 : ((nI 24).toInt64 &&& 63).toBitVec.smod 64 = 24#64 := by decide
theorem bit_w {w c : Nat} (hc : c < 40) : ((nI w).toInt64 <<< ((nI 24).toInt64 &&& 63)).toBitVec.getLsbD c = (decide (24 ≤ c) && w.testBit (c - 24)) := by
  rw [Int64.toBitVec_shiftLeft, w24, BitVec.shiftLeft_eq', show (24#64).toNat = 24 from rfl, BitVec.getLsbD_shiftLeft, Int32.toBitVec_toInt64, BitVec.getLsbD_signExtend]
  have e1 : decide (c < 64) = true := decide_eq_true (by omega)
  by_cases h : 24 ≤ c
  · rw [decide_eq_true h, decide_eq_false (by omega : ¬ c < 24), e1, decide_eq_true (by omega : c - 24 < 64), if_pos (by omega : c - 24 < 32), show (nI w).toBitVec = BitVec.ofNat 32 w from rfl, BitVec.getLsbD_ofNat, decide_eq_true (by omega : c - 24 < 32)]
    rfl
  · rw [decide_eq_false h, decide_eq_true (by omega : c < 24)]
    simp
theorem bit_1 {k c : Nat} (hk : k < 64) : (sh1 (nI k)).toBitVec.getLsbD c = decide (k = c) := by
  rw [sh1_bv k hk, BitVec.getLsbD_twoPow, decide_eq_true hk, Bool.true_and]
theorem mark_n {f w c : Nat} (hf : f < 16) (hc : c < 40) : decide (cMark (nI f) (-1) (nI w) &&& sh1 (nI c) = sh1 (nI c)) = (decide (f = c) || (decide (24 ≤ c) && w.testBit (c - 24))) := by
  rw [bit_tst _ (by omega), cMark, if_pos rfl, Int64.toBitVec_or, BitVec.getLsbD_or, nI_add, bit_w hc, bit_1 (by omega), Nat.zero_add]
theorem mark_l {f l w c : Nat} (hf : f < 16) (hl : l < 8) (hc : c < 40) : decide (cMark (nI f) (nI l) (nI w) &&& sh1 (nI c) = sh1 (nI c)) = (decide (f = c) || (decide (24 ≤ c) && w.testBit (c - 24)) || decide (16 + l = c)) := by
  rw [bit_tst _ (by omega), cMark, if_neg (fun z => absurd (show nI l < 0 by rw [z]; decide) (nI_pos (by omega))), Int64.toBitVec_or, BitVec.getLsbD_or, Int64.toBitVec_or, BitVec.getLsbD_or, nI_add, nI_add, bit_w hc, bit_1 (by omega), bit_1 (by omega), Nat.zero_add]
theorem sm_j : ∀ j, j < 16 → ((nI j &&& 31).toBitVec.smod 32).toNat = j := by decide +kernel
theorem wrd_b {w j : Nat} (hw : w < 65536) (hj : j < 16) : decide (((nI w >>> (nI j &&& 31)) &&& nI 1) = nI 1) = w.testBit j := by
  have hd : w / 2 ^ j ≤ w := Nat.div_le_self _ _
  rw [pk_shrN (by omega) _ j (sm_j j hj), pk_andN (by omega) 1 (by decide), Nat.testBit_eq_decide_div_mod_eq]
  exact decide_eq_decide.mpr (nI_eq (by omega) (by decide))
variable {I Z : II} {J : JJ}
theorem dn_lt (x y_ : Int32) : decide (x < y_) = decide (¬ y_ ≤ x) := decide_eq_decide.mpr Int32.not_le.symm
/-- a LETTER passes a CODE alike -/
theorem pass_eq {l i c : Nat} (h1 : I l 1 = Z 25 i) (hj : J l 0 = cMark (Z 23 i) (Z 24 i) (Z 26 i)) (hf : (rgl (Z 23 i) 0 16).isSome = true) (hl : (decide (Z 24 i = -1) || (rgl (Z 24 i) 0 8).isSome) = true) (hw : (rgl (Z 26 i) 0 65536).isSome = true) (hc : okCd c) : cPs I J l (nI c) = mPass Z i (nI c) := by
  have hc2 : c < 2100 := by rcases hc with h | h <;> omega
  have le : ∀ a, a < 2100 → (nI a ≤ nI c ↔ a ≤ c) := fun a ha => nI_leI (by omega) (by omega)
  unfold cPs mPass
  simp only [le 1100 (by omega), le 100 (by omega), le 16 (by omega), le 24 (by omega), le 40 (by omega), h1, hj]
  by_cases g1 : 1100 ≤ c
  · rw [if_pos g1, if_pos (by omega), if_pos (by omega), if_pos (by omega), if_pos g1, dn_lt]
  · rw [if_neg g1]
    by_cases g2 : 100 ≤ c
    · rw [if_pos g2, if_pos (by omega), if_pos (by omega), if_pos (by omega), if_neg g1, dn_lt]
    · have c40 : c < 40 := by rcases hc with h | h <;> omega
      rw [if_neg g2, if_neg (by omega : ¬ 40 ≤ c)]
      obtain ⟨f, hf'⟩ := Option.isSome_iff_exists.mp hf
      obtain ⟨w, hw'⟩ := Option.isSome_iff_exists.mp hw
      obtain ⟨ef, -, f16⟩ := rgl_some hf'
      obtain ⟨ew, -, w16⟩ := rgl_some hw'
      rw [ef, ew]
      rw [Bool.or_eq_true, decide_eq_true_eq] at hl
      have key : ∀ b : Bool, (16 ≤ c → c < 24 → decide (Z 24 i = nI c - nI 16) = b) → (c < 16 ∨ 24 ≤ c → b = false) → (decide (f = c) || (decide (24 ≤ c) && w.testBit (c - 24)) || b) = if 16 ≤ c then (if 24 ≤ c then decide (((nI w >>> ((nI c - nI 24) &&& 31)) &&& nI 1) = nI 1) else decide (Z 24 i = nI c - nI 16)) else decide (nI f = nI c) := fun b k1 k2 => by
        by_cases g3 : 16 ≤ c
        · rw [if_pos g3, decide_eq_false (by omega : ¬ f = c), Bool.false_or]
          by_cases g4 : 24 ≤ c
          · rw [if_pos g4, k2 (Or.inr g4), Bool.or_false, decide_eq_true g4, Bool.true_and, pk_sub g4, wrd_b w16 (by omega)]
          · rw [if_neg g4, decide_eq_false g4, Bool.false_and, Bool.false_or, k1 g3 (by omega)]
        · rw [if_neg g3, k2 (Or.inl (by omega)), decide_eq_false (by omega : ¬ 24 ≤ c), Bool.false_and, Bool.or_false, Bool.or_false]
          exact decide_eq_decide.mpr (nI_eq (by omega) (by omega)).symm
      rcases hl with hl | hl
      · rw [hl, mark_n f16 c40, ← Bool.or_false (decide (f = c) || (decide (24 ≤ c) && w.testBit (c - 24)))]
        rw [← hl]
        refine key false (fun g3 g4 => ?_) (fun _ => rfl)
        rw [hl, pk_sub g3]
        exact decide_eq_false (fun z => absurd (show nI (c - 16) < 0 by rw [← z]; decide) (nI_pos (by omega)))
      · obtain ⟨k, hk⟩ := Option.isSome_iff_exists.mp hl
        obtain ⟨ek, -, k8⟩ := rgl_some hk
        rw [ek, mark_l f16 k8 c40]
        rw [← ek]
        refine key _ (fun g3 g4 => ?_) (fun g => decide_eq_false (by omega))
        rw [ek, pk_sub g3]
        exact decide_eq_decide.mpr ((nI_eq (by omega) (by omega)).trans (by omega))
end BTS
