section MOD8
variable {G : GG} {n sz : Nat} {kd : Nat → AKd} {I : Nat → Nat → Int32} {R : Nat → Nat → Option Nat} {J : Nat → Nat → Int64}
def mFitsHand (I : Nat → Nat → Int32) (k : Nat) : Bool := (fstF (fun h => mth I h && mHandFits I h k) 10).isSome
theorem m_fitsHand (hM : ShM G n kd R) (hB : MB I) {k : Nat} (hk : k < 100) : EX G mX10_fitsHand [.ref (gz G + 22), .int (nI k)] (n, sz, kd, I, R, J) (some (.int (bi (mFitsHand I k)))) (n, sz, kd, I, R, J) := by
  refine mm_of rfl [(0, .ref (gz G + 22)), (1, .int (nI k))] rfl (Nat.le_of_ble_eq_true rfl) ?_
  refine aw_iconst (v := nI 0) dX10_fitsHand_0 (by decide) ?_
  refine aw_istore_n (lv' := [(0, _), (1, _), (2, _)]) dX10_fitsHand_1 rfl (by decide) rfl ?_
  have loop : ∀ d i, i + d = 10 → fstF (fun h => mth I h && mHandFits I h k) i = none → AW G mX10_fitsHand 2 [(0, .ref (gz G + 22)), (1, .int (nI k)), (2, .int (nI i))] [] (n, sz, kd, I, R, J) (fun v' M' => v' = some (.int (bi (mFitsHand I k))) ∧ M' = (n, sz, kd, I, R, J)) := by
    intro d
    induction d with
    | zero =>
      intro i hi ha
      refine aw_iload_n dX10_fitsHand_2 rfl rfl ?_
      refine aw_bipush (v := nI 10) dX10_fitsHand_3 (by decide) ?_
      refine aw_n_ge (tgt := 34) dX10_fitsHand_5 (by decide) rfl rfl (by omega) (by omega) (fun h => ?_) (fun h => ?_)
      · refine aw_iconst (v := nI 0) dX10_fitsHand_34 (by decide) ?_
        refine aw_iret dX10_fitsHand_35 rfl rfl ?_
        exact ⟨by unfold mFitsHand; rw [show 10 = i by omega, ha]; rfl, rfl⟩
      · exact absurd h (by omega)
    | succ d ih =>
      intro i hi ha
      refine aw_iload_n dX10_fitsHand_2 rfl rfl ?_
      refine aw_bipush (v := nI 10) dX10_fitsHand_3 (by decide) ?_
      refine aw_n_ge (tgt := 34) dX10_fitsHand_5 (by decide) rfl rfl (by omega) (by omega) (fun h => ?_) (fun h => ?_)
      · exact absurd h (by omega)
      · refine aw_aload_n dX10_fitsHand_8 rfl rfl (by first | exact isR_ref _ | exact isR_rf _ | exact isR_null) ?_
        refine aw_get dX10_fitsHand_9 fl_X10_37 (sM_kd hM) (sM_n hM) (sM_r_isThere hM _ _) ?_
        refine aw_iload_n dX10_fitsHand_12 rfl rfl ?_
        refine aw_zald dX10_fitsHand_13 (sM_k_isThere hM) (sM_l_isThere hM) (ixm (by omega)) ?_
        refine aw_if_eq (tgt := 28) dX10_fitsHand_14 (by decide) (fun h2 => ?_) (fun h2 => ?_)
        · first | refine aw_iincN (c := 1) (lv' := [(0, _), (1, _), (2, _)]) dX10_fitsHand_28 rfl (by decide) rfl rfl ?_ | refine aw_iinc (v := 1) (lv' := [(0, _), (1, _), (2, _)]) dX10_fitsHand_28 rfl (by decide) (by decide) rfl ?_
          refine aw_goto (tgt := 2) dX10_fitsHand_31 (by decide) ?_
          exact ih (i + 1) (by omega) (by rw [fstF, ha]; simp [mth, h2])
        · refine aw_aload_n dX10_fitsHand_17 rfl rfl (by first | exact isR_ref _ | exact isR_rf _ | exact isR_null) ?_
          refine aw_iload_n dX10_fitsHand_18 rfl rfl ?_
          refine aw_iload_n dX10_fitsHand_19 rfl rfl ?_
          refine aw_cVx (as := [_, _]) dX10_fitsHand_20 lk_X10_173 cm_X10_handFits vi_X10_handFits (by unfold RO; decide) rfl (sM_kd hM) (sM_n hM) rfl rfl rfl (Nat.le_of_ble_eq_true rfl) (m_handFits hM hB (by omega) hk) ?_
          refine aw_b_eq (tgt := 28) dX10_fitsHand_23 (by decide) rfl (fun h3 => ?_) (fun h3 => ?_)
          · first | refine aw_iincN (c := 1) (lv' := [(0, _), (1, _), (2, _)]) dX10_fitsHand_28 rfl (by decide) rfl rfl ?_ | refine aw_iinc (v := 1) (lv' := [(0, _), (1, _), (2, _)]) dX10_fitsHand_28 rfl (by decide) (by decide) rfl ?_
            refine aw_goto (tgt := 2) dX10_fitsHand_31 (by decide) ?_
            exact ih (i + 1) (by omega) (by rw [fstF, ha]; simp [h3])
          · refine aw_iconst (v := nI 1) dX10_fitsHand_26 (by decide) ?_
            refine aw_iret dX10_fitsHand_27 rfl rfl ?_
            have e : fstF (fun h => mth I h && mHandFits I h k) (i + 1) = some i := by rw [fstF, ha]; simp [mth, h2, h3]
            have e2 := fstF_stay e d
            rw [show i + 1 + d = 10 by omega] at e2
            exact ⟨by unfold mFitsHand; rw [e2]; rfl, rfl⟩
  exact loop 10 0 rfl rfl
def mAmong (I : Nat → Nat → Int32) (x : Int32) (m : Nat) : Bool := (fstF (fun k => decide (I 51 k = x)) m).isSome
theorem m_isAmong (hM : ShM G n kd R) (x : Int32) {m : Nat} (hm : m ≤ 6) : EX G mX10_isAmong [.ref (gz G + 22), .int x, .int (nI m)] (n, sz, kd, I, R, J) (some (.int (bi (mAmong I x m)))) (n, sz, kd, I, R, J) := by
  refine mm_of rfl [(0, .ref (gz G + 22)), (1, .int x), (2, .int (nI m))] rfl (Nat.le_of_ble_eq_true rfl) ?_
  refine aw_iconst (v := nI 0) dX10_isAmong_0 (by decide) ?_
  refine aw_istore_n (lv' := [(0, _), (1, _), (2, _), (3, _)]) dX10_isAmong_1 rfl (by decide) rfl ?_
  have loop : ∀ d i, i + d = m → fstF (fun k => decide (I 51 k = x)) i = none → AW G mX10_isAmong 2 [(0, .ref (gz G + 22)), (1, .int x), (2, .int (nI m)), (3, .int (nI i))] [] (n, sz, kd, I, R, J) (fun v' M' => v' = some (.int (bi (mAmong I x m))) ∧ M' = (n, sz, kd, I, R, J)) := by
    intro d
    induction d with
    | zero =>
      intro i hi ha
      refine aw_iload_n dX10_isAmong_2 rfl rfl ?_
      refine aw_iload_n dX10_isAmong_3 rfl rfl ?_
      refine aw_n_ge (tgt := 25) dX10_isAmong_4 (by decide) rfl rfl (by omega) (by omega) (fun h => ?_) (fun h => ?_)
      · refine aw_iconst (v := nI 0) dX10_isAmong_25 (by decide) ?_
        refine aw_iret dX10_isAmong_26 rfl rfl ?_
        exact ⟨by unfold mAmong; rw [show m = i by omega, ha]; rfl, rfl⟩
      · exact absurd h (by omega)
    | succ d ih =>
      intro i hi ha
      refine aw_iload_n dX10_isAmong_2 rfl rfl ?_
      refine aw_iload_n dX10_isAmong_3 rfl rfl ?_
      refine aw_n_ge (tgt := 25) dX10_isAmong_4 (by decide) rfl rfl (by omega) (by omega) (fun h => ?_) (fun h => ?_)
      · exact absurd h (by omega)
      · refine aw_aload_n dX10_isAmong_7 rfl rfl (by first | exact isR_ref _ | exact isR_rf _ | exact isR_null) ?_
        refine aw_get dX10_isAmong_8 fl_X10_103 (sM_kd hM) (sM_n hM) (sM_r_were hM _ _) ?_
        refine aw_iload_n dX10_isAmong_11 rfl rfl ?_
        refine aw_iald dX10_isAmong_12 (sM_k_were hM) (sM_l_were hM) (ixm (by omega)) ?_
        refine aw_iload_n dX10_isAmong_13 rfl rfl ?_
        refine aw_icmp_ne (tgt := 19) dX10_isAmong_14 (by decide) (fun h2 => ?_) (fun h2 => ?_)
        · first | refine aw_iincN (c := 1) (lv' := [(0, _), (1, _), (2, _), (3, _)]) dX10_isAmong_19 rfl (by decide) rfl rfl ?_ | refine aw_iinc (v := 1) (lv' := [(0, _), (1, _), (2, _), (3, _)]) dX10_isAmong_19 rfl (by decide) (by decide) rfl ?_
          refine aw_goto (tgt := 2) dX10_isAmong_22 (by decide) ?_
          exact ih (i + 1) (by omega) (by rw [fstF, ha]; simp [h2])
        · refine aw_iconst (v := nI 1) dX10_isAmong_17 (by decide) ?_
          refine aw_iret dX10_isAmong_18 rfl rfl ?_
          have e : fstF (fun k => decide (I 51 k = x)) (i + 1) = some i := by rw [fstF, ha]; simp [h2]
          have e2 := fstF_stay e d
          rw [show i + 1 + d = m by omega] at e2
          exact ⟨by unfold mAmong; rw [e2]; rfl, rfl⟩
  exact loop _ 0 (Nat.zero_add _) rfl
def mIsLearnt (I : Nat → Nat → Int32) (x : Int32) : Bool := (fstF (fun k => decide (I 37 k = x)) (mL I)).isSome
theorem m_isLearnt (hM : ShM G n kd R) (hB : MB I) (x : Int32) : EX G mX10_isLearnt [.ref (gz G + 22), .int x] (n, sz, kd, I, R, J) (some (.int (bi (mIsLearnt I x)))) (n, sz, kd, I, R, J) := by
  refine mm_of rfl [(0, .ref (gz G + 22)), (1, .int x)] rfl (Nat.le_of_ble_eq_true rfl) ?_
  have hL6 : mL I ≤ 6 := hB.2.1.le
  have hL : I 22 16 = nI (mL I) := hB.2.1.eq
  refine aw_iconst (v := nI 0) dX10_isLearnt_0 (by decide) ?_
  refine aw_istore_n (lv' := [(0, _), (1, _), (2, _)]) dX10_isLearnt_1 rfl (by decide) rfl ?_
  have loop : ∀ d i, i + d = mL I → fstF (fun k => decide (I 37 k = x)) i = none → AW G mX10_isLearnt 2 [(0, .ref (gz G + 22)), (1, .int x), (2, .int (nI i))] [] (n, sz, kd, I, R, J) (fun v' M' => v' = some (.int (bi (mIsLearnt I x))) ∧ M' = (n, sz, kd, I, R, J)) := by
    intro d
    induction d with
    | zero =>
      intro i hi ha
      refine aw_iload_n dX10_isLearnt_2 rfl rfl ?_
      refine aw_aload_n dX10_isLearnt_3 rfl rfl (by first | exact isR_ref _ | exact isR_rf _ | exact isR_null) ?_
      refine aw_get dX10_isLearnt_4 fl_X10_163 (sM_kd hM) (sM_n hM) (congrArg Value.int hL) ?_
      refine aw_n_ge (tgt := 28) dX10_isLearnt_7 (by decide) rfl rfl (by omega) (by omega) (fun h => ?_) (fun h => ?_)
      · refine aw_iconst (v := nI 0) dX10_isLearnt_28 (by decide) ?_
        refine aw_iret dX10_isLearnt_29 rfl rfl ?_
        exact ⟨by unfold mIsLearnt; rw [show mL I = i by omega, ha]; rfl, rfl⟩
      · exact absurd h (by omega)
    | succ d ih =>
      intro i hi ha
      refine aw_iload_n dX10_isLearnt_2 rfl rfl ?_
      refine aw_aload_n dX10_isLearnt_3 rfl rfl (by first | exact isR_ref _ | exact isR_rf _ | exact isR_null) ?_
      refine aw_get dX10_isLearnt_4 fl_X10_163 (sM_kd hM) (sM_n hM) (congrArg Value.int hL) ?_
      refine aw_n_ge (tgt := 28) dX10_isLearnt_7 (by decide) rfl rfl (by omega) (by omega) (fun h => ?_) (fun h => ?_)
      · exact absurd h (by omega)
      · refine aw_aload_n dX10_isLearnt_10 rfl rfl (by first | exact isR_ref _ | exact isR_rf _ | exact isR_null) ?_
        refine aw_get dX10_isLearnt_11 fl_X10_53 (sM_kd hM) (sM_n hM) (sM_r_learntName hM _ _) ?_
        refine aw_iload_n dX10_isLearnt_14 rfl rfl ?_
        refine aw_iald dX10_isLearnt_15 (sM_k_learntName hM) (sM_l_learntName hM) (ixm (by omega)) ?_
        refine aw_iload_n dX10_isLearnt_16 rfl rfl ?_
        refine aw_icmp_ne (tgt := 22) dX10_isLearnt_17 (by decide) (fun h2 => ?_) (fun h2 => ?_)
        · first | refine aw_iincN (c := 1) (lv' := [(0, _), (1, _), (2, _)]) dX10_isLearnt_22 rfl (by decide) rfl rfl ?_ | refine aw_iinc (v := 1) (lv' := [(0, _), (1, _), (2, _)]) dX10_isLearnt_22 rfl (by decide) (by decide) rfl ?_
          refine aw_goto (tgt := 2) dX10_isLearnt_25 (by decide) ?_
          exact ih (i + 1) (by omega) (by rw [fstF, ha]; simp [h2])
        · refine aw_iconst (v := nI 1) dX10_isLearnt_20 (by decide) ?_
          refine aw_iret dX10_isLearnt_21 rfl rfl ?_
          have e : fstF (fun k => decide (I 37 k = x)) (i + 1) = some i := by rw [fstF, ha]; simp [h2]
          have e2 := fstF_stay e d
          rw [show i + 1 + d = mL I by omega] at e2
          exact ⟨by unfold mIsLearnt; rw [e2]; rfl, rfl⟩
  exact loop _ 0 (Nat.zero_add _) rfl
/-- the number of a LEARNT RULE: its tests (the second or none), its folder -/
def mNum (a : Nat) (o : Option Nat) (f : Nat) : Nat := match o with
  | none => 8 * a + f
  | some b => 8 * (40 + a * 40 - a * (a + 1) / 2 + b - a - 1) + f
theorem num_ok : ∀ a, a < 40 → a * (a + 1) / 2 ≤ 40 + a * 40 ∧ 40 + a * 40 - a * (a + 1) / 2 ≤ 820 := by decide +kernel
theorem m_numberOf {a f : Nat} {o : Option Nat} (ha : a < 40) (ho : ∀ b, o = some b → a < b ∧ b < 40) (hf : f < 8) (M : Mem) : EX G mX10_numberOf [.int (nI a), .int (oI o), .int (nI f)] M (some (.int (nI (mNum a o f)))) M := by
  refine mm_of rfl [(0, .int (nI a)), (1, .int (oI o)), (2, .int (nI f))] rfl (Nat.le_of_ble_eq_true rfl) ?_
  refine aw_iload_n dX10_numberOf_0 rfl rfl ?_
  cases o with
  | none =>
    refine aw_if_ge (tgt := 8) dX10_numberOf_1 (by decide) (fun h => ?_) (fun h => ?_)
    · exact absurd h (by decide)
    · refine aw_iload_n dX10_numberOf_4 rfl rfl ?_
      refine aw_goto (tgt := 29) dX10_numberOf_5 (by decide) ?_
      refine aw_istore_n (lv' := [(0, _), (1, _), (2, _), (3, _)]) dX10_numberOf_29 rfl (by decide) rfl ?_
      refine aw_bipush (v := nI 8) dX10_numberOf_30 (by decide) ?_
      refine aw_iload_n dX10_numberOf_32 rfl rfl ?_
      first | refine aw_imulN dX10_numberOf_33 ?_ | refine aw_imul dX10_numberOf_33 ?_
      refine aw_iload_n dX10_numberOf_34 rfl rfl ?_
      first | refine aw_iaddN dX10_numberOf_35 ?_ | refine aw_iadd dX10_numberOf_35 ?_
      refine aw_iret dX10_numberOf_36 rfl rfl ?_
      exact ⟨rfl, rfl⟩
  | some b =>
    obtain ⟨hb1, hb2⟩ := ho b rfl
    obtain ⟨hn1, hn2⟩ := num_ok a ha
    refine aw_if_ge (tgt := 8) dX10_numberOf_1 (by decide) (fun h => ?_) (fun h => ?_)
    · refine aw_bipush (v := nI 40) dX10_numberOf_8 (by decide) ?_
      refine aw_iload_n dX10_numberOf_10 rfl rfl ?_
      refine aw_bipush (v := nI 40) dX10_numberOf_11 (by decide) ?_
      first | refine aw_imulN dX10_numberOf_13 ?_ | refine aw_imul dX10_numberOf_13 ?_
      first | refine aw_iaddN dX10_numberOf_14 ?_ | refine aw_iadd dX10_numberOf_14 ?_
      refine aw_iload_n dX10_numberOf_15 rfl rfl ?_
      refine aw_iload_n dX10_numberOf_16 rfl rfl ?_
      refine aw_iconst (v := nI 1) dX10_numberOf_17 (by decide) ?_
      first | refine aw_iaddN dX10_numberOf_18 ?_ | refine aw_iadd dX10_numberOf_18 ?_
      first | refine aw_imulN dX10_numberOf_19 ?_ | refine aw_imul dX10_numberOf_19 ?_
      refine aw_iconst (v := nI 2) dX10_numberOf_20 (by decide) ?_
      refine aw_idiv dX10_numberOf_21 (by decide) ?_
      refine aw_top (pk_div (by
        have h3 : a * (a + 1) ≤ 39 * 40 := Nat.mul_le_mul (by omega) (by omega)
        omega) (by decide) (by decide)) ?_
      refine aw_isubN (by omega) dX10_numberOf_22 ?_
      refine aw_iload_n dX10_numberOf_23 rfl rfl ?_
      first | refine aw_iaddN dX10_numberOf_24 ?_ | refine aw_iadd dX10_numberOf_24 ?_
      refine aw_iload_n dX10_numberOf_25 rfl rfl ?_
      refine aw_isubN (by show a ≤ 40 + a * 40 - a * (a + 1) / 2 + b; omega) dX10_numberOf_26 ?_
      refine aw_iconst (v := nI 1) dX10_numberOf_27 (by decide) ?_
      refine aw_isubN (by show 1 ≤ 40 + a * 40 - a * (a + 1) / 2 + b - a; omega) dX10_numberOf_28 ?_
      refine aw_istore_n (lv' := [(0, _), (1, _), (2, _), (3, _)]) dX10_numberOf_29 rfl (by decide) rfl ?_
      refine aw_bipush (v := nI 8) dX10_numberOf_30 (by decide) ?_
      refine aw_iload_n dX10_numberOf_32 rfl rfl ?_
      first | refine aw_imulN dX10_numberOf_33 ?_ | refine aw_imul dX10_numberOf_33 ?_
      refine aw_iload_n dX10_numberOf_34 rfl rfl ?_
      first | refine aw_iaddN dX10_numberOf_35 ?_ | refine aw_iadd dX10_numberOf_35 ?_
      refine aw_iret dX10_numberOf_36 rfl rfl ?_
      exact ⟨rfl, rfl⟩
    · exact absurd (nI_pos' (by omega)) h
def mCost (I : Nat → Nat → Int32) (x c : Int32) : Int32 × (Nat → Nat → Int32) :=
  if x = nI 0 then (if (rgl c 0 101).isSome then (I 22 23, u2 I 22 23 c) else (-1, I))
  else if x = nI 1 then (if (rgl c 0 101).isSome then (I 22 24, u2 I 22 24 c) else (-1, I))
  else match rgl x 10 18 with
    | none => (-1, I)
    | some j => if (rgl c 0 1001).isSome then (I 42 (j - 10), u2 I 42 (j - 10) c) else (-1, I)
theorem m_cost (hM : ShM G n kd R) (x c : Int32) : EX G mX10_cost [.ref (gz G + 22), .int x, .int c] (n, sz, kd, I, R, J) (some (.int (mCost I x c).1)) (n, sz, kd, (mCost I x c).2, R, J) := by
  refine mm_of rfl [(0, .ref (gz G + 22)), (1, .int x), (2, .int c)] rfl (Nat.le_of_ble_eq_true rfl) ?_
  refine aw_iload_n dX10_cost_0 rfl rfl ?_
  refine aw_bipush (v := nI 10) dX10_cost_1 (by decide) ?_
  refine aw_bipush (v := nI 17) dX10_cost_3 (by decide) ?_
  refine aw_cSx (as := [_, _, _]) dX10_cost_5 lk_X10_156 cm_X10_in sm_X10_in (by unfold RO; decide) rfl rfl (Nat.le_of_ble_eq_true rfl) (m_inN _) ?_
  by_cases c0 : x = nI 0
  · subst c0
    have e : rgl (nI 0) 10 (17 + 1) = none := by decide
    rw [e]
    refine aw_istore_n (lv' := [(0, _), (1, _), (2, _), (3, _)]) dX10_cost_8 rfl (by decide) rfl ?_
    refine aw_iload_n dX10_cost_9 rfl rfl ?_
    refine aw_z_eq (tgt := 22) dX10_cost_10 (by decide) rfl (by omega) (fun h => ?_) (fun h => ?_)
    · refine aw_iload_n dX10_cost_22 rfl rfl ?_
      refine aw_iconst (v := nI 0) dX10_cost_23 (by decide) ?_
      refine aw_iload_n dX10_cost_24 rfl rfl ?_
      refine aw_b_eq (b := false) (tgt := 34) dX10_cost_25 (by decide) rfl (fun h2 => ?_) (fun h2 => by cases h2)
      refine aw_bipush (v := nI 100) dX10_cost_34 (by decide) ?_
      refine aw_cSx (as := [_, _, _]) dX10_cost_36 lk_X10_156 cm_X10_in sm_X10_in (by unfold RO; decide) rfl rfl (Nat.le_of_ble_eq_true rfl) (m_inN _) ?_
      refine aw_b_ne (tgt := 44) dX10_cost_39 (by decide) rfl (fun h3 => ?_) (fun h3 => ?_)
      · refine aw_iload_n dX10_cost_44 rfl rfl ?_
        refine aw_z_ne (tgt := 55) dX10_cost_45 (by decide) rfl (by omega) (fun h4 => ?_) (fun h4 => ?_)
        · exact absurd rfl h4
        · refine aw_aload_n dX10_cost_48 rfl rfl (by first | exact isR_ref _ | exact isR_rf _ | exact isR_null) ?_
          refine aw_get dX10_cost_49 fl_X10_68 (sM_kd hM) (sM_n hM) rfl ?_
          refine aw_goto (tgt := 76) dX10_cost_52 (by decide) ?_
          refine aw_istore (lv' := [(0, _), (1, _), (2, _), (3, _), (4, _)]) dX10_cost_76 (by decide) rfl ?_
          refine aw_iload_n dX10_cost_78 rfl rfl ?_
          refine aw_z_ne (tgt := 90) dX10_cost_79 (by decide) rfl (by omega) (fun h5 => ?_) (fun h5 => ?_)
          · exact absurd rfl h5
          · refine aw_aload_n dX10_cost_82 rfl rfl (by first | exact isR_ref _ | exact isR_rf _ | exact isR_null) ?_
            refine aw_iload_n dX10_cost_83 rfl rfl ?_
            refine aw_putI dX10_cost_84 fl_X10_68 (Or.inl rfl) rfl (sM_kd hM) (sM_n hM) ?_
            refine aw_goto (tgt := 113) dX10_cost_87 (by decide) ?_
            refine aw_iload dX10_cost_113 rfl ?_
            refine aw_iret dX10_cost_115 rfl rfl ?_
            have em : mCost I (nI 0) c = (I 22 23, u2 I 22 23 c) := by unfold mCost; rw [if_pos rfl, show (rgl c 0 101).isSome = true from h3]; rfl
            rw [em]
            exact ⟨rfl, rfl⟩
      · refine aw_iconst (v := (-1)) dX10_cost_42 (by decide) ?_
        refine aw_iret dX10_cost_43 rfl rfl ?_
        have em : mCost I (nI 0) c = (-1, I) := by unfold mCost; rw [if_pos rfl, show (rgl c 0 101).isSome = false from h3]; rfl
        rw [em]
        exact ⟨rfl, rfl⟩
    · exact absurd rfl h
  · by_cases c1 : x = nI 1
    · subst c1
      have e : rgl (nI 1) 10 (17 + 1) = none := by decide
      rw [e]
      refine aw_istore_n (lv' := [(0, _), (1, _), (2, _), (3, _)]) dX10_cost_8 rfl (by decide) rfl ?_
      refine aw_iload_n dX10_cost_9 rfl rfl ?_
      refine aw_if_eq (tgt := 22) dX10_cost_10 (by decide) (fun h => ?_) (fun h => ?_)
      · exact absurd h (by decide)
      · refine aw_iload_n dX10_cost_13 rfl rfl ?_
        refine aw_iconst (v := nI 1) dX10_cost_14 (by decide) ?_
        refine aw_n_eq (tgt := 22) dX10_cost_15 (by decide) rfl rfl (by omega) (by omega) (fun hh => ?_) (fun hh => ?_)
        · refine aw_iload_n dX10_cost_22 rfl rfl ?_
          refine aw_iconst (v := nI 0) dX10_cost_23 (by decide) ?_
          refine aw_iload_n dX10_cost_24 rfl rfl ?_
          refine aw_b_eq (b := false) (tgt := 34) dX10_cost_25 (by decide) rfl (fun h2 => ?_) (fun h2 => by cases h2)
          refine aw_bipush (v := nI 100) dX10_cost_34 (by decide) ?_
          refine aw_cSx (as := [_, _, _]) dX10_cost_36 lk_X10_156 cm_X10_in sm_X10_in (by unfold RO; decide) rfl rfl (Nat.le_of_ble_eq_true rfl) (m_inN _) ?_
          refine aw_b_ne (tgt := 44) dX10_cost_39 (by decide) rfl (fun h3 => ?_) (fun h3 => ?_)
          · refine aw_iload_n dX10_cost_44 rfl rfl ?_
            refine aw_z_ne (tgt := 55) dX10_cost_45 (by decide) rfl (by omega) (fun h4 => ?_) (fun h4 => ?_)
            · refine aw_iload_n dX10_cost_55 rfl rfl ?_
              refine aw_iconst (v := nI 1) dX10_cost_56 (by decide) ?_
              refine aw_n_ne (tgt := 67) dX10_cost_57 (by decide) rfl rfl (by omega) (by omega) (fun h6 => ?_) (fun h6 => ?_)
              · exact absurd rfl h6
              · refine aw_aload_n dX10_cost_60 rfl rfl (by first | exact isR_ref _ | exact isR_rf _ | exact isR_null) ?_
                refine aw_get dX10_cost_61 fl_X10_72 (sM_kd hM) (sM_n hM) rfl ?_
                refine aw_goto (tgt := 76) dX10_cost_64 (by decide) ?_
                refine aw_istore (lv' := [(0, _), (1, _), (2, _), (3, _), (4, _)]) dX10_cost_76 (by decide) rfl ?_
                refine aw_iload_n dX10_cost_78 rfl rfl ?_
                refine aw_z_ne (tgt := 90) dX10_cost_79 (by decide) rfl (by omega) (fun h5 => ?_) (fun h5 => ?_)
                · refine aw_iload_n dX10_cost_90 rfl rfl ?_
                  refine aw_iconst (v := nI 1) dX10_cost_91 (by decide) ?_
                  refine aw_n_ne (tgt := 103) dX10_cost_92 (by decide) rfl rfl (by omega) (by omega) (fun h7 => ?_) (fun h7 => ?_)
                  · exact absurd rfl h7
                  · refine aw_aload_n dX10_cost_95 rfl rfl (by first | exact isR_ref _ | exact isR_rf _ | exact isR_null) ?_
                    refine aw_iload_n dX10_cost_96 rfl rfl ?_
                    refine aw_putI dX10_cost_97 fl_X10_72 (Or.inl rfl) rfl (sM_kd hM) (sM_n hM) ?_
                    refine aw_goto (tgt := 113) dX10_cost_100 (by decide) ?_
                    refine aw_iload dX10_cost_113 rfl ?_
                    refine aw_iret dX10_cost_115 rfl rfl ?_
                    have em : mCost I (nI 1) c = (I 22 24, u2 I 22 24 c) := by unfold mCost; rw [if_neg c0, if_pos rfl, show (rgl c 0 101).isSome = true from h3]; rfl
                    rw [em]
                    exact ⟨rfl, rfl⟩
                · exact absurd h5 (by decide)
            · exact absurd h4 (by decide)
          · refine aw_iconst (v := (-1)) dX10_cost_42 (by decide) ?_
            refine aw_iret dX10_cost_43 rfl rfl ?_
            have em : mCost I (nI 1) c = (-1, I) := by unfold mCost; rw [if_neg c0, if_pos rfl, show (rgl c 0 101).isSome = false from h3]; rfl
            rw [em]
            exact ⟨rfl, rfl⟩
        · exact absurd rfl hh
    · cases e : rgl x 10 (17 + 1) with
      | none =>
        refine aw_istore_n (lv' := [(0, _), (1, _), (2, _), (3, _)]) dX10_cost_8 rfl (by decide) rfl ?_
        refine aw_iload_n dX10_cost_9 rfl rfl ?_
        refine aw_if_eq (tgt := 22) dX10_cost_10 (by decide) (fun h => ?_) (fun h => ?_)
        · exact absurd h c0
        · refine aw_iload_n dX10_cost_13 rfl rfl ?_
          refine aw_iconst (v := nI 1) dX10_cost_14 (by decide) ?_
          refine aw_icmp_eq (tgt := 22) dX10_cost_15 (by decide) (fun hh => ?_) (fun hh => ?_)
          · exact absurd hh c1
          · refine aw_iload_n dX10_cost_18 rfl rfl ?_
            refine aw_b_eq (b := false) (tgt := 42) dX10_cost_19 (by decide) rfl (fun h2 => ?_) (fun h2 => by cases h2)
            refine aw_iconst (v := (-1)) dX10_cost_42 (by decide) ?_
            refine aw_iret dX10_cost_43 rfl rfl ?_
            have em : mCost I x c = (-1, I) := by unfold mCost; rw [if_neg c0, if_neg c1, show rgl x 10 18 = none from e]
            rw [em]
            exact ⟨rfl, rfl⟩
      | some j =>
        obtain ⟨rfl, hj1, hj2⟩ := rgl_some e
        refine aw_istore_n (lv' := [(0, _), (1, _), (2, _), (3, _)]) dX10_cost_8 rfl (by decide) rfl ?_
        refine aw_iload_n dX10_cost_9 rfl rfl ?_
        refine aw_if_eq (tgt := 22) dX10_cost_10 (by decide) (fun h => ?_) (fun h => ?_)
        · exact absurd h c0
        · refine aw_iload_n dX10_cost_13 rfl rfl ?_
          refine aw_iconst (v := nI 1) dX10_cost_14 (by decide) ?_
          refine aw_icmp_eq (tgt := 22) dX10_cost_15 (by decide) (fun hh => ?_) (fun hh => ?_)
          · exact absurd hh c1
          · refine aw_iload_n dX10_cost_18 rfl rfl ?_
            refine aw_b_eq (b := true) (tgt := 42) dX10_cost_19 (by decide) rfl (fun h2 => by cases h2) (fun h2 => ?_)
            refine aw_iload_n dX10_cost_22 rfl rfl ?_
            refine aw_iconst (v := nI 0) dX10_cost_23 (by decide) ?_
            refine aw_iload_n dX10_cost_24 rfl rfl ?_
            refine aw_b_eq (b := true) (tgt := 34) dX10_cost_25 (by decide) rfl (fun h2 => by cases h2) (fun h2 => ?_)
            refine aw_sipush (v := nI 1000) dX10_cost_28 (by decide) ?_
            refine aw_goto (tgt := 36) dX10_cost_31 (by decide) ?_
            refine aw_cSx (as := [_, _, _]) dX10_cost_36 lk_X10_156 cm_X10_in sm_X10_in (by unfold RO; decide) rfl rfl (Nat.le_of_ble_eq_true rfl) (m_inN _) ?_
            refine aw_b_ne (tgt := 44) dX10_cost_39 (by decide) rfl (fun h3 => ?_) (fun h3 => ?_)
            · refine aw_iload_n dX10_cost_44 rfl rfl ?_
              refine aw_if_ne (tgt := 55) dX10_cost_45 (by decide) (fun h4 => ?_) (fun h4 => ?_)
              · refine aw_iload_n dX10_cost_55 rfl rfl ?_
                refine aw_iconst (v := nI 1) dX10_cost_56 (by decide) ?_
                refine aw_icmp_ne (tgt := 67) dX10_cost_57 (by decide) (fun h6 => ?_) (fun h6 => ?_)
                · refine aw_aload_n dX10_cost_67 rfl rfl (by first | exact isR_ref _ | exact isR_rf _ | exact isR_null) ?_
                  refine aw_get dX10_cost_68 fl_X10_75 (sM_kd hM) (sM_n hM) (sM_r_wrongCost hM _ _) ?_
                  refine aw_iload_n dX10_cost_71 rfl rfl ?_
                  refine aw_bipush (v := nI 10) dX10_cost_72 (by decide) ?_
                  refine aw_isubN (by omega) dX10_cost_74 ?_
                  refine aw_iald dX10_cost_75 (sM_k_wrongCost hM) (sM_l_wrongCost hM) (ixm (by omega)) ?_
                  refine aw_istore (lv' := [(0, _), (1, _), (2, _), (3, _), (4, _)]) dX10_cost_76 (by decide) rfl ?_
                  refine aw_iload_n dX10_cost_78 rfl rfl ?_
                  refine aw_if_ne (tgt := 90) dX10_cost_79 (by decide) (fun h5 => ?_) (fun h5 => ?_)
                  · refine aw_iload_n dX10_cost_90 rfl rfl ?_
                    refine aw_iconst (v := nI 1) dX10_cost_91 (by decide) ?_
                    refine aw_icmp_ne (tgt := 103) dX10_cost_92 (by decide) (fun h7 => ?_) (fun h7 => ?_)
                    · refine aw_aload_n dX10_cost_103 rfl rfl (by first | exact isR_ref _ | exact isR_rf _ | exact isR_null) ?_
                      refine aw_get dX10_cost_104 fl_X10_75 (sM_kd hM) (sM_n hM) (sM_r_wrongCost hM _ _) ?_
                      refine aw_iload_n dX10_cost_107 rfl rfl ?_
                      refine aw_bipush (v := nI 10) dX10_cost_108 (by decide) ?_
                      refine aw_isubN (by omega) dX10_cost_110 ?_
                      refine aw_iload_n dX10_cost_111 rfl rfl ?_
                      refine aw_iast dX10_cost_112 (sM_k_wrongCost hM) (sM_l_wrongCost hM) (ixm (by omega)) ?_
                      refine aw_iload dX10_cost_113 rfl ?_
                      refine aw_iret dX10_cost_115 rfl rfl ?_
                      have em : mCost I (nI j) c = (I 42 (j - 10), u2 I 42 (j - 10) c) := by unfold mCost; rw [if_neg c0, if_neg c1, show rgl (nI j) 10 18 = some j from e]; show (if (rgl c 0 1001).isSome = true then _ else _) = _; rw [show (rgl c 0 1001).isSome = true from h3]; rfl
                      rw [em]
                      exact ⟨rfl, rfl⟩
                    · exact absurd h7 c1
                  · exact absurd h5 c0
                · exact absurd h6 c1
              · exact absurd h4 c0
            · refine aw_iconst (v := (-1)) dX10_cost_42 (by decide) ?_
              refine aw_iret dX10_cost_43 rfl rfl ?_
              have em : mCost I (nI j) c = (-1, I) := by unfold mCost; rw [if_neg c0, if_neg c1, show rgl (nI j) 10 18 = some j from e]; show (if (rgl c 0 1001).isSome = true then _ else _) = _; rw [show (rgl c 0 1001).isSome = false from h3]; rfl
              rw [em]
              exact ⟨rfl, rfl⟩
def mByte (v : Int32) (s : Nat) : Int32 := (v >>> (nI s &&& 31)).toInt8.toInt32
def mPut (I : Nat → Nat → Int32) (P : Nat) (b : Int32) : Nat → Nat → Int32 := u2 (u2 I 46 P b) 22 31 (nI (P + 1))
def mFour (I : Nat → Nat → Int32) (P : Nat) (v : Int32) : Nat → Nat → Int32 := mPut (mPut (mPut (mPut I P (mByte v 24)) (P + 1) (mByte v 16)) (P + 2) (mByte v 8)) (P + 3) (mByte v 0)
theorem m_four (hM : ShM G n kd R) {P : Nat} (hT : I 22 31 = nI P) (hP : P + 4 ≤ 100) (v : Int32) : EX G mX10_four [.ref (gz G + 22), .int v] (n, sz, kd, I, R, J) none (n, sz, kd, mFour I P v, R, J) := by
  refine mm_of rfl [(0, .ref (gz G + 22)), (1, .int v)] rfl (Nat.le_of_ble_eq_true rfl) ?_
  have step : ∀ (I : Nat → Nat → Int32) (P s : Nat) (x : Int32), I 22 31 = nI P → P < 100 → s < 25 → x = nI s → ∀ Q, AW G mX10_four 3 [(0, .ref (gz G + 22)), (1, .int v), (2, .int (nI s + (-8)))] [] (n, sz, kd, mPut I P (mByte v s), R, J) Q → AW G mX10_four 3 [(0, .ref (gz G + 22)), (1, .int v), (2, .int x)] [] (n, sz, kd, I, R, J) Q := by
    intro I P s x hT hP hs hx Q K
    subst hx
    refine aw_iload_n dX10_four_3 rfl rfl ?_
    refine aw_z_lt (tgt := 36) dX10_four_4 (by decide) rfl (by omega) ?_
    refine aw_aload_n dX10_four_7 rfl rfl (by first | exact isR_ref _ | exact isR_rf _ | exact isR_null) ?_
    refine aw_get dX10_four_8 fl_X10_87 (sM_kd hM) (sM_n hM) (sM_r_tape hM _ _) ?_
    refine aw_aload_n dX10_four_11 rfl rfl (by first | exact isR_ref _ | exact isR_rf _ | exact isR_null) ?_
    refine aw_get dX10_four_12 fl_X10_106 (sM_kd hM) (sM_n hM) (congrArg Value.int hT) ?_
    refine aw_iload_n dX10_four_15 rfl rfl ?_
    refine aw_iload_n dX10_four_16 rfl rfl ?_
    refine aw_ishr dX10_four_17 ?_
    refine aw_i2b dX10_four_18 ?_
    refine aw_bast dX10_four_19 (sM_k_tape hM) (sM_l_tape hM) (ixm (by omega)) (pk_nb _) ?_
    refine aw_aload_n dX10_four_20 rfl rfl (by first | exact isR_ref _ | exact isR_rf _ | exact isR_null) ?_
    refine aw_dup dX10_four_21 rfl ?_
    refine aw_get dX10_four_22 fl_X10_106 (sM_kd hM) (sM_n hM) (congrArg Value.int hT) ?_
    refine aw_iconst (v := nI 1) dX10_four_25 (by decide) ?_
    first | refine aw_iaddN dX10_four_26 ?_ | refine aw_iadd dX10_four_26 ?_
    refine aw_putI dX10_four_27 fl_X10_106 (Or.inl rfl) rfl (sM_kd hM) (sM_n hM) ?_
    refine aw_iinc (v := (-8)) (lv' := [(0, _), (1, _), (2, _)]) dX10_four_30 rfl (by decide) (by decide) rfl ?_
    refine aw_goto (tgt := 3) dX10_four_33 (by decide) ?_
    exact K
  refine aw_bipush (v := nI 24) dX10_four_0 (by decide) ?_
  refine aw_istore_n (lv' := [(0, _), (1, _), (2, _)]) dX10_four_2 rfl (by decide) rfl ?_
  refine step I P 24 _ hT (by omega) (by decide) rfl _ ?_
  refine step _ (P + 1) 16 _ rfl (by omega) (by decide) (by decide) _ ?_
  refine step _ (P + 2) 8 _ rfl (by omega) (by decide) (by decide) _ ?_
  refine step _ (P + 3) 0 _ rfl (by omega) (by decide) (by decide) _ ?_
  refine aw_iload_n dX10_four_3 rfl rfl ?_
  refine aw_if_lt (tgt := 36) dX10_four_4 (by decide) (fun h => ?_) (fun h => ?_)
  · refine aw_vret dX10_four_36 rfl ?_
    exact ⟨rfl, rfl⟩
  · exact absurd (by decide : nI 0 + (-8) < 0) h
def mFeed (I : Nat → Nat → Int32) (P : Nat) (a b c d e : Int32) : Nat → Nat → Int32 := mFour (mFour (mFour (mFour (mFour I P a) (P + 4) b) (P + 8) c) (P + 12) d) (P + 16) e
theorem m_feed (hM : ShM G n kd R) (hB : MB I) (a b c d e : Int32) : EX G mX10_feed [.ref (gz G + 22), .int a, .int b, .int c, .int d, .int e] (n, sz, kd, I, R, J) (some (.int (if tn (I 22 31) ≤ 80 then nI (tn (I 22 31) + 20) else -1))) (n, sz, kd, if tn (I 22 31) ≤ 80 then mFeed I (tn (I 22 31)) a b c d e else I, R, J) := by
  refine mm_of rfl [(0, .ref (gz G + 22)), (1, .int a), (2, .int b), (3, .int c), (4, .int d), (5, .int e)] rfl (Nat.le_of_ble_eq_true rfl) ?_
  have hT : I 22 31 = nI (tn (I 22 31)) := hB.2.2.2.2.1.eq
  have hT1 : tn (I 22 31) ≤ 100 := hB.2.2.2.2.1.le
  generalize tn (I 22 31) = P at hT hT1 ⊢
  refine aw_aload_n dX10_feed_0 rfl rfl (by first | exact isR_ref _ | exact isR_rf _ | exact isR_null) ?_
  refine aw_get dX10_feed_1 fl_X10_106 (sM_kd hM) (sM_n hM) (congrArg Value.int hT) ?_
  refine aw_bipush (v := nI 20) dX10_feed_4 (by decide) ?_
  first | refine aw_iaddN dX10_feed_6 ?_ | refine aw_iadd dX10_feed_6 ?_
  refine aw_bipush (v := nI 100) dX10_feed_7 (by decide) ?_
  refine aw_n_le (tgt := 14) dX10_feed_9 (by decide) rfl rfl (by omega) (by omega) (fun h => ?_) (fun h => ?_)
  · rw [if_pos (show P ≤ 80 by omega), if_pos (show P ≤ 80 by omega)]
    refine aw_aload_n dX10_feed_14 rfl rfl (by first | exact isR_ref _ | exact isR_rf _ | exact isR_null) ?_
    refine aw_iload_n dX10_feed_15 rfl rfl ?_
    refine aw_cVv (as := [_]) dX10_feed_16 lk_X10_109 cm_X10_four vi_X10_four (by unfold RO; decide) rfl (sM_kd hM) (sM_n hM) rfl rfl rfl (Nat.le_of_ble_eq_true rfl) (m_four hM hT (by omega) _) ?_
    refine aw_aload_n dX10_feed_19 rfl rfl (by first | exact isR_ref _ | exact isR_rf _ | exact isR_null) ?_
    refine aw_iload_n dX10_feed_20 rfl rfl ?_
    refine aw_cVv (as := [_]) dX10_feed_21 lk_X10_109 cm_X10_four vi_X10_four (by unfold RO; decide) rfl (sM_kd hM) (sM_n hM) rfl rfl rfl (Nat.le_of_ble_eq_true rfl) (m_four (P := P + 4) hM rfl (by omega) _) ?_
    refine aw_aload_n dX10_feed_24 rfl rfl (by first | exact isR_ref _ | exact isR_rf _ | exact isR_null) ?_
    refine aw_iload_n dX10_feed_25 rfl rfl ?_
    refine aw_cVv (as := [_]) dX10_feed_26 lk_X10_109 cm_X10_four vi_X10_four (by unfold RO; decide) rfl (sM_kd hM) (sM_n hM) rfl rfl rfl (Nat.le_of_ble_eq_true rfl) (m_four (P := P + 8) hM rfl (by omega) _) ?_
    refine aw_aload_n dX10_feed_29 rfl rfl (by first | exact isR_ref _ | exact isR_rf _ | exact isR_null) ?_
    refine aw_iload dX10_feed_30 rfl ?_
    refine aw_cVv (as := [_]) dX10_feed_32 lk_X10_109 cm_X10_four vi_X10_four (by unfold RO; decide) rfl (sM_kd hM) (sM_n hM) rfl rfl rfl (Nat.le_of_ble_eq_true rfl) (m_four (P := P + 12) hM rfl (by omega) _) ?_
    refine aw_aload_n dX10_feed_35 rfl rfl (by first | exact isR_ref _ | exact isR_rf _ | exact isR_null) ?_
    refine aw_iload dX10_feed_36 rfl ?_
    refine aw_cVv (as := [_]) dX10_feed_38 lk_X10_109 cm_X10_four vi_X10_four (by unfold RO; decide) rfl (sM_kd hM) (sM_n hM) rfl rfl rfl (Nat.le_of_ble_eq_true rfl) (m_four (P := P + 16) hM rfl (by omega) _) ?_
    refine aw_aload_n dX10_feed_41 rfl rfl (by first | exact isR_ref _ | exact isR_rf _ | exact isR_null) ?_
    refine aw_get dX10_feed_42 fl_X10_106 (sM_kd hM) (sM_n hM) rfl ?_
    refine aw_iret dX10_feed_45 rfl rfl ?_
    exact ⟨rfl, rfl⟩
  · rw [if_neg (show ¬ P ≤ 80 by omega), if_neg (show ¬ P ≤ 80 by omega)]
    refine aw_iconst (v := (-1)) dX10_feed_12 (by decide) ?_
    refine aw_iret dX10_feed_13 rfl rfl ?_
    exact ⟨rfl, rfl⟩
theorem m_fails (hM : ShM G n kd R) {a q : Nat} : EX G mX10_fails [.ref (gz G + 22), .int (nI a), .int (nI q)] (n, sz, kd, I, R, J) (some (.int (bi false))) (n, sz, kd, if I 22 33 = 0 then u2 I 22 33 (nI (1 + 8 * q + a)) else I, R, J) := by
  refine mm_of rfl [(0, .ref (gz G + 22)), (1, .int (nI a)), (2, .int (nI q))] rfl (Nat.le_of_ble_eq_true rfl) ?_
  refine aw_aload_n dX10_fails_0 rfl rfl (by first | exact isR_ref _ | exact isR_rf _ | exact isR_null) ?_
  refine aw_get dX10_fails_1 fl_X10_113 (sM_kd hM) (sM_n hM) rfl ?_
  refine aw_if_ne (tgt := 19) dX10_fails_4 (by decide) (fun h => ?_) (fun h => ?_)
  · refine aw_iconst (v := nI 0) dX10_fails_19 (by decide) ?_
    refine aw_iret dX10_fails_20 rfl rfl ?_
    rw [if_neg h]
    exact ⟨rfl, rfl⟩
  · refine aw_aload_n dX10_fails_7 rfl rfl (by first | exact isR_ref _ | exact isR_rf _ | exact isR_null) ?_
    refine aw_iconst (v := nI 1) dX10_fails_8 (by decide) ?_
    refine aw_bipush (v := nI 8) dX10_fails_9 (by decide) ?_
    refine aw_iload_n dX10_fails_11 rfl rfl ?_
    first | refine aw_imulN dX10_fails_12 ?_ | refine aw_imul dX10_fails_12 ?_
    first | refine aw_iaddN dX10_fails_13 ?_ | refine aw_iadd dX10_fails_13 ?_
    refine aw_iload_n dX10_fails_14 rfl rfl ?_
    first | refine aw_iaddN dX10_fails_15 ?_ | refine aw_iadd dX10_fails_15 ?_
    refine aw_putI dX10_fails_16 fl_X10_113 (Or.inl rfl) rfl (sM_kd hM) (sM_n hM) ?_
    refine aw_iconst (v := nI 0) dX10_fails_19 (by decide) ?_
    refine aw_iret dX10_fails_20 rfl rfl ?_
    rw [if_pos h]
    exact ⟨rfl, rfl⟩
end MOD8
