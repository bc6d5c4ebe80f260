section MOD10
variable {G : GG} {n sz : Nat} {kd : Nat → AKd} {I : Nat → Nat → Int32} {R : Nat → Nat → Option Nat} {J : Nat → Nat → Int64}
/-- the open ones told anew, below m -/
def fO (I : Nat → Nat → Int32) (h : Nat → Bool) (m : Nat) : Nat → Nat → Int32 := fun r c => if r = 49 then (if c < m then bi (h c) else I r c) else I r c
theorem fO_0 (I : Nat → Nat → Int32) (h : Nat → Bool) : fO I h 0 = I := by
  funext a b
  unfold fO
  simp
theorem fO_s (I : Nat → Nat → Int32) (h : Nat → Bool) (m : Nat) : u2 (fO I h m) 49 m (bi (h m)) = fO I h (m + 1) := by
  funext a b
  unfold u2 fO
  by_cases ha : a = 49
  · subst ha
    by_cases hb : b = m
    · subst hb; simp
    · simp only [if_true, if_neg hb]
      by_cases hlt : b < m
      · rw [if_pos hlt, if_pos (by omega)]
      · rw [if_neg hlt, if_neg (by omega)]
  · simp [ha]
theorem mT_o (I : Nat → Nat → Int32) (row : Nat → Int32) (r j : Nat) (x : Int32) (h : r ≠ 50) : u2 (mT I row) r j x = mT (u2 I r j x) row := by
  funext a b
  unfold u2 mT
  by_cases ha : a = r
  · subst ha; simp [h]
  · simp [ha]
theorem bi_mOpen (h : Nat → Bool) (m c : Nat) (hc : c < m) : mOpen (fO I h m) c = h c := by
  unfold mOpen fO
  simp only [if_true, if_pos hc]
  cases h c <;> decide
def mAd7 (I : Nat → Nat → Int32) (a : Nat) (o : Option Nat) (f : Nat) : Nat → Nat → Int32 :=
  let k := mL I
  let I4 := u2 (u2 (u2 (u2 I 38 k (nI (oC o))) 39 (2 * k) (nI a)) 39 (2 * k + 1) (oI o)) 40 k (nI f)
  let I5 := if I 41 (mNum a o f) = 0 then u2 (u2 I4 41 (mNum a o f) (nI 100 + I 22 21)) 22 21 (I 22 21 + nI 1) else I4
  u2 (u2 I5 37 k (I5 41 (mNum a o f))) 22 16 (nI (k + 1))
def mAdP (I : Nat → Nat → Int32) (k i : Nat) : Bool := mOpen I i && !mLearntFits I k i
def mAdds (I : Nat → Nat → Int32) (a : Nat) (o : Option Nat) (f : Nat) : Nat → Nat → Int32 := fO (mAd7 I a o f) (mAdP (mAd7 I a o f) (mL I)) (mN I)
theorem mNum_lt {a f : Nat} {o : Option Nat} (ha : a < 40) (ho : ∀ b, o = some b → a < b ∧ b < 40) (hf : f < 8) : mNum a o f < 6560 := by
  cases o with
  | none => simp only [mNum]; omega
  | some b =>
    obtain ⟨h1, h2⟩ := ho b rfl
    have key : ∀ a, a < 39 → 40 + a * 40 - a * (a + 1) / 2 + 39 - a - 1 ≤ 819 := by decide +kernel
    have := key a (by omega)
    obtain ⟨h3, h4⟩ := num_ok a ha
    simp only [mNum]
    omega
theorem mAd7_B (hB : MB I) (hk : mL I < 6) (a : Nat) (o : Option Nat) (f : Nat) : MB (mAd7 I a o f) := by
  have h1 : bN (mAd7 I a o f 22 16) 6 := by
    show bN (u2 _ 22 16 (nI (mL I + 1)) 22 16) 6
    rw [u2_same]
    exact bN_nI (by omega)
  have h2 : ∀ l, l < 6 → bN (mAd7 I a o f 38 l) 2 := by
    intro l hl
    have e : mAd7 I a o f 38 l = u2 I 38 (mL I) (nI (oC o)) 38 l := by
      unfold mAd7
      split <;> rfl
    rw [e]
    by_cases h : l = mL I
    · subst h
      rw [u2_same]
      cases o with
      | none => exact bN_nI (j := 1) (by decide)
      | some _ => exact bN_nI (j := 2) (by decide)
    · rw [u2_col _ _ _ h]; exact hB.2.2.2.1 l hl
  have h3 : ∀ r c, (r ≠ 22 ∨ (c ≠ 16 ∧ c ≠ 21)) → r ≠ 38 → r ≠ 39 → r ≠ 40 → r ≠ 41 → r ≠ 37 → mAd7 I a o f r c = I r c := by
    intro r c q1 q2 q3 q4 q5 q6
    unfold mAd7
    split <;> (unfold u2; rcases q1 with q | ⟨q, q'⟩ <;> simp [*])
  obtain ⟨b1, b2, b3, b4, b5, b6, b7, b8⟩ := hB
  refine ⟨?_, h1, fun h hh => ?_, h2, ?_, ?_, fun i hi => ?_, fun k hk => ?_⟩
  · rw [h3 _ _ (Or.inr (by decide)) (by decide) (by decide) (by decide) (by decide) (by decide)]; exact b1
  · rw [h3 _ _ (Or.inl (by decide)) (by decide) (by decide) (by decide) (by decide) (by decide)]; exact b3 h hh
  · rw [h3 _ _ (Or.inr (by decide)) (by decide) (by decide) (by decide) (by decide) (by decide)]; exact b5
  · rw [h3 _ _ (Or.inr (by decide)) (by decide) (by decide) (by decide) (by decide) (by decide)]; exact b6
  · rw [h3 _ _ (Or.inl (by decide)) (by decide) (by decide) (by decide) (by decide) (by decide)]; exact b7 i hi
  · rw [h3 _ _ (Or.inl (by decide)) (by decide) (by decide) (by decide) (by decide) (by decide)]; exact b8 k hk
theorem m_adds (hM : ShM G n kd R) (hB : MB I) (hk : mL I < 6) {a f : Nat} {o : Option Nat} (ha : a < 40) (ho : ∀ b, o = some b → a < b ∧ b < 40) (hf : f < 8) (e1 : I 22 50 = nI a) (e2 : I 22 51 = oI o) (e3 : I 22 52 = nI f) (row : Nat → Int32) : MS G mX10_adds [.ref (gz G + 22)] n sz kd (mT I row) R J none (mAdds I a o f) := by
  refine mm_of rfl [(0, .ref (gz G + 22))] rfl (Nat.le_of_ble_eq_true rfl) ?_
  have hN1 : mN I ≤ 100 := hB.1.le
  have hL : I 22 16 = nI (mL I) := hB.2.1.eq
  have hnum := mNum_lt ha ho hf
  refine aw_aload_n dX10_adds_0 rfl rfl (by first | exact isR_ref _ | exact isR_rf _ | exact isR_null) ?_
  refine aw_get dX10_adds_1 fl_X10_163 (sM_kd hM) (sM_n hM) (congrArg Value.int hL) ?_
  refine aw_istore_n (lv' := [(0, _), (1, _)]) dX10_adds_4 rfl (by decide) rfl ?_
  refine aw_aload_n dX10_adds_5 rfl rfl (by first | exact isR_ref _ | exact isR_rf _ | exact isR_null) ?_
  refine aw_get dX10_adds_6 fl_X10_56 (sM_kd hM) (sM_n hM) (sM_r_learntTests hM _ _) ?_
  refine aw_iload_n dX10_adds_9 rfl rfl ?_
  refine aw_aload_n dX10_adds_10 rfl rfl (by first | exact isR_ref _ | exact isR_rf _ | exact isR_null) ?_
  refine aw_get dX10_adds_11 fl_X10_214 (sM_kd hM) (sM_n hM) (congrArg Value.int e2) ?_
  have A : ∀ x, x = nI (oC o) → AW G mX10_adds 22 [(0, .ref (gz G + 22)), (1, .int (nI (mL I)))] [.int x, .int (nI (mL I)), .ref (gz G + 38)] (n, sz, kd, mT I row, R, J) (fun v' M' => v' = none ∧ ∃ row, M' = (n, sz, kd, mT (mAdds I a o f) row, R, J)) := by
    intro x hx
    subst hx
    refine aw_iast dX10_adds_22 (sM_k_learntTests hM) (sM_l_learntTests hM) (ixm (by omega)) ?_
    refine aw_aload_n dX10_adds_23 rfl rfl (by first | exact isR_ref _ | exact isR_rf _ | exact isR_null) ?_
    refine aw_get dX10_adds_24 fl_X10_59 (sM_kd hM) (sM_n hM) (sM_r_learntCode hM _ _) ?_
    refine aw_iconst (v := nI 2) dX10_adds_27 (by decide) ?_
    refine aw_iload_n dX10_adds_28 rfl rfl ?_
    first | refine aw_imulN dX10_adds_29 ?_ | refine aw_imul dX10_adds_29 ?_
    refine aw_aload_n dX10_adds_30 rfl rfl (by first | exact isR_ref _ | exact isR_rf _ | exact isR_null) ?_
    refine aw_get dX10_adds_31 fl_X10_211 (sM_kd hM) (sM_n hM) (congrArg Value.int e1) ?_
    refine aw_iast dX10_adds_34 (sM_k_learntCode hM) (sM_l_learntCode hM) (ixm (by omega)) ?_
    refine aw_aload_n dX10_adds_35 rfl rfl (by first | exact isR_ref _ | exact isR_rf _ | exact isR_null) ?_
    refine aw_get dX10_adds_36 fl_X10_59 (sM_kd hM) (sM_n hM) (sM_r_learntCode hM _ _) ?_
    refine aw_iconst (v := nI 2) dX10_adds_39 (by decide) ?_
    refine aw_iload_n dX10_adds_40 rfl rfl ?_
    first | refine aw_imulN dX10_adds_41 ?_ | refine aw_imul dX10_adds_41 ?_
    refine aw_iconst (v := nI 1) dX10_adds_42 (by decide) ?_
    first | refine aw_iaddN dX10_adds_43 ?_ | refine aw_iadd dX10_adds_43 ?_
    refine aw_aload_n dX10_adds_44 rfl rfl (by first | exact isR_ref _ | exact isR_rf _ | exact isR_null) ?_
    refine aw_get dX10_adds_45 fl_X10_214 (sM_kd hM) (sM_n hM) (congrArg Value.int e2) ?_
    refine aw_iast dX10_adds_48 (sM_k_learntCode hM) (sM_l_learntCode hM) (ixm (by omega)) ?_
    refine aw_aload_n dX10_adds_49 rfl rfl (by first | exact isR_ref _ | exact isR_rf _ | exact isR_null) ?_
    refine aw_get dX10_adds_50 fl_X10_62 (sM_kd hM) (sM_n hM) (sM_r_learntFolder hM _ _) ?_
    refine aw_iload_n dX10_adds_53 rfl rfl ?_
    refine aw_aload_n dX10_adds_54 rfl rfl (by first | exact isR_ref _ | exact isR_rf _ | exact isR_null) ?_
    refine aw_get dX10_adds_55 fl_X10_217 (sM_kd hM) (sM_n hM) (congrArg Value.int e3) ?_
    refine aw_iast dX10_adds_58 (sM_k_learntFolder hM) (sM_l_learntFolder hM) (ixm (by omega)) ?_
    refine aw_aload_n dX10_adds_59 rfl rfl (by first | exact isR_ref _ | exact isR_rf _ | exact isR_null) ?_
    refine aw_get dX10_adds_60 fl_X10_211 (sM_kd hM) (sM_n hM) (congrArg Value.int e1) ?_
    refine aw_aload_n dX10_adds_63 rfl rfl (by first | exact isR_ref _ | exact isR_rf _ | exact isR_null) ?_
    refine aw_get dX10_adds_64 fl_X10_214 (sM_kd hM) (sM_n hM) (congrArg Value.int e2) ?_
    refine aw_aload_n dX10_adds_67 rfl rfl (by first | exact isR_ref _ | exact isR_rf _ | exact isR_null) ?_
    refine aw_get dX10_adds_68 fl_X10_217 (sM_kd hM) (sM_n hM) (congrArg Value.int e3) ?_
    refine aw_cSx (as := [_, _, _]) dX10_adds_71 lk_X10_224 cm_X10_numberOf sm_X10_numberOf (by unfold RO; decide) rfl rfl (Nat.le_of_ble_eq_true rfl) (m_numberOf ha ho hf _) ?_
    refine aw_istore_n (lv' := [(0, _), (1, _), (2, _)]) dX10_adds_74 rfl (by decide) rfl ?_
    refine aw_aload_n dX10_adds_75 rfl rfl (by first | exact isR_ref _ | exact isR_rf _ | exact isR_null) ?_
    refine aw_get dX10_adds_76 fl_X10_65 (sM_kd hM) (sM_n hM) (sM_r_nameOf hM _ _) ?_
    refine aw_iload_n dX10_adds_79 rfl rfl ?_
    refine aw_iald dX10_adds_80 (sM_k_nameOf hM) (sM_l_nameOf hM) (ixm (by omega)) ?_
    rw [mT_o _ _ _ _ _ (by decide), mT_o _ _ _ _ _ (by decide), mT_o _ _ _ _ _ (by decide), mT_o _ _ _ _ _ (by decide)]
    generalize hI4 : u2 (u2 (u2 (u2 I 38 (mL I) (nI (oC o))) 39 (2 * mL I) (nI a)) 39 (2 * mL I + 1) (oI o)) 40 (mL I) (nI f) = I4
    have L : ∀ I5 : Nat → Nat → Int32, I5 = (if I 41 (mNum a o f) = 0 then u2 (u2 I4 41 (mNum a o f) (nI 100 + I 22 21)) 22 21 (I 22 21 + nI 1) else I4) → I5 22 16 = nI (mL I) → AW G mX10_adds 107 [(0, .ref (gz G + 22)), (1, .int (nI (mL I))), (2, .int (nI (mNum a o f)))] [] (n, sz, kd, mT I5 row, R, J) (fun v' M' => v' = none ∧ ∃ row, M' = (n, sz, kd, mT (mAdds I a o f) row, R, J)) := by
      intro I5 hI5 hL5
      refine aw_aload_n dX10_adds_107 rfl rfl (by first | exact isR_ref _ | exact isR_rf _ | exact isR_null) ?_
      refine aw_get dX10_adds_108 fl_X10_53 (sM_kd hM) (sM_n hM) (sM_r_learntName hM _ _) ?_
      refine aw_iload_n dX10_adds_111 rfl rfl ?_
      refine aw_aload_n dX10_adds_112 rfl rfl (by first | exact isR_ref _ | exact isR_rf _ | exact isR_null) ?_
      refine aw_get dX10_adds_113 fl_X10_65 (sM_kd hM) (sM_n hM) (sM_r_nameOf hM _ _) ?_
      refine aw_iload_n dX10_adds_116 rfl rfl ?_
      refine aw_iald dX10_adds_117 (sM_k_nameOf hM) (sM_l_nameOf hM) (ixm (by omega)) ?_
      refine aw_iast dX10_adds_118 (sM_k_learntName hM) (sM_l_learntName hM) (ixm (by omega)) ?_
      refine aw_aload_n dX10_adds_119 rfl rfl (by first | exact isR_ref _ | exact isR_rf _ | exact isR_null) ?_
      refine aw_dup dX10_adds_120 rfl ?_
      refine aw_get dX10_adds_121 fl_X10_163 (sM_kd hM) (sM_n hM) (congrArg Value.int hL5) ?_
      refine aw_iconst (v := nI 1) dX10_adds_124 (by decide) ?_
      first | refine aw_iaddN dX10_adds_125 ?_ | refine aw_iadd dX10_adds_125 ?_
      refine aw_putI dX10_adds_126 fl_X10_163 (Or.inl rfl) rfl (sM_kd hM) (sM_n hM) ?_
      rw [mT_o _ _ _ _ _ (by decide), mT_o _ _ _ _ _ (by decide)]
      refine aw_I (I' := mT (mAd7 I a o f) row) (by rw [show mAd7 I a o f = u2 (u2 I5 37 (mL I) (I5 41 (mNum a o f))) 22 16 (nI (mL I + 1)) by unfold mAd7; rw [hI5, ← hI4]]; rfl) ?_
      have hB7 := mAd7_B hB hk a o f
      have hN7 : mAd7 I a o f 22 0 = nI (mN I) := by
        have e : mAd7 I a o f 22 0 = I 22 0 := by
          unfold mAd7
          split <;> rfl
        rw [e]
        exact hB.1.eq
      rw [show mAdds I a o f = fO (mAd7 I a o f) (mAdP (mAd7 I a o f) (mL I)) (mN I) from rfl]
      generalize mAd7 I a o f = I7 at hB7 hN7 ⊢
      refine aw_iconst (v := nI 0) dX10_adds_129 (by decide) ?_
      refine aw_istore_n (lv' := [(0, _), (1, _), (2, _), (3, _)]) dX10_adds_130 rfl (by decide) rfl ?_
      have loop : ∀ d i, i + d = mN I → AW G mX10_adds 131 [(0, .ref (gz G + 22)), (1, .int (nI (mL I))), (2, .int (nI (mNum a o f))), (3, .int (nI i))] [] (n, sz, kd, mT (fO I7 (mAdP I7 (mL I)) i) row, R, J) (fun v' M' => v' = none ∧ ∃ row, M' = (n, sz, kd, mT (fO I7 (mAdP I7 (mL I)) (mN I)) row, R, J)) := by
        intro d
        induction d with
        | zero =>
          intro i hi
          refine aw_iload_n dX10_adds_131 rfl rfl ?_
          refine aw_aload_n dX10_adds_132 rfl rfl (by first | exact isR_ref _ | exact isR_rf _ | exact isR_null) ?_
          refine aw_get dX10_adds_133 fl_X10_182 (sM_kd hM) (sM_n hM) (congrArg Value.int hN7) ?_
          refine aw_n_ge (tgt := 174) dX10_adds_136 (by decide) rfl rfl (by omega) (by omega) (fun h => ?_) (fun h => ?_)
          · refine aw_vret dX10_adds_174 rfl ?_
            exact ⟨rfl, row, by rw [show i = mN I by omega]⟩
          · exact absurd h (by omega)
        | succ d ih =>
          intro i hi
          have ih' := ih (i + 1) (by omega)
          have fin : ∀ b, b = mAdP I7 (mL I) i → AW G mX10_adds 167 [(0, .ref (gz G + 22)), (1, .int (nI (mL I))), (2, .int (nI (mNum a o f))), (3, .int (nI i))] [.int (bi b), .int (nI i), .ref (gz G + 49)] (n, sz, kd, mT (fO I7 (mAdP I7 (mL I)) i) row, R, J) (fun v' M' => v' = none ∧ ∃ row, M' = (n, sz, kd, mT (fO I7 (mAdP I7 (mL I)) (mN I)) row, R, J)) := by
            intro b hb
            subst hb
            refine aw_zast  dX10_adds_167 (sM_k_isOpen hM) (sM_l_isOpen hM) (ixm (by omega)) ?_
            rw [mT_o _ _ _ _ _ (by decide), fO_s]
            first | refine aw_iincN (c := 1) (lv' := [(0, _), (1, _), (2, _), (3, _)]) dX10_adds_168 rfl (by decide) rfl rfl ?_ | refine aw_iinc (v := 1) (lv' := [(0, _), (1, _), (2, _), (3, _)]) dX10_adds_168 rfl (by decide) (by decide) rfl ?_
            refine aw_goto (tgt := 131) dX10_adds_171 (by decide) ?_
            exact ih'
          refine aw_iload_n dX10_adds_131 rfl rfl ?_
          refine aw_aload_n dX10_adds_132 rfl rfl (by first | exact isR_ref _ | exact isR_rf _ | exact isR_null) ?_
          refine aw_get dX10_adds_133 fl_X10_182 (sM_kd hM) (sM_n hM) (congrArg Value.int hN7) ?_
          refine aw_n_ge (tgt := 174) dX10_adds_136 (by decide) rfl rfl (by omega) (by omega) (fun h => ?_) (fun h => ?_)
          · exact absurd h (by omega)
          · refine aw_aload_n dX10_adds_139 rfl rfl (by first | exact isR_ref _ | exact isR_rf _ | exact isR_null) ?_
            refine aw_get dX10_adds_140 fl_X10_97 (sM_kd hM) (sM_n hM) (sM_r_isOpen hM _ _) ?_
            refine aw_iload_n dX10_adds_143 rfl rfl ?_
            refine aw_aload_n dX10_adds_144 rfl rfl (by first | exact isR_ref _ | exact isR_rf _ | exact isR_null) ?_
            refine aw_get dX10_adds_145 fl_X10_97 (sM_kd hM) (sM_n hM) (sM_r_isOpen hM _ _) ?_
            refine aw_iload_n dX10_adds_148 rfl rfl ?_
            refine aw_zald dX10_adds_149 (sM_k_isOpen hM) (sM_l_isOpen hM) (ixm (by omega)) ?_
            have er : mT (fO I7 (mAdP I7 (mL I)) i) row 49 i = I7 49 i := by
              show fO I7 (mAdP I7 (mL I)) i 49 i = _
              unfold fO
              rw [if_pos rfl, if_neg (Nat.lt_irrefl i)]
            refine aw_top (er) ?_
            refine aw_if_eq (tgt := 166) dX10_adds_150 (by decide) (fun h2 => ?_) (fun h2 => ?_)
            · refine aw_iconst (v := nI 0) dX10_adds_166 (by decide) ?_
              exact fin false (by simp [mAdP, mOpen, h2])
            · refine aw_aload_n dX10_adds_153 rfl rfl (by first | exact isR_ref _ | exact isR_rf _ | exact isR_null) ?_
              refine aw_iload_n dX10_adds_154 rfl rfl ?_
              refine aw_iload_n dX10_adds_155 rfl rfl ?_
              refine aw_cVx (as := [_, _]) dX10_adds_156 lk_X10_176 cm_X10_learntFits vi_X10_learntFits (by unfold RO; decide) rfl (sM_kd hM) (sM_n hM) rfl rfl rfl (Nat.le_of_ble_eq_true rfl) (m_learntFits (I := mT (fO I7 (mAdP I7 (mL I)) i) row) hM hB7 hk (by omega)) ?_
              refine aw_top (show bi (mLearntFits (mT (fO I7 (mAdP I7 (mL I)) i) row) (mL I) i) = bi (mLearntFits I7 (mL I) i) from rfl) ?_
              refine aw_b_ne (tgt := 166) dX10_adds_159 (by decide) rfl (fun h3 => ?_) (fun h3 => ?_)
              · refine aw_iconst (v := nI 0) dX10_adds_166 (by decide) ?_
                exact fin false (by simp [mAdP, h3])
              · refine aw_iconst (v := nI 1) dX10_adds_162 (by decide) ?_
                refine aw_goto (tgt := 167) dX10_adds_163 (by decide) ?_
                exact fin true (by simp [mAdP, mOpen, h2, h3])
      have l0 := loop (mN I) 0 (by omega)
      rw [fO_0] at l0
      exact l0
    have e4 : I4 41 (mNum a o f) = I 41 (mNum a o f) := by subst hI4; rfl
    have e5 : I4 22 21 = I 22 21 := by subst hI4; rfl
    refine aw_top (show mT I4 row 41 (mNum a o f) = I 41 (mNum a o f) from e4) ?_
    refine aw_if_ne (tgt := 107) dX10_adds_81 (by decide) (fun h => ?_) (fun h => ?_)
    · exact L I4 (by rw [if_neg h]) (by subst hI4; exact hL)
    · refine aw_aload_n dX10_adds_84 rfl rfl (by first | exact isR_ref _ | exact isR_rf _ | exact isR_null) ?_
      refine aw_get dX10_adds_85 fl_X10_65 (sM_kd hM) (sM_n hM) (sM_r_nameOf hM _ _) ?_
      refine aw_iload_n dX10_adds_88 rfl rfl ?_
      refine aw_bipush (v := nI 100) dX10_adds_89 (by decide) ?_
      refine aw_aload_n dX10_adds_91 rfl rfl (by first | exact isR_ref _ | exact isR_rf _ | exact isR_null) ?_
      refine aw_get dX10_adds_92 fl_X10_228 (sM_kd hM) (sM_n hM) (congrArg Value.int e5) ?_
      refine aw_iadd dX10_adds_95 ?_
      refine aw_iast dX10_adds_96 (sM_k_nameOf hM) (sM_l_nameOf hM) (ixm hnum) ?_
      refine aw_aload_n dX10_adds_97 rfl rfl (by first | exact isR_ref _ | exact isR_rf _ | exact isR_null) ?_
      refine aw_dup dX10_adds_98 rfl ?_
      refine aw_get dX10_adds_99 fl_X10_228 (sM_kd hM) (sM_n hM) (congrArg Value.int e5) ?_
      refine aw_iconst (v := nI 1) dX10_adds_102 (by decide) ?_
      refine aw_iadd dX10_adds_103 ?_
      refine aw_putI dX10_adds_104 fl_X10_228 (Or.inl rfl) rfl (sM_kd hM) (sM_n hM) ?_
      rw [mT_o _ _ _ _ _ (by decide), mT_o _ _ _ _ _ (by decide)]
      exact L _ (by rw [if_pos h]) (by subst hI4; exact hL)
  cases o with
  | none =>
    refine aw_if_ge (tgt := 21) dX10_adds_14 (by decide) (fun h => ?_) (fun h => ?_)
    · exact absurd h (by decide)
    · refine aw_iconst (v := nI 1) dX10_adds_17 (by decide) ?_
      refine aw_goto (tgt := 22) dX10_adds_18 (by decide) ?_
      exact A _ rfl
  | some b =>
    obtain ⟨hb1, hb2⟩ := ho b rfl
    refine aw_if_ge (tgt := 21) dX10_adds_14 (by decide) (fun h => ?_) (fun h => ?_)
    · refine aw_iconst (v := nI 2) dX10_adds_21 (by decide) ?_
      exact A _ rfl
    · exact absurd (nI_pos' (by omega)) h
end MOD10
