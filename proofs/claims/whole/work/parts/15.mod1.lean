section MOD1
variable {G : GG} {n sz : Nat} {kd : Nat → AKd} {I : Nat → Nat → Int32} {R : Nat → Nat → Option Nat} {J : Nat → Nat → Int64}
theorem m_in (v a b : Int32) (M : Mem) : EX G mX10_in [.int v, .int a, .int b] M (some (.int (bi (decide (a ≤ v ∧ v ≤ b))))) M := by
  refine mm_of rfl [(0, .int v), (1, .int a), (2, .int b)] rfl (Nat.le_of_ble_eq_true rfl) ?_
  refine aw_iload_n dX10_in_0 rfl rfl ?_
  refine aw_iload_n dX10_in_1 rfl rfl ?_
  refine aw_icmp_lt (tgt := 14) dX10_in_2 (by decide) (fun h => ?_) (fun h => ?_)
  · refine aw_iconst (v := nI 0) dX10_in_14 (by decide) ?_
    refine aw_iret dX10_in_15 rfl rfl ?_
    exact ⟨by rw [decide_eq_false (fun z => absurd z.1 (Int32.not_le.mpr h))]; rfl, rfl⟩
  · refine aw_iload_n dX10_in_5 rfl rfl ?_
    refine aw_iload_n dX10_in_6 rfl rfl ?_
    refine aw_icmp_gt (tgt := 14) dX10_in_7 (by decide) (fun h2 => ?_) (fun h2 => ?_)
    · refine aw_iconst (v := nI 0) dX10_in_14 (by decide) ?_
      refine aw_iret dX10_in_15 rfl rfl ?_
      exact ⟨by rw [decide_eq_false (fun z => absurd z.2 (Int32.not_le.mpr h2))]; rfl, rfl⟩
    · refine aw_iconst (v := nI 1) dX10_in_10 (by decide) ?_
      refine aw_goto (tgt := 15) dX10_in_11 (by decide) ?_
      refine aw_iret dX10_in_15 rfl rfl ?_
      exact ⟨by rw [decide_eq_true ⟨Int32.not_lt.mp h, Int32.not_lt.mp h2⟩]; rfl, rfl⟩
/-- LETTER k passes the CODE c -/
def mPass (I : Nat → Nat → Int32) (k : Nat) (c : Int32) : Bool :=
  if nI 16 ≤ c then (if nI 24 ≤ c then (if nI 40 ≤ c then (if nI 1100 ≤ c then decide (¬ c - nI 1100 ≤ I 25 k) else decide (¬ I 25 k ≤ c - nI 100)) else decide (((I 26 k >>> ((c - nI 24) &&& 31)) &&& nI 1) = nI 1)) else decide (I 24 k = c - nI 16)) else decide (I 23 k = c)
theorem m_passes (hM : ShM G n kd R) {k : Nat} (hk : k < 100) (c : Int32) : EX G mX10_passes [.ref (gz G + 22), .int (nI k), .int c] (n, sz, kd, I, R, J) (some (.int (bi (mPass I k c)))) (n, sz, kd, I, R, J) := by
  refine mm_of rfl [(0, .ref (gz G + 22)), (1, .int (nI k)), (2, .int c)] rfl (Nat.le_of_ble_eq_true rfl) ?_
  refine aw_iload_n dX10_passes_0 rfl rfl ?_
  refine aw_bipush (v := nI 16) dX10_passes_1 (by decide) ?_
  refine aw_icmp_ge (tgt := 22) dX10_passes_3 (by decide) (fun h1 => ?_) (fun h1 => ?_)
  · refine aw_iload_n dX10_passes_22 rfl rfl ?_
    refine aw_bipush (v := nI 24) dX10_passes_23 (by decide) ?_
    refine aw_icmp_ge (tgt := 47) dX10_passes_25 (by decide) (fun h2 => ?_) (fun h2 => ?_)
    · refine aw_iload_n dX10_passes_47 rfl rfl ?_
      refine aw_bipush (v := nI 40) dX10_passes_48 (by decide) ?_
      refine aw_icmp_ge (tgt := 76) dX10_passes_50 (by decide) (fun h3 => ?_) (fun h3 => ?_)
      · refine aw_iload_n dX10_passes_76 rfl rfl ?_
        refine aw_sipush (v := nI 1100) dX10_passes_77 (by decide) ?_
        refine aw_icmp_ge (tgt := 104) dX10_passes_80 (by decide) (fun h4 => ?_) (fun h4 => ?_)
        · refine aw_aload_n dX10_passes_104 rfl rfl (by first | exact isR_ref _ | exact isR_rf _ | exact isR_null) ?_
          refine aw_get dX10_passes_105 fl_X10_16 (sM_kd hM) (sM_n hM) (sM_r_size hM _ _) ?_
          refine aw_iload_n dX10_passes_108 rfl rfl ?_
          refine aw_iald dX10_passes_109 (sM_k_size hM) (sM_l_size hM) (ixm (by omega)) ?_
          refine aw_iload_n dX10_passes_110 rfl rfl ?_
          refine aw_sipush (v := nI 1100) dX10_passes_111 (by decide) ?_
          refine aw_isub dX10_passes_114 ?_
          refine aw_icmp_ge (tgt := 122) dX10_passes_115 (by decide) (fun h5 => ?_) (fun h5 => ?_)
          · refine aw_iconst (v := nI 0) dX10_passes_122 (by decide) ?_
            refine aw_iret dX10_passes_123 rfl rfl ?_
            exact ⟨by simp [mPass, h1, h2, h3, h4, h5, bi], rfl⟩
          · refine aw_iconst (v := nI 1) dX10_passes_118 (by decide) ?_
            refine aw_goto (tgt := 123) dX10_passes_119 (by decide) ?_
            refine aw_iret dX10_passes_123 rfl rfl ?_
            exact ⟨by simp [mPass, h1, h2, h3, h4, h5, bi], rfl⟩
        · refine aw_aload_n dX10_passes_83 rfl rfl (by first | exact isR_ref _ | exact isR_rf _ | exact isR_null) ?_
          refine aw_get dX10_passes_84 fl_X10_16 (sM_kd hM) (sM_n hM) (sM_r_size hM _ _) ?_
          refine aw_iload_n dX10_passes_87 rfl rfl ?_
          refine aw_iald dX10_passes_88 (sM_k_size hM) (sM_l_size hM) (ixm (by omega)) ?_
          refine aw_iload_n dX10_passes_89 rfl rfl ?_
          refine aw_bipush (v := nI 100) dX10_passes_90 (by decide) ?_
          refine aw_isub dX10_passes_92 ?_
          refine aw_icmp_le (tgt := 100) dX10_passes_93 (by decide) (fun h5 => ?_) (fun h5 => ?_)
          · refine aw_iconst (v := nI 0) dX10_passes_100 (by decide) ?_
            refine aw_goto (tgt := 123) dX10_passes_101 (by decide) ?_
            refine aw_iret dX10_passes_123 rfl rfl ?_
            exact ⟨by simp [mPass, h1, h2, h3, h4, h5, bi], rfl⟩
          · refine aw_iconst (v := nI 1) dX10_passes_96 (by decide) ?_
            refine aw_goto (tgt := 123) dX10_passes_97 (by decide) ?_
            refine aw_iret dX10_passes_123 rfl rfl ?_
            exact ⟨by simp [mPass, h1, h2, h3, h4, h5, bi], rfl⟩
      · refine aw_aload_n dX10_passes_53 rfl rfl (by first | exact isR_ref _ | exact isR_rf _ | exact isR_null) ?_
        refine aw_get dX10_passes_54 fl_X10_19 (sM_kd hM) (sM_n hM) (sM_r_words hM _ _) ?_
        refine aw_iload_n dX10_passes_57 rfl rfl ?_
        refine aw_iald dX10_passes_58 (sM_k_words hM) (sM_l_words hM) (ixm (by omega)) ?_
        refine aw_iload_n dX10_passes_59 rfl rfl ?_
        refine aw_bipush (v := nI 24) dX10_passes_60 (by decide) ?_
        refine aw_isub dX10_passes_62 ?_
        refine aw_ishr dX10_passes_63 ?_
        refine aw_iconst (v := nI 1) dX10_passes_64 (by decide) ?_
        refine aw_iand dX10_passes_65 ?_
        refine aw_iconst (v := nI 1) dX10_passes_66 (by decide) ?_
        refine aw_icmp_ne (tgt := 74) dX10_passes_67 (by decide) (fun h4 => ?_) (fun h4 => ?_)
        · refine aw_iconst (v := nI 0) dX10_passes_74 (by decide) ?_
          refine aw_iret dX10_passes_75 rfl rfl ?_
          exact ⟨by simp [mPass, h1, h2, h3, h4, bi], rfl⟩
        · refine aw_iconst (v := nI 1) dX10_passes_70 (by decide) ?_
          refine aw_goto (tgt := 75) dX10_passes_71 (by decide) ?_
          refine aw_iret dX10_passes_75 rfl rfl ?_
          exact ⟨by simp [mPass, h1, h2, h3, h4, bi], rfl⟩
    · refine aw_aload_n dX10_passes_28 rfl rfl (by first | exact isR_ref _ | exact isR_rf _ | exact isR_null) ?_
      refine aw_get dX10_passes_29 fl_X10_13 (sM_kd hM) (sM_n hM) (sM_r_list hM _ _) ?_
      refine aw_iload_n dX10_passes_32 rfl rfl ?_
      refine aw_iald dX10_passes_33 (sM_k_list hM) (sM_l_list hM) (ixm (by omega)) ?_
      refine aw_iload_n dX10_passes_34 rfl rfl ?_
      refine aw_bipush (v := nI 16) dX10_passes_35 (by decide) ?_
      refine aw_isub dX10_passes_37 ?_
      refine aw_icmp_ne (tgt := 45) dX10_passes_38 (by decide) (fun h3 => ?_) (fun h3 => ?_)
      · refine aw_iconst (v := nI 0) dX10_passes_45 (by decide) ?_
        refine aw_iret dX10_passes_46 rfl rfl ?_
        exact ⟨by simp [mPass, h1, h2, h3, bi], rfl⟩
      · refine aw_iconst (v := nI 1) dX10_passes_41 (by decide) ?_
        refine aw_goto (tgt := 46) dX10_passes_42 (by decide) ?_
        refine aw_iret dX10_passes_46 rfl rfl ?_
        exact ⟨by simp [mPass, h1, h2, h3, bi], rfl⟩
  · refine aw_aload_n dX10_passes_6 rfl rfl (by first | exact isR_ref _ | exact isR_rf _ | exact isR_null) ?_
    refine aw_get dX10_passes_7 fl_X10_7 (sM_kd hM) (sM_n hM) (sM_r_from hM _ _) ?_
    refine aw_iload_n dX10_passes_10 rfl rfl ?_
    refine aw_iald dX10_passes_11 (sM_k_from hM) (sM_l_from hM) (ixm (by omega)) ?_
    refine aw_iload_n dX10_passes_12 rfl rfl ?_
    refine aw_icmp_ne (tgt := 20) dX10_passes_13 (by decide) (fun h2 => ?_) (fun h2 => ?_)
    · refine aw_iconst (v := nI 0) dX10_passes_20 (by decide) ?_
      refine aw_iret dX10_passes_21 rfl rfl ?_
      exact ⟨by simp [mPass, h1, h2, bi], rfl⟩
    · refine aw_iconst (v := nI 1) dX10_passes_16 (by decide) ?_
      refine aw_goto (tgt := 21) dX10_passes_17 (by decide) ?_
      refine aw_iret dX10_passes_21 rfl rfl ?_
      exact ⟨by simp [mPass, h1, h2, bi], rfl⟩
/-- HAND RULE k is there -/
def mth (I : Nat → Nat → Int32) (k : Nat) : Bool := decide (¬ I 32 k = 0)
theorem m_handsThere (hM : ShM G n kd R) : EX G mX10_handsThere [.ref (gz G + 22)] (n, sz, kd, I, R, J) (some (.int (nI (cnt (mth I) 10)))) (n, sz, kd, I, R, J) := by
  refine mm_of rfl [(0, .ref (gz G + 22))] rfl (Nat.le_of_ble_eq_true rfl) ?_
  refine aw_iconst (v := nI 0) dX10_handsThere_0 (by decide) ?_
  refine aw_istore_n (lv' := [(0, _), (1, _)]) dX10_handsThere_1 rfl (by decide) rfl ?_
  refine aw_iconst (v := nI 0) dX10_handsThere_2 (by decide) ?_
  refine aw_istore_n (lv' := [(0, _), (1, _), (2, _)]) dX10_handsThere_3 rfl (by decide) rfl ?_
  have loop : ∀ d i, i + d = 10 → AW G mX10_handsThere 4 [(0, .ref (gz G + 22)), (1, .int (nI (cnt (mth I) i))), (2, .int (nI i))] [] (n, sz, kd, I, R, J) (fun v' M' => v' = some (.int (nI (cnt (mth I) 10))) ∧ M' = (n, sz, kd, I, R, J)) := by
    intro d
    induction d with
    | zero =>
      intro i hi
      refine aw_iload_n dX10_handsThere_4 rfl rfl ?_
      refine aw_bipush (v := nI 10) dX10_handsThere_5 (by decide) ?_
      refine aw_n_ge (tgt := 33) dX10_handsThere_7 (by decide) rfl rfl (by omega) (by omega) (fun h => ?_) (fun h => ?_)
      · refine aw_iload_n dX10_handsThere_33 rfl rfl ?_
        refine aw_iret dX10_handsThere_34 rfl rfl ?_
        exact ⟨by rw [show i = 10 by omega], rfl⟩
      · exact absurd h (by omega)
    | succ d ih =>
      intro i hi
      refine aw_iload_n dX10_handsThere_4 rfl rfl ?_
      refine aw_bipush (v := nI 10) dX10_handsThere_5 (by decide) ?_
      refine aw_n_ge (tgt := 33) dX10_handsThere_7 (by decide) rfl rfl (by omega) (by omega) (fun h => ?_) (fun h => ?_)
      · exact absurd h (by omega)
      · refine aw_iload_n dX10_handsThere_10 rfl rfl ?_
        refine aw_aload_n dX10_handsThere_11 rfl rfl (by first | exact isR_ref _ | exact isR_rf _ | exact isR_null) ?_
        refine aw_get dX10_handsThere_12 fl_X10_37 (sM_kd hM) (sM_n hM) (sM_r_isThere hM _ _) ?_
        refine aw_iload_n dX10_handsThere_15 rfl rfl ?_
        refine aw_zald dX10_handsThere_16 (sM_k_isThere hM) (sM_l_isThere hM) (ixm (by omega)) ?_
        have ih' := ih (i + 1) (by omega)
        refine aw_if_eq (tgt := 24) dX10_handsThere_17 (by decide) (fun h2 => ?_) (fun h2 => ?_)
        · refine aw_iconst (v := nI 0) dX10_handsThere_24 (by decide) ?_
          first | refine aw_iaddN dX10_handsThere_25 ?_ | refine aw_iadd dX10_handsThere_25 ?_
          refine aw_istore_n (lv' := [(0, _), (1, _), (2, _)]) dX10_handsThere_26 rfl (by decide) rfl ?_
          first | refine aw_iincN (c := 1) (lv' := [(0, _), (1, _), (2, _)]) dX10_handsThere_27 rfl (by decide) rfl rfl ?_ | refine aw_iinc (v := 1) (lv' := [(0, _), (1, _), (2, _)]) dX10_handsThere_27 rfl (by decide) (by decide) rfl ?_
          refine aw_goto (tgt := 4) dX10_handsThere_30 (by decide) ?_
          rw [show cnt (mth I) (i + 1) = cnt (mth I) i + 0 by simp [cnt, mth, h2]] at ih'
          exact ih'
        · refine aw_iconst (v := nI 1) dX10_handsThere_20 (by decide) ?_
          refine aw_goto (tgt := 25) dX10_handsThere_21 (by decide) ?_
          first | refine aw_iaddN dX10_handsThere_25 ?_ | refine aw_iadd dX10_handsThere_25 ?_
          refine aw_istore_n (lv' := [(0, _), (1, _), (2, _)]) dX10_handsThere_26 rfl (by decide) rfl ?_
          first | refine aw_iincN (c := 1) (lv' := [(0, _), (1, _), (2, _)]) dX10_handsThere_27 rfl (by decide) rfl rfl ?_ | refine aw_iinc (v := 1) (lv' := [(0, _), (1, _), (2, _)]) dX10_handsThere_27 rfl (by decide) (by decide) rfl ?_
          refine aw_goto (tgt := 4) dX10_handsThere_30 (by decide) ?_
          rw [show cnt (mth I) (i + 1) = cnt (mth I) i + 1 by simp [cnt, mth, h2]] at ih'
          exact ih'
  exact loop 10 0 rfl
end MOD1
