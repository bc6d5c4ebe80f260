section MOD16
variable {G : GG} {n sz : Nat} {kd : Nat → AKd} {I : Nat → Nat → Int32} {R : Nat → Nat → Option Nat} {J : Nat → Nat → Int64}
theorem m_failsP (hM : ShM G n kd R) {a q : Nat} (nx ws sd ts rf : Int32) (rd : Nat → Int32) : EX G mX10_fails [.ref (gz G + 22), .int (nI a), .int (nI q)] (n, sz, kd, pS I (nx, ws, nI 0, sd, ts, rf, rd), R, J) (some (.int (bi false))) (n, sz, kd, pS I (nx, ws, nI (1 + 8 * q + a), sd, ts, rf, rd), R, J) := by
  have h := m_fails (G := G) (n := n) (sz := sz) (kd := kd) (I := pS I (nx, ws, nI 0, sd, ts, rf, rd)) (R := R) (J := J) hM (a := a) (q := q)
  rw [if_pos (show pS I (nx, ws, nI 0, sd, ts, rf, rd) 22 33 = 0 from nI_0), pS_ft] at h
  exact h
/-- the number that m digits from s on tell -/
def dv (b : Nat → Nat) (s : Nat) : Nat → Nat
  | 0 => 0
  | m + 1 => 10 * dv b s m + (b (s + m) - 48)
theorem dv_le (b : Nat → Nat) (s : Nat) : ∀ m, (∀ k, k < m → b (s + k) ≤ 57) → m ≤ 3 → dv b s m ≤ 999 ∧ (m ≤ 2 → dv b s m ≤ 99) ∧ (m ≤ 1 → dv b s m ≤ 9) ∧ (m = 0 → dv b s m = 0)
  | 0, _, _ => ⟨by simp [dv], by simp [dv], by simp [dv], by simp [dv]⟩
  | m + 1, h, hm => by
    have ih := dv_le b s m (fun k hk => h k (by omega)) (by omega)
    have := h m (by omega)
    rw [dv]
    omega
def pNum (b : Nat → Nat) (P i most : Nat) : Nat ⊕ (Nat × Nat) :=
  let s := run (isBl b) P i
  let e := run (isDg b) P s
  if e = s then .inl (1 + 8 * s) else if e - s ≤ 3 ∧ dv b s (e - s) ≤ most then .inr (dv b s (e - s), e) else .inl (1 + 8 * s + 1)
/-- behind number(..) -/
def QNum (n sz : Nat) (kd : Nat → AKd) (I : Nat → Nat → Int32) (R : Nat → Nat → Option Nat) (J : Nat → Nat → Int64) (ws ts rf : Int32) (rd : Nat → Int32) (o : Nat ⊕ (Nat × Nat)) (v' : Option Value) (M' : Mem) : Prop := match o with
  | .inl f => v' = some (.int (bi false)) ∧ ∃ nx sd, M' = (n, sz, kd, pS I (nx, ws, nI f, sd, ts, rf, rd), R, J)
  | .inr (v, q) => v' = some (.int (bi true)) ∧ M' = (n, sz, kd, pS I (nI q, ws, nI 0, nI v, ts, rf, rd), R, J)
theorem m_number (hM : ShM G n kd R) {b : Nat → Nat} (hT : TB I b) {P i most : Nat} (hmost : most < 2 ^ 31) (hP : I 22 31 = nI P) (hP1 : P ≤ 100) (hi : i ≤ P) (ws sd ts rf : Int32) (rd : Nat → Int32) : MM G mX10_number [.ref (gz G + 22), .int (nI most)] (n, sz, kd, pS I (nI i, ws, nI 0, sd, ts, rf, rd), R, J) (QNum n sz kd I R J ws ts rf rd (pNum b P i most)) := by
  refine mm_of rfl [(0, .ref (gz G + 22)), (1, .int (nI most))] rfl (Nat.le_of_ble_eq_true rfl) ?_
  have hs := run_le (q := isBl b) hi
  generalize hss : run (isBl b) P i = s at hs
  have he := run_le (q := isDg b) hs.2
  generalize hee : run (isDg b) P s = e at he
  have hpn : pNum b P i most = if e = s then .inl (1 + 8 * s) else if e - s ≤ 3 ∧ dv b s (e - s) ≤ most then .inr (dv b s (e - s), e) else .inl (1 + 8 * s + 1) := by
    subst hee
    subst hss
    rfl
  refine aw_aload_n dX10_number_0 rfl rfl (by first | exact isR_ref _ | exact isR_rf _ | exact isR_null) ?_
  refine aw_cVx (as := []) dX10_number_1 lk_X10_119 cm_X10_see vi_X10_see (by unfold RO; decide) rfl (sM_kd hM) (sM_n hM) rfl rfl rfl (Nat.le_of_ble_eq_true rfl) (m_see hM hT hP hP1 hi _ _ _ _ _ _) ?_
  rw [hss]
  refine aw_istore_n (lv' := [(0, _), (1, _), (2, _)]) dX10_number_4 rfl (by decide) rfl ?_
  refine aw_iload_n dX10_number_5 rfl rfl ?_
  refine aw_bipush (v := nI 48) dX10_number_6 (by decide) ?_
  have bad : e = s → ∀ c, AW G mX10_number 17 [(0, .ref (gz G + 22)), (1, .int (nI most)), (2, .int c)] [] (n, sz, kd, pS I (nI s, ws, nI 0, sd, ts, rf, rd), R, J) (QNum n sz kd I R J ws ts rf rd (pNum b P i most)) := by
    intro h c
    refine aw_aload_n dX10_number_17 rfl rfl (by first | exact isR_ref _ | exact isR_rf _ | exact isR_null) ?_
    refine aw_iconst (v := nI 0) dX10_number_18 (by decide) ?_
    refine aw_aload_n dX10_number_19 rfl rfl (by first | exact isR_ref _ | exact isR_rf _ | exact isR_null) ?_
    refine aw_get dX10_number_20 fl_X10_116 (sM_kd hM) (sM_n hM) (show _ = Value.int (nI s) from rfl) ?_
    refine aw_cVx (as := [_, _]) dX10_number_23 lk_X10_126 cm_X10_fails vi_X10_fails (by unfold RO; decide) rfl (sM_kd hM) (sM_n hM) rfl rfl rfl (Nat.le_of_ble_eq_true rfl) (m_failsP hM _ _ _ _ _ _) ?_
    refine aw_iret dX10_number_26 rfl rfl ?_
    rw [hpn, if_pos h]
    exact ⟨rfl, _, _, rfl⟩
  have good : isDg b s = true → s < P → ∀ c, AW G mX10_number 27 [(0, .ref (gz G + 22)), (1, .int (nI most)), (2, .int c)] [] (n, sz, kd, pS I (nI s, ws, nI 0, sd, ts, rf, rd), R, J) (QNum n sz kd I R J ws ts rf rd (pNum b P i most)) := by
    intro hq hlt c
    have hes : s < e := by
      have h1 := run_yes (q := isDg b) hlt hq
      have h2 := run_le (q := isDg b) (P := P) (i := s + 1) (by omega)
      omega
    have hdig : ∀ k, k < e - s → b (s + k) ≤ 57 ∧ 48 ≤ b (s + k) := fun k hk => by
      have := run_in (q := isDg b) (P := P) (i := s) (k := s + k) (by omega) (by omega)
      unfold isDg at this
      rw [decide_eq_true_iff] at this
      exact ⟨this.2, this.1⟩
    refine aw_aload_n dX10_number_27 rfl rfl (by first | exact isR_ref _ | exact isR_rf _ | exact isR_null) ?_
    refine aw_get dX10_number_28 fl_X10_116 (sM_kd hM) (sM_n hM) (show _ = Value.int (nI s) from rfl) ?_
    refine aw_istore_n (lv' := [(0, _), (1, _), (2, _), (3, _)]) dX10_number_31 rfl (by decide) rfl ?_
    refine aw_iconst (v := nI 0) dX10_number_32 (by decide) ?_
    refine aw_istore (lv' := [(0, _), (1, _), (2, _), (3, _), (4, _)]) dX10_number_33 (by decide) rfl ?_
    refine aw_iconst (v := nI 0) dX10_number_35 (by decide) ?_
    refine aw_istore (lv' := [(0, _), (1, _), (2, _), (3, _), (4, _), (5, _)]) dX10_number_36 (by decide) rfl ?_
    have fin : AW G mX10_number 119 [(0, .ref (gz G + 22)), (1, .int (nI most)), (2, .int c), (3, .int (nI s)), (4, .int (nI (e - s))), (5, .int (nI (dv b s (min (e - s) 3))))] [] (n, sz, kd, pS I (nI e, ws, nI 0, sd, ts, rf, rd), R, J) (QNum n sz kd I R J ws ts rf rd (pNum b P i most)) := by
      have hdv := dv_le b s (min (e - s) 3) (fun k hk => (hdig k (by omega)).1) (by omega)
      refine aw_aload_n dX10_number_119 rfl rfl (by first | exact isR_ref _ | exact isR_rf _ | exact isR_null) ?_
      refine aw_iload dX10_number_120 rfl ?_
      refine aw_putI dX10_number_122 fl_X10_130 (Or.inl rfl) rfl (sM_kd hM) (sM_n hM) ?_
      rw [pS_sd]
      have no : ¬ (e - s ≤ 3 ∧ dv b s (e - s) ≤ most) → AW G mX10_number 137 [(0, .ref (gz G + 22)), (1, .int (nI most)), (2, .int c), (3, .int (nI s)), (4, .int (nI (e - s))), (5, .int (nI (dv b s (min (e - s) 3))))] [] (n, sz, kd, pS I (nI e, ws, nI 0, nI (dv b s (min (e - s) 3)), ts, rf, rd), R, J) (QNum n sz kd I R J ws ts rf rd (pNum b P i most)) := by
        intro h
        refine aw_aload_n dX10_number_137 rfl rfl (by first | exact isR_ref _ | exact isR_rf _ | exact isR_null) ?_
        refine aw_iconst (v := nI 1) dX10_number_138 (by decide) ?_
        refine aw_iload_n dX10_number_139 rfl rfl ?_
        refine aw_cVx (as := [_, _]) dX10_number_140 lk_X10_126 cm_X10_fails vi_X10_fails (by unfold RO; decide) rfl (sM_kd hM) (sM_n hM) rfl rfl rfl (Nat.le_of_ble_eq_true rfl) (m_failsP hM _ _ _ _ _ _) ?_
        refine aw_b_eq (tgt := 150) dX10_number_143 (by decide) rfl (fun h2 => ?_) (fun h2 => ?_)
        · refine aw_iconst (v := nI 0) dX10_number_150 (by decide) ?_
          refine aw_iret dX10_number_151 rfl rfl ?_
          rw [hpn, if_neg (by omega), if_neg h]
          exact ⟨rfl, _, _, rfl⟩
        · cases h2
      refine aw_iload dX10_number_125 rfl ?_
      refine aw_iconst (v := nI 3) dX10_number_127 (by decide) ?_
      refine aw_n_gt (tgt := 137) dX10_number_128 (by decide) rfl rfl (by omega) (by omega) (fun h => ?_) (fun h => ?_)
      · exact no (by omega)
      · refine aw_iload dX10_number_131 rfl ?_
        refine aw_iload_n dX10_number_133 rfl rfl ?_
        refine aw_n_le (tgt := 146) dX10_number_134 (by decide) rfl rfl (by omega) (by omega) (fun h2 => ?_) (fun h2 => ?_)
        · refine aw_iconst (v := nI 1) dX10_number_146 (by decide) ?_
          refine aw_goto (tgt := 151) dX10_number_147 (by decide) ?_
          refine aw_iret dX10_number_151 rfl rfl ?_
          rw [Nat.min_eq_left (show e - s ≤ 3 by omega)] at h2
          rw [hpn, if_neg (by omega), if_pos ⟨by omega, h2⟩, Nat.min_eq_left (show e - s ≤ 3 by omega)]
          exact ⟨rfl, rfl⟩
        · rw [Nat.min_eq_left (show e - s ≤ 3 by omega)] at h2
          exact no (by omega)
    have loop : ∀ d k, s + k + d = P → k ≤ e - s → run (isDg b) P (s + k) = e → AW G mX10_number 38 [(0, .ref (gz G + 22)), (1, .int (nI most)), (2, .int c), (3, .int (nI s)), (4, .int (nI k)), (5, .int (nI (dv b s (min k 3))))] [] (n, sz, kd, pS I (nI (s + k), ws, nI 0, sd, ts, rf, rd), R, J) (QNum n sz kd I R J ws ts rf rd (pNum b P i most)) := by
      intro d
      induction d with
      | zero =>
        intro k hd hk hr
        have hke : k = e - s := by
          have := run_no (q := isDg b) (P := P) (i := s + k) (Or.inl (by omega))
          omega
        refine aw_aload_n dX10_number_38 rfl rfl (by first | exact isR_ref _ | exact isR_rf _ | exact isR_null) ?_
        refine aw_get dX10_number_39 fl_X10_116 (sM_kd hM) (sM_n hM) (show _ = Value.int (nI (s + k)) from rfl) ?_
        refine aw_aload_n dX10_number_42 rfl rfl (by first | exact isR_ref _ | exact isR_rf _ | exact isR_null) ?_
        refine aw_get dX10_number_43 fl_X10_106 (sM_kd hM) (sM_n hM) (congrArg Value.int hP) ?_
        refine aw_n_ge (tgt := 119) dX10_number_46 (by decide) rfl rfl (by omega) (by omega) (fun h => ?_) (fun h => ?_)
        · subst hke
          rw [show s + (e - s) = e by omega]
          exact fin
        · exact absurd h (by omega)
      | succ d ih =>
        intro k hd hk hr
        have hb := hT (s + k) (by omega)
        have stop : isDg b (s + k) = false → AW G mX10_number 119 [(0, .ref (gz G + 22)), (1, .int (nI most)), (2, .int c), (3, .int (nI s)), (4, .int (nI k)), (5, .int (nI (dv b s (min k 3))))] [] (n, sz, kd, pS I (nI (s + k), ws, nI 0, sd, ts, rf, rd), R, J) (QNum n sz kd I R J ws ts rf rd (pNum b P i most)) := by
          intro hq
          have hke : k = e - s := by
            have := run_no (q := isDg b) (P := P) (i := s + k) (Or.inr hq)
            omega
          subst hke
          rw [show s + (e - s) = e by omega]
          exact fin
        refine aw_aload_n dX10_number_38 rfl rfl (by first | exact isR_ref _ | exact isR_rf _ | exact isR_null) ?_
        refine aw_get dX10_number_39 fl_X10_116 (sM_kd hM) (sM_n hM) (show _ = Value.int (nI (s + k)) from rfl) ?_
        refine aw_aload_n dX10_number_42 rfl rfl (by first | exact isR_ref _ | exact isR_rf _ | exact isR_null) ?_
        refine aw_get dX10_number_43 fl_X10_106 (sM_kd hM) (sM_n hM) (congrArg Value.int hP) ?_
        refine aw_n_ge (tgt := 119) dX10_number_46 (by decide) rfl rfl (by omega) (by omega) (fun h => ?_) (fun h => ?_)
        · exact absurd h (by omega)
        · refine aw_aload_n dX10_number_49 rfl rfl (by first | exact isR_ref _ | exact isR_rf _ | exact isR_null) ?_
          refine aw_get dX10_number_50 fl_X10_87 (sM_kd hM) (sM_n hM) (sM_r_tape hM _ _) ?_
          refine aw_aload_n dX10_number_53 rfl rfl (by first | exact isR_ref _ | exact isR_rf _ | exact isR_null) ?_
          refine aw_get dX10_number_54 fl_X10_116 (sM_kd hM) (sM_n hM) (show _ = Value.int (nI (s + k)) from rfl) ?_
          refine aw_bald dX10_number_57 (sM_k_tape hM) (sM_l_tape hM) (ixm (by omega)) ?_
          refine aw_top (show pS I (nI (s + k), ws, nI 0, sd, ts, rf, rd) 46 (s + k) = sb_b (b (s + k)) from hb.2) ?_
          refine aw_bipush (v := nI 48) dX10_number_58 (by decide) ?_
          refine aw_icmp_lt (tgt := 119) dX10_number_60 (by decide) (fun h2 => ?_) (fun h2 => ?_)
          · exact stop (decide_eq_false (fun z => ((sb_n0 _ hb.1).mp h2) ⟨z.1, by omega⟩))
          · have h2' : 48 ≤ b (s + k) ∧ b (s + k) < 128 := by
              by_cases q : 48 ≤ b (s + k) ∧ b (s + k) < 128
              · exact q
              · exact absurd ((sb_n0 _ hb.1).mpr q) h2
            refine aw_aload_n dX10_number_63 rfl rfl (by first | exact isR_ref _ | exact isR_rf _ | exact isR_null) ?_
            refine aw_get dX10_number_64 fl_X10_87 (sM_kd hM) (sM_n hM) (sM_r_tape hM _ _) ?_
            refine aw_aload_n dX10_number_67 rfl rfl (by first | exact isR_ref _ | exact isR_rf _ | exact isR_null) ?_
            refine aw_get dX10_number_68 fl_X10_116 (sM_kd hM) (sM_n hM) (show _ = Value.int (nI (s + k)) from rfl) ?_
            refine aw_bald dX10_number_71 (sM_k_tape hM) (sM_l_tape hM) (ixm (by omega)) ?_
            refine aw_top (show pS I (nI (s + k), ws, nI 0, sd, ts, rf, rd) 46 (s + k) = sb_b (b (s + k)) from hb.2) ?_
            refine aw_bipush (v := nI 57) dX10_number_72 (by decide) ?_
            refine aw_icmp_gt (tgt := 119) dX10_number_74 (by decide) (fun h3 => ?_) (fun h3 => ?_)
            · have := (sb_n9 _ hb.1).mp h3
              exact stop (decide_eq_false (fun z => by omega))
            · have h3' : ¬ (57 < b (s + k) ∧ b (s + k) < 128) := fun z => h3 ((sb_n9 _ hb.1).mpr z)
              have hq2 : isDg b (s + k) = true := decide_eq_true ⟨h2'.1, by omega⟩
              have hr2 : run (isDg b) P (s + (k + 1)) = e := by rw [← Nat.add_assoc, ← run_yes (by omega) hq2]; exact hr
              have hk2 : k + 1 ≤ e - s := by
                have := run_le (q := isDg b) (P := P) (i := s + (k + 1)) (by omega)
                omega
              have next : ∀ v, v = dv b s (min (k + 1) 3) → AW G mX10_number 103 [(0, .ref (gz G + 22)), (1, .int (nI most)), (2, .int c), (3, .int (nI s)), (4, .int (nI k)), (5, .int (nI v))] [] (n, sz, kd, pS I (nI (s + k), ws, nI 0, sd, ts, rf, rd), R, J) (QNum n sz kd I R J ws ts rf rd (pNum b P i most)) := by
                intro v hv
                subst hv
                first | refine aw_iincN (c := 1) (lv' := [(0, _), (1, _), (2, _), (3, _), (4, _), (5, _)]) dX10_number_103 rfl (by decide) rfl rfl ?_ | refine aw_iinc (v := 1) (lv' := [(0, _), (1, _), (2, _), (3, _), (4, _), (5, _)]) dX10_number_103 rfl (by decide) (by decide) rfl ?_
                refine aw_aload_n dX10_number_106 rfl rfl (by first | exact isR_ref _ | exact isR_rf _ | exact isR_null) ?_
                refine aw_dup dX10_number_107 rfl ?_
                refine aw_get dX10_number_108 fl_X10_116 (sM_kd hM) (sM_n hM) (show _ = Value.int (nI (s + k)) from rfl) ?_
                refine aw_iconst (v := nI 1) dX10_number_111 (by decide) ?_
                first | refine aw_iaddN dX10_number_112 ?_ | refine aw_iadd dX10_number_112 ?_
                refine aw_putI dX10_number_113 fl_X10_116 (Or.inl rfl) rfl (sM_kd hM) (sM_n hM) ?_
                rw [pS_nx]
                refine aw_goto (tgt := 38) dX10_number_116 (by decide) ?_
                exact ih (k + 1) (by omega) hk2 hr2
              refine aw_iload dX10_number_77 rfl ?_
              refine aw_iconst (v := nI 3) dX10_number_79 (by decide) ?_
              refine aw_n_ge (tgt := 103) dX10_number_80 (by decide) rfl rfl (by omega) (by omega) (fun h4 => ?_) (fun h4 => ?_)
              · exact next _ (by rw [Nat.min_eq_right (show 3 ≤ k by omega), Nat.min_eq_right (show 3 ≤ k + 1 by omega)])
              · have hdv := dv_le b s (min k 3) (fun j hj => (hdig j (by omega)).1) (by omega)
                refine aw_bipush (v := nI 10) dX10_number_83 (by decide) ?_
                refine aw_iload dX10_number_85 rfl ?_
                first | refine aw_imulN dX10_number_87 ?_ | refine aw_imul dX10_number_87 ?_
                refine aw_aload_n dX10_number_88 rfl rfl (by first | exact isR_ref _ | exact isR_rf _ | exact isR_null) ?_
                refine aw_get dX10_number_89 fl_X10_87 (sM_kd hM) (sM_n hM) (sM_r_tape hM _ _) ?_
                refine aw_aload_n dX10_number_92 rfl rfl (by first | exact isR_ref _ | exact isR_rf _ | exact isR_null) ?_
                refine aw_get dX10_number_93 fl_X10_116 (sM_kd hM) (sM_n hM) (show _ = Value.int (nI (s + k)) from rfl) ?_
                refine aw_bald dX10_number_96 (sM_k_tape hM) (sM_l_tape hM) (ixm (by omega)) ?_
                refine aw_top (show pS I (nI (s + k), ws, nI 0, sd, ts, rf, rd) 46 (s + k) = sb_b (b (s + k)) from hb.2) ?_
                refine aw_top (sb_nI _ h2'.2) ?_
                first | refine aw_iaddN dX10_number_97 ?_ | refine aw_iadd dX10_number_97 ?_
                refine aw_bipush (v := nI 48) dX10_number_98 (by decide) ?_
                refine aw_isubN (by omega) dX10_number_100 ?_
                refine aw_istore (lv' := [(0, _), (1, _), (2, _), (3, _), (4, _), (5, _)]) dX10_number_101 (by decide) rfl ?_
                exact next _ (by rw [Nat.min_eq_left (show k ≤ 3 by omega), Nat.min_eq_left (show k + 1 ≤ 3 by omega), dv]; omega)
    exact loop (P - s) 0 (by omega) (by omega) hee
  by_cases hsP : s < P
  · have hb := hT s (by omega)
    refine aw_st (show _ = [Value.int (nI 48), Value.int (nI (b s))] by rw [seeV, if_pos hsP]) ?_
    refine aw_n_lt (tgt := 17) dX10_number_8 (by decide) rfl rfl (by omega) (by omega) (fun h1 => ?_) (fun h1 => ?_)
    · exact bad (by rw [← hee]; exact run_no (Or.inr (decide_eq_false (fun z => by omega)))) _
    · refine aw_iload_n dX10_number_11 rfl rfl ?_
      refine aw_bipush (v := nI 57) dX10_number_12 (by decide) ?_
      refine aw_st (show _ = [Value.int (nI 57), Value.int (nI (b s))] by rw [seeV, if_pos hsP]) ?_
      refine aw_n_le (tgt := 27) dX10_number_14 (by decide) rfl rfl (by omega) (by omega) (fun h2 => ?_) (fun h2 => ?_)
      · exact good (decide_eq_true ⟨by omega, h2⟩) hsP _
      · exact bad (by rw [← hee]; exact run_no (Or.inr (decide_eq_false (fun z => by omega)))) _
  · refine aw_st (show _ = [Value.int (nI 48), Value.int (-1)] by rw [seeV, if_neg hsP]) ?_
    refine aw_icmp_lt (tgt := 17) dX10_number_8 (by decide) (fun h1 => ?_) (fun h1 => ?_)
    · exact bad (by rw [← hee]; exact run_no (Or.inl (by omega))) _
    · exact absurd (by decide : (-1 : Int32) < nI 48) h1
end MOD16
