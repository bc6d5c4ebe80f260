section RD2
variable {G : GG} {n sz : Nat} {kd : Nat → AKd} {I : Nat → Nat → Int32} {R : Nat → Nat → Option Nat} {J : Nat → Nat → Int64} {ad av : Nat → Nat} {fx : Option Nat}
theorem r_greatest {w : Nat} (h4 : 4 ≤ w) (h9 : w < 9) (M : Mem) : EX G mX7_greatestOf [.int (nI (baseK (w - 4)))] M (some (.int (nI (mostK (w - 4))))) M := by
  refine mm_of rfl [(0, .int (nI (baseK (w - 4))))] rfl (Nat.le_of_ble_eq_true rfl) ?_
  refine aw_iload_n dX7_greatestOf_0 rfl rfl ?_
  rcases (by omega : w = 4 ∨ w = 5 ∨ w = 6 ∨ w = 7 ∨ w = 8) with rfl | rfl | rfl | rfl | rfl
  · refine aw_lookup (off := 35) (tgt := 36) dX7_greatestOf_1 (by decide) (by decide) (by decide) ?_
    refine aw_bipush (v := nI 15) dX7_greatestOf_36 (by decide) ?_
    refine aw_iret dX7_greatestOf_38 rfl rfl ?_
    exact ⟨rfl, rfl⟩
  · refine aw_lookup (off := 38) (tgt := 39) dX7_greatestOf_1 (by decide) (by decide) (by decide) ?_
    refine aw_bipush (v := nI 7) dX7_greatestOf_39 (by decide) ?_
    refine aw_iret dX7_greatestOf_41 rfl rfl ?_
    exact ⟨rfl, rfl⟩
  · refine aw_lookup (off := 41) (tgt := 42) dX7_greatestOf_1 (by decide) (by decide) (by decide) ?_
    refine aw_bipush (v := nI 15) dX7_greatestOf_42 (by decide) ?_
    refine aw_iret dX7_greatestOf_44 rfl rfl ?_
    exact ⟨rfl, rfl⟩
  · refine aw_lookup (off := 44) (tgt := 45) dX7_greatestOf_1 (by decide) (by decide) (by decide) ?_
    refine aw_sipush (v := nI 999) dX7_greatestOf_45 (by decide) ?_
    refine aw_iret dX7_greatestOf_48 rfl rfl ?_
    exact ⟨rfl, rfl⟩
  · refine aw_lookup (off := 44) (tgt := 45) dX7_greatestOf_1 (by decide) (by decide) (by decide) ?_
    refine aw_sipush (v := nI 999) dX7_greatestOf_45 (by decide) ?_
    refine aw_iret dX7_greatestOf_48 rfl rfl ?_
    exact ⟨rfl, rfl⟩
def cdv (b : Nat → Nat) (s : Nat) : Nat → Nat
  | 0 => 0
  | m + 1 => min 1000 (cdv b s m * 10 + b (s + m) - 48)
theorem cdv_le (b : Nat → Nat) (s : Nat) : ∀ m, cdv b s m ≤ 1000
  | 0 => by simp [cdv]
  | m + 1 => by rw [cdv]; omega
theorem cdv_dv (b : Nat → Nat) (s : Nat) : ∀ m, (∀ k, k < m → 48 ≤ b (s + k) ∧ b (s + k) ≤ 57) → m ≤ 3 → cdv b s m = dv b s m
  | 0, _, _ => rfl
  | m + 1, h, hm => by
    have ih := cdv_dv b s m (fun k hk => h k (by omega)) (by omega)
    have h1 := dv_le b s (m + 1) (fun k hk => (h k hk).2) hm
    have h2 := h m (by omega)
    rw [dv] at h1 ⊢
    rw [cdv, ih]
    omega
theorem min_nI {v : Nat} (h : v < 2 ^ 31) : (if nI v < nI 1000 then nI v else nI 1000) = nI (min 1000 v) := by
  by_cases c : v < 1000
  · rw [if_pos (nI_lt c (by decide)), show min 1000 v = v by omega]
  · rw [if_neg (nI_nlt (by omega) h), show min 1000 v = 1000 by omega]
def nfF (f : Nat) (b : Nat → Nat) (s e g : Nat) : Nat := if e = s then bl f s 0 else if 3 < e - s ∨ g < cdv b s (e - s) then bl f s 1 else f
theorem bl_lt {f s k : Nat} (hf : f < 2000) (hs : s ≤ 100) (hk : k ≤ 3) : bl f s k < 2000 := by unfold bl; split <;> omega
theorem nfF_lt {f : Nat} {b : Nat → Nat} {s e g : Nat} (hf : f < 2000) (hs : s ≤ 100) : nfF f b s e g < 2000 := by
  unfold nfF
  split
  · exact bl_lt hf hs (by decide)
  · split
    · exact bl_lt hf hs (by decide)
    · exact hf
theorem bl_ne {f s k : Nat} (h : f ≠ 0) : bl f s k = f := if_neg h
theorem nfF_ne {f : Nat} {b : Nat → Nat} {s e g : Nat} (h : f ≠ 0) : nfF f b s e g = f := by unfold nfF; rw [bl_ne h, bl_ne h]; split <;> (try split) <;> rfl
theorem pNum_cls {b : Nat → Nat} {P i g : Nat} (hi : i ≤ P) : match pNum b P i g with
    | .inl x => nfF 0 b (wS b P i) (run (isDg b) P (wS b P i)) g = x
    | .inr (v, q) => nfF 0 b (wS b P i) (run (isDg b) P (wS b P i)) g = 0 ∧ q = run (isDg b) P (wS b P i) ∧ v = cdv b (wS b P i) (q - wS b P i) := by
  have hw := wSE b hi
  have he := run_le (q := isDg b) (P := P) (i := wS b P i) (by omega)
  have hp : pNum b P i g = if run (isDg b) P (wS b P i) = wS b P i then .inl (1 + 8 * wS b P i) else if run (isDg b) P (wS b P i) - wS b P i ≤ 3 ∧ dv b (wS b P i) (run (isDg b) P (wS b P i) - wS b P i) ≤ g then .inr (dv b (wS b P i) (run (isDg b) P (wS b P i) - wS b P i), run (isDg b) P (wS b P i)) else .inl (1 + 8 * wS b P i + 1) := rfl
  rw [hp]
  unfold nfF
  have hdig : ∀ k, k < run (isDg b) P (wS b P i) - wS b P i → 48 ≤ b (wS b P i + k) ∧ b (wS b P i + k) ≤ 57 := fun k hk => by
    have := run_in (q := isDg b) (P := P) (i := wS b P i) (k := wS b P i + k) (by omega) (by omega)
    unfold isDg at this
    rw [decide_eq_true_iff] at this
    exact this
  generalize wS b P i = s at *
  generalize run (isDg b) P s = e at *
  by_cases h1 : e = s
  · rw [if_pos h1, if_pos h1]
    rfl
  · rw [if_neg h1, if_neg h1]
    by_cases h3 : e - s ≤ 3
    · have hc := cdv_dv b s (e - s) hdig h3
      by_cases h2 : dv b s (e - s) ≤ g
      · rw [if_pos ⟨h3, h2⟩]
        dsimp only
        rw [if_neg (by omega)]
        exact ⟨rfl, rfl, hc.symm⟩
      · rw [if_neg (by omega)]
        dsimp only
        rw [if_pos (by omega)]
        rfl
    · rw [if_neg (by omega)]
      dsimp only
      rw [if_pos (by omega)]
      rfl
theorem r_number (hC : ShC G n kd R) {b : Nat → Nat} (hT : TC I b) {P i f g : Nat} (hf : f < 2000) (hg : g < 2 ^ 31) (hP : I 1 1 = nI P) (hP1 : P ≤ 100) (hi : i ≤ P) (ts fo st : Int32) (cd : Nat → Int32) : EX G mX7_readNumber [.ref (gz G + 3), .int (nI g)] (n, sz, kd, rS I (ts, fo, nI f, nI i, st, cd), R, J) (some (.int (nI (cdv b (wS b P i) (run (isDg b) P (wS b P i) - wS b P i))))) (n, sz, kd, rS I (ts, fo, nI (nfF f b (wS b P i) (run (isDg b) P (wS b P i)) g), nI (run (isDg b) P (wS b P i)), nI (wS b P i), cd), R, J) := by
  refine mm_of rfl [(0, .ref (gz G + 3)), (1, .int (nI g))] rfl (Nat.le_of_ble_eq_true rfl) ?_
  have hw := wSE b hi
  refine aw_aload_n dX7_readNumber_0 rfl rfl (by first | exact isR_ref _ | exact isR_rf _ | exact isR_null) ?_
  refine aw_cVv (as := []) dX7_readNumber_1 lk_X7_92 cm_X7_skipBlanks vi_X7_skipBlanks (by unfold RO; decide) rfl (sC_k3 hC) (sC_n3 hC) rfl rfl rfl (Nat.le_of_ble_eq_true rfl) (r_skip hC hT hP hP1 hi _ _ _ _ _) ?_
  refine aw_aload_n dX7_readNumber_4 rfl rfl (by first | exact isR_ref _ | exact isR_rf _ | exact isR_null) ?_
  refine aw_aload_n dX7_readNumber_5 rfl rfl (by first | exact isR_ref _ | exact isR_rf _ | exact isR_null) ?_
  refine aw_get dX7_readNumber_6 fl_X7_19 (sC_k3 hC) (sC_n3 hC) (show _ = Value.int (nI (wS b P i)) from rfl) ?_
  refine aw_putI dX7_readNumber_9 fl_X7_95 (Or.inl rfl) rfl (sC_k3 hC) (sC_n3 hC) ?_
  rw [rS_st]
  refine aw_iconst (v := nI 0) dX7_readNumber_12 (by decide) ?_
  refine aw_istore_n (lv' := [(0, _), (1, _), (2, _)]) dX7_readNumber_13 rfl (by decide) rfl ?_
  generalize wS b P i = s at hw ⊢
  have he := run_le (q := isDg b) (P := P) (i := s) (by omega)
  generalize hee : run (isDg b) P s = e at he ⊢
  have hcl := cdv_le b s (e - s)
  have fin : AW G mX7_readNumber 102 [(0, .ref (gz G + 3)), (1, .int (nI g)), (2, .int (nI (cdv b s (e - s))))] [] (n, sz, kd, rS I (ts, fo, nI f, nI e, nI s, cd), R, J) (fun v' M' => v' = some (.int (nI (cdv b s (e - s)))) ∧ M' = (n, sz, kd, rS I (ts, fo, nI (nfF f b s e g), nI e, nI s, cd), R, J)) := by
    have last : ∀ f', f' = nfF f b s e g → AW G mX7_readNumber 144 [(0, .ref (gz G + 3)), (1, .int (nI g)), (2, .int (nI (cdv b s (e - s))))] [] (n, sz, kd, rS I (ts, fo, nI f', nI e, nI s, cd), R, J) (fun v' M' => v' = some (.int (nI (cdv b s (e - s)))) ∧ M' = (n, sz, kd, rS I (ts, fo, nI (nfF f b s e g), nI e, nI s, cd), R, J)) := by
      intro f' h
      subst h
      refine aw_iload_n dX7_readNumber_144 rfl rfl ?_
      refine aw_iret dX7_readNumber_145 rfl rfl ?_
      exact ⟨rfl, rfl⟩
    refine aw_aload_n dX7_readNumber_102 rfl rfl (by first | exact isR_ref _ | exact isR_rf _ | exact isR_null) ?_
    refine aw_get dX7_readNumber_103 fl_X7_19 (sC_k3 hC) (sC_n3 hC) (show _ = Value.int (nI e) from rfl) ?_
    refine aw_aload_n dX7_readNumber_106 rfl rfl (by first | exact isR_ref _ | exact isR_rf _ | exact isR_null) ?_
    refine aw_get dX7_readNumber_107 fl_X7_95 (sC_k3 hC) (sC_n3 hC) (show _ = Value.int (nI s) from rfl) ?_
    refine aw_n_ne (tgt := 121) dX7_readNumber_110 (by decide) rfl rfl (by omega) (by omega) (fun h => ?_) (fun h => ?_)
    · refine aw_aload_n dX7_readNumber_121 rfl rfl (by first | exact isR_ref _ | exact isR_rf _ | exact isR_null) ?_
      refine aw_get dX7_readNumber_122 fl_X7_19 (sC_k3 hC) (sC_n3 hC) (show _ = Value.int (nI e) from rfl) ?_
      refine aw_aload_n dX7_readNumber_125 rfl rfl (by first | exact isR_ref _ | exact isR_rf _ | exact isR_null) ?_
      refine aw_get dX7_readNumber_126 fl_X7_95 (sC_k3 hC) (sC_n3 hC) (show _ = Value.int (nI s) from rfl) ?_
      refine aw_isubN (by omega) dX7_readNumber_129 ?_
      refine aw_iconst (v := nI 3) dX7_readNumber_130 (by decide) ?_
      refine aw_n_gt (tgt := 139) dX7_readNumber_131 (by decide) rfl rfl (by omega) (by omega) (fun h2 => ?_) (fun h2 => ?_)
      · refine aw_aload_n dX7_readNumber_139 rfl rfl (by first | exact isR_ref _ | exact isR_rf _ | exact isR_null) ?_
        refine aw_iconst (v := nI 1) dX7_readNumber_140 (by decide) ?_
        refine aw_cVv (as := [_]) dX7_readNumber_141 lk_X7_43 cm_X7_blame vi_X7_blame (by unfold RO; decide) rfl (sC_k3 hC) (sC_n3 hC) rfl rfl rfl (Nat.le_of_ble_eq_true rfl) (r_blame hC (by omega) _ _ _ _) ?_
        exact last _ (by unfold nfF; rw [if_neg h, if_pos (Or.inl h2)])
      · refine aw_iload_n dX7_readNumber_134 rfl rfl ?_
        refine aw_iload_n dX7_readNumber_135 rfl rfl ?_
        refine aw_n_le (tgt := 144) dX7_readNumber_136 (by decide) rfl rfl (by omega) (by omega) (fun h3 => ?_) (fun h3 => ?_)
        · exact last _ (by unfold nfF; rw [if_neg h, if_neg (by omega)])
        · refine aw_aload_n dX7_readNumber_139 rfl rfl (by first | exact isR_ref _ | exact isR_rf _ | exact isR_null) ?_
          refine aw_iconst (v := nI 1) dX7_readNumber_140 (by decide) ?_
          refine aw_cVv (as := [_]) dX7_readNumber_141 lk_X7_43 cm_X7_blame vi_X7_blame (by unfold RO; decide) rfl (sC_k3 hC) (sC_n3 hC) rfl rfl rfl (Nat.le_of_ble_eq_true rfl) (r_blame hC (by omega) _ _ _ _) ?_
          exact last _ (by unfold nfF; rw [if_neg h, if_pos (Or.inr (by omega))])
    · refine aw_aload_n dX7_readNumber_113 rfl rfl (by first | exact isR_ref _ | exact isR_rf _ | exact isR_null) ?_
      refine aw_iconst (v := nI 0) dX7_readNumber_114 (by decide) ?_
      refine aw_cVv (as := [_]) dX7_readNumber_115 lk_X7_43 cm_X7_blame vi_X7_blame (by unfold RO; decide) rfl (sC_k3 hC) (sC_n3 hC) rfl rfl rfl (Nat.le_of_ble_eq_true rfl) (r_blame hC (by omega) _ _ _ _) ?_
      refine aw_goto (tgt := 144) dX7_readNumber_118 (by decide) ?_
      exact last _ (by unfold nfF; rw [if_pos h])
  have loop : ∀ d k, s ≤ k → k + d = P → run (isDg b) P k = e → AW G mX7_readNumber 14 [(0, .ref (gz G + 3)), (1, .int (nI g)), (2, .int (nI (cdv b s (k - s))))] [] (n, sz, kd, rS I (ts, fo, nI f, nI k, nI s, cd), R, J) (fun v' M' => v' = some (.int (nI (cdv b s (e - s)))) ∧ M' = (n, sz, kd, rS I (ts, fo, nI (nfF f b s e g), nI e, nI s, cd), R, J)) := by
    intro d
    induction d with
    | zero =>
      intro k hsk hd hr
      have hij : k = e := by rw [← hr]; exact (run_no (Or.inl (by omega))).symm
      subst hij
      refine aw_aload_n dX7_readNumber_14 rfl rfl (by first | exact isR_ref _ | exact isR_rf _ | exact isR_null) ?_
      refine aw_get dX7_readNumber_15 fl_X7_19 (sC_k3 hC) (sC_n3 hC) (show _ = Value.int (nI k) from rfl) ?_
      refine aw_aload_n dX7_readNumber_18 rfl rfl (by first | exact isR_ref _ | exact isR_rf _ | exact isR_null) ?_
      refine aw_get dX7_readNumber_19 fl_X7_15 (sC_k3 hC) (sC_n3 hC) (sC_r_3_tape hC _ _) ?_
      refine aw_get dX7_readNumber_22 fl_X7_98 (sC_k1 hC) (sC_n1 hC) (congrArg Value.int hP) ?_
      refine aw_n_ge (tgt := 102) dX7_readNumber_25 (by decide) rfl rfl (by omega) (by omega) (fun h => ?_) (fun h => ?_)
      · exact fin
      · exact absurd h (by omega)
    | succ d ih =>
      intro k hsk hd hr
      have hb := hT k (by omega)
      have hck := cdv_le b s (k - s)
      refine aw_aload_n dX7_readNumber_14 rfl rfl (by first | exact isR_ref _ | exact isR_rf _ | exact isR_null) ?_
      refine aw_get dX7_readNumber_15 fl_X7_19 (sC_k3 hC) (sC_n3 hC) (show _ = Value.int (nI k) from rfl) ?_
      refine aw_aload_n dX7_readNumber_18 rfl rfl (by first | exact isR_ref _ | exact isR_rf _ | exact isR_null) ?_
      refine aw_get dX7_readNumber_19 fl_X7_15 (sC_k3 hC) (sC_n3 hC) (sC_r_3_tape hC _ _) ?_
      refine aw_get dX7_readNumber_22 fl_X7_98 (sC_k1 hC) (sC_n1 hC) (congrArg Value.int hP) ?_
      refine aw_n_ge (tgt := 102) dX7_readNumber_25 (by decide) rfl rfl (by omega) (by omega) (fun h => ?_) (fun h => ?_)
      · exact absurd h (by omega)
      · refine aw_aload_n dX7_readNumber_28 rfl rfl (by first | exact isR_ref _ | exact isR_rf _ | exact isR_null) ?_
        refine aw_get dX7_readNumber_29 fl_X7_15 (sC_k3 hC) (sC_n3 hC) (sC_r_3_tape hC _ _) ?_
        refine aw_get dX7_readNumber_32 fl_X7_103 (sC_k1 hC) (sC_n1 hC) (sC_r_1_bytes hC _ _) ?_
        refine aw_aload_n dX7_readNumber_35 rfl rfl (by first | exact isR_ref _ | exact isR_rf _ | exact isR_null) ?_
        refine aw_get dX7_readNumber_36 fl_X7_19 (sC_k3 hC) (sC_n3 hC) (show _ = Value.int (nI k) from rfl) ?_
        refine aw_iald dX7_readNumber_39 (sC_k2 hC) (sC_n2 hC) (ixm (by omega)) ?_
        refine aw_top (show _ = nI (b k) from hb.2) ?_
        refine aw_bipush (v := nI 48) dX7_readNumber_40 (by decide) ?_
        refine aw_n_lt (tgt := 102) dX7_readNumber_42 (by decide) rfl rfl (by omega) (by omega) (fun h2 => ?_) (fun h2 => ?_)
        · have hij : k = e := by rw [← hr]; exact (run_no (q := isDg b) (Or.inr (decide_eq_false (by omega)))).symm
          subst hij
          exact fin
        · refine aw_aload_n dX7_readNumber_45 rfl rfl (by first | exact isR_ref _ | exact isR_rf _ | exact isR_null) ?_
          refine aw_get dX7_readNumber_46 fl_X7_15 (sC_k3 hC) (sC_n3 hC) (sC_r_3_tape hC _ _) ?_
          refine aw_get dX7_readNumber_49 fl_X7_103 (sC_k1 hC) (sC_n1 hC) (sC_r_1_bytes hC _ _) ?_
          refine aw_aload_n dX7_readNumber_52 rfl rfl (by first | exact isR_ref _ | exact isR_rf _ | exact isR_null) ?_
          refine aw_get dX7_readNumber_53 fl_X7_19 (sC_k3 hC) (sC_n3 hC) (show _ = Value.int (nI k) from rfl) ?_
          refine aw_iald dX7_readNumber_56 (sC_k2 hC) (sC_n2 hC) (ixm (by omega)) ?_
          refine aw_top (show _ = nI (b k) from hb.2) ?_
          refine aw_bipush (v := nI 57) dX7_readNumber_57 (by decide) ?_
          refine aw_n_gt (tgt := 102) dX7_readNumber_59 (by decide) rfl rfl (by omega) (by omega) (fun h3 => ?_) (fun h3 => ?_)
          · have hij : k = e := by rw [← hr]; exact (run_no (q := isDg b) (Or.inr (decide_eq_false (by omega)))).symm
            subst hij
            exact fin
          · refine aw_sipush (v := nI 1000) dX7_readNumber_62 (by decide) ?_
            refine aw_iload_n dX7_readNumber_65 rfl rfl ?_
            refine aw_bipush (v := nI 10) dX7_readNumber_66 (by decide) ?_
            first | refine aw_imulN dX7_readNumber_68 ?_ | refine aw_imul dX7_readNumber_68 ?_
            refine aw_aload_n dX7_readNumber_69 rfl rfl (by first | exact isR_ref _ | exact isR_rf _ | exact isR_null) ?_
            refine aw_get dX7_readNumber_70 fl_X7_15 (sC_k3 hC) (sC_n3 hC) (sC_r_3_tape hC _ _) ?_
            refine aw_get dX7_readNumber_73 fl_X7_103 (sC_k1 hC) (sC_n1 hC) (sC_r_1_bytes hC _ _) ?_
            refine aw_aload_n dX7_readNumber_76 rfl rfl (by first | exact isR_ref _ | exact isR_rf _ | exact isR_null) ?_
            refine aw_get dX7_readNumber_77 fl_X7_19 (sC_k3 hC) (sC_n3 hC) (show _ = Value.int (nI k) from rfl) ?_
            refine aw_iald dX7_readNumber_80 (sC_k2 hC) (sC_n2 hC) (ixm (by omega)) ?_
            refine aw_top (show _ = nI (b k) from hb.2) ?_
            first | refine aw_iaddN dX7_readNumber_81 ?_ | refine aw_iadd dX7_readNumber_81 ?_
            refine aw_bipush (v := nI 48) dX7_readNumber_82 (by decide) ?_
            refine aw_isubN (by omega) dX7_readNumber_84 ?_
            refine aw_mmin dX7_readNumber_85 mn_X7 (by decide) (by decide) ?_
            refine aw_top (min_nI (by omega)) ?_
            refine aw_istore_n (lv' := [(0, _), (1, _), (2, _)]) dX7_readNumber_88 rfl (by decide) rfl ?_
            refine aw_aload_n dX7_readNumber_89 rfl rfl (by first | exact isR_ref _ | exact isR_rf _ | exact isR_null) ?_
            refine aw_dup dX7_readNumber_90 rfl ?_
            refine aw_get dX7_readNumber_91 fl_X7_19 (sC_k3 hC) (sC_n3 hC) (show _ = Value.int (nI k) from rfl) ?_
            refine aw_iconst (v := nI 1) dX7_readNumber_94 (by decide) ?_
            first | refine aw_iaddN dX7_readNumber_95 ?_ | refine aw_iadd dX7_readNumber_95 ?_
            refine aw_putI dX7_readNumber_96 fl_X7_19 (Or.inl rfl) rfl (sC_k3 hC) (sC_n3 hC) ?_
            refine aw_goto (tgt := 14) dX7_readNumber_99 (by decide) ?_
            rw [rS_at]
            have ih' := ih (k + 1) (by omega) (by omega) (by rw [← hr]; exact (run_yes (q := isDg b) (by omega) (decide_eq_true (by omega))).symm)
            rw [show k + 1 - s = (k - s) + 1 by omega, cdv, show s + (k - s) = k by omega] at ih'
            exact ih'
  have l0 := loop (P - s) s (Nat.le_refl _) (by omega) hee
  rw [Nat.sub_self] at l0
  exact l0
def QRT (n sz : Nat) (kd : Nat → AKd) (I : Nat → Nat → Int32) (R : Nat → Nat → Option Nat) (J : Nat → Nat → Int64) (b : Nat → Nat) (P : Nat) (fo : Int32) (i t f : Nat) (rd : Nat → Int32) (v' : Option Value) (M' : Mem) : Prop :=
  v' = none ∧ ∃ i' s' t' f' rd', M' = (n, sz, kd, rS I (nI t', fo, nI f', nI i', nI s', rd'), R, J) ∧ s' ≤ i' ∧ i' ≤ P ∧ t' ≤ 4 ∧ f' < 2000 ∧ (f ≠ 0 → f' = f) ∧ (f = 0 → match pTest b P i t with
    | .inl x => f' = x
    | .inr (q, c) => f' = 0 ∧ i' = q ∧ t' = t + 1 ∧ rd' = fun j => if j = t then nI c else rd j)
theorem kwK_ne {o : Option Nat} (h : ¬ kwK o = -1) : ∃ w, o = some w ∧ 4 ≤ w := by
  cases o with
  | none => exact absurd rfl h
  | some w =>
    refine ⟨w, rfl, ?_⟩
    unfold kwK at h
    dsimp only at h
    by_cases c : w < 4
    · rw [if_pos c] at h; exact absurd rfl h
    · omega
theorem baseK_le (k : Nat) : baseK k ≤ 1100 := by unfold baseK; split <;> decide
theorem mostK_le (k : Nat) : mostK k ≤ 999 := by unfold mostK; split <;> decide
theorem r_test (hG : StP G ad av fx) (hC : ShC G n kd R) {b : Nat → Nat} (hT : TC I b) {P i t f : Nat} (ht : t ≤ 4) (hf : f < 2000) (hP : I 1 1 = nI P) (hP1 : P ≤ 100) (hi : i ≤ P) (fo st : Int32) (rd : Nat → Int32) : MM G mX7_readTest [.ref (gz G + 3)] (n, sz, kd, rS I (nI t, fo, nI f, nI i, st, rd), R, J) (QRT n sz kd I R J b P fo i t f rd) := by
  refine mm_of rfl [(0, .ref (gz G + 3))] rfl (Nat.le_of_ble_eq_true rfl) ?_
  have hw := wSE b hi
  have hpt : pTest b P i t = match wC b P i with
    | none => .inl (1 + 8 * wS b P i)
    | some w => if w < 4 then .inl (1 + 8 * wS b P i) else if t = 4 then .inl (1 + 8 * wS b P i + 2) else match pNum b P (wE b P i) (mostK (w - 4)) with
      | .inl f => .inl f
      | .inr (v, q) => .inr (q, v + baseK (w - 4)) := rfl
  refine aw_aload_n dX7_readTest_0 rfl rfl (by first | exact isR_ref _ | exact isR_rf _ | exact isR_null) ?_
  refine aw_cVv (as := []) dX7_readTest_1 lk_X7_29 cm_X7_readWord vi_X7_readWord (by unfold RO; decide) rfl (sC_k3 hC) (sC_n3 hC) rfl rfl rfl (Nat.le_of_ble_eq_true rfl) (r_word hC hT hP hP1 hi _ _ _ _ _) ?_
  refine aw_aload_n dX7_readTest_4 rfl rfl (by first | exact isR_ref _ | exact isR_rf _ | exact isR_null) ?_
  refine aw_cVx (as := []) dX7_readTest_5 lk_X7_75 cm_X7_kindOfWord vi_X7_kindOfWord (by unfold RO; decide) rfl (sC_k3 hC) (sC_n3 hC) rfl rfl rfl (Nat.le_of_ble_eq_true rfl) (r_kind hG hC hT hP1 hw.2.1 hw.2.2 _ _ _ _) ?_
  refine aw_top (show _ = kwK (wC b P i) from rfl) ?_
  refine aw_istore_n (lv' := [(0, _), (1, _)]) dX7_readTest_8 rfl (by decide) rfl ?_
  refine aw_iload_n dX7_readTest_9 rfl rfl ?_
  refine aw_iconst (v := (-1)) dX7_readTest_10 (by decide) ?_
  refine aw_icmp_ne (tgt := 22) dX7_readTest_11 (by decide) (fun h => ?_) (fun h => ?_)
  · obtain ⟨w, hwc, hw4⟩ := kwK_ne h
    have hw9 : w < 9 := wcode_lt hwc
    rw [hwc] at hpt
    dsimp only at hpt
    rw [if_neg (by omega)] at hpt
    have ek : kwK (wC b P i) = nI (baseK (w - 4)) := by rw [hwc]; unfold kwK; dsimp only; rw [if_neg (by omega)]
    refine aw_lve (lv' := [(0, .ref (gz G + 3)), (1, .int (nI (baseK (w - 4))))]) (by rw [ek]) ?_
    refine aw_aload_n dX7_readTest_22 rfl rfl (by first | exact isR_ref _ | exact isR_rf _ | exact isR_null) ?_
    refine aw_get dX7_readTest_23 fl_X7_23 (sC_k3 hC) (sC_n3 hC) (show _ = Value.int (nI t) from rfl) ?_
    refine aw_iconst (v := nI 4) dX7_readTest_26 (by decide) ?_
    refine aw_n_ne (tgt := 38) dX7_readTest_27 (by decide) rfl rfl (by omega) (by omega) (fun h2 => ?_) (fun h2 => ?_)
    · rw [if_neg h2] at hpt
      have hpn := pNum_cls (b := b) (P := P) (i := wE b P i) (g := mostK (w - 4)) hw.2.2
      have hw2 := wSE b hw.2.2
      have hr2 := run_le (q := isDg b) (P := P) (i := wS b P (wE b P i)) (by omega)
      have hm := mostK_le (w - 4)
      have hbk := baseK_le (w - 4)
      have hcv := cdv_le b (wS b P (wE b P i)) (run (isDg b) P (wS b P (wE b P i)) - wS b P (wE b P i))
      refine aw_aload_n dX7_readTest_38 rfl rfl (by first | exact isR_ref _ | exact isR_rf _ | exact isR_null) ?_
      refine aw_get dX7_readTest_39 fl_X7_9 (sC_k3 hC) (sC_n3 hC) (sC_r_3_codes hC _ _) ?_
      refine aw_aload_n dX7_readTest_42 rfl rfl (by first | exact isR_ref _ | exact isR_rf _ | exact isR_null) ?_
      refine aw_get dX7_readTest_43 fl_X7_23 (sC_k3 hC) (sC_n3 hC) (show _ = Value.int (nI t) from rfl) ?_
      refine aw_iload_n dX7_readTest_46 rfl rfl ?_
      refine aw_aload_n dX7_readTest_47 rfl rfl (by first | exact isR_ref _ | exact isR_rf _ | exact isR_null) ?_
      refine aw_iload_n dX7_readTest_48 rfl rfl ?_
      refine aw_cSx (as := [_]) dX7_readTest_49 lk_X7_79 cm_X7_greatestOf sm_X7_greatestOf (by unfold RO; decide) rfl rfl (Nat.le_of_ble_eq_true rfl) (r_greatest hw4 hw9 _) ?_
      refine aw_cVx (as := [_]) dX7_readTest_52 lk_X7_49 cm_X7_readNumber vi_X7_readNumber (by unfold RO; decide) rfl (sC_k3 hC) (sC_n3 hC) rfl rfl rfl (Nat.le_of_ble_eq_true rfl) (r_number hC hT hf (by omega) hP hP1 hw.2.2 _ _ _ _) ?_
      first | refine aw_iaddN dX7_readTest_55 ?_ | refine aw_iadd dX7_readTest_55 ?_
      refine aw_iast dX7_readTest_56 (sC_k4 hC) (sC_n4 hC) (ixm (by omega)) ?_
      rw [rS_cd]
      refine aw_aload_n dX7_readTest_57 rfl rfl (by first | exact isR_ref _ | exact isR_rf _ | exact isR_null) ?_
      refine aw_dup dX7_readTest_58 rfl ?_
      refine aw_get dX7_readTest_59 fl_X7_23 (sC_k3 hC) (sC_n3 hC) (show _ = Value.int (nI t) from rfl) ?_
      refine aw_iconst (v := nI 1) dX7_readTest_62 (by decide) ?_
      first | refine aw_iaddN dX7_readTest_63 ?_ | refine aw_iadd dX7_readTest_63 ?_
      refine aw_putI dX7_readTest_64 fl_X7_23 (Or.inl rfl) rfl (sC_k3 hC) (sC_n3 hC) ?_
      rw [rS_ts]
      refine aw_vret dX7_readTest_67 rfl ?_
      refine ⟨rfl, _, _, _, _, _, rfl, hr2.1, hr2.2, by omega, nfF_lt hf (by omega), fun hne => nfF_ne hne, fun h0 => ?_⟩
      subst h0
      rw [hpt]
      cases hx : pNum b P (wE b P i) (mostK (w - 4)) with
      | inl x =>
        rw [hx] at hpn
        exact hpn
      | inr vq =>
        obtain ⟨v, q⟩ := vq
        rw [hx] at hpn
        obtain ⟨e1, e2, e3⟩ := hpn
        refine ⟨e1, e2.symm, rfl, ?_⟩
        rw [e3, e2, Nat.add_comm]
    · rw [if_pos h2] at hpt
      refine aw_aload_n dX7_readTest_30 rfl rfl (by first | exact isR_ref _ | exact isR_rf _ | exact isR_null) ?_
      refine aw_iconst (v := nI 2) dX7_readTest_31 (by decide) ?_
      refine aw_cVv (as := [_]) dX7_readTest_32 lk_X7_43 cm_X7_blame vi_X7_blame (by unfold RO; decide) rfl (sC_k3 hC) (sC_n3 hC) rfl rfl rfl (Nat.le_of_ble_eq_true rfl) (r_blame hC (by omega) _ _ _ _) ?_
      refine aw_goto (tgt := 67) dX7_readTest_35 (by decide) ?_
      refine aw_vret dX7_readTest_67 rfl ?_
      refine ⟨rfl, _, _, _, _, _, rfl, hw.2.1, hw.2.2, ht, bl_lt hf (by omega) (by decide), fun hne => bl_ne hne, fun h0 => ?_⟩
      subst h0
      rw [hpt]
      rfl
  · refine aw_aload_n dX7_readTest_14 rfl rfl (by first | exact isR_ref _ | exact isR_rf _ | exact isR_null) ?_
    refine aw_iconst (v := nI 0) dX7_readTest_15 (by decide) ?_
    refine aw_cVv (as := [_]) dX7_readTest_16 lk_X7_43 cm_X7_blame vi_X7_blame (by unfold RO; decide) rfl (sC_k3 hC) (sC_n3 hC) rfl rfl rfl (Nat.le_of_ble_eq_true rfl) (r_blame hC (by omega) _ _ _ _) ?_
    refine aw_goto (tgt := 67) dX7_readTest_19 (by decide) ?_
    refine aw_vret dX7_readTest_67 rfl ?_
    refine ⟨rfl, _, _, _, _, _, rfl, hw.2.1, hw.2.2, ht, bl_lt hf (by omega) (by decide), fun hne => bl_ne hne, fun h0 => ?_⟩
    subst h0
    have e : pTest b P i t = .inl (1 + 8 * wS b P i) := by
      rw [hpt]
      cases hwc : wC b P i with
      | none => rfl
      | some w =>
        rw [hwc] at h
        unfold kwK at h
        dsimp only at h
        by_cases c : w < 4
        · dsimp only; rw [if_pos c]
        · rw [if_neg c] at h
          have hbk := baseK_le (w - 4)
          exact absurd (show nI (baseK (w - 4)) < 0 by rw [h]; decide) (nI_pos (by omega))
    rw [e]
    rfl
end RD2
