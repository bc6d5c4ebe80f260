section RD1
variable {G : GG} {n sz : Nat} {kd : Nat → AKd} {I : Nat → Nat → Int32} {R : Nat → Nat → Option Nat} {J : Nat → Nat → Int64} {ad av : Nat → Nat} {fx : Option Nat}
/-- the reader's own: tests, folder, fault, at, start, codes -/
abbrev RSt : Type := Int32 × Int32 × Int32 × Int32 × Int32 × (Nat → Int32)
def rS (I : Nat → Nat → Int32) (p : RSt) : Nat → Nat → Int32 := fun r c => if r = 3 then (if c = 2 then p.1 else if c = 3 then p.2.1 else if c = 4 then p.2.2.1 else if c = 5 then p.2.2.2.1 else if c = 6 then p.2.2.2.2.1 else I r c) else if r = 4 then p.2.2.2.2.2 c else I r c
theorem rS_ts (I : Nat → Nat → Int32) (ts fo ft at_ st x : Int32) (cd : Nat → Int32) : u2 (rS I (ts, fo, ft, at_, st, cd)) 3 2 x = rS I (x, fo, ft, at_, st, cd) := by
  funext a b
  unfold u2 rS
  by_cases h : a = 3
  · subst h
    by_cases h2 : b = 2 <;> simp [h2]
  · simp [h]
theorem rS_fo (I : Nat → Nat → Int32) (ts fo ft at_ st x : Int32) (cd : Nat → Int32) : u2 (rS I (ts, fo, ft, at_, st, cd)) 3 3 x = rS I (ts, x, ft, at_, st, cd) := by
  funext a b
  unfold u2 rS
  by_cases h : a = 3
  · subst h
    by_cases h2 : b = 3 <;> simp [h2]
  · simp [h]
theorem rS_ft (I : Nat → Nat → Int32) (ts fo ft at_ st x : Int32) (cd : Nat → Int32) : u2 (rS I (ts, fo, ft, at_, st, cd)) 3 4 x = rS I (ts, fo, x, at_, st, cd) := by
  funext a b
  unfold u2 rS
  by_cases h : a = 3
  · subst h
    by_cases h2 : b = 4 <;> simp [h2]
  · simp [h]
theorem rS_at (I : Nat → Nat → Int32) (ts fo ft at_ st x : Int32) (cd : Nat → Int32) : u2 (rS I (ts, fo, ft, at_, st, cd)) 3 5 x = rS I (ts, fo, ft, x, st, cd) := by
  funext a b
  unfold u2 rS
  by_cases h : a = 3
  · subst h
    by_cases h2 : b = 5 <;> simp [h2]
  · simp [h]
theorem rS_st (I : Nat → Nat → Int32) (ts fo ft at_ st x : Int32) (cd : Nat → Int32) : u2 (rS I (ts, fo, ft, at_, st, cd)) 3 6 x = rS I (ts, fo, ft, at_, x, cd) := by
  funext a b
  unfold u2 rS
  by_cases h : a = 3
  · subst h
    by_cases h2 : b = 6 <;> simp [h2]
  · simp [h]
theorem rS_cd (I : Nat → Nat → Int32) (ts fo ft at_ st x : Int32) (cd : Nat → Int32) (j : Nat) : u2 (rS I (ts, fo, ft, at_, st, cd)) 4 j x = rS I (ts, fo, ft, at_, st, fun c => if c = j then x else cd c) := by
  funext a b
  unfold u2 rS
  by_cases h : a = 4
  · subst h
    simp
  · simp [h]
theorem rS_own (I : Nat → Nat → Int32) : rS I (I 3 2, I 3 3, I 3 4, I 3 5, I 3 6, I 4) = I := by
  funext a b
  unfold rS
  by_cases h : a = 3
  · subst h
    simp only [if_true]
    repeat' split
    all_goals first | rfl | (rename_i h1; rw [h1]) | (rename_i h1 h2; rw [h2])
  · by_cases h2 : a = 4
    · subst h2; simp
    · simp [h, h2]
/-- the class's TAPE -/
def TC (I : Nat → Nat → Int32) (b : Nat → Nat) : Prop := ∀ i, i < 100 → b i < 256 ∧ I 2 i = nI (b i)
theorem r_skip (hC : ShC G n kd R) {b : Nat → Nat} (hT : TC I b) {P i : Nat} (hP : I 1 1 = nI P) (hP1 : P ≤ 100) (hi : i ≤ P) (ts fo ft st : Int32) (cd : Nat → Int32) : EX G mX7_skipBlanks [.ref (gz G + 3)] (n, sz, kd, rS I (ts, fo, ft, nI i, st, cd), R, J) none (n, sz, kd, rS I (ts, fo, ft, nI (wS b P i), st, cd), R, J) := by
  refine mm_of rfl [(0, .ref (gz G + 3))] rfl (Nat.le_of_ble_eq_true rfl) ?_
  generalize hj : wS b P i = j
  have loop : ∀ d i, i + d = P → wS b P i = j → AW G mX7_skipBlanks 0 [(0, .ref (gz G + 3))] [] (n, sz, kd, rS I (ts, fo, ft, nI i, st, cd), R, J) (fun v' M' => v' = none ∧ M' = (n, sz, kd, rS I (ts, fo, ft, nI j, st, cd), R, J)) := by
    intro d
    induction d with
    | zero =>
      intro i hd hr
      have hij : i = j := by rw [← hr]; exact (run_no (Or.inl (by omega))).symm
      subst hij
      refine aw_aload_n dX7_skipBlanks_0 rfl rfl (by first | exact isR_ref _ | exact isR_rf _ | exact isR_null) ?_
      refine aw_get dX7_skipBlanks_1 fl_X7_19 (sC_k3 hC) (sC_n3 hC) (show _ = Value.int (nI i) from rfl) ?_
      refine aw_aload_n dX7_skipBlanks_4 rfl rfl (by first | exact isR_ref _ | exact isR_rf _ | exact isR_null) ?_
      refine aw_get dX7_skipBlanks_5 fl_X7_15 (sC_k3 hC) (sC_n3 hC) (sC_r_3_tape hC _ _) ?_
      refine aw_get dX7_skipBlanks_8 fl_X7_98 (sC_k1 hC) (sC_n1 hC) (congrArg Value.int hP) ?_
      refine aw_n_ge (tgt := 44) dX7_skipBlanks_11 (by decide) rfl rfl (by omega) (by omega) (fun h => ?_) (fun h => ?_)
      · refine aw_vret dX7_skipBlanks_44 rfl ?_
        exact ⟨rfl, rfl⟩
      · exact absurd h (by omega)
    | succ d ih =>
      intro i hd hr
      have hb := hT i (by omega)
      refine aw_aload_n dX7_skipBlanks_0 rfl rfl (by first | exact isR_ref _ | exact isR_rf _ | exact isR_null) ?_
      refine aw_get dX7_skipBlanks_1 fl_X7_19 (sC_k3 hC) (sC_n3 hC) (show _ = Value.int (nI i) from rfl) ?_
      refine aw_aload_n dX7_skipBlanks_4 rfl rfl (by first | exact isR_ref _ | exact isR_rf _ | exact isR_null) ?_
      refine aw_get dX7_skipBlanks_5 fl_X7_15 (sC_k3 hC) (sC_n3 hC) (sC_r_3_tape hC _ _) ?_
      refine aw_get dX7_skipBlanks_8 fl_X7_98 (sC_k1 hC) (sC_n1 hC) (congrArg Value.int hP) ?_
      refine aw_n_ge (tgt := 44) dX7_skipBlanks_11 (by decide) rfl rfl (by omega) (by omega) (fun h => ?_) (fun h => ?_)
      · exact absurd h (by omega)
      · refine aw_aload_n dX7_skipBlanks_14 rfl rfl (by first | exact isR_ref _ | exact isR_rf _ | exact isR_null) ?_
        refine aw_get dX7_skipBlanks_15 fl_X7_15 (sC_k3 hC) (sC_n3 hC) (sC_r_3_tape hC _ _) ?_
        refine aw_get dX7_skipBlanks_18 fl_X7_103 (sC_k1 hC) (sC_n1 hC) (sC_r_1_bytes hC _ _) ?_
        refine aw_aload_n dX7_skipBlanks_21 rfl rfl (by first | exact isR_ref _ | exact isR_rf _ | exact isR_null) ?_
        refine aw_get dX7_skipBlanks_22 fl_X7_19 (sC_k3 hC) (sC_n3 hC) (show _ = Value.int (nI i) from rfl) ?_
        refine aw_iald dX7_skipBlanks_25 (sC_k2 hC) (sC_n2 hC) (ixm (by omega)) ?_
        refine aw_top (show _ = nI (b i) from hb.2) ?_
        refine aw_bipush (v := nI 32) dX7_skipBlanks_26 (by decide) ?_
        refine aw_n_ne (tgt := 44) dX7_skipBlanks_28 (by decide) rfl rfl (by omega) (by omega) (fun h2 => ?_) (fun h2 => ?_)
        · have hij : i = j := by rw [← hr]; exact (run_no (Or.inr (decide_eq_false h2))).symm
          subst hij
          refine aw_vret dX7_skipBlanks_44 rfl ?_
          exact ⟨rfl, rfl⟩
        · refine aw_aload_n dX7_skipBlanks_31 rfl rfl (by first | exact isR_ref _ | exact isR_rf _ | exact isR_null) ?_
          refine aw_dup dX7_skipBlanks_32 rfl ?_
          refine aw_get dX7_skipBlanks_33 fl_X7_19 (sC_k3 hC) (sC_n3 hC) (show _ = Value.int (nI i) from rfl) ?_
          refine aw_iconst (v := nI 1) dX7_skipBlanks_36 (by decide) ?_
          first | refine aw_iaddN dX7_skipBlanks_37 ?_ | refine aw_iadd dX7_skipBlanks_37 ?_
          refine aw_putI dX7_skipBlanks_38 fl_X7_19 (Or.inl rfl) rfl (sC_k3 hC) (sC_n3 hC) ?_
          refine aw_goto (tgt := 0) dX7_skipBlanks_41 (by decide) ?_
          rw [rS_at]
          exact ih (i + 1) (by omega) (by rw [← hr]; exact (run_yes (q := isBl b) (by omega) (decide_eq_true h2)).symm)
  exact loop (P - i) i (by omega) hj
theorem r_word (hC : ShC G n kd R) {b : Nat → Nat} (hT : TC I b) {P i : Nat} (hP : I 1 1 = nI P) (hP1 : P ≤ 100) (hi : i ≤ P) (ts fo ft st : Int32) (cd : Nat → Int32) : EX G mX7_readWord [.ref (gz G + 3)] (n, sz, kd, rS I (ts, fo, ft, nI i, st, cd), R, J) none (n, sz, kd, rS I (ts, fo, ft, nI (wE b P i), nI (wS b P i), cd), R, J) := by
  refine mm_of rfl [(0, .ref (gz G + 3))] rfl (Nat.le_of_ble_eq_true rfl) ?_
  have hw := wSE b hi
  refine aw_aload_n dX7_readWord_0 rfl rfl (by first | exact isR_ref _ | exact isR_rf _ | exact isR_null) ?_
  refine aw_cVv (as := []) dX7_readWord_1 lk_X7_92 cm_X7_skipBlanks vi_X7_skipBlanks (by unfold RO; decide) rfl (sC_k3 hC) (sC_n3 hC) rfl rfl rfl (Nat.le_of_ble_eq_true rfl) (r_skip hC hT hP hP1 hi _ _ _ _ _) ?_
  refine aw_aload_n dX7_readWord_4 rfl rfl (by first | exact isR_ref _ | exact isR_rf _ | exact isR_null) ?_
  refine aw_aload_n dX7_readWord_5 rfl rfl (by first | exact isR_ref _ | exact isR_rf _ | exact isR_null) ?_
  refine aw_get dX7_readWord_6 fl_X7_19 (sC_k3 hC) (sC_n3 hC) (show _ = Value.int (nI (wS b P i)) from rfl) ?_
  refine aw_putI dX7_readWord_9 fl_X7_95 (Or.inl rfl) rfl (sC_k3 hC) (sC_n3 hC) ?_
  rw [rS_st]
  unfold wE at hw ⊢
  generalize wS b P i = s at hw ⊢
  generalize hj : run (isLt b) P s = j
  have loop : ∀ d i, i + d = P → run (isLt b) P i = j → AW G mX7_readWord 12 [(0, .ref (gz G + 3))] [] (n, sz, kd, rS I (ts, fo, ft, nI i, nI s, cd), R, J) (fun v' M' => v' = none ∧ M' = (n, sz, kd, rS I (ts, fo, ft, nI j, nI s, cd), R, J)) := by
    intro d
    induction d with
    | zero =>
      intro i hd hr
      have hij : i = j := by rw [← hr]; exact (run_no (Or.inl (by omega))).symm
      subst hij
      refine aw_aload_n dX7_readWord_12 rfl rfl (by first | exact isR_ref _ | exact isR_rf _ | exact isR_null) ?_
      refine aw_get dX7_readWord_13 fl_X7_19 (sC_k3 hC) (sC_n3 hC) (show _ = Value.int (nI i) from rfl) ?_
      refine aw_aload_n dX7_readWord_16 rfl rfl (by first | exact isR_ref _ | exact isR_rf _ | exact isR_null) ?_
      refine aw_get dX7_readWord_17 fl_X7_15 (sC_k3 hC) (sC_n3 hC) (sC_r_3_tape hC _ _) ?_
      refine aw_get dX7_readWord_20 fl_X7_98 (sC_k1 hC) (sC_n1 hC) (congrArg Value.int hP) ?_
      refine aw_n_ge (tgt := 73) dX7_readWord_23 (by decide) rfl rfl (by omega) (by omega) (fun h => ?_) (fun h => ?_)
      · refine aw_vret dX7_readWord_73 rfl ?_
        exact ⟨rfl, rfl⟩
      · exact absurd h (by omega)
    | succ d ih =>
      intro i hd hr
      have hb := hT i (by omega)
      refine aw_aload_n dX7_readWord_12 rfl rfl (by first | exact isR_ref _ | exact isR_rf _ | exact isR_null) ?_
      refine aw_get dX7_readWord_13 fl_X7_19 (sC_k3 hC) (sC_n3 hC) (show _ = Value.int (nI i) from rfl) ?_
      refine aw_aload_n dX7_readWord_16 rfl rfl (by first | exact isR_ref _ | exact isR_rf _ | exact isR_null) ?_
      refine aw_get dX7_readWord_17 fl_X7_15 (sC_k3 hC) (sC_n3 hC) (sC_r_3_tape hC _ _) ?_
      refine aw_get dX7_readWord_20 fl_X7_98 (sC_k1 hC) (sC_n1 hC) (congrArg Value.int hP) ?_
      refine aw_n_ge (tgt := 73) dX7_readWord_23 (by decide) rfl rfl (by omega) (by omega) (fun h => ?_) (fun h => ?_)
      · exact absurd h (by omega)
      · refine aw_aload_n dX7_readWord_26 rfl rfl (by first | exact isR_ref _ | exact isR_rf _ | exact isR_null) ?_
        refine aw_get dX7_readWord_27 fl_X7_15 (sC_k3 hC) (sC_n3 hC) (sC_r_3_tape hC _ _) ?_
        refine aw_get dX7_readWord_30 fl_X7_103 (sC_k1 hC) (sC_n1 hC) (sC_r_1_bytes hC _ _) ?_
        refine aw_aload_n dX7_readWord_33 rfl rfl (by first | exact isR_ref _ | exact isR_rf _ | exact isR_null) ?_
        refine aw_get dX7_readWord_34 fl_X7_19 (sC_k3 hC) (sC_n3 hC) (show _ = Value.int (nI i) from rfl) ?_
        refine aw_iald dX7_readWord_37 (sC_k2 hC) (sC_n2 hC) (ixm (by omega)) ?_
        refine aw_top (show _ = nI (b i) from hb.2) ?_
        refine aw_bipush (v := nI 97) dX7_readWord_38 (by decide) ?_
        refine aw_n_lt (tgt := 73) dX7_readWord_40 (by decide) rfl rfl (by omega) (by omega) (fun h2 => ?_) (fun h2 => ?_)
        · have hij : i = j := by rw [← hr]; exact (run_no (q := isLt b) (Or.inr (decide_eq_false (by omega)))).symm
          subst hij
          refine aw_vret dX7_readWord_73 rfl ?_
          exact ⟨rfl, rfl⟩
        · refine aw_aload_n dX7_readWord_43 rfl rfl (by first | exact isR_ref _ | exact isR_rf _ | exact isR_null) ?_
          refine aw_get dX7_readWord_44 fl_X7_15 (sC_k3 hC) (sC_n3 hC) (sC_r_3_tape hC _ _) ?_
          refine aw_get dX7_readWord_47 fl_X7_103 (sC_k1 hC) (sC_n1 hC) (sC_r_1_bytes hC _ _) ?_
          refine aw_aload_n dX7_readWord_50 rfl rfl (by first | exact isR_ref _ | exact isR_rf _ | exact isR_null) ?_
          refine aw_get dX7_readWord_51 fl_X7_19 (sC_k3 hC) (sC_n3 hC) (show _ = Value.int (nI i) from rfl) ?_
          refine aw_iald dX7_readWord_54 (sC_k2 hC) (sC_n2 hC) (ixm (by omega)) ?_
          refine aw_top (show _ = nI (b i) from hb.2) ?_
          refine aw_bipush (v := nI 122) dX7_readWord_55 (by decide) ?_
          refine aw_n_gt (tgt := 73) dX7_readWord_57 (by decide) rfl rfl (by omega) (by omega) (fun h3 => ?_) (fun h3 => ?_)
          · have hij : i = j := by rw [← hr]; exact (run_no (q := isLt b) (Or.inr (decide_eq_false (by omega)))).symm
            subst hij
            refine aw_vret dX7_readWord_73 rfl ?_
            exact ⟨rfl, rfl⟩
          · refine aw_aload_n dX7_readWord_60 rfl rfl (by first | exact isR_ref _ | exact isR_rf _ | exact isR_null) ?_
            refine aw_dup dX7_readWord_61 rfl ?_
            refine aw_get dX7_readWord_62 fl_X7_19 (sC_k3 hC) (sC_n3 hC) (show _ = Value.int (nI i) from rfl) ?_
            refine aw_iconst (v := nI 1) dX7_readWord_65 (by decide) ?_
            first | refine aw_iaddN dX7_readWord_66 ?_ | refine aw_iadd dX7_readWord_66 ?_
            refine aw_putI dX7_readWord_67 fl_X7_19 (Or.inl rfl) rfl (sC_k3 hC) (sC_n3 hC) ?_
            refine aw_goto (tgt := 12) dX7_readWord_70 (by decide) ?_
            rw [rS_at]
            exact ih (i + 1) (by omega) (by rw [← hr]; exact (run_yes (q := isLt b) (by omega) (decide_eq_true (by omega))).symm)
  exact loop (P - s) s (by omega) hj
def bl (f s k : Nat) : Nat := if f = 0 then 1 + 8 * s + k else f
theorem r_blame (hC : ShC G n kd R) {f s k : Nat} (hf : f < 2 ^ 31) (ts fo at_ : Int32) (cd : Nat → Int32) : EX G mX7_blame [.ref (gz G + 3), .int (nI k)] (n, sz, kd, rS I (ts, fo, nI f, at_, nI s, cd), R, J) none (n, sz, kd, rS I (ts, fo, nI (bl f s k), at_, nI s, cd), R, J) := by
  refine mm_of rfl [(0, .ref (gz G + 3)), (1, .int (nI k))] rfl (Nat.le_of_ble_eq_true rfl) ?_
  refine aw_aload_n dX7_blame_0 rfl rfl (by first | exact isR_ref _ | exact isR_rf _ | exact isR_null) ?_
  refine aw_get dX7_blame_1 fl_X7_26 (sC_k3 hC) (sC_n3 hC) (show _ = Value.int (nI f) from rfl) ?_
  refine aw_z_ne (tgt := 22) dX7_blame_4 (by decide) rfl (by omega) (fun h => ?_) (fun h => ?_)
  · refine aw_vret dX7_blame_22 rfl ?_
    exact ⟨rfl, by unfold bl; rw [if_neg h]⟩
  · refine aw_aload_n dX7_blame_7 rfl rfl (by first | exact isR_ref _ | exact isR_rf _ | exact isR_null) ?_
    refine aw_iconst (v := nI 1) dX7_blame_8 (by decide) ?_
    refine aw_bipush (v := nI 8) dX7_blame_9 (by decide) ?_
    refine aw_aload_n dX7_blame_11 rfl rfl (by first | exact isR_ref _ | exact isR_rf _ | exact isR_null) ?_
    refine aw_get dX7_blame_12 fl_X7_95 (sC_k3 hC) (sC_n3 hC) (show _ = Value.int (nI s) from rfl) ?_
    first | refine aw_imulN dX7_blame_15 ?_ | refine aw_imul dX7_blame_15 ?_
    first | refine aw_iaddN dX7_blame_16 ?_ | refine aw_iadd dX7_blame_16 ?_
    refine aw_iload_n dX7_blame_17 rfl rfl ?_
    first | refine aw_iaddN dX7_blame_18 ?_ | refine aw_iadd dX7_blame_18 ?_
    refine aw_putI dX7_blame_19 fl_X7_26 (Or.inl rfl) rfl (sC_k3 hC) (sC_n3 hC) ?_
    rw [rS_ft]
    refine aw_vret dX7_blame_22 rfl ?_
    exact ⟨rfl, by unfold bl; rw [if_pos h]⟩
theorem r_end (hC : ShC G n kd R) {b : Nat → Nat} (hT : TC I b) {P i f : Nat} (hf : f < 2 ^ 31) (hP : I 1 1 = nI P) (hP1 : P ≤ 100) (hi : i ≤ P) (ts fo st : Int32) (cd : Nat → Int32) : EX G mX7_readEnd [.ref (gz G + 3)] (n, sz, kd, rS I (ts, fo, nI f, nI i, st, cd), R, J) none (n, sz, kd, rS I (ts, fo, nI (if wS b P i < P then bl f (wS b P i) 3 else f), nI (wS b P i), nI (wS b P i), cd), R, J) := by
  refine mm_of rfl [(0, .ref (gz G + 3))] rfl (Nat.le_of_ble_eq_true rfl) ?_
  have hw := wSE b hi
  refine aw_aload_n dX7_readEnd_0 rfl rfl (by first | exact isR_ref _ | exact isR_rf _ | exact isR_null) ?_
  refine aw_cVv (as := []) dX7_readEnd_1 lk_X7_92 cm_X7_skipBlanks vi_X7_skipBlanks (by unfold RO; decide) rfl (sC_k3 hC) (sC_n3 hC) rfl rfl rfl (Nat.le_of_ble_eq_true rfl) (r_skip hC hT hP hP1 hi _ _ _ _ _) ?_
  refine aw_aload_n dX7_readEnd_4 rfl rfl (by first | exact isR_ref _ | exact isR_rf _ | exact isR_null) ?_
  refine aw_aload_n dX7_readEnd_5 rfl rfl (by first | exact isR_ref _ | exact isR_rf _ | exact isR_null) ?_
  refine aw_get dX7_readEnd_6 fl_X7_19 (sC_k3 hC) (sC_n3 hC) (show _ = Value.int (nI (wS b P i)) from rfl) ?_
  refine aw_putI dX7_readEnd_9 fl_X7_95 (Or.inl rfl) rfl (sC_k3 hC) (sC_n3 hC) ?_
  rw [rS_st]
  refine aw_aload_n dX7_readEnd_12 rfl rfl (by first | exact isR_ref _ | exact isR_rf _ | exact isR_null) ?_
  refine aw_get dX7_readEnd_13 fl_X7_19 (sC_k3 hC) (sC_n3 hC) (show _ = Value.int (nI (wS b P i)) from rfl) ?_
  refine aw_aload_n dX7_readEnd_16 rfl rfl (by first | exact isR_ref _ | exact isR_rf _ | exact isR_null) ?_
  refine aw_get dX7_readEnd_17 fl_X7_15 (sC_k3 hC) (sC_n3 hC) (sC_r_3_tape hC _ _) ?_
  refine aw_get dX7_readEnd_20 fl_X7_98 (sC_k1 hC) (sC_n1 hC) (congrArg Value.int hP) ?_
  refine aw_n_ge (tgt := 31) dX7_readEnd_23 (by decide) rfl rfl (by omega) (by omega) (fun h => ?_) (fun h => ?_)
  · refine aw_vret dX7_readEnd_31 rfl ?_
    exact ⟨rfl, by rw [if_neg (by omega)]⟩
  · refine aw_aload_n dX7_readEnd_26 rfl rfl (by first | exact isR_ref _ | exact isR_rf _ | exact isR_null) ?_
    refine aw_iconst (v := nI 3) dX7_readEnd_27 (by decide) ?_
    refine aw_cVv (as := [_]) dX7_readEnd_28 lk_X7_43 cm_X7_blame vi_X7_blame (by unfold RO; decide) rfl (sC_k3 hC) (sC_n3 hC) rfl rfl rfl (Nat.le_of_ble_eq_true rfl) (r_blame hC hf _ _ _ _) ?_
    refine aw_vret dX7_readEnd_31 rfl ?_
    exact ⟨rfl, by rw [if_pos (by omega)]⟩
theorem r_wordIs (hG : StP G ad av fx) (hC : ShC G n kd R) {b : Nat → Nat} (hT : TC I b) {P s e w : Nat} (hP1 : P ≤ 100) (hse : s ≤ e) (heP : e ≤ P) (hw : w < 9) (ts fo ft : Int32) (cd : Nat → Int32) : EX G mX7_wordIs [.ref (gz G + 3), .ref (ad w)] (n, sz, kd, rS I (ts, fo, ft, nI e, nI s, cd), R, J) (some (.int (bi (wIs b s e w)))) (n, sz, kd, rS I (ts, fo, ft, nI e, nI s, cd), R, J) := by
  refine mm_of rfl [(0, .ref (gz G + 3)), (1, .ref (ad w))] rfl (Nat.le_of_ble_eq_true rfl) ?_
  have h5 := (kl_le w hw).1
  refine aw_aload_n dX7_wordIs_0 rfl rfl (by first | exact isR_ref _ | exact isR_rf _ | exact isR_null) ?_
  refine aw_get dX7_wordIs_1 fl_X7_19 (sC_k3 hC) (sC_n3 hC) (show _ = Value.int (nI e) from rfl) ?_
  refine aw_aload_n dX7_wordIs_4 rfl rfl (by first | exact isR_ref _ | exact isR_rf _ | exact isR_null) ?_
  refine aw_get dX7_wordIs_5 fl_X7_95 (sC_k3 hC) (sC_n3 hC) (show _ = Value.int (nI s) from rfl) ?_
  refine aw_isubN (by omega) dX7_wordIs_8 ?_
  refine aw_aload_n dX7_wordIs_9 rfl rfl (by first | exact isR_ref _ | exact isR_rf _ | exact isR_null) ?_
  refine aw_callX (as := []) dX7_wordIs_10 lk_X7_106 cm_J0_length_8abf5 vi_J0_length_8abf5 (by unfold RO; decide) rfl (fun U h => ((hG U h).1 w hw).1) rfl (Nat.le_of_ble_eq_true rfl) (s_length hG hw) ?_
  refine aw_n_eq (tgt := 18) dX7_wordIs_13 (by decide) rfl rfl (by omega) (by omega) (fun h => ?_) (fun h => ?_)
  · refine aw_iconst (v := nI 0) dX7_wordIs_18 (by decide) ?_
    refine aw_istore_n (lv' := [(0, _), (1, _), (2, _)]) dX7_wordIs_19 rfl (by decide) rfl ?_
    have loop : ∀ d i, i + d = kl w → allT (fun k => decide (b (s + k) = kwb (5 * w + k))) i = true → AW G mX7_wordIs 20 [(0, .ref (gz G + 3)), (1, .ref (ad w)), (2, .int (nI i))] [] (n, sz, kd, rS I (ts, fo, ft, nI e, nI s, cd), R, J) (fun v' M' => v' = some (.int (bi (wIs b s e w))) ∧ M' = (n, sz, kd, rS I (ts, fo, ft, nI e, nI s, cd), R, J)) := by
      intro d
      induction d with
      | zero =>
        intro i hi ha
        refine aw_iload_n dX7_wordIs_20 rfl rfl ?_
        refine aw_aload_n dX7_wordIs_21 rfl rfl (by first | exact isR_ref _ | exact isR_rf _ | exact isR_null) ?_
        refine aw_callX (as := []) dX7_wordIs_22 lk_X7_106 cm_J0_length_8abf5 vi_J0_length_8abf5 (by unfold RO; decide) rfl (fun U h => ((hG U h).1 w hw).1) rfl (Nat.le_of_ble_eq_true rfl) (s_length hG hw) ?_
        refine aw_n_ge (tgt := 58) dX7_wordIs_25 (by decide) rfl rfl (by omega) (by omega) (fun h2 => ?_) (fun h2 => ?_)
        · refine aw_iconst (v := nI 1) dX7_wordIs_58 (by decide) ?_
          refine aw_iret dX7_wordIs_59 rfl rfl ?_
          refine ⟨?_, rfl⟩
          unfold wIs
          rw [decide_eq_true (show kl w = e - s by omega), show kl w = i by omega, ha]
          rfl
        · exact absurd h2 (by omega)
      | succ d ih =>
        intro i hi ha
        have hb := hT (s + i) (by omega)
        have hc := kwb_ch (5 * w + i) (by omega)
        refine aw_iload_n dX7_wordIs_20 rfl rfl ?_
        refine aw_aload_n dX7_wordIs_21 rfl rfl (by first | exact isR_ref _ | exact isR_rf _ | exact isR_null) ?_
        refine aw_callX (as := []) dX7_wordIs_22 lk_X7_106 cm_J0_length_8abf5 vi_J0_length_8abf5 (by unfold RO; decide) rfl (fun U h => ((hG U h).1 w hw).1) rfl (Nat.le_of_ble_eq_true rfl) (s_length hG hw) ?_
        refine aw_n_ge (tgt := 58) dX7_wordIs_25 (by decide) rfl rfl (by omega) (by omega) (fun h2 => ?_) (fun h2 => ?_)
        · exact absurd h2 (by omega)
        · refine aw_aload_n dX7_wordIs_28 rfl rfl (by first | exact isR_ref _ | exact isR_rf _ | exact isR_null) ?_
          refine aw_get dX7_wordIs_29 fl_X7_15 (sC_k3 hC) (sC_n3 hC) (sC_r_3_tape hC _ _) ?_
          refine aw_get dX7_wordIs_32 fl_X7_103 (sC_k1 hC) (sC_n1 hC) (sC_r_1_bytes hC _ _) ?_
          refine aw_aload_n dX7_wordIs_35 rfl rfl (by first | exact isR_ref _ | exact isR_rf _ | exact isR_null) ?_
          refine aw_get dX7_wordIs_36 fl_X7_95 (sC_k3 hC) (sC_n3 hC) (show _ = Value.int (nI s) from rfl) ?_
          refine aw_iload_n dX7_wordIs_39 rfl rfl ?_
          first | refine aw_iaddN dX7_wordIs_40 ?_ | refine aw_iadd dX7_wordIs_40 ?_
          refine aw_iald dX7_wordIs_41 (sC_k2 hC) (sC_n2 hC) (ixm (by omega)) ?_
          refine aw_top (show _ = nI (b (s + i)) from hb.2) ?_
          refine aw_aload_n dX7_wordIs_42 rfl rfl (by first | exact isR_ref _ | exact isR_rf _ | exact isR_null) ?_
          refine aw_iload_n dX7_wordIs_43 rfl rfl ?_
          refine aw_callX (as := [_]) dX7_wordIs_44 lk_X7_110 cm_J0_charAt_5068e vi_J0_charAt_5068e (by unfold RO; decide) rfl (fun U h => ((hG U h).1 w hw).1) rfl (Nat.le_of_ble_eq_true rfl) (s_charAt hG hw (by omega)) ?_
          refine aw_n_eq (tgt := 52) dX7_wordIs_47 (by decide) rfl rfl (by omega) (by omega) (fun h3 => ?_) (fun h3 => ?_)
          · first | refine aw_iincN (c := 1) (lv' := [(0, _), (1, _), (2, _)]) dX7_wordIs_52 rfl (by decide) rfl rfl ?_ | refine aw_iinc (v := 1) (lv' := [(0, _), (1, _), (2, _)]) dX7_wordIs_52 rfl (by decide) (by decide) rfl ?_
            refine aw_goto (tgt := 20) dX7_wordIs_55 (by decide) ?_
            exact ih (i + 1) (by omega) (by rw [allT, ha, decide_eq_true h3]; rfl)
          · refine aw_iconst (v := nI 0) dX7_wordIs_50 (by decide) ?_
            refine aw_iret dX7_wordIs_51 rfl rfl ?_
            refine ⟨?_, rfl⟩
            unfold wIs
            rw [allT_false (k := i) (by omega) (decide_eq_false h3), Bool.and_false]
            rfl
    exact loop _ 0 (Nat.zero_add _) rfl
  · refine aw_iconst (v := nI 0) dX7_wordIs_16 (by decide) ?_
    refine aw_iret dX7_wordIs_17 rfl rfl ?_
    refine ⟨?_, rfl⟩
    unfold wIs
    rw [decide_eq_false (show ¬ kl w = e - s by omega)]
    rfl
theorem kw_uniq : ∀ w, w < 9 → ∀ v, v < 9 → kl w = kl v → allT (fun k => decide (kwb (5 * w + k) = kwb (5 * v + k))) (kl w) = true → w = v := by decide +kernel
theorem wIs_uniq {b : Nat → Nat} {s e w v : Nat} (hw : w < 9) (hv : v < 9) (h1 : wIs b s e w = true) (h2 : wIs b s e v = true) : w = v := by
  unfold wIs at h1 h2
  rw [Bool.and_eq_true, decide_eq_true_iff, allT_iff] at h1 h2
  refine kw_uniq w hw v hv (by omega) ((allT_iff _ _).mpr fun k hk => ?_)
  have a1 := h1.2 k hk
  have a2 := h2.2 k (by omega)
  rw [decide_eq_true_iff] at a1 a2 ⊢
  omega
theorem wIs_code {b : Nat → Nat} {s e w : Nat} (hw : w < 9) : wIs b s e w = decide (wcode b s e = some w) := by
  cases h : wcode b s e with
  | none =>
    rw [fstF_none h w hw]
    rfl
  | some v =>
    obtain ⟨h1, h2, -⟩ := fstF_some h
    by_cases e : v = w
    · subst e
      rw [h2]
      simp
    · rw [decide_eq_false (fun z => e (Option.some.inj z))]
      cases hh : wIs b s _ w with
      | false => rfl
      | true => exact absurd (wIs_uniq h1 hw h2 hh) e
def kwK (o : Option Nat) : Int32 := match o with
  | none => -1
  | some w => if w < 4 then -1 else nI (baseK (w - 4))
theorem r_kind (hG : StP G ad av fx) (hC : ShC G n kd R) {b : Nat → Nat} (hT : TC I b) {P s e : Nat} (hP1 : P ≤ 100) (hse : s ≤ e) (heP : e ≤ P) (ts fo ft : Int32) (cd : Nat → Int32) : EX G mX7_kindOfWord [.ref (gz G + 3)] (n, sz, kd, rS I (ts, fo, ft, nI e, nI s, cd), R, J) (some (.int (kwK (wcode b s e)))) (n, sz, kd, rS I (ts, fo, ft, nI e, nI s, cd), R, J) := by
  refine mm_of rfl [(0, .ref (gz G + 3))] rfl (Nat.le_of_ble_eq_true rfl) ?_
  have is : ∀ w, w < 9 → ∀ v, bi (wIs b s e w) = bi v → wIs b s e w = v := fun w _ v h => by cases h1 : wIs b s e w <;> cases v <;> first | rfl | (rw [h1] at h; exact absurd h (by decide))
  refine aw_aload_n dX7_kindOfWord_0 rfl rfl (by first | exact isR_ref _ | exact isR_rf _ | exact isR_null) ?_
  refine aw_ldcS dX7_kindOfWord_1 (fun U h => ((hG U h).1 4 (by decide)).2.2.2.2) ?_
  refine aw_cVx (as := [_]) dX7_kindOfWord_3 lk_X7_34 cm_X7_wordIs vi_X7_wordIs (by unfold RO; decide) rfl (sC_k3 hC) (sC_n3 hC) rfl rfl rfl (Nat.le_of_ble_eq_true rfl) (r_wordIs hG hC hT (w := 4) hP1 hse heP (by decide) _ _ _ _) ?_
  rw [wIs_code (by decide)]
  refine aw_b_eq (tgt := 11) dX7_kindOfWord_6 (by decide) rfl (fun h4 => ?_) (fun h4 => ?_)
  · refine aw_aload_n dX7_kindOfWord_11 rfl rfl (by first | exact isR_ref _ | exact isR_rf _ | exact isR_null) ?_
    refine aw_ldcS dX7_kindOfWord_12 (fun U h => ((hG U h).1 5 (by decide)).2.2.2.2) ?_
    refine aw_cVx (as := [_]) dX7_kindOfWord_14 lk_X7_34 cm_X7_wordIs vi_X7_wordIs (by unfold RO; decide) rfl (sC_k3 hC) (sC_n3 hC) rfl rfl rfl (Nat.le_of_ble_eq_true rfl) (r_wordIs hG hC hT (w := 5) hP1 hse heP (by decide) _ _ _ _) ?_
    rw [wIs_code (by decide)]
    refine aw_b_eq (tgt := 23) dX7_kindOfWord_17 (by decide) rfl (fun h5 => ?_) (fun h5 => ?_)
    · refine aw_aload_n dX7_kindOfWord_23 rfl rfl (by first | exact isR_ref _ | exact isR_rf _ | exact isR_null) ?_
      refine aw_ldcS dX7_kindOfWord_24 (fun U h => ((hG U h).1 6 (by decide)).2.2.2.2) ?_
      refine aw_cVx (as := [_]) dX7_kindOfWord_26 lk_X7_34 cm_X7_wordIs vi_X7_wordIs (by unfold RO; decide) rfl (sC_k3 hC) (sC_n3 hC) rfl rfl rfl (Nat.le_of_ble_eq_true rfl) (r_wordIs hG hC hT (w := 6) hP1 hse heP (by decide) _ _ _ _) ?_
      rw [wIs_code (by decide)]
      refine aw_b_eq (tgt := 35) dX7_kindOfWord_29 (by decide) rfl (fun h6 => ?_) (fun h6 => ?_)
      · refine aw_aload_n dX7_kindOfWord_35 rfl rfl (by first | exact isR_ref _ | exact isR_rf _ | exact isR_null) ?_
        refine aw_ldcS dX7_kindOfWord_36 (fun U h => ((hG U h).1 7 (by decide)).2.2.2.2) ?_
        refine aw_cVx (as := [_]) dX7_kindOfWord_38 lk_X7_34 cm_X7_wordIs vi_X7_wordIs (by unfold RO; decide) rfl (sC_k3 hC) (sC_n3 hC) rfl rfl rfl (Nat.le_of_ble_eq_true rfl) (r_wordIs hG hC hT (w := 7) hP1 hse heP (by decide) _ _ _ _) ?_
        rw [wIs_code (by decide)]
        refine aw_b_eq (tgt := 47) dX7_kindOfWord_41 (by decide) rfl (fun h7 => ?_) (fun h7 => ?_)
        · refine aw_aload_n dX7_kindOfWord_47 rfl rfl (by first | exact isR_ref _ | exact isR_rf _ | exact isR_null) ?_
          refine aw_ldcS dX7_kindOfWord_48 (fun U h => ((hG U h).1 8 (by decide)).2.2.2.2) ?_
          refine aw_cVx (as := [_]) dX7_kindOfWord_50 lk_X7_34 cm_X7_wordIs vi_X7_wordIs (by unfold RO; decide) rfl (sC_k3 hC) (sC_n3 hC) rfl rfl rfl (Nat.le_of_ble_eq_true rfl) (r_wordIs hG hC hT (w := 8) hP1 hse heP (by decide) _ _ _ _) ?_
          rw [wIs_code (by decide)]
          refine aw_b_eq (tgt := 62) dX7_kindOfWord_53 (by decide) rfl (fun h8 => ?_) (fun h8 => ?_)
          · refine aw_iconst (v := (-1)) dX7_kindOfWord_62 (by decide) ?_
            refine aw_iret dX7_kindOfWord_63 rfl rfl ?_
            refine ⟨?_, rfl⟩
            have e1 : kwK (wcode b s e) = -1 := by
              cases hc : wcode b s e with
              | none => rfl
              | some w =>
                rw [hc] at h4 h5 h6 h7 h8
                have h9 := wcode_lt hc
                rw [decide_eq_false_iff_not, Option.some.injEq] at h4 h5 h6 h7 h8
                unfold kwK
                dsimp only
                rw [if_pos (by omega)]
            rw [e1]
          · refine aw_sipush (v := nI 1100) dX7_kindOfWord_56 (by decide) ?_
            refine aw_goto (tgt := 63) dX7_kindOfWord_59 (by decide) ?_
            refine aw_iret dX7_kindOfWord_63 rfl rfl ?_
            rw [of_decide_eq_true h8]
            exact ⟨rfl, rfl⟩
        · refine aw_bipush (v := nI 100) dX7_kindOfWord_44 (by decide) ?_
          refine aw_iret dX7_kindOfWord_46 rfl rfl ?_
          rw [of_decide_eq_true h7]
          exact ⟨rfl, rfl⟩
      · refine aw_bipush (v := nI 24) dX7_kindOfWord_32 (by decide) ?_
        refine aw_iret dX7_kindOfWord_34 rfl rfl ?_
        rw [of_decide_eq_true h6]
        exact ⟨rfl, rfl⟩
    · refine aw_bipush (v := nI 16) dX7_kindOfWord_20 (by decide) ?_
      refine aw_iret dX7_kindOfWord_22 rfl rfl ?_
      rw [of_decide_eq_true h5]
      exact ⟨rfl, rfl⟩
  · refine aw_iconst (v := nI 0) dX7_kindOfWord_9 (by decide) ?_
    refine aw_iret dX7_kindOfWord_10 rfl rfl ?_
    rw [of_decide_eq_true h4]
    exact ⟨rfl, rfl⟩
end RD1
