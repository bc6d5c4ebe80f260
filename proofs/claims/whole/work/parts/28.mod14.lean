section MOD14
variable {G : GG} {n sz : Nat} {kd : Nat → AKd} {I : Nat → Nat → Int32} {R : Nat → Nat → Option Nat} {J : Nat → Nat → Int64}
/-- the reader's scratch: next, wordSize, fault, said, tests, readFolder, read -/
abbrev PSt : Type := Int32 × Int32 × Int32 × Int32 × Int32 × Int32 × (Nat → Int32)
def pS (I : Nat → Nat → Int32) (p : PSt) : Nat → Nat → Int32 := fun r c => if r = 22 then (if c = 32 then p.1 else if c = 39 then p.2.1 else if c = 33 then p.2.2.1 else if c = 34 then p.2.2.2.1 else if c = 35 then p.2.2.2.2.1 else if c = 37 then p.2.2.2.2.2.1 else I r c) else if r = 47 then p.2.2.2.2.2.2 c else I r c
theorem pS_nx (I : Nat → Nat → Int32) (nx ws ft sd ts rf x : Int32) (rd : Nat → Int32) : u2 (pS I (nx, ws, ft, sd, ts, rf, rd)) 22 32 x = pS I (x, ws, ft, sd, ts, rf, rd) := by
  funext a b
  unfold u2 pS
  by_cases h : a = 22
  · subst h
    by_cases h2 : b = 32 <;> simp [h2]
  · simp [h]
theorem pS_ws (I : Nat → Nat → Int32) (nx ws ft sd ts rf x : Int32) (rd : Nat → Int32) : u2 (pS I (nx, ws, ft, sd, ts, rf, rd)) 22 39 x = pS I (nx, x, ft, sd, ts, rf, rd) := by
  funext a b
  unfold u2 pS
  by_cases h : a = 22
  · subst h
    by_cases h2 : b = 39 <;> simp [h2]
  · simp [h]
theorem pS_ft (I : Nat → Nat → Int32) (nx ws ft sd ts rf x : Int32) (rd : Nat → Int32) : u2 (pS I (nx, ws, ft, sd, ts, rf, rd)) 22 33 x = pS I (nx, ws, x, sd, ts, rf, rd) := by
  funext a b
  unfold u2 pS
  by_cases h : a = 22
  · subst h
    by_cases h2 : b = 33 <;> simp [h2]
  · simp [h]
theorem pS_sd (I : Nat → Nat → Int32) (nx ws ft sd ts rf x : Int32) (rd : Nat → Int32) : u2 (pS I (nx, ws, ft, sd, ts, rf, rd)) 22 34 x = pS I (nx, ws, ft, x, ts, rf, rd) := by
  funext a b
  unfold u2 pS
  by_cases h : a = 22
  · subst h
    by_cases h2 : b = 34 <;> simp [h2]
  · simp [h]
theorem pS_ts (I : Nat → Nat → Int32) (nx ws ft sd ts rf x : Int32) (rd : Nat → Int32) : u2 (pS I (nx, ws, ft, sd, ts, rf, rd)) 22 35 x = pS I (nx, ws, ft, sd, x, rf, rd) := by
  funext a b
  unfold u2 pS
  by_cases h : a = 22
  · subst h
    by_cases h2 : b = 35 <;> simp [h2]
  · simp [h]
theorem pS_rf (I : Nat → Nat → Int32) (nx ws ft sd ts rf x : Int32) (rd : Nat → Int32) : u2 (pS I (nx, ws, ft, sd, ts, rf, rd)) 22 37 x = pS I (nx, ws, ft, sd, ts, x, rd) := by
  funext a b
  unfold u2 pS
  by_cases h : a = 22
  · subst h
    by_cases h2 : b = 37 <;> simp [h2]
  · simp [h]
theorem pS_rd (I : Nat → Nat → Int32) (nx ws ft sd ts rf x : Int32) (rd : Nat → Int32) (j : Nat) : u2 (pS I (nx, ws, ft, sd, ts, rf, rd)) 47 j x = pS I (nx, ws, ft, sd, ts, rf, fun c => if c = j then x else rd c) := by
  funext a b
  unfold u2 pS
  by_cases h : a = 47
  · subst h
    simp
  · simp [h]
theorem pS_own (I : Nat → Nat → Int32) : pS I (I 22 32, I 22 39, I 22 33, I 22 34, I 22 35, I 22 37, I 47) = I := by
  funext a b
  unfold pS
  by_cases h : a = 22
  · subst h
    simp only [if_true]
    repeat' split
    all_goals first | rfl | (rename_i h1; rw [h1]) | (rename_i h1 h2; rw [h2])
  · by_cases h2 : a = 47
    · subst h2; simp
    · simp [h, h2]
/-- the TAPE's bytes -/
def TB (I : Nat → Nat → Int32) (b : Nat → Nat) : Prop := ∀ i, i < 100 → b i < 256 ∧ I 46 i = sb_b (b i)
theorem sb_32 : ∀ c, c < 256 → (sb_b c = nI 32 ↔ c = 32) := by decide +kernel
theorem sb_a : ∀ c, c < 256 → (sb_b c < nI 97 ↔ ¬ (97 ≤ c ∧ c < 128)) := by decide +kernel
theorem sb_z : ∀ c, c < 256 → (nI 122 < sb_b c ↔ (122 < c ∧ c < 128)) := by decide +kernel
theorem sb_n0 : ∀ c, c < 256 → (sb_b c < nI 48 ↔ ¬ (48 ≤ c ∧ c < 128)) := by decide +kernel
theorem sb_n9 : ∀ c, c < 256 → (nI 57 < sb_b c ↔ (57 < c ∧ c < 128)) := by decide +kernel
theorem sb_nI : ∀ c, c < 128 → sb_b c = nI c := by decide +kernel
def isBl (b : Nat → Nat) (k : Nat) : Bool := decide (b k = 32)
def isLt (b : Nat → Nat) (k : Nat) : Bool := decide (97 ≤ b k ∧ b k ≤ 122)
def isDg (b : Nat → Nat) (k : Nat) : Bool := decide (48 ≤ b k ∧ b k ≤ 57)
def runD (q : Nat → Bool) : Nat → Nat → Nat
  | 0, i => i
  | d + 1, i => if q i then runD q d (i + 1) else i
/-- from i on, as far as q holds, to P at most -/
def run (q : Nat → Bool) (P i : Nat) : Nat := runD q (P - i) i
theorem runD_le (q : Nat → Bool) : ∀ d i, i ≤ runD q d i ∧ runD q d i ≤ i + d
  | 0, i => ⟨Nat.le_refl _, Nat.le_refl _⟩
  | d + 1, i => by
    rw [runD]
    split
    · have := runD_le q d (i + 1); omega
    · omega
theorem run_le {q : Nat → Bool} {P i : Nat} (h : i ≤ P) : i ≤ run q P i ∧ run q P i ≤ P := by
  have := runD_le q (P - i) i
  unfold run
  omega
theorem run_yes {q : Nat → Bool} {P i : Nat} (h : i < P) (hq : q i = true) : run q P i = run q P (i + 1) := by
  unfold run
  rw [show P - i = (P - (i + 1)) + 1 by omega, runD, if_pos hq]
theorem run_no {q : Nat → Bool} {P i : Nat} (hq : P ≤ i ∨ q i = false) : run q P i = i := by
  unfold run
  rcases hq with h | h
  · rw [show P - i = 0 by omega]; rfl
  · cases hd : P - i with
    | zero => rfl
    | succ d => rw [runD, h]; rfl
theorem runD_stop (q : Nat → Bool) : ∀ d i, runD q d i = i + d ∨ q (runD q d i) = false
  | 0, i => Or.inl rfl
  | d + 1, i => by
    rw [runD]
    split
    · rcases runD_stop q d (i + 1) with h | h
      · exact Or.inl (by omega)
      · exact Or.inr h
    · rename_i h
      exact Or.inr (by cases hq : q i with | true => exact absurd hq h | false => rfl)
theorem run_stop {q : Nat → Bool} {P i : Nat} (h : i ≤ P) : run q P i = P ∨ q (run q P i) = false := by
  have := runD_stop q (P - i) i
  unfold run
  rw [show i + (P - i) = P by omega] at this
  exact this
theorem run_idem {q : Nat → Bool} {P i : Nat} (h : i ≤ P) : run q P (run q P i) = run q P i := by
  rcases run_stop (q := q) h with e | e
  · rw [e]; exact run_no (Or.inl (Nat.le_refl _))
  · exact run_no (Or.inr e)
theorem runD_in (q : Nat → Bool) : ∀ d i k, i ≤ k → k < runD q d i → q k = true
  | 0, i, k, h1, h2 => by
    have : runD q 0 i = i := rfl
    omega
  | d + 1, i, k, h1, h2 => by
    rw [runD] at h2
    split at h2
    · rename_i hq
      by_cases hk : k = i
      · rw [hk]; exact hq
      · exact runD_in q d (i + 1) k (by omega) h2
    · omega
theorem run_in {q : Nat → Bool} {P i k : Nat} (h1 : i ≤ k) (h2 : k < run q P i) : q k = true := runD_in q _ i k h1 h2
def seeV (b : Nat → Nat) (P j : Nat) : Int32 := if j < P then nI (b j) else -1
theorem m_see (hM : ShM G n kd R) {b : Nat → Nat} (hT : TB I b) {P i : Nat} (hP : I 22 31 = nI P) (hP1 : P ≤ 100) (hi : i ≤ P) (ws ft sd ts rf : Int32) (rd : Nat → Int32) : EX G mX10_see [.ref (gz G + 22)] (n, sz, kd, pS I (nI i, ws, ft, sd, ts, rf, rd), R, J) (some (.int (seeV b P (run (isBl b) P i)))) (n, sz, kd, pS I (nI (run (isBl b) P i), ws, ft, sd, ts, rf, rd), R, J) := by
  refine mm_of rfl [(0, .ref (gz G + 22))] rfl (Nat.le_of_ble_eq_true rfl) ?_
  generalize hj : run (isBl b) P i = j
  have hj2 := run_le (q := isBl b) hi
  rw [hj] at hj2
  have fin : AW G mX10_see 38 [(0, .ref (gz G + 22))] [] (n, sz, kd, pS I (nI j, ws, ft, sd, ts, rf, rd), R, J) (fun v' M' => v' = some (.int (seeV b P j)) ∧ M' = (n, sz, kd, pS I (nI j, ws, ft, sd, ts, rf, rd), R, J)) := by
    refine aw_aload_n dX10_see_38 rfl rfl (by first | exact isR_ref _ | exact isR_rf _ | exact isR_null) ?_
    refine aw_get dX10_see_39 fl_X10_116 (sM_kd hM) (sM_n hM) (show _ = Value.int (nI j) from rfl) ?_
    refine aw_aload_n dX10_see_42 rfl rfl (by first | exact isR_ref _ | exact isR_rf _ | exact isR_null) ?_
    refine aw_get dX10_see_43 fl_X10_106 (sM_kd hM) (sM_n hM) (congrArg Value.int hP) ?_
    refine aw_n_ge (tgt := 65) dX10_see_46 (by decide) rfl rfl (by omega) (by omega) (fun h => ?_) (fun h => ?_)
    · refine aw_iconst (v := (-1)) dX10_see_65 (by decide) ?_
      refine aw_iret dX10_see_66 rfl rfl ?_
      exact ⟨by rw [seeV, if_neg (by omega)], rfl⟩
    · have hb := hT j (by omega)
      refine aw_aload_n dX10_see_49 rfl rfl (by first | exact isR_ref _ | exact isR_rf _ | exact isR_null) ?_
      refine aw_get dX10_see_50 fl_X10_87 (sM_kd hM) (sM_n hM) (sM_r_tape hM _ _) ?_
      refine aw_aload_n dX10_see_53 rfl rfl (by first | exact isR_ref _ | exact isR_rf _ | exact isR_null) ?_
      refine aw_get dX10_see_54 fl_X10_116 (sM_kd hM) (sM_n hM) (show _ = Value.int (nI j) from rfl) ?_
      refine aw_bald dX10_see_57 (sM_k_tape hM) (sM_l_tape hM) (ixm (by omega)) ?_
      refine aw_top (show pS I (nI j, ws, ft, sd, ts, rf, rd) 46 j = sb_b (b j) from hb.2) ?_
      refine aw_sipush (v := nI 255) dX10_see_58 (by decide) ?_
      refine aw_iand dX10_see_61 ?_
      refine aw_top (sb_byte (b j) hb.1).1 ?_
      refine aw_goto (tgt := 66) dX10_see_62 (by decide) ?_
      refine aw_iret dX10_see_66 rfl rfl ?_
      exact ⟨by rw [seeV, if_pos (by omega)], rfl⟩
  have loop : ∀ d i, i + d = P → run (isBl b) P i = j → AW G mX10_see 0 [(0, .ref (gz G + 22))] [] (n, sz, kd, pS I (nI i, ws, ft, sd, ts, rf, rd), R, J) (fun v' M' => v' = some (.int (seeV b P j)) ∧ M' = (n, sz, kd, pS I (nI j, ws, ft, sd, ts, rf, rd), R, J)) := by
    intro d
    induction d with
    | zero =>
      intro i hd hr
      have hij : i = j := by rw [← hr]; exact (run_no (Or.inl (by omega))).symm
      subst hij
      refine aw_aload_n dX10_see_0 rfl rfl (by first | exact isR_ref _ | exact isR_rf _ | exact isR_null) ?_
      refine aw_get dX10_see_1 fl_X10_116 (sM_kd hM) (sM_n hM) (show _ = Value.int (nI i) from rfl) ?_
      refine aw_aload_n dX10_see_4 rfl rfl (by first | exact isR_ref _ | exact isR_rf _ | exact isR_null) ?_
      refine aw_get dX10_see_5 fl_X10_106 (sM_kd hM) (sM_n hM) (congrArg Value.int hP) ?_
      refine aw_n_ge (tgt := 38) dX10_see_8 (by decide) rfl rfl (by omega) (by omega) (fun h => ?_) (fun h => ?_)
      · exact fin
      · exact absurd h (by omega)
    | succ d ih =>
      intro i hd hr
      have hb := hT i (by omega)
      refine aw_aload_n dX10_see_0 rfl rfl (by first | exact isR_ref _ | exact isR_rf _ | exact isR_null) ?_
      refine aw_get dX10_see_1 fl_X10_116 (sM_kd hM) (sM_n hM) (show _ = Value.int (nI i) from rfl) ?_
      refine aw_aload_n dX10_see_4 rfl rfl (by first | exact isR_ref _ | exact isR_rf _ | exact isR_null) ?_
      refine aw_get dX10_see_5 fl_X10_106 (sM_kd hM) (sM_n hM) (congrArg Value.int hP) ?_
      refine aw_n_ge (tgt := 38) dX10_see_8 (by decide) rfl rfl (by omega) (by omega) (fun h => ?_) (fun h => ?_)
      · exact absurd h (by omega)
      · refine aw_aload_n dX10_see_11 rfl rfl (by first | exact isR_ref _ | exact isR_rf _ | exact isR_null) ?_
        refine aw_get dX10_see_12 fl_X10_87 (sM_kd hM) (sM_n hM) (sM_r_tape hM _ _) ?_
        refine aw_aload_n dX10_see_15 rfl rfl (by first | exact isR_ref _ | exact isR_rf _ | exact isR_null) ?_
        refine aw_get dX10_see_16 fl_X10_116 (sM_kd hM) (sM_n hM) (show _ = Value.int (nI i) from rfl) ?_
        refine aw_bald dX10_see_19 (sM_k_tape hM) (sM_l_tape hM) (ixm (by omega)) ?_
        refine aw_top (show pS I (nI i, ws, ft, sd, ts, rf, rd) 46 i = sb_b (b i) from hb.2) ?_
        refine aw_bipush (v := nI 32) dX10_see_20 (by decide) ?_
        refine aw_icmp_ne (tgt := 38) dX10_see_22 (by decide) (fun h2 => ?_) (fun h2 => ?_)
        · have hq : isBl b i = false := decide_eq_false (fun z => h2 ((sb_32 _ hb.1).mpr z))
          have hij : i = j := by rw [← hr]; exact (run_no (Or.inr hq)).symm
          subst hij
          exact fin
        · have hq : isBl b i = true := decide_eq_true ((sb_32 _ hb.1).mp h2)
          refine aw_aload_n dX10_see_25 rfl rfl (by first | exact isR_ref _ | exact isR_rf _ | exact isR_null) ?_
          refine aw_dup dX10_see_26 rfl ?_
          refine aw_get dX10_see_27 fl_X10_116 (sM_kd hM) (sM_n hM) (show _ = Value.int (nI i) from rfl) ?_
          refine aw_iconst (v := nI 1) dX10_see_30 (by decide) ?_
          first | refine aw_iaddN dX10_see_31 ?_ | refine aw_iadd dX10_see_31 ?_
          refine aw_putI dX10_see_32 fl_X10_116 (Or.inl rfl) rfl (sM_kd hM) (sM_n hM) ?_
          rw [pS_nx]
          refine aw_goto (tgt := 0) dX10_see_35 (by decide) ?_
          exact ih (i + 1) (by omega) (by rw [← run_yes (by omega) hq]; exact hr)
  exact loop (P - i) i (by omega) hj
end MOD14
