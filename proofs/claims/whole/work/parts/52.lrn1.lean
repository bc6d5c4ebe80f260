section LRN1
variable {G : GG} {n sz : Nat} {kd : Nat → AKd} {I : Nat → Nat → Int32} {R : Nat → Nat → Option Nat} {J : Nat → Nat → Int64}
/-- the learner's own scratch: what was tallied, what is at stake, the best so far -/
def qS (I : Nat → Nat → Int32) (T : Int32) (bel stk : Nat → Int32) (t : Bst) : Nat → Nat → Int32 := fun r c => if r = 20 then bel c else if r = 21 then stk c else if r = 16 then (if c = 12 then T else if c = 15 then t.1 else if c = 16 then t.2.1 else if c = 17 then t.2.2.1 else if c = 18 then t.2.2.2 else I r c) else I r c
theorem qS_T (I : Nat → Nat → Int32) (T x : Int32) (bel stk : Nat → Int32) (t : Bst) : u2 (qS I T bel stk t) 16 12 x = qS I x bel stk t := by
  funext a b
  unfold u2 qS
  by_cases h : a = 16
  · subst h
    by_cases h2 : b = 12 <;> simp [h2]
  · simp [h]
theorem qS_b1 (I : Nat → Nat → Int32) (T x : Int32) (bel stk : Nat → Int32) (t : Bst) : u2 (qS I T bel stk t) 16 15 x = qS I T bel stk (x, t.2) := by
  funext a b
  unfold u2 qS
  by_cases h : a = 16
  · subst h
    by_cases h2 : b = 15 <;> simp [h2]
  · simp [h]
theorem qS_b2 (I : Nat → Nat → Int32) (T x : Int32) (bel stk : Nat → Int32) (t : Bst) : u2 (qS I T bel stk t) 16 16 x = qS I T bel stk (t.1, x, t.2.2) := by
  funext a b
  unfold u2 qS
  by_cases h : a = 16
  · subst h
    by_cases h2 : b = 16 <;> simp [h2]
  · simp [h]
theorem qS_b3 (I : Nat → Nat → Int32) (T x : Int32) (bel stk : Nat → Int32) (t : Bst) : u2 (qS I T bel stk t) 16 17 x = qS I T bel stk (t.1, t.2.1, x, t.2.2.2) := by
  funext a b
  unfold u2 qS
  by_cases h : a = 16
  · subst h
    by_cases h2 : b = 17 <;> simp [h2]
  · simp [h]
theorem qS_b4 (I : Nat → Nat → Int32) (T x : Int32) (bel stk : Nat → Int32) (t : Bst) : u2 (qS I T bel stk t) 16 18 x = qS I T bel stk (t.1, t.2.1, t.2.2.1, x) := by
  funext a b
  unfold u2 qS
  by_cases h : a = 16
  · subst h
    by_cases h2 : b = 18 <;> simp [h2]
  · simp [h]
theorem qS_be (I : Nat → Nat → Int32) (T x : Int32) (bel stk : Nat → Int32) (t : Bst) (j : Nat) : u2 (qS I T bel stk t) 20 j x = qS I T (fun c => if c = j then x else bel c) stk t := by
  funext a b
  unfold u2 qS
  by_cases h : a = 20
  · subst h
    simp
  · simp [h]
theorem qS_st (I : Nat → Nat → Int32) (T x : Int32) (bel stk : Nat → Int32) (t : Bst) (j : Nat) : u2 (qS I T bel stk t) 21 j x = qS I T bel (fun c => if c = j then x else stk c) t := by
  funext a b
  unfold u2 qS
  by_cases h : a = 21
  · subst h
    simp
  · by_cases h2 : a = 20
    · simp [h2]
    · simp [h, h2]
theorem qS_own (I : Nat → Nat → Int32) : qS I (I 16 12) (I 20) (I 21) (I 16 15, I 16 16, I 16 17, I 16 18) = I := by
  funext a b
  unfold qS
  by_cases h : a = 16
  · subst h
    simp only [if_true]
    repeat' split
    all_goals first | rfl | (rename_i h1; rw [h1]) | (rename_i h1 h2; rw [h2]) | omega
  · by_cases h2 : a = 20
    · subst h2; simp
    · by_cases h3 : a = 21
      · subst h3; simp
      · simp [h, h2, h3]
theorem qS_hi (I : Nat → Nat → Int32) (T : Int32) (bel stk : Nat → Int32) (t : Bst) {l : Nat} (h : l ≠ 20 ∧ l ≠ 21 ∧ l ≠ 16) : qS I T bel stk t l = I l := by
  funext b
  unfold qS
  simp [h]
/-- the LETTERS that are open -/
def OV (G : GG) (n : Nat) (kd : Nat → AKd) (I : Nat → Nat → Int32) (R : Nat → Nat → Option Nat) (m : Nat) : Prop := m ≤ 100 ∧ ∀ j, j < m → isC G n kd R 19 j 3 ∧ 52 ≤ rc G R 19 j ∧ bN (I (rc G R 19 j) 5) 7
def tlP (G : GG) (R : Nat → Nat → Option Nat) (J : Nat → Nat → Int64) (w : Int64) (j : Nat) : Bool := decide (J (rc G R 19 j) 0 &&& w = w)
def tlG (G : GG) (I : Nat → Nat → Int32) (R : Nat → Nat → Option Nat) (J : Nat → Nat → Int64) (w : Int64) (g j : Nat) : Bool := tlP G R J w j && decide (I (rc G R 19 j) 5 = nI g)
def QTal (n sz : Nat) (kd : Nat → AKd) (I : Nat → Nat → Int32) (R : Nat → Nat → Option Nat) (J : Nat → Nat → Int64) (T : Nat) (tg : Nat → Nat) (stk : Nat → Int32) (t : Bst) (v' : Option Value) (M' : Mem) : Prop := v' = none ∧ ∃ bel, (∀ g, g < 8 → bel g = nI (tg g)) ∧ M' = (n, sz, kd, qS I (nI T) bel stk t, R, J)
theorem l_tally (hC : ShC G n kd R) {m : Nat} (hO : I 16 11 = nI m) (hV : OV G n kd I R m) (w : Int64) (T : Int32) (bel stk : Nat → Int32) (t : Bst) : MM G mX1_tally [.ref (gz G + 16), .long w] (n, sz, kd, qS I T bel stk t, R, J) (QTal n sz kd I R J (cnt (tlP G R J w) m) (fun g => cnt (tlG G I R J w g) m) stk t) := by
  refine mm_of rfl [(0, .ref (gz G + 16)), (1, .long w)] rfl (Nat.le_of_ble_eq_true rfl) ?_
  have hm := hV.1
  have loop2 : ∀ d i, i + d = m → ∀ bel : Nat → Int32, (∀ g, g < 8 → bel g = nI (cnt (tlG G I R J w g) i)) → AW G mX1_tally 28 [(0, .ref (gz G + 16)), (1, .long w), (3, .int (nI i))] [] (n, sz, kd, qS I (nI (cnt (tlP G R J w) i)) bel stk t, R, J) (QTal n sz kd I R J (cnt (tlP G R J w) m) (fun g => cnt (tlG G I R J w g) m) stk t) := by
    intro d
    induction d with
    | zero =>
      intro i hi bel hb
      have em_ : i = m := by omega
      subst em_
      refine aw_iload_n dX1_tally_28 rfl rfl ?_
      refine aw_aload_n dX1_tally_29 rfl rfl (by first | exact isR_ref _ | exact isR_rf _ | exact isR_null) ?_
      refine aw_get dX1_tally_30 fl_X1_52 (sC_k16 hC) (sC_n16 hC) (congrArg Value.int hO) ?_
      refine aw_n_ge (tgt := 83) dX1_tally_33 (by decide) rfl rfl (by omega) (by omega) (fun h => ?_) (fun h => ?_)
      · refine aw_vret dX1_tally_83 rfl ?_
        exact ⟨rfl, bel, hb, rfl⟩
      · exact absurd h (by omega)
    | succ d ih =>
      intro i hi bel hb
      have hl := hV.2 i (by omega)
      obtain ⟨g, hg, hg2⟩ := hl.2.2
      have hcl := cnt_le (tlP G R J w) i
      have hcg := cnt_le (tlG G I R J w g) i
      have hbe : qS I (nI (cnt (tlP G R J w) i)) bel stk t (rc G R 19 i) 5 = nI g := by rw [qS_hi _ _ _ _ _ (by have := hl.2.1; omega)]; exact hg2
      refine aw_iload_n dX1_tally_28 rfl rfl ?_
      refine aw_aload_n dX1_tally_29 rfl rfl (by first | exact isR_ref _ | exact isR_rf _ | exact isR_null) ?_
      refine aw_get dX1_tally_30 fl_X1_52 (sC_k16 hC) (sC_n16 hC) (congrArg Value.int hO) ?_
      refine aw_n_ge (tgt := 83) dX1_tally_33 (by decide) rfl rfl (by omega) (by omega) (fun h => ?_) (fun h => ?_)
      · exact absurd h (by omega)
      · refine aw_aload_n dX1_tally_36 rfl rfl (by first | exact isR_ref _ | exact isR_rf _ | exact isR_null) ?_
        refine aw_get dX1_tally_37 fl_X1_26 (sC_k16 hC) (sC_n16 hC) (sC_r_16_open hC _ _) ?_
        refine aw_iload_n dX1_tally_40 rfl rfl ?_
        refine aw_aaS dX1_tally_41 (by decide) (sC_k19 hC) (sC_n19 hC) (ixm (by omega)) (hl.1).1 ?_
        refine aw_lload_n dX1_tally_42 rfl rfl ?_
        refine aw_cVx (as := [_]) dX1_tally_43 lk_X1_160 cm_X2_passesAll vi_X2_passesAll (by unfold RO; decide) rfl (hl.1).2.2 (hl.1).2.1 rfl rfl rfl (Nat.le_of_ble_eq_true rfl) (c_passesAll hl.1.o w) ?_
        refine aw_b_eq (tgt := 77) dX1_tally_46 (by decide) rfl (fun h2 => ?_) (fun h2 => ?_)
        · have e1 : tlP G R J w i = false := h2
          first | refine aw_iincN (c := 1) (lv' := [(0, _), (1, _), (3, _)]) dX1_tally_77 rfl (by decide) rfl rfl ?_ | refine aw_iinc (v := 1) (lv' := [(0, _), (1, _), (3, _)]) dX1_tally_77 rfl (by decide) (by decide) rfl ?_
          refine aw_goto (tgt := 28) dX1_tally_80 (by decide) ?_
          have k := ih (i + 1) (by omega) bel (fun g' hg' => by rw [cnt_no (by unfold tlG; rw [e1]; rfl)]; exact hb g' hg')
          rw [cnt_no e1] at k
          exact k
        · have e1 : tlP G R J w i = true := h2
          refine aw_aload_n dX1_tally_49 rfl rfl (by first | exact isR_ref _ | exact isR_rf _ | exact isR_null) ?_
          refine aw_get dX1_tally_50 fl_X1_30 (sC_k16 hC) (sC_n16 hC) (sC_r_16_belonging hC _ _) ?_
          refine aw_aload_n dX1_tally_53 rfl rfl (by first | exact isR_ref _ | exact isR_rf _ | exact isR_null) ?_
          refine aw_get dX1_tally_54 fl_X1_26 (sC_k16 hC) (sC_n16 hC) (sC_r_16_open hC _ _) ?_
          refine aw_iload_n dX1_tally_57 rfl rfl ?_
          refine aw_aaS dX1_tally_58 (by decide) (sC_k19 hC) (sC_n19 hC) (ixm (by omega)) (hl.1).1 ?_
          refine aw_get dX1_tally_59 fl_X1_129 (hl.1).2.2 (hl.1).2.1 (congrArg Value.int hbe) ?_
          refine aw_dup2 dX1_tally_62 rfl rfl ?_
          refine aw_iald dX1_tally_63 (sC_k20 hC) (sC_n20 hC) (ixm (j := g) (by omega)) ?_
          refine aw_top (show _ = nI (cnt (tlG G I R J w g) i) from hb g (by omega)) ?_
          refine aw_iconst (v := nI 1) dX1_tally_64 (by decide) ?_
          first | refine aw_iaddN dX1_tally_65 ?_ | refine aw_iadd dX1_tally_65 ?_
          refine aw_iast dX1_tally_66 (sC_k20 hC) (sC_n20 hC) (ixm (j := g) (by omega)) ?_
          rw [qS_be]
          refine aw_aload_n dX1_tally_67 rfl rfl (by first | exact isR_ref _ | exact isR_rf _ | exact isR_null) ?_
          refine aw_dup dX1_tally_68 rfl ?_
          refine aw_get dX1_tally_69 fl_X1_157 (sC_k16 hC) (sC_n16 hC) (show _ = Value.int (nI (cnt (tlP G R J w) i)) from rfl) ?_
          refine aw_iconst (v := nI 1) dX1_tally_72 (by decide) ?_
          first | refine aw_iaddN dX1_tally_73 ?_ | refine aw_iadd dX1_tally_73 ?_
          refine aw_putI dX1_tally_74 fl_X1_157 (Or.inl rfl) rfl (sC_k16 hC) (sC_n16 hC) ?_
          rw [qS_T]
          first | refine aw_iincN (c := 1) (lv' := [(0, _), (1, _), (3, _)]) dX1_tally_77 rfl (by decide) rfl rfl ?_ | refine aw_iinc (v := 1) (lv' := [(0, _), (1, _), (3, _)]) dX1_tally_77 rfl (by decide) (by decide) rfl ?_
          refine aw_goto (tgt := 28) dX1_tally_80 (by decide) ?_
          have k := ih (i + 1) (by omega) (fun c => if c = g then nI (cnt (tlG G I R J w g) i + 1) else bel c) (fun g' hg' => by
            by_cases hgg : g' = g
            · subst hgg
              rw [cnt_yes (by unfold tlG; rw [e1, hg2]; simp)]
              exact if_pos rfl
            · rw [cnt_no (by unfold tlG; rw [e1, hg2, decide_eq_false (fun z => hgg ((nI_eq (by omega) (by omega)).mp z).symm)]; rfl)]
              exact (if_neg hgg).trans (hb g' hg'))
          rw [cnt_yes e1] at k
          exact k
  refine aw_aload_n dX1_tally_0 rfl rfl (by first | exact isR_ref _ | exact isR_rf _ | exact isR_null) ?_
  refine aw_iconst (v := nI 0) dX1_tally_1 (by decide) ?_
  refine aw_putI dX1_tally_2 fl_X1_157 (Or.inl rfl) rfl (sC_k16 hC) (sC_n16 hC) ?_
  rw [qS_T]
  refine aw_iconst (v := nI 0) dX1_tally_5 (by decide) ?_
  refine aw_istore_n (lv' := [(0, _), (1, _), (3, _)]) dX1_tally_6 rfl (by decide) rfl ?_
  have loop1 : ∀ d i, i + d = 8 → ∀ bel : Nat → Int32, (∀ g, g < i → bel g = nI 0) → AW G mX1_tally 7 [(0, .ref (gz G + 16)), (1, .long w), (3, .int (nI i))] [] (n, sz, kd, qS I (nI 0) bel stk t, R, J) (QTal n sz kd I R J (cnt (tlP G R J w) m) (fun g => cnt (tlG G I R J w g) m) stk t) := by
    intro d
    induction d with
    | zero =>
      intro i hi bel hb
      have e8 : i = 8 := by omega
      subst e8
      refine aw_iload_n dX1_tally_7 rfl rfl ?_
      refine aw_bipush (v := nI 8) dX1_tally_8 (by decide) ?_
      refine aw_n_ge (tgt := 26) dX1_tally_10 (by decide) rfl rfl (by omega) (by omega) (fun h => ?_) (fun h => ?_)
      · refine aw_iconst (v := nI 0) dX1_tally_26 (by decide) ?_
        refine aw_istore_n (lv' := [(0, _), (1, _), (3, _)]) dX1_tally_27 rfl (by decide) rfl ?_
        exact loop2 m 0 (Nat.zero_add _) bel hb
      · exact absurd h (by omega)
    | succ d ih =>
      intro i hi bel hb
      refine aw_iload_n dX1_tally_7 rfl rfl ?_
      refine aw_bipush (v := nI 8) dX1_tally_8 (by decide) ?_
      refine aw_n_ge (tgt := 26) dX1_tally_10 (by decide) rfl rfl (by omega) (by omega) (fun h => ?_) (fun h => ?_)
      · exact absurd h (by omega)
      · refine aw_aload_n dX1_tally_13 rfl rfl (by first | exact isR_ref _ | exact isR_rf _ | exact isR_null) ?_
        refine aw_get dX1_tally_14 fl_X1_30 (sC_k16 hC) (sC_n16 hC) (sC_r_16_belonging hC _ _) ?_
        refine aw_iload_n dX1_tally_17 rfl rfl ?_
        refine aw_iconst (v := nI 0) dX1_tally_18 (by decide) ?_
        refine aw_iast dX1_tally_19 (sC_k20 hC) (sC_n20 hC) (ixm (by omega)) ?_
        rw [qS_be]
        first | refine aw_iincN (c := 1) (lv' := [(0, _), (1, _), (3, _)]) dX1_tally_20 rfl (by decide) rfl rfl ?_ | refine aw_iinc (v := 1) (lv' := [(0, _), (1, _), (3, _)]) dX1_tally_20 rfl (by decide) (by decide) rfl ?_
        refine aw_goto (tgt := 7) dX1_tally_23 (by decide) ?_
        exact ih (i + 1) (by omega) _ (fun g hg => by
          by_cases hgg : g = i
          · exact if_pos hgg
          · exact (if_neg hgg).trans (hb g (by omega)))
  exact loop1 8 0 rfl bel (fun g hg => absurd hg (Nat.not_lt_zero g))
def tcI (I : Nat → Nat → Int32) (T : Int32) (bel : Nat → Int32) (f : Nat) : Int32 := I 15 f * (T - bel f)
theorem l_tcost (hC : ShC G n kd R) {f : Nat} (hf : f < 8) (T : Int32) (bel stk : Nat → Int32) (t : Bst) : EX G mX1_talliedCost [.ref (gz G + 16), .int (nI f)] (n, sz, kd, qS I T bel stk t, R, J) (some (.int (tcI I T bel f))) (n, sz, kd, qS I T bel stk t, R, J) := by
  refine mm_of rfl [(0, .ref (gz G + 16)), (1, .int (nI f))] rfl (Nat.le_of_ble_eq_true rfl) ?_
  refine aw_aload_n dX1_talliedCost_0 rfl rfl (by first | exact isR_ref _ | exact isR_rf _ | exact isR_null) ?_
  refine aw_get dX1_talliedCost_1 fl_X1_37 (sC_k16 hC) (sC_n16 hC) (sC_r_16_costs hC _ _) ?_
  refine aw_get dX1_talliedCost_4 fl_X1_164 (sC_k14 hC) (sC_n14 hC) (sC_r_14_ofWrong hC _ _) ?_
  refine aw_iload_n dX1_talliedCost_7 rfl rfl ?_
  refine aw_iald dX1_talliedCost_8 (sC_k15 hC) (sC_n15 hC) (ixm (by omega)) ?_
  refine aw_aload_n dX1_talliedCost_9 rfl rfl (by first | exact isR_ref _ | exact isR_rf _ | exact isR_null) ?_
  refine aw_get dX1_talliedCost_10 fl_X1_157 (sC_k16 hC) (sC_n16 hC) rfl ?_
  refine aw_aload_n dX1_talliedCost_13 rfl rfl (by first | exact isR_ref _ | exact isR_rf _ | exact isR_null) ?_
  refine aw_get dX1_talliedCost_14 fl_X1_30 (sC_k16 hC) (sC_n16 hC) (sC_r_16_belonging hC _ _) ?_
  refine aw_iload_n dX1_talliedCost_17 rfl rfl ?_
  refine aw_iald dX1_talliedCost_18 (sC_k20 hC) (sC_n20 hC) (ixm (by omega)) ?_
  refine aw_isub dX1_talliedCost_19 ?_
  refine aw_imul dX1_talliedCost_20 ?_
  refine aw_iret dX1_talliedCost_21 rfl rfl ?_
  exact ⟨rfl, rfl⟩
def gUpd (g : Nat → Int32) (x y : Int32) (f : Nat) (t : Bst) : Bst := if t.1 < g f then (g f, x, y, nI f) else t
def gBs (g : Nat → Int32) (x y : Int32) (t : Bst) : Nat → Bst
  | 0 => t
  | f + 1 => gUpd g x y f (gBs g x y t f)
def svI (I : Nat → Nat → Int32) (T : Int32) (bel : Nat → Int32) (p : Int32) (f : Nat) : Int32 := tcI I T bel 0 - tcI I T bel f - p
theorem l_try (hC : ShC G n kd R) (x y_ p : Int32) (T : Int32) (bel stk : Nat → Int32) (t : Bst) : EX G mX1_tryFolders [.ref (gz G + 16), .int x, .int y_, .int p] (n, sz, kd, qS I T bel stk t, R, J) none (n, sz, kd, qS I T bel stk (gBs (svI I T bel p) x y_ t 8), R, J) := by
  refine mm_of rfl [(0, .ref (gz G + 16)), (1, .int x), (2, .int y_), (3, .int p)] rfl (Nat.le_of_ble_eq_true rfl) ?_
  refine aw_aload_n dX1_tryFolders_0 rfl rfl (by first | exact isR_ref _ | exact isR_rf _ | exact isR_null) ?_
  refine aw_iconst (v := nI 0) dX1_tryFolders_1 (by decide) ?_
  refine aw_cVx (as := [_]) dX1_tryFolders_2 lk_X1_59 cm_X1_talliedCost vi_X1_talliedCost (by unfold RO; decide) rfl (sC_k16 hC) (sC_n16 hC) rfl rfl rfl (Nat.le_of_ble_eq_true rfl) (l_tcost hC (f := 0) (by decide) T bel stk t) ?_
  refine aw_istore (lv' := [(0, _), (1, _), (2, _), (3, _), (4, _)]) dX1_tryFolders_5 (by decide) rfl ?_
  refine aw_iconst (v := nI 0) dX1_tryFolders_7 (by decide) ?_
  refine aw_istore (lv' := [(0, _), (1, _), (2, _), (3, _), (4, _), (5, _)]) dX1_tryFolders_8 (by decide) rfl ?_
  have loop : ∀ d i, i + d = 8 → ∀ lx, AW G mX1_tryFolders 10 ([(0, .ref (gz G + 16)), (1, .int x), (2, .int y_), (3, .int p), (4, .int (tcI I T bel 0)), (5, .int (nI i))] ++ lx) [] (n, sz, kd, qS I T bel stk (gBs (svI I T bel p) x y_ t i), R, J) (fun v' M' => v' = none ∧ M' = (n, sz, kd, qS I T bel stk (gBs (svI I T bel p) x y_ t 8), R, J)) := by
    intro d
    induction d with
    | zero =>
      intro i hi lx
      refine aw_app ?_
      have e8 : i = 8 := by omega
      subst e8
      refine aw_iload dX1_tryFolders_10 rfl ?_
      refine aw_bipush (v := nI 8) dX1_tryFolders_12 (by decide) ?_
      refine aw_n_ge (tgt := 67) dX1_tryFolders_14 (by decide) rfl rfl (by omega) (by omega) (fun h => ?_) (fun h => ?_)
      · refine aw_vret dX1_tryFolders_67 rfl ?_
        exact ⟨rfl, rfl⟩
      · exact absurd h (by omega)
    | succ d ih =>
      intro i hi lx
      refine aw_app ?_
      refine aw_iload dX1_tryFolders_10 rfl ?_
      refine aw_bipush (v := nI 8) dX1_tryFolders_12 (by decide) ?_
      refine aw_n_ge (tgt := 67) dX1_tryFolders_14 (by decide) rfl rfl (by omega) (by omega) (fun h => ?_) (fun h => ?_)
      · exact absurd h (by omega)
      · refine aw_iload dX1_tryFolders_17 rfl ?_
        refine aw_aload_n dX1_tryFolders_19 rfl rfl (by first | exact isR_ref _ | exact isR_rf _ | exact isR_null) ?_
        refine aw_iload dX1_tryFolders_20 rfl ?_
        refine aw_cVx (as := [_]) dX1_tryFolders_22 lk_X1_59 cm_X1_talliedCost vi_X1_talliedCost (by unfold RO; decide) rfl (sC_k16 hC) (sC_n16 hC) rfl rfl rfl (Nat.le_of_ble_eq_true rfl) (l_tcost hC (f := i) (by omega) T bel stk _) ?_
        refine aw_isub dX1_tryFolders_25 ?_
        refine aw_iload_n dX1_tryFolders_26 rfl rfl ?_
        refine aw_isub dX1_tryFolders_27 ?_
        refine aw_istore (lv' := [(0, _), (1, _), (2, _), (3, _), (4, _), (5, _), (6, _)]) dX1_tryFolders_28 (by decide) rfl ?_
        refine aw_iload dX1_tryFolders_30 rfl ?_
        refine aw_aload_n dX1_tryFolders_32 rfl rfl (by first | exact isR_ref _ | exact isR_rf _ | exact isR_null) ?_
        refine aw_get dX1_tryFolders_33 fl_X1_95 (sC_k16 hC) (sC_n16 hC) (show _ = Value.int ((gBs (svI I T bel p) x y_ t i).1) from rfl) ?_
        refine aw_icmp_le (tgt := 61) dX1_tryFolders_36 (by decide) (fun h2 => ?_) (fun h2 => ?_)
        · have k := ih (i + 1) (by omega) []
          rw [gBs, gUpd, if_neg (show ¬ (gBs (svI I T bel p) x y_ t i).1 < svI I T bel p i from Int32.not_lt.mpr h2)] at k
          first | refine aw_iincN (c := 1) (lv' := [(0, _), (1, _), (2, _), (3, _), (4, _), (5, _), (6, _)]) dX1_tryFolders_61 rfl (by decide) rfl rfl ?_ | refine aw_iinc (v := 1) (lv' := [(0, _), (1, _), (2, _), (3, _), (4, _), (5, _), (6, _)]) dX1_tryFolders_61 rfl (by decide) (by decide) rfl ?_
          refine aw_goto (tgt := 10) dX1_tryFolders_64 (by decide) ?_
          exact aw_app (lv := [_, _, _, _, _, _]) (ex := [_]) k
        · have k := ih (i + 1) (by omega) []
          rw [gBs, gUpd, if_pos (show (gBs (svI I T bel p) x y_ t i).1 < svI I T bel p i from Int32.not_le.mp h2)] at k
          refine aw_aload_n dX1_tryFolders_39 rfl rfl (by first | exact isR_ref _ | exact isR_rf _ | exact isR_null) ?_
          refine aw_iload dX1_tryFolders_40 rfl ?_
          refine aw_putI dX1_tryFolders_42 fl_X1_95 (Or.inl rfl) rfl (sC_k16 hC) (sC_n16 hC) ?_
          rw [qS_b1]
          refine aw_aload_n dX1_tryFolders_45 rfl rfl (by first | exact isR_ref _ | exact isR_rf _ | exact isR_null) ?_
          refine aw_iload_n dX1_tryFolders_46 rfl rfl ?_
          refine aw_putI dX1_tryFolders_47 fl_X1_73 (Or.inl rfl) rfl (sC_k16 hC) (sC_n16 hC) ?_
          rw [qS_b2]
          refine aw_aload_n dX1_tryFolders_50 rfl rfl (by first | exact isR_ref _ | exact isR_rf _ | exact isR_null) ?_
          refine aw_iload_n dX1_tryFolders_51 rfl rfl ?_
          refine aw_putI dX1_tryFolders_52 fl_X1_76 (Or.inl rfl) rfl (sC_k16 hC) (sC_n16 hC) ?_
          rw [qS_b3]
          refine aw_aload_n dX1_tryFolders_55 rfl rfl (by first | exact isR_ref _ | exact isR_rf _ | exact isR_null) ?_
          refine aw_iload dX1_tryFolders_56 rfl ?_
          refine aw_putI dX1_tryFolders_58 fl_X1_79 (Or.inl rfl) rfl (sC_k16 hC) (sC_n16 hC) ?_
          rw [qS_b4]
          first | refine aw_iincN (c := 1) (lv' := [(0, _), (1, _), (2, _), (3, _), (4, _), (5, _), (6, _)]) dX1_tryFolders_61 rfl (by decide) rfl rfl ?_ | refine aw_iinc (v := 1) (lv' := [(0, _), (1, _), (2, _), (3, _), (4, _), (5, _), (6, _)]) dX1_tryFolders_61 rfl (by decide) (by decide) rfl ?_
          refine aw_goto (tgt := 10) dX1_tryFolders_64 (by decide) ?_
          exact aw_app (lv := [_, _, _, _, _, _]) (ex := [_]) k
  exact loop 8 0 rfl []
end LRN1
