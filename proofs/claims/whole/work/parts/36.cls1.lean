section CLS1
variable {G : GG} {n sz : Nat} {kd : Nat → AKd} {I : Nat → Nat → Int32} {R : Nat → Nat → Option Nat} {J : Nat → Nat → Int64}
theorem rglW {x : Int32} {b : Nat} (hb : b < 2 ^ 31) : (rgl x 0 b).isSome = true ↔ ¬ x < 0 ∧ ¬ nI b ≤ x := by
  rw [Int32.lt_iff_toInt_lt, Int32.le_iff_toInt_le, nI_toInt hb, show (0 : Int32).toInt = 0 by decide]
  unfold rgl
  split
  · rename_i q
    simp
    omega
  · rename_i q
    simp
    omega
theorem c_isWithin (v : Int32) {b : Nat} (hb : b < 2 ^ 31) (M : Mem) : EX G mX9_isWithin [.int v, .int (nI b)] M (some (.int (bi (rgl v 0 b).isSome))) M := by
  refine mm_of rfl [(0, .int v), (1, .int (nI b))] rfl (Nat.le_of_ble_eq_true rfl) ?_
  refine aw_iload_n dX9_isWithin_0 rfl rfl ?_
  refine aw_if_lt (tgt := 13) dX9_isWithin_1 (by decide) (fun h1 => ?_) (fun h1 => ?_)
  · refine aw_iconst (v := nI 0) dX9_isWithin_13 (by decide) ?_
    refine aw_iret dX9_isWithin_14 rfl rfl ?_
    have h : (rgl v 0 b).isSome = false := by
      cases hh : (rgl v 0 b).isSome with
      | false => rfl
      | true => exact absurd h1 ((rglW hb).mp hh).1
    rw [h]
    exact ⟨rfl, rfl⟩
  · refine aw_iload_n dX9_isWithin_4 rfl rfl ?_
    refine aw_iload_n dX9_isWithin_5 rfl rfl ?_
    refine aw_icmp_ge (tgt := 13) dX9_isWithin_6 (by decide) (fun h2 => ?_) (fun h2 => ?_)
    · refine aw_iconst (v := nI 0) dX9_isWithin_13 (by decide) ?_
      refine aw_iret dX9_isWithin_14 rfl rfl ?_
      have h : (rgl v 0 b).isSome = false := by
        cases hh : (rgl v 0 b).isSome with
        | false => rfl
        | true => exact absurd h2 ((rglW hb).mp hh).2
      rw [h]
      exact ⟨rfl, rfl⟩
    · refine aw_iconst (v := nI 1) dX9_isWithin_9 (by decide) ?_
      refine aw_goto (tgt := 14) dX9_isWithin_10 (by decide) ?_
      refine aw_iret dX9_isWithin_14 rfl rfl ?_
      rw [(rglW hb).mpr ⟨h1, h2⟩]
      exact ⟨rfl, rfl⟩
theorem c_passesAll {l : Nat} (hl : iO n kd l 3) (w : Int64) : EX G mX2_passesAll [.ref (gz G + l), .long w] (n, sz, kd, I, R, J) (some (.int (bi (decide (J l 0 &&& w = w))))) (n, sz, kd, I, R, J) := by
  refine mm_of rfl [(0, .ref (gz G + l)), (1, .long w)] rfl (Nat.le_of_ble_eq_true rfl) ?_
  refine aw_aload_n dX2_passesAll_0 rfl rfl (by first | exact isR_ref _ | exact isR_rf _ | exact isR_null) ?_
  refine aw_get dX2_passesAll_1 fl_X2_9 hl.1 hl.2 (show _ = Value.long _ from rfl) ?_
  refine aw_lload_n dX2_passesAll_4 rfl rfl ?_
  refine aw_land dX2_passesAll_5 ?_
  refine aw_lload_n dX2_passesAll_6 rfl rfl ?_
  refine aw_lcmp dX2_passesAll_7 ?_
  refine aw_if_ne (tgt := 15) dX2_passesAll_8 (by decide) (fun h => ?_) (fun h => ?_)
  · refine aw_iconst (v := nI 0) dX2_passesAll_15 (by decide) ?_
    refine aw_iret dX2_passesAll_16 rfl rfl ?_
    rw [decide_eq_false (fun z => h ((lg_cmp_eq _ _).mpr z))]
    exact ⟨rfl, rfl⟩
  · refine aw_iconst (v := nI 1) dX2_passesAll_11 (by decide) ?_
    refine aw_goto (tgt := 16) dX2_passesAll_12 (by decide) ?_
    refine aw_iret dX2_passesAll_16 rfl rfl ?_
    rw [decide_eq_true ((lg_cmp_eq _ _).mp h)]
    exact ⟨rfl, rfl⟩
theorem c_passes {l : Nat} (hl : iO n kd l 3) (c : Int32) : EX G mX2_passes [.ref (gz G + l), .int c] (n, sz, kd, I, R, J) (some (.int (bi (cPs I J l c)))) (n, sz, kd, I, R, J) := by
  refine mm_of rfl [(0, .ref (gz G + l)), (1, .int c)] rfl (Nat.le_of_ble_eq_true rfl) ?_
  refine aw_iload_n dX2_passes_0 rfl rfl ?_
  refine aw_sipush (v := nI 1100) dX2_passes_1 (by decide) ?_
  refine aw_icmp_lt (tgt := 25) dX2_passes_4 (by decide) (fun h1 => ?_) (fun h1 => ?_)
  · have e1 : ¬ nI 1100 ≤ c := Int32.not_le.mpr h1
    refine aw_iload_n dX2_passes_25 rfl rfl ?_
    refine aw_bipush (v := nI 100) dX2_passes_26 (by decide) ?_
    refine aw_icmp_lt (tgt := 48) dX2_passes_28 (by decide) (fun h2 => ?_) (fun h2 => ?_)
    · have e2 : ¬ nI 100 ≤ c := Int32.not_le.mpr h2
      refine aw_aload_n dX2_passes_48 rfl rfl (by first | exact isR_ref _ | exact isR_rf _ | exact isR_null) ?_
      refine aw_lconst (v := 1) dX2_passes_49 (by decide) ?_
      refine aw_iload_n dX2_passes_50 rfl rfl ?_
      refine aw_lshl dX2_passes_51 ?_
      refine aw_cVx (as := [_]) dX2_passes_52 lk_X2_37 cm_X2_passesAll vi_X2_passesAll (by unfold RO; decide) rfl hl.1 hl.2 rfl rfl rfl (Nat.le_of_ble_eq_true rfl) (c_passesAll hl _) ?_
      refine aw_iret dX2_passes_55 rfl (bi_nar _) ?_
      unfold cPs
      rw [if_neg e1, if_neg e2]
      exact ⟨rfl, rfl⟩
    · have e2 : nI 100 ≤ c := Int32.not_lt.mp h2
      refine aw_aload_n dX2_passes_31 rfl rfl (by first | exact isR_ref _ | exact isR_rf _ | exact isR_null) ?_
      refine aw_get dX2_passes_32 fl_X2_15 hl.1 hl.2 rfl ?_
      refine aw_iload_n dX2_passes_35 rfl rfl ?_
      refine aw_bipush (v := nI 100) dX2_passes_36 (by decide) ?_
      refine aw_isub dX2_passes_38 ?_
      refine aw_icmp_le (tgt := 46) dX2_passes_39 (by decide) (fun h3 => ?_) (fun h3 => ?_)
      · refine aw_iconst (v := nI 0) dX2_passes_46 (by decide) ?_
        refine aw_iret dX2_passes_47 rfl rfl ?_
        unfold cPs
        rw [if_neg e1, if_pos e2, decide_eq_false (Int32.not_lt.mpr h3)]
        exact ⟨rfl, rfl⟩
      · refine aw_iconst (v := nI 1) dX2_passes_42 (by decide) ?_
        refine aw_goto (tgt := 47) dX2_passes_43 (by decide) ?_
        refine aw_iret dX2_passes_47 rfl rfl ?_
        unfold cPs
        rw [if_neg e1, if_pos e2, decide_eq_true (Int32.not_le.mp h3)]
        exact ⟨rfl, rfl⟩
  · have e1 : nI 1100 ≤ c := Int32.not_lt.mp h1
    refine aw_aload_n dX2_passes_7 rfl rfl (by first | exact isR_ref _ | exact isR_rf _ | exact isR_null) ?_
    refine aw_get dX2_passes_8 fl_X2_15 hl.1 hl.2 rfl ?_
    refine aw_iload_n dX2_passes_11 rfl rfl ?_
    refine aw_sipush (v := nI 1100) dX2_passes_12 (by decide) ?_
    refine aw_isub dX2_passes_15 ?_
    refine aw_icmp_ge (tgt := 23) dX2_passes_16 (by decide) (fun h3 => ?_) (fun h3 => ?_)
    · refine aw_iconst (v := nI 0) dX2_passes_23 (by decide) ?_
      refine aw_iret dX2_passes_24 rfl rfl ?_
      unfold cPs
      rw [if_pos e1, decide_eq_false (Int32.not_lt.mpr h3)]
      exact ⟨rfl, rfl⟩
    · refine aw_iconst (v := nI 1) dX2_passes_19 (by decide) ?_
      refine aw_goto (tgt := 24) dX2_passes_20 (by decide) ?_
      refine aw_iret dX2_passes_24 rfl rfl ?_
      unfold cPs
      rw [if_pos e1, decide_eq_true (Int32.not_le.mp h3)]
      exact ⟨rfl, rfl⟩
theorem c_fits {r l : Nat} (hr : iO n kd r 7) (hs : RuS G n kd R r) (hl : iO n kd l 3) : EX G mX6_fits [.ref (gz G + r), .ref (gz G + l)] (n, sz, kd, I, R, J) (some (.int (bi (cFt G kd I R J r l)))) (n, sz, kd, I, R, J) := by
  refine mm_of rfl [(0, .ref (gz G + r)), (1, .ref (gz G + l))] rfl (Nat.le_of_ble_eq_true rfl) ?_
  have h4 := hs.2.2.2
  refine aw_iconst (v := nI 0) dX6_fits_0 (by decide) ?_
  refine aw_istore_n (lv' := [(0, _), (1, _), (2, _)]) dX6_fits_1 rfl (by decide) rfl ?_
  have loop : ∀ d i, i + d = cM G kd R r → allT (fun t => cPs I J l (I (rc G R r 1) t)) i = true → AW G mX6_fits 2 [(0, .ref (gz G + r)), (1, .ref (gz G + l)), (2, .int (nI i))] [] (n, sz, kd, I, R, J) (fun v' M' => v' = some (.int (bi (cFt G kd I R J r l))) ∧ M' = (n, sz, kd, I, R, J)) := by
    intro d
    induction d with
    | zero =>
      intro i hi ha
      refine aw_iload_n dX6_fits_2 rfl rfl ?_
      refine aw_aload_n dX6_fits_3 rfl rfl (by first | exact isR_ref _ | exact isR_rf _ | exact isR_null) ?_
      refine aw_get dX6_fits_4 fl_X6_15 hr.1 hr.2 (rs_r hs _ _) ?_
      refine aw_alen dX6_fits_7 hs.2.2.1 hs.2.1 ?_
      refine aw_n_ge (tgt := 32) dX6_fits_8 (by decide) rfl rfl (by omega) (by omega) (fun h => ?_) (fun h => ?_)
      · refine aw_iconst (v := nI 1) dX6_fits_32 (by decide) ?_
        refine aw_iret dX6_fits_33 rfl rfl ?_
        exact ⟨by unfold cFt; rw [show cM G kd R r = i by omega, ha]; rfl, rfl⟩
      · exact absurd h (by omega)
    | succ d ih =>
      intro i hi ha
      refine aw_iload_n dX6_fits_2 rfl rfl ?_
      refine aw_aload_n dX6_fits_3 rfl rfl (by first | exact isR_ref _ | exact isR_rf _ | exact isR_null) ?_
      refine aw_get dX6_fits_4 fl_X6_15 hr.1 hr.2 (rs_r hs _ _) ?_
      refine aw_alen dX6_fits_7 hs.2.2.1 hs.2.1 ?_
      refine aw_n_ge (tgt := 32) dX6_fits_8 (by decide) rfl rfl (by omega) (by omega) (fun h => ?_) (fun h => ?_)
      · exact absurd h (by omega)
      · refine aw_aload_n dX6_fits_11 rfl rfl (by first | exact isR_ref _ | exact isR_rf _ | exact isR_null) ?_
        refine aw_aload_n dX6_fits_12 rfl rfl (by first | exact isR_ref _ | exact isR_rf _ | exact isR_null) ?_
        refine aw_get dX6_fits_13 fl_X6_15 hr.1 hr.2 (rs_r hs _ _) ?_
        refine aw_iload_n dX6_fits_16 rfl rfl ?_
        refine aw_iald dX6_fits_17 hs.2.2.1 hs.2.1 (ixm (by omega) (by omega)) ?_
        refine aw_cVx (as := [_]) dX6_fits_18 lk_X6_22 cm_X2_passes vi_X2_passes (by unfold RO; decide) rfl hl.1 hl.2 rfl rfl rfl (Nat.le_of_ble_eq_true rfl) (c_passes hl _) ?_
        refine aw_b_ne (tgt := 26) dX6_fits_21 (by decide) rfl (fun h2 => ?_) (fun h2 => ?_)
        · first | refine aw_iincN (c := 1) (lv' := [(0, _), (1, _), (2, _)]) dX6_fits_26 rfl (by decide) rfl rfl ?_ | refine aw_iinc (v := 1) (lv' := [(0, _), (1, _), (2, _)]) dX6_fits_26 rfl (by decide) (by decide) rfl ?_
          refine aw_goto (tgt := 2) dX6_fits_29 (by decide) ?_
          exact ih (i + 1) (by omega) (by rw [allT, ha, h2]; rfl)
        · refine aw_iconst (v := nI 0) dX6_fits_24 (by decide) ?_
          refine aw_iret dX6_fits_25 rfl rfl ?_
          exact ⟨by unfold cFt; rw [allT_false (k := i) (by omega) h2]; rfl, rfl⟩
  exact loop _ 0 (Nat.zero_add _) rfl
def cAt (G : GG) (kd : Nat → AKd) (I : Nat → Nat → Int32) (R : Nat → Nat → Option Nat) (r : Nat) (x : Int32) : Int32 := match rgl x 0 (cM G kd R r) with
  | none => -1
  | some j => I (rc G R r 1) j
theorem c_codeAt {r : Nat} (hr : iO n kd r 7) (hs : RuS G n kd R r) (x : Int32) : EX G mX6_codeAt [.ref (gz G + r), .int x] (n, sz, kd, I, R, J) (some (.int (cAt G kd I R r x))) (n, sz, kd, I, R, J) := by
  refine mm_of rfl [(0, .ref (gz G + r)), (1, .int x)] rfl (Nat.le_of_ble_eq_true rfl) ?_
  have h4 := hs.2.2.2
  refine aw_iload_n dX6_codeAt_0 rfl rfl ?_
  refine aw_aload_n dX6_codeAt_1 rfl rfl (by first | exact isR_ref _ | exact isR_rf _ | exact isR_null) ?_
  refine aw_get dX6_codeAt_2 fl_X6_15 hr.1 hr.2 (rs_r hs _ _) ?_
  refine aw_alen dX6_codeAt_5 hs.2.2.1 hs.2.1 ?_
  refine aw_cSx (as := [_, _]) dX6_codeAt_6 lk_X6_28 cm_X9_isWithin sm_X9_isWithin (by unfold RO; decide) rfl rfl (Nat.le_of_ble_eq_true rfl) (c_isWithin _ (by omega) _) ?_
  refine aw_b_eq (tgt := 21) dX6_codeAt_9 (by decide) rfl (fun h => ?_) (fun h => ?_)
  · refine aw_iconst (v := (-1)) dX6_codeAt_21 (by decide) ?_
    refine aw_iret dX6_codeAt_22 rfl rfl ?_
    unfold cAt
    cases hh : rgl x 0 (cM G kd R r) with
    | none => exact ⟨rfl, rfl⟩
    | some j => rw [hh] at h; cases h
  · cases hh : rgl x 0 (cM G kd R r) with
    | none => rw [hh] at h; cases h
    | some j =>
      obtain ⟨rfl, -, hj⟩ := rgl_some hh
      refine aw_aload_n dX6_codeAt_12 rfl rfl (by first | exact isR_ref _ | exact isR_rf _ | exact isR_null) ?_
      refine aw_get dX6_codeAt_13 fl_X6_15 hr.1 hr.2 (rs_r hs _ _) ?_
      refine aw_iload_n dX6_codeAt_16 rfl rfl ?_
      refine aw_iald dX6_codeAt_17 hs.2.2.1 hs.2.1 (ixm hj (by omega)) ?_
      refine aw_goto (tgt := 22) dX6_codeAt_18 (by decide) ?_
      refine aw_iret dX6_codeAt_22 rfl rfl ?_
      unfold cAt
      rw [hh]
      exact ⟨rfl, rfl⟩
def cTl (G : GG) (kd : Nat → AKd) (I : Nat → Nat → Int32) (R : Nat → Nat → Option Nat) (r : Nat) (a b f : Int32) : Bool := decide (cAt G kd I R r (nI 0) = a) && (decide (cAt G kd I R r (nI 1) = b) && decide (I r 2 = f))
theorem c_tells {r : Nat} (hr : iO n kd r 7) (hs : RuS G n kd R r) (a b f : Int32) : EX G mX6_tells [.ref (gz G + r), .int a, .int b, .int f] (n, sz, kd, I, R, J) (some (.int (bi (cTl G kd I R r a b f)))) (n, sz, kd, I, R, J) := by
  refine mm_of rfl [(0, .ref (gz G + r)), (1, .int a), (2, .int b), (3, .int f)] rfl (Nat.le_of_ble_eq_true rfl) ?_
  refine aw_aload_n dX6_tells_0 rfl rfl (by first | exact isR_ref _ | exact isR_rf _ | exact isR_null) ?_
  refine aw_iconst (v := nI 0) dX6_tells_1 (by decide) ?_
  refine aw_cVx (as := [_]) dX6_tells_2 lk_X6_32 cm_X6_codeAt vi_X6_codeAt (by unfold RO; decide) rfl hr.1 hr.2 rfl rfl rfl (Nat.le_of_ble_eq_true rfl) (c_codeAt hr hs _) ?_
  refine aw_iload_n dX6_tells_5 rfl rfl ?_
  refine aw_icmp_ne (tgt := 30) dX6_tells_6 (by decide) (fun h1 => ?_) (fun h1 => ?_)
  · refine aw_iconst (v := nI 0) dX6_tells_30 (by decide) ?_
    refine aw_iret dX6_tells_31 rfl rfl ?_
    unfold cTl
    rw [decide_eq_false h1]
    exact ⟨rfl, rfl⟩
  · refine aw_aload_n dX6_tells_9 rfl rfl (by first | exact isR_ref _ | exact isR_rf _ | exact isR_null) ?_
    refine aw_iconst (v := nI 1) dX6_tells_10 (by decide) ?_
    refine aw_cVx (as := [_]) dX6_tells_11 lk_X6_32 cm_X6_codeAt vi_X6_codeAt (by unfold RO; decide) rfl hr.1 hr.2 rfl rfl rfl (Nat.le_of_ble_eq_true rfl) (c_codeAt hr hs _) ?_
    refine aw_iload_n dX6_tells_14 rfl rfl ?_
    refine aw_icmp_ne (tgt := 30) dX6_tells_15 (by decide) (fun h2 => ?_) (fun h2 => ?_)
    · refine aw_iconst (v := nI 0) dX6_tells_30 (by decide) ?_
      refine aw_iret dX6_tells_31 rfl rfl ?_
      unfold cTl
      rw [decide_eq_false h2, Bool.false_and, Bool.and_false]
      exact ⟨rfl, rfl⟩
    · refine aw_aload_n dX6_tells_18 rfl rfl (by first | exact isR_ref _ | exact isR_rf _ | exact isR_null) ?_
      refine aw_get dX6_tells_19 fl_X6_19 hr.1 hr.2 rfl ?_
      refine aw_iload_n dX6_tells_22 rfl rfl ?_
      refine aw_icmp_ne (tgt := 30) dX6_tells_23 (by decide) (fun h3 => ?_) (fun h3 => ?_)
      · refine aw_iconst (v := nI 0) dX6_tells_30 (by decide) ?_
        refine aw_iret dX6_tells_31 rfl rfl ?_
        unfold cTl
        rw [decide_eq_false h3, Bool.and_false, Bool.and_false]
        exact ⟨rfl, rfl⟩
      · refine aw_iconst (v := nI 1) dX6_tells_26 (by decide) ?_
        refine aw_goto (tgt := 31) dX6_tells_27 (by decide) ?_
        refine aw_iret dX6_tells_31 rfl rfl ?_
        unfold cTl
        rw [decide_eq_true h1, decide_eq_true h2, decide_eq_true h3]
        exact ⟨rfl, rfl⟩
/-- HAND RULE h is there -/
def thC (R : Nat → Nat → Option Nat) (h : Nat) : Bool := (R 6 h).isSome
theorem thC_n {h : Nat} (e : R 6 h = none) : thC R h = false := by unfold thC; rw [e]; rfl
theorem thC_s {h a : Nat} (e : R 6 h = some a) : thC R h = true := by unfold thC; rw [e]; rfl
theorem c_freeHandNumber (hC : ShC G n kd R) : EX G mX5_freeHandNumber [.ref (gz G + 5)] (n, sz, kd, I, R, J) (some (.int (oI (fstF (fun h => !thC R h) 10)))) (n, sz, kd, I, R, J) := by
  refine mm_of rfl [(0, .ref (gz G + 5))] rfl (Nat.le_of_ble_eq_true rfl) ?_
  refine aw_iconst (v := nI 0) dX5_freeHandNumber_0 (by decide) ?_
  refine aw_istore_n (lv' := [(0, _), (1, _)]) dX5_freeHandNumber_1 rfl (by decide) rfl ?_
  have loop : ∀ d i, i + d = 10 → fstF (fun h => !thC R h) i = none → AW G mX5_freeHandNumber 2 [(0, .ref (gz G + 5)), (1, .int (nI i))] [] (n, sz, kd, I, R, J) (fun v' M' => v' = some (.int (oI (fstF (fun h => !thC R h) 10))) ∧ M' = (n, sz, kd, I, R, J)) := by
    intro d
    induction d with
    | zero =>
      intro i hi ha
      refine aw_iload_n dX5_freeHandNumber_2 rfl rfl ?_
      refine aw_bipush (v := nI 10) dX5_freeHandNumber_3 (by decide) ?_
      refine aw_n_ge (tgt := 25) dX5_freeHandNumber_5 (by decide) rfl rfl (by omega) (by omega) (fun h => ?_) (fun h => ?_)
      · refine aw_iconst (v := (-1)) dX5_freeHandNumber_25 (by decide) ?_
        refine aw_iret dX5_freeHandNumber_26 rfl rfl ?_
        exact ⟨by rw [show 10 = i by omega, ha]; rfl, rfl⟩
      · exact absurd h (by omega)
    | succ d ih =>
      intro i hi ha
      refine aw_iload_n dX5_freeHandNumber_2 rfl rfl ?_
      refine aw_bipush (v := nI 10) dX5_freeHandNumber_3 (by decide) ?_
      refine aw_n_ge (tgt := 25) dX5_freeHandNumber_5 (by decide) rfl rfl (by omega) (by omega) (fun h => ?_) (fun h => ?_)
      · exact absurd h (by omega)
      · refine aw_aload_n dX5_freeHandNumber_8 rfl rfl (by first | exact isR_ref _ | exact isR_rf _ | exact isR_null) ?_
        refine aw_get dX5_freeHandNumber_9 fl_X5_11 (sC_k5 hC) (sC_n5 hC) (sC_r_5_hands hC _ _) ?_
        refine aw_iload_n dX5_freeHandNumber_12 rfl rfl ?_
        refine aw_aald dX5_freeHandNumber_13 (by decide) (sC_k6 hC) (sC_n6 hC) (ixm (by omega)) ?_
        refine aw_ifnonnull (tgt := 19) dX5_freeHandNumber_14 (by decide) (fun a_h2 h2 => ?_) (fun h2 => ?_)
        · first | refine aw_iincN (c := 1) (lv' := [(0, _), (1, _)]) dX5_freeHandNumber_19 rfl (by decide) rfl rfl ?_ | refine aw_iinc (v := 1) (lv' := [(0, _), (1, _)]) dX5_freeHandNumber_19 rfl (by decide) (by decide) rfl ?_
          refine aw_goto (tgt := 2) dX5_freeHandNumber_22 (by decide) ?_
          exact ih (i + 1) (by omega) (by rw [fstF, ha, thC_s h2]; rfl)
        · refine aw_iload_n dX5_freeHandNumber_17 rfl rfl ?_
          refine aw_iret dX5_freeHandNumber_18 rfl rfl ?_
          have e : fstF (fun h => !thC R h) (i + 1) = some i := by rw [fstF, ha, thC_n h2]; rfl
          have e2 := fstF_stay e d
          rw [show i + 1 + d = 10 by omega] at e2
          exact ⟨by rw [e2]; rfl, rfl⟩
  exact loop _ 0 (Nat.zero_add _) rfl
theorem c_handSize (hC : ShC G n kd R) : EX G mX5_handSize [.ref (gz G + 5)] (n, sz, kd, I, R, J) (some (.int (nI (cnt (thC R) 10)))) (n, sz, kd, I, R, J) := by
  refine mm_of rfl [(0, .ref (gz G + 5))] rfl (Nat.le_of_ble_eq_true rfl) ?_
  refine aw_iconst (v := nI 0) dX5_handSize_0 (by decide) ?_
  refine aw_istore_n (lv' := [(0, _), (1, _)]) dX5_handSize_1 rfl (by decide) rfl ?_
  refine aw_iconst (v := nI 0) dX5_handSize_2 (by decide) ?_
  refine aw_istore_n (lv' := [(0, _), (1, _), (2, _)]) dX5_handSize_3 rfl (by decide) rfl ?_
  have loop : ∀ d i, i + d = 10 → AW G mX5_handSize 4 [(0, .ref (gz G + 5)), (1, .int (nI (cnt (thC R) i))), (2, .int (nI i))] [] (n, sz, kd, I, R, J) (fun v' M' => v' = some (.int (nI (cnt (thC R) 10))) ∧ M' = (n, sz, kd, I, R, J)) := by
    intro d
    induction d with
    | zero =>
      intro i hi
      refine aw_iload_n dX5_handSize_4 rfl rfl ?_
      refine aw_bipush (v := nI 10) dX5_handSize_5 (by decide) ?_
      refine aw_n_ge (tgt := 28) dX5_handSize_7 (by decide) rfl rfl (by omega) (by omega) (fun h => ?_) (fun h => ?_)
      · refine aw_iload_n dX5_handSize_28 rfl rfl ?_
        refine aw_iret dX5_handSize_29 rfl rfl ?_
        exact ⟨by rw [show 10 = i by omega], rfl⟩
      · exact absurd h (by omega)
    | succ d ih =>
      intro i hi
      refine aw_iload_n dX5_handSize_4 rfl rfl ?_
      refine aw_bipush (v := nI 10) dX5_handSize_5 (by decide) ?_
      refine aw_n_ge (tgt := 28) dX5_handSize_7 (by decide) rfl rfl (by omega) (by omega) (fun h => ?_) (fun h => ?_)
      · exact absurd h (by omega)
      · refine aw_aload_n dX5_handSize_10 rfl rfl (by first | exact isR_ref _ | exact isR_rf _ | exact isR_null) ?_
        refine aw_get dX5_handSize_11 fl_X5_11 (sC_k5 hC) (sC_n5 hC) (sC_r_5_hands hC _ _) ?_
        refine aw_iload_n dX5_handSize_14 rfl rfl ?_
        refine aw_aald dX5_handSize_15 (by decide) (sC_k6 hC) (sC_n6 hC) (ixm (by omega)) ?_
        refine aw_ifnull (tgt := 22) dX5_handSize_16 (by decide) (fun h2 => ?_) (fun a_h2 h2 => ?_)
        · first | refine aw_iincN (c := 1) (lv' := [(0, _), (1, _), (2, _)]) dX5_handSize_22 rfl (by decide) rfl rfl ?_ | refine aw_iinc (v := 1) (lv' := [(0, _), (1, _), (2, _)]) dX5_handSize_22 rfl (by decide) (by decide) rfl ?_
          refine aw_goto (tgt := 4) dX5_handSize_25 (by decide) ?_
          have k := ih (i + 1) (by omega)
          rw [cnt, thC_n h2] at k
          exact k
        · first | refine aw_iincN (c := 1) (lv' := [(0, _), (1, _), (2, _)]) dX5_handSize_19 rfl (by decide) rfl rfl ?_ | refine aw_iinc (v := 1) (lv' := [(0, _), (1, _), (2, _)]) dX5_handSize_19 rfl (by decide) (by decide) rfl ?_
          first | refine aw_iincN (c := 1) (lv' := [(0, _), (1, _), (2, _)]) dX5_handSize_22 rfl (by decide) rfl rfl ?_ | refine aw_iinc (v := 1) (lv' := [(0, _), (1, _), (2, _)]) dX5_handSize_22 rfl (by decide) (by decide) rfl ?_
          refine aw_goto (tgt := 4) dX5_handSize_25 (by decide) ?_
          have k := ih (i + 1) (by omega)
          rw [cnt, thC_s h2] at k
          exact k
  exact loop _ 0 (Nat.zero_add _)
end CLS1
