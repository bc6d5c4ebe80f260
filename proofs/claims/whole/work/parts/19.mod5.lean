section MOD5
variable {G : GG} {n sz : Nat} {kd : Nat → AKd} {I : Nat → Nat → Int32} {R : Nat → Nat → Option Nat} {J : Nat → Nat → Int64}
theorem cnt_zero {p : Nat → Bool} : ∀ {m : Nat}, (∀ k, k < m → p k = false) → cnt p m = 0
  | 0, _ => rfl
  | m + 1, h => by rw [cnt, cnt_zero (fun k hk => h k (by omega)), h m (by omega)]; rfl
theorem cnt_yes {p : Nat → Bool} {m : Nat} (h : p m = true) : cnt p (m + 1) = cnt p m + 1 := by rw [cnt, h]; rfl
theorem cnt_no {p : Nat → Bool} {m : Nat} (h : p m = false) : cnt p (m + 1) = cnt p m + 0 := by rw [cnt, h]; rfl
def mSortedP (I : Nat → Nat → Int32) (own : Int32) (f k : Nat) : Bool := decide (f ≤ k) && decide (I 28 k = own)
def mSorted (I : Nat → Nat → Int32) (own : Int32) (f : Nat) : Nat := cnt (mSortedP I own f) (mN I)
theorem m_sortedBy (hM : ShM G n kd R) (hB : MB I) (own : Int32) {f : Nat} (hf : f ≤ mN I) : EX G mX10_sortedBy [.ref (gz G + 22), .int own, .int (nI f)] (n, sz, kd, I, R, J) (some (.int (nI (mSorted I own f)))) (n, sz, kd, I, R, J) := by
  refine mm_of rfl [(0, .ref (gz G + 22)), (1, .int own), (2, .int (nI f))] rfl (Nat.le_of_ble_eq_true rfl) ?_
  have hN : I 22 0 = nI (mN I) := hB.1.eq
  have hN1 : mN I ≤ 100 := hB.1.le
  refine aw_iconst (v := nI 0) dX10_sortedBy_0 (by decide) ?_
  refine aw_istore_n (lv' := [(0, _), (1, _), (2, _), (3, _)]) dX10_sortedBy_1 rfl (by decide) rfl ?_
  refine aw_iload_n dX10_sortedBy_2 rfl rfl ?_
  refine aw_istore (lv' := [(0, _), (1, _), (2, _), (3, _), (4, _)]) dX10_sortedBy_3 (by decide) rfl ?_
  have loop : ∀ d i, i + d = mN I → f ≤ i → AW G mX10_sortedBy 5 [(0, .ref (gz G + 22)), (1, .int own), (2, .int (nI f)), (3, .int (nI (cnt (mSortedP I own f) i))), (4, .int (nI i))] [] (n, sz, kd, I, R, J) (fun v' M' => v' = some (.int (nI (mSorted I own f))) ∧ M' = (n, sz, kd, I, R, J)) := by
    intro d
    induction d with
    | zero =>
      intro i hi hfi
      refine aw_iload dX10_sortedBy_5 rfl ?_
      refine aw_aload_n dX10_sortedBy_7 rfl rfl (by first | exact isR_ref _ | exact isR_rf _ | exact isR_null) ?_
      refine aw_get dX10_sortedBy_8 fl_X10_182 (sM_kd hM) (sM_n hM) (congrArg Value.int hN) ?_
      refine aw_n_ge (tgt := 39) dX10_sortedBy_11 (by decide) rfl rfl (by omega) (by omega) (fun h => ?_) (fun h => ?_)
      · refine aw_iload_n dX10_sortedBy_39 rfl rfl ?_
        refine aw_iret dX10_sortedBy_40 rfl rfl ?_
        exact ⟨by rw [mSorted, show i = mN I by omega], rfl⟩
      · exact absurd h (by omega)
    | succ d ih =>
      intro i hi hfi
      refine aw_iload dX10_sortedBy_5 rfl ?_
      refine aw_aload_n dX10_sortedBy_7 rfl rfl (by first | exact isR_ref _ | exact isR_rf _ | exact isR_null) ?_
      refine aw_get dX10_sortedBy_8 fl_X10_182 (sM_kd hM) (sM_n hM) (congrArg Value.int hN) ?_
      refine aw_n_ge (tgt := 39) dX10_sortedBy_11 (by decide) rfl rfl (by omega) (by omega) (fun h => ?_) (fun h => ?_)
      · exact absurd h (by omega)
      · refine aw_iload_n dX10_sortedBy_14 rfl rfl ?_
        refine aw_aload_n dX10_sortedBy_15 rfl rfl (by first | exact isR_ref _ | exact isR_rf _ | exact isR_null) ?_
        refine aw_get dX10_sortedBy_16 fl_X10_25 (sM_kd hM) (sM_n hM) (sM_r_by hM _ _) ?_
        refine aw_iload dX10_sortedBy_19 rfl ?_
        refine aw_iald dX10_sortedBy_21 (sM_k_by hM) (sM_l_by hM) (ixm (by omega)) ?_
        refine aw_iload_n dX10_sortedBy_22 rfl rfl ?_
        have ih' := ih (i + 1) (by omega) (by omega)
        refine aw_icmp_ne (tgt := 30) dX10_sortedBy_23 (by decide) (fun h2 => ?_) (fun h2 => ?_)
        · refine aw_iconst (v := nI 0) dX10_sortedBy_30 (by decide) ?_
          first | refine aw_iaddN dX10_sortedBy_31 ?_ | refine aw_iadd dX10_sortedBy_31 ?_
          refine aw_istore_n (lv' := [(0, _), (1, _), (2, _), (3, _), (4, _)]) dX10_sortedBy_32 rfl (by decide) rfl ?_
          first | refine aw_iincN (c := 1) (lv' := [(0, _), (1, _), (2, _), (3, _), (4, _)]) dX10_sortedBy_33 rfl (by decide) rfl rfl ?_ | refine aw_iinc (v := 1) (lv' := [(0, _), (1, _), (2, _), (3, _), (4, _)]) dX10_sortedBy_33 rfl (by decide) (by decide) rfl ?_
          refine aw_goto (tgt := 5) dX10_sortedBy_36 (by decide) ?_
          rw [cnt_no (show mSortedP I own f i = false by simp [mSortedP, h2])] at ih'
          exact ih'
        · refine aw_iconst (v := nI 1) dX10_sortedBy_26 (by decide) ?_
          refine aw_goto (tgt := 31) dX10_sortedBy_27 (by decide) ?_
          first | refine aw_iaddN dX10_sortedBy_31 ?_ | refine aw_iadd dX10_sortedBy_31 ?_
          refine aw_istore_n (lv' := [(0, _), (1, _), (2, _), (3, _), (4, _)]) dX10_sortedBy_32 rfl (by decide) rfl ?_
          first | refine aw_iincN (c := 1) (lv' := [(0, _), (1, _), (2, _), (3, _), (4, _)]) dX10_sortedBy_33 rfl (by decide) rfl rfl ?_ | refine aw_iinc (v := 1) (lv' := [(0, _), (1, _), (2, _), (3, _), (4, _)]) dX10_sortedBy_33 rfl (by decide) (by decide) rfl ?_
          refine aw_goto (tgt := 5) dX10_sortedBy_36 (by decide) ?_
          rw [cnt_yes (show mSortedP I own f i = true by simp [mSortedP, h2, hfi])] at ih'
          exact ih'
  have h0 := loop (mN I - f) f (by omega) (Nat.le_refl _)
  rw [cnt_zero (fun k hk => by simp only [mSortedP]; rw [decide_eq_false (by omega)]; rfl)] at h0
  exact h0
def mJudgedP (I : Nat → Nat → Int32) (own fo : Int32) (rt : Bool) (k : Nat) : Bool := decide (I 28 k = own) && (!decide (I 31 k = -1) && (decide (I 31 k = fo) == rt))
def mJudged (I : Nat → Nat → Int32) (own fo : Int32) (rt : Bool) : Nat := cnt (mJudgedP I own fo rt) (mN I)
theorem bi_eq (a b : Bool) : bi a = bi b ↔ a = b := by cases a <;> cases b <;> decide
theorem m_judged (hM : ShM G n kd R) (hB : MB I) (own fo : Int32) (rt : Bool) : EX G mX10_judged [.ref (gz G + 22), .int own, .int fo, .int (bi rt)] (n, sz, kd, I, R, J) (some (.int (nI (mJudged I own fo rt)))) (n, sz, kd, I, R, J) := by
  refine mm_of rfl [(0, .ref (gz G + 22)), (1, .int own), (2, .int fo), (3, .int (bi rt))] rfl (Nat.le_of_ble_eq_true rfl) ?_
  have hN : I 22 0 = nI (mN I) := hB.1.eq
  have hN1 : mN I ≤ 100 := hB.1.le
  refine aw_iconst (v := nI 0) dX10_judged_0 (by decide) ?_
  refine aw_istore (lv' := [(0, _), (1, _), (2, _), (3, _), (4, _)]) dX10_judged_1 (by decide) rfl ?_
  refine aw_iconst (v := nI 0) dX10_judged_3 (by decide) ?_
  refine aw_istore (lv' := [(0, _), (1, _), (2, _), (3, _), (4, _), (5, _)]) dX10_judged_4 (by decide) rfl ?_
  have loop : ∀ d i, i + d = mN I → AW G mX10_judged 6 [(0, .ref (gz G + 22)), (1, .int own), (2, .int fo), (3, .int (bi rt)), (4, .int (nI (cnt (mJudgedP I own fo rt) i))), (5, .int (nI i))] [] (n, sz, kd, I, R, J) (fun v' M' => v' = some (.int (nI (mJudged I own fo rt))) ∧ M' = (n, sz, kd, I, R, J)) := by
    intro d
    induction d with
    | zero =>
      intro i hi
      refine aw_iload dX10_judged_6 rfl ?_
      refine aw_aload_n dX10_judged_8 rfl rfl (by first | exact isR_ref _ | exact isR_rf _ | exact isR_null) ?_
      refine aw_get dX10_judged_9 fl_X10_182 (sM_kd hM) (sM_n hM) (congrArg Value.int hN) ?_
      refine aw_n_ge (tgt := 73) dX10_judged_12 (by decide) rfl rfl (by omega) (by omega) (fun h => ?_) (fun h => ?_)
      · refine aw_iload dX10_judged_73 rfl ?_
        refine aw_iret dX10_judged_75 rfl rfl ?_
        exact ⟨by rw [mJudged, show i = mN I by omega], rfl⟩
      · exact absurd h (by omega)
    | succ d ih =>
      intro i hi
      have ih' := ih (i + 1) (by omega)
      have no : mJudgedP I own fo rt i = false → AW G mX10_judged 63 [(0, .ref (gz G + 22)), (1, .int own), (2, .int fo), (3, .int (bi rt)), (4, .int (nI (cnt (mJudgedP I own fo rt) i))), (5, .int (nI i))] [.int (nI (cnt (mJudgedP I own fo rt) i))] (n, sz, kd, I, R, J) (fun v' M' => v' = some (.int (nI (mJudged I own fo rt))) ∧ M' = (n, sz, kd, I, R, J)) := by
        intro hq
        refine aw_iconst (v := nI 0) dX10_judged_63 (by decide) ?_
        first | refine aw_iaddN dX10_judged_64 ?_ | refine aw_iadd dX10_judged_64 ?_
        refine aw_istore (lv' := [(0, _), (1, _), (2, _), (3, _), (4, _), (5, _)]) dX10_judged_65 (by decide) rfl ?_
        first | refine aw_iincN (c := 1) (lv' := [(0, _), (1, _), (2, _), (3, _), (4, _), (5, _)]) dX10_judged_67 rfl (by decide) rfl rfl ?_ | refine aw_iinc (v := 1) (lv' := [(0, _), (1, _), (2, _), (3, _), (4, _), (5, _)]) dX10_judged_67 rfl (by decide) (by decide) rfl ?_
        refine aw_goto (tgt := 6) dX10_judged_70 (by decide) ?_
        rw [cnt_no hq] at ih'
        exact ih'
      refine aw_iload dX10_judged_6 rfl ?_
      refine aw_aload_n dX10_judged_8 rfl rfl (by first | exact isR_ref _ | exact isR_rf _ | exact isR_null) ?_
      refine aw_get dX10_judged_9 fl_X10_182 (sM_kd hM) (sM_n hM) (congrArg Value.int hN) ?_
      refine aw_n_ge (tgt := 73) dX10_judged_12 (by decide) rfl rfl (by omega) (by omega) (fun h => ?_) (fun h => ?_)
      · exact absurd h (by omega)
      · refine aw_iload dX10_judged_15 rfl ?_
        refine aw_aload_n dX10_judged_17 rfl rfl (by first | exact isR_ref _ | exact isR_rf _ | exact isR_null) ?_
        refine aw_get dX10_judged_18 fl_X10_25 (sM_kd hM) (sM_n hM) (sM_r_by hM _ _) ?_
        refine aw_iload dX10_judged_21 rfl ?_
        refine aw_iald dX10_judged_23 (sM_k_by hM) (sM_l_by hM) (ixm (by omega)) ?_
        refine aw_iload_n dX10_judged_24 rfl rfl ?_
        refine aw_icmp_ne (tgt := 63) dX10_judged_25 (by decide) (fun h2 => ?_) (fun h2 => ?_)
        · exact no (by simp [mJudgedP, h2])
        · refine aw_aload_n dX10_judged_28 rfl rfl (by first | exact isR_ref _ | exact isR_rf _ | exact isR_null) ?_
          refine aw_get dX10_judged_29 fl_X10_34 (sM_kd hM) (sM_n hM) (sM_r_belongs hM _ _) ?_
          refine aw_iload dX10_judged_32 rfl ?_
          refine aw_iald dX10_judged_34 (sM_k_belongs hM) (sM_l_belongs hM) (ixm (by omega)) ?_
          refine aw_iconst (v := (-1)) dX10_judged_35 (by decide) ?_
          refine aw_icmp_eq (tgt := 63) dX10_judged_36 (by decide) (fun h3 => ?_) (fun h3 => ?_)
          · exact no (by simp [mJudgedP, h3])
          · refine aw_aload_n dX10_judged_39 rfl rfl (by first | exact isR_ref _ | exact isR_rf _ | exact isR_null) ?_
            refine aw_get dX10_judged_40 fl_X10_34 (sM_kd hM) (sM_n hM) (sM_r_belongs hM _ _) ?_
            refine aw_iload dX10_judged_43 rfl ?_
            refine aw_iald dX10_judged_45 (sM_k_belongs hM) (sM_l_belongs hM) (ixm (by omega)) ?_
            refine aw_iload_n dX10_judged_46 rfl rfl ?_
            have go : ∀ b : Bool, b = decide (I 31 i = fo) → AW G mX10_judged 55 [(0, .ref (gz G + 22)), (1, .int own), (2, .int fo), (3, .int (bi rt)), (4, .int (nI (cnt (mJudgedP I own fo rt) i))), (5, .int (nI i))] [.int (bi b), .int (nI (cnt (mJudgedP I own fo rt) i))] (n, sz, kd, I, R, J) (fun v' M' => v' = some (.int (nI (mJudged I own fo rt))) ∧ M' = (n, sz, kd, I, R, J)) := by
              intro b hb
              refine aw_iload_n dX10_judged_55 rfl rfl ?_
              refine aw_icmp_ne (tgt := 63) dX10_judged_56 (by decide) (fun h5 => ?_) (fun h5 => ?_)
              · have h6 : ¬ b = rt := fun z => h5 ((bi_eq _ _).mpr z)
                exact no (by simp only [mJudgedP, ← hb]; cases b <;> cases rt <;> simp at h6 ⊢)
              · have h6 : b = rt := (bi_eq _ _).mp h5
                refine aw_iconst (v := nI 1) dX10_judged_59 (by decide) ?_
                refine aw_goto (tgt := 64) dX10_judged_60 (by decide) ?_
                first | refine aw_iaddN dX10_judged_64 ?_ | refine aw_iadd dX10_judged_64 ?_
                refine aw_istore (lv' := [(0, _), (1, _), (2, _), (3, _), (4, _), (5, _)]) dX10_judged_65 (by decide) rfl ?_
                first | refine aw_iincN (c := 1) (lv' := [(0, _), (1, _), (2, _), (3, _), (4, _), (5, _)]) dX10_judged_67 rfl (by decide) rfl rfl ?_ | refine aw_iinc (v := 1) (lv' := [(0, _), (1, _), (2, _), (3, _), (4, _), (5, _)]) dX10_judged_67 rfl (by decide) (by decide) rfl ?_
                refine aw_goto (tgt := 6) dX10_judged_70 (by decide) ?_
                rw [cnt_yes (show mJudgedP I own fo rt i = true by simp [mJudgedP, ← hb, h2, h3, h6])] at ih'
                exact ih'
            refine aw_icmp_ne (tgt := 54) dX10_judged_47 (by decide) (fun h4 => ?_) (fun h4 => ?_)
            · refine aw_iconst (v := nI 0) dX10_judged_54 (by decide) ?_
              exact go false (decide_eq_false h4).symm
            · refine aw_iconst (v := nI 1) dX10_judged_50 (by decide) ?_
              refine aw_goto (tgt := 55) dX10_judged_51 (by decide) ?_
              exact go true (decide_eq_true h4).symm
  exact loop _ 0 (Nat.zero_add _)
/-- the last of the first n that holds -/
def lstF (q : Nat → Bool) : Nat → Option Nat
  | 0 => none
  | m + 1 => if q m then some m else lstF q m
def mRecord (I : Nat → Nat → Int32) (p j : Nat) : Int32 := match j with
  | 0 => nI (mSorted I (mByR I (mRow I p)) 0)
  | 1 => nI (mJudged I (mByR I (mRow I p)) (mFolderR I (mRow I p)) true)
  | 2 => nI (mJudged I (mByR I (mRow I p)) (mFolderR I (mRow I p)) false)
  | _ => oI (lstF (fun k => decide (I 28 k = mByR I (mRow I p))) (mN I))
/-- an answer by a place and by what is asked -/
def askR (x w : Int32) (a b : Nat) (f : Nat → Nat → Int32) : Int32 := match rgl x 0 a with
  | none => -1
  | some p => match rgl w 0 b with
    | none => -1
    | some j => f p j
theorem m_record (hM : ShM G n kd R) (hB : MB I) (x w : Int32) : EX G mX10_record [.ref (gz G + 22), .int x, .int w] (n, sz, kd, I, R, J) (some (.int (askR x w (mH I + mL I) 4 (mRecord I)))) (n, sz, kd, I, R, J) := by
  refine mm_of rfl [(0, .ref (gz G + 22)), (1, .int x), (2, .int w)] rfl (Nat.le_of_ble_eq_true rfl) ?_
  have hN : I 22 0 = nI (mN I) := hB.1.eq
  have hN1 : mN I ≤ 100 := hB.1.le
  have hH := mH_le (I := I)
  have hL6 : mL I ≤ 6 := hB.2.1.le
  refine aw_aload_n dX10_record_0 rfl rfl (by first | exact isR_ref _ | exact isR_rf _ | exact isR_null) ?_
  refine aw_iload_n dX10_record_1 rfl rfl ?_
  refine aw_cVx (as := [_]) dX10_record_2 lk_X10_272 cm_X10_isPlace vi_X10_isPlace (by unfold RO; decide) rfl (sM_kd hM) (sM_n hM) rfl rfl rfl (Nat.le_of_ble_eq_true rfl) (m_isPlaceN hM hB _) ?_
  refine aw_b_ne (tgt := 10) dX10_record_5 (by decide) rfl (fun h1 => ?_) (fun h1 => ?_)
  · obtain ⟨p, hp⟩ := Option.isSome_iff_exists.mp h1
    obtain ⟨rfl, -, hp2⟩ := rgl_some hp
    refine aw_aload_n dX10_record_10 rfl rfl (by first | exact isR_ref _ | exact isR_rf _ | exact isR_null) ?_
    refine aw_iload_n dX10_record_11 rfl rfl ?_
    refine aw_cVx (as := [_]) dX10_record_12 lk_X10_189 cm_X10_byAt vi_X10_byAt (by unfold RO; decide) rfl (sM_kd hM) (sM_n hM) rfl rfl rfl (Nat.le_of_ble_eq_true rfl) (m_byAt hM hB hp2) ?_
    refine aw_istore_n (lv' := [(0, _), (1, _), (2, _), (3, _)]) dX10_record_15 rfl (by decide) rfl ?_
    refine aw_iconst (v := (-1)) dX10_record_16 (by decide) ?_
    refine aw_istore (lv' := [(0, _), (1, _), (2, _), (3, _), (4, _)]) dX10_record_17 (by decide) rfl ?_
    refine aw_iconst (v := nI 0) dX10_record_19 (by decide) ?_
    refine aw_istore (lv' := [(0, _), (1, _), (2, _), (3, _), (4, _), (5, _)]) dX10_record_20 (by decide) rfl ?_
    have loop : ∀ d i, i + d = mN I → AW G mX10_record 22 [(0, .ref (gz G + 22)), (1, .int (nI p)), (2, .int w), (3, .int (mByR I (mRow I p))), (4, .int (oI (lstF (fun k => decide (I 28 k = mByR I (mRow I p))) i))), (5, .int (nI i))] [] (n, sz, kd, I, R, J) (fun v' M' => v' = some (.int (askR (nI p) w (mH I + mL I) 4 (mRecord I))) ∧ M' = (n, sz, kd, I, R, J)) := by
      intro d
      induction d with
      | zero =>
        intro i hi
        refine aw_iload dX10_record_22 rfl ?_
        refine aw_aload_n dX10_record_24 rfl rfl (by first | exact isR_ref _ | exact isR_rf _ | exact isR_null) ?_
        refine aw_get dX10_record_25 fl_X10_182 (sM_kd hM) (sM_n hM) (congrArg Value.int hN) ?_
        refine aw_n_ge (tgt := 52) dX10_record_28 (by decide) rfl rfl (by omega) (by omega) (fun h => ?_) (fun h => ?_)
        · have hi2 : i = mN I := by omega
          subst hi2
          refine aw_iload_n dX10_record_52 rfl rfl ?_
          refine aw_ts (N := 4) (tgd := 118) (tg := fun j => match j with | 0 => 84 | 1 => 91 | 2 => 103 | _ => 115) dX10_record_53 (by decide) (by decide) (by decide) (fun hs => ?_) (fun hsj hs => ?_)
          · refine aw_iconst (v := (-1)) dX10_record_118 (by decide) ?_
            refine aw_iret dX10_record_119 rfl rfl ?_
            exact ⟨by simp only [askR, hp, hs], rfl⟩
          · obtain ⟨-, -, hj⟩ := rgl_some hs
            have ea : askR (nI p) w (mH I + mL I) 4 (mRecord I) = mRecord I p hsj := by simp only [askR, hp, hs]
            rw [ea]
            match hsj, hj with
            | 0, _ =>
              refine aw_aload_n dX10_record_84 rfl rfl (by first | exact isR_ref _ | exact isR_rf _ | exact isR_null) ?_
              refine aw_iload_n dX10_record_85 rfl rfl ?_
              refine aw_iconst (v := nI 0) dX10_record_86 (by decide) ?_
              refine aw_cVx (as := [_, _]) dX10_record_87 lk_X10_265 cm_X10_sortedBy vi_X10_sortedBy (by unfold RO; decide) rfl (sM_kd hM) (sM_n hM) rfl rfl rfl (Nat.le_of_ble_eq_true rfl) (m_sortedBy hM hB _ (Nat.zero_le _)) ?_
              refine aw_iret dX10_record_90 rfl rfl ?_
              exact ⟨rfl, rfl⟩
            | 1, _ =>
              refine aw_aload_n dX10_record_91 rfl rfl (by first | exact isR_ref _ | exact isR_rf _ | exact isR_null) ?_
              refine aw_iload_n dX10_record_92 rfl rfl ?_
              refine aw_aload_n dX10_record_93 rfl rfl (by first | exact isR_ref _ | exact isR_rf _ | exact isR_null) ?_
              refine aw_iload_n dX10_record_94 rfl rfl ?_
              refine aw_cVx (as := [_]) dX10_record_95 lk_X10_195 cm_X10_folderAt vi_X10_folderAt (by unfold RO; decide) rfl (sM_kd hM) (sM_n hM) rfl rfl rfl (Nat.le_of_ble_eq_true rfl) (m_folderAt hM hB hp2) ?_
              refine aw_iconst (v := nI 1) dX10_record_98 (by decide) ?_
              refine aw_cVx (as := [_, _, _]) dX10_record_99 lk_X10_268 cm_X10_judged vi_X10_judged (by unfold RO; decide) rfl (sM_kd hM) (sM_n hM) rfl rfl rfl (Nat.le_of_ble_eq_true rfl) (m_judged hM hB _ _ true) ?_
              refine aw_iret dX10_record_102 rfl rfl ?_
              exact ⟨rfl, rfl⟩
            | 2, _ =>
              refine aw_aload_n dX10_record_103 rfl rfl (by first | exact isR_ref _ | exact isR_rf _ | exact isR_null) ?_
              refine aw_iload_n dX10_record_104 rfl rfl ?_
              refine aw_aload_n dX10_record_105 rfl rfl (by first | exact isR_ref _ | exact isR_rf _ | exact isR_null) ?_
              refine aw_iload_n dX10_record_106 rfl rfl ?_
              refine aw_cVx (as := [_]) dX10_record_107 lk_X10_195 cm_X10_folderAt vi_X10_folderAt (by unfold RO; decide) rfl (sM_kd hM) (sM_n hM) rfl rfl rfl (Nat.le_of_ble_eq_true rfl) (m_folderAt hM hB hp2) ?_
              refine aw_iconst (v := nI 0) dX10_record_110 (by decide) ?_
              refine aw_cVx (as := [_, _, _]) dX10_record_111 lk_X10_268 cm_X10_judged vi_X10_judged (by unfold RO; decide) rfl (sM_kd hM) (sM_n hM) rfl rfl rfl (Nat.le_of_ble_eq_true rfl) (m_judged hM hB _ _ false) ?_
              refine aw_iret dX10_record_114 rfl rfl ?_
              exact ⟨rfl, rfl⟩
            | 3, _ =>
              refine aw_iload dX10_record_115 rfl ?_
              refine aw_iret dX10_record_117 rfl rfl ?_
              exact ⟨rfl, rfl⟩
        · exact absurd h (by omega)
      | succ d ih =>
        intro i hi
        refine aw_iload dX10_record_22 rfl ?_
        refine aw_aload_n dX10_record_24 rfl rfl (by first | exact isR_ref _ | exact isR_rf _ | exact isR_null) ?_
        refine aw_get dX10_record_25 fl_X10_182 (sM_kd hM) (sM_n hM) (congrArg Value.int hN) ?_
        refine aw_n_ge (tgt := 52) dX10_record_28 (by decide) rfl rfl (by omega) (by omega) (fun h => ?_) (fun h => ?_)
        · exact absurd h (by omega)
        · refine aw_aload_n dX10_record_31 rfl rfl (by first | exact isR_ref _ | exact isR_rf _ | exact isR_null) ?_
          refine aw_get dX10_record_32 fl_X10_25 (sM_kd hM) (sM_n hM) (sM_r_by hM _ _) ?_
          refine aw_iload dX10_record_35 rfl ?_
          refine aw_iald dX10_record_37 (sM_k_by hM) (sM_l_by hM) (ixm (by omega)) ?_
          refine aw_iload_n dX10_record_38 rfl rfl ?_
          have ih' := ih (i + 1) (by omega)
          refine aw_icmp_ne (tgt := 46) dX10_record_39 (by decide) (fun h2 => ?_) (fun h2 => ?_)
          · first | refine aw_iincN (c := 1) (lv' := [(0, _), (1, _), (2, _), (3, _), (4, _), (5, _)]) dX10_record_46 rfl (by decide) rfl rfl ?_ | refine aw_iinc (v := 1) (lv' := [(0, _), (1, _), (2, _), (3, _), (4, _), (5, _)]) dX10_record_46 rfl (by decide) (by decide) rfl ?_
            refine aw_goto (tgt := 22) dX10_record_49 (by decide) ?_
            rw [show lstF (fun k => decide (I 28 k = mByR I (mRow I p))) (i + 1) = lstF (fun k => decide (I 28 k = mByR I (mRow I p))) i by rw [lstF]; simp [h2]] at ih'
            exact ih'
          · refine aw_iload dX10_record_42 rfl ?_
            refine aw_istore (lv' := [(0, _), (1, _), (2, _), (3, _), (4, _), (5, _)]) dX10_record_44 (by decide) rfl ?_
            first | refine aw_iincN (c := 1) (lv' := [(0, _), (1, _), (2, _), (3, _), (4, _), (5, _)]) dX10_record_46 rfl (by decide) rfl rfl ?_ | refine aw_iinc (v := 1) (lv' := [(0, _), (1, _), (2, _), (3, _), (4, _), (5, _)]) dX10_record_46 rfl (by decide) (by decide) rfl ?_
            refine aw_goto (tgt := 22) dX10_record_49 (by decide) ?_
            rw [show lstF (fun k => decide (I 28 k = mByR I (mRow I p))) (i + 1) = some i by rw [lstF]; simp [h2]] at ih'
            exact ih'
    exact loop _ 0 (Nat.zero_add _)
  · refine aw_iconst (v := (-1)) dX10_record_8 (by decide) ?_
    refine aw_iret dX10_record_9 rfl rfl ?_
    have e : rgl x 0 (mH I + mL I) = none := by
      cases h : rgl x 0 (mH I + mL I) with
      | none => rfl
      | some k => rw [h] at h1; cases h1
    exact ⟨by simp only [askR, e], rfl⟩
theorem isSome_f {o : Option Nat} (h : o.isSome = false) : o = none := by cases o with | none => rfl | some k => cases h
def mBoth (I : Nat → Nat → Int32) (p q : Nat) : Int32 := oI (fstF (fun i => mFitsR I (mRow I p) i && mFitsR I (mRow I q) i) (mN I))
theorem m_both (hM : ShM G n kd R) (hB : MB I) (x w : Int32) : EX G mX10_both [.ref (gz G + 22), .int x, .int w] (n, sz, kd, I, R, J) (some (.int (askR x w (mH I + mL I) (mH I + mL I) (mBoth I)))) (n, sz, kd, I, R, J) := by
  refine mm_of rfl [(0, .ref (gz G + 22)), (1, .int x), (2, .int w)] rfl (Nat.le_of_ble_eq_true rfl) ?_
  have hN : I 22 0 = nI (mN I) := hB.1.eq
  have hN1 : mN I ≤ 100 := hB.1.le
  have hH := mH_le (I := I)
  have hL6 : mL I ≤ 6 := hB.2.1.le
  refine aw_aload_n dX10_both_0 rfl rfl (by first | exact isR_ref _ | exact isR_rf _ | exact isR_null) ?_
  refine aw_iload_n dX10_both_1 rfl rfl ?_
  refine aw_cVx (as := [_]) dX10_both_2 lk_X10_272 cm_X10_isPlace vi_X10_isPlace (by unfold RO; decide) rfl (sM_kd hM) (sM_n hM) rfl rfl rfl (Nat.le_of_ble_eq_true rfl) (m_isPlaceN hM hB _) ?_
  refine aw_b_eq (tgt := 16) dX10_both_5 (by decide) rfl (fun h1 => ?_) (fun h1 => ?_)
  · refine aw_iconst (v := (-1)) dX10_both_16 (by decide) ?_
    refine aw_iret dX10_both_17 rfl rfl ?_
    exact ⟨by simp only [askR, isSome_f h1], rfl⟩
  · obtain ⟨p, hp⟩ := Option.isSome_iff_exists.mp h1
    obtain ⟨rfl, -, hp2⟩ := rgl_some hp
    refine aw_aload_n dX10_both_8 rfl rfl (by first | exact isR_ref _ | exact isR_rf _ | exact isR_null) ?_
    refine aw_iload_n dX10_both_9 rfl rfl ?_
    refine aw_cVx (as := [_]) dX10_both_10 lk_X10_272 cm_X10_isPlace vi_X10_isPlace (by unfold RO; decide) rfl (sM_kd hM) (sM_n hM) rfl rfl rfl (Nat.le_of_ble_eq_true rfl) (m_isPlaceN hM hB _) ?_
    refine aw_b_ne (tgt := 18) dX10_both_13 (by decide) rfl (fun h2 => ?_) (fun h2 => ?_)
    · obtain ⟨q, hq⟩ := Option.isSome_iff_exists.mp h2
      obtain ⟨rfl, -, hq2⟩ := rgl_some hq
      have ea : askR (nI p) (nI q) (mH I + mL I) (mH I + mL I) (mBoth I) = mBoth I p q := by simp only [askR, hp, hq]
      rw [ea]
      refine aw_iconst (v := nI 0) dX10_both_18 (by decide) ?_
      refine aw_istore_n (lv' := [(0, _), (1, _), (2, _), (3, _)]) dX10_both_19 rfl (by decide) rfl ?_
      have loop : ∀ d i, i + d = mN I → fstF (fun i => mFitsR I (mRow I p) i && mFitsR I (mRow I q) i) i = none → AW G mX10_both 20 [(0, .ref (gz G + 22)), (1, .int (nI p)), (2, .int (nI q)), (3, .int (nI i))] [] (n, sz, kd, I, R, J) (fun v' M' => v' = some (.int (mBoth I p q)) ∧ M' = (n, sz, kd, I, R, J)) := by
        intro d
        induction d with
        | zero =>
          intro i hi ha
          refine aw_iload_n dX10_both_20 rfl rfl ?_
          refine aw_aload_n dX10_both_21 rfl rfl (by first | exact isR_ref _ | exact isR_rf _ | exact isR_null) ?_
          refine aw_get dX10_both_22 fl_X10_182 (sM_kd hM) (sM_n hM) (congrArg Value.int hN) ?_
          refine aw_n_ge (tgt := 54) dX10_both_25 (by decide) rfl rfl (by omega) (by omega) (fun h => ?_) (fun h => ?_)
          · refine aw_iconst (v := (-1)) dX10_both_54 (by decide) ?_
            refine aw_iret dX10_both_55 rfl rfl ?_
            exact ⟨by unfold mBoth; rw [show mN I = i by omega, ha]; rfl, rfl⟩
          · exact absurd h (by omega)
        | succ d ih =>
          intro i hi ha
          refine aw_iload_n dX10_both_20 rfl rfl ?_
          refine aw_aload_n dX10_both_21 rfl rfl (by first | exact isR_ref _ | exact isR_rf _ | exact isR_null) ?_
          refine aw_get dX10_both_22 fl_X10_182 (sM_kd hM) (sM_n hM) (congrArg Value.int hN) ?_
          refine aw_n_ge (tgt := 54) dX10_both_25 (by decide) rfl rfl (by omega) (by omega) (fun h => ?_) (fun h => ?_)
          · exact absurd h (by omega)
          · refine aw_aload_n dX10_both_28 rfl rfl (by first | exact isR_ref _ | exact isR_rf _ | exact isR_null) ?_
            refine aw_iload_n dX10_both_29 rfl rfl ?_
            refine aw_iload_n dX10_both_30 rfl rfl ?_
            refine aw_cVx (as := [_, _]) dX10_both_31 lk_X10_179 cm_X10_fits vi_X10_fits (by unfold RO; decide) rfl (sM_kd hM) (sM_n hM) rfl rfl rfl (Nat.le_of_ble_eq_true rfl) (m_fits hM hB hp2 (by omega)) ?_
            refine aw_b_eq (tgt := 48) dX10_both_34 (by decide) rfl (fun h3 => ?_) (fun h3 => ?_)
            · first | refine aw_iincN (c := 1) (lv' := [(0, _), (1, _), (2, _), (3, _)]) dX10_both_48 rfl (by decide) rfl rfl ?_ | refine aw_iinc (v := 1) (lv' := [(0, _), (1, _), (2, _), (3, _)]) dX10_both_48 rfl (by decide) (by decide) rfl ?_
              refine aw_goto (tgt := 20) dX10_both_51 (by decide) ?_
              exact ih (i + 1) (by omega) (by rw [fstF, ha]; simp [h3])
            · refine aw_aload_n dX10_both_37 rfl rfl (by first | exact isR_ref _ | exact isR_rf _ | exact isR_null) ?_
              refine aw_iload_n dX10_both_38 rfl rfl ?_
              refine aw_iload_n dX10_both_39 rfl rfl ?_
              refine aw_cVx (as := [_, _]) dX10_both_40 lk_X10_179 cm_X10_fits vi_X10_fits (by unfold RO; decide) rfl (sM_kd hM) (sM_n hM) rfl rfl rfl (Nat.le_of_ble_eq_true rfl) (m_fits hM hB hq2 (by omega)) ?_
              refine aw_b_eq (tgt := 48) dX10_both_43 (by decide) rfl (fun h4 => ?_) (fun h4 => ?_)
              · first | refine aw_iincN (c := 1) (lv' := [(0, _), (1, _), (2, _), (3, _)]) dX10_both_48 rfl (by decide) rfl rfl ?_ | refine aw_iinc (v := 1) (lv' := [(0, _), (1, _), (2, _), (3, _)]) dX10_both_48 rfl (by decide) (by decide) rfl ?_
                refine aw_goto (tgt := 20) dX10_both_51 (by decide) ?_
                exact ih (i + 1) (by omega) (by rw [fstF, ha]; simp [h4])
              · refine aw_iload_n dX10_both_46 rfl rfl ?_
                refine aw_iret dX10_both_47 rfl rfl ?_
                have e : fstF (fun i => mFitsR I (mRow I p) i && mFitsR I (mRow I q) i) (i + 1) = some i := by rw [fstF, ha]; simp [h3, h4]
                have e2 := fstF_stay e d
                rw [show i + 1 + d = mN I by omega] at e2
                exact ⟨by unfold mBoth; rw [e2]; rfl, rfl⟩
      exact loop _ 0 (Nat.zero_add _) rfl
    · refine aw_iconst (v := (-1)) dX10_both_16 (by decide) ?_
      refine aw_iret dX10_both_17 rfl rfl ?_
      exact ⟨by simp only [askR, hp, isSome_f h2], rfl⟩
def mAbout (I : Nat → Nat → Int32) (k j : Nat) : Int32 := match j with
  | 0 => I 27 k
  | 1 => I 29 k
  | 2 => I 30 k
  | 3 => I 31 k
  | _ => oI (mFirst I k)
theorem m_about (hM : ShM G n kd R) (hB : MB I) (x w : Int32) : EX G mX10_about [.ref (gz G + 22), .int x, .int w] (n, sz, kd, I, R, J) (some (.int (askR x w (mN I) 5 (mAbout I)))) (n, sz, kd, I, R, J) := by
  refine mm_of rfl [(0, .ref (gz G + 22)), (1, .int x), (2, .int w)] rfl (Nat.le_of_ble_eq_true rfl) ?_
  have hN1 : mN I ≤ 100 := hB.1.le
  refine aw_aload_n dX10_about_0 rfl rfl (by first | exact isR_ref _ | exact isR_rf _ | exact isR_null) ?_
  refine aw_iload_n dX10_about_1 rfl rfl ?_
  refine aw_cVx (as := [_]) dX10_about_2 lk_X10_198 cm_X10_isLetter vi_X10_isLetter (by unfold RO; decide) rfl (sM_kd hM) (sM_n hM) rfl rfl rfl (Nat.le_of_ble_eq_true rfl) (m_isLetter hM hB _) ?_
  refine aw_b_ne (tgt := 10) dX10_about_5 (by decide) rfl (fun h1 => ?_) (fun h1 => ?_)
  · obtain ⟨p, hp⟩ := Option.isSome_iff_exists.mp h1
    obtain ⟨rfl, -, hp2⟩ := rgl_some hp
    refine aw_iload_n dX10_about_10 rfl rfl ?_
    refine aw_ts (N := 5) (tgd := 78) (tg := fun j => match j with | 0 => 44 | 1 => 51 | 2 => 58 | 3 => 65 | _ => 72) dX10_about_11 (by decide) (by decide) (by decide) (fun hs => ?_) (fun hsj hs => ?_)
    · refine aw_iconst (v := (-1)) dX10_about_78 (by decide) ?_
      refine aw_iret dX10_about_79 rfl rfl ?_
      exact ⟨by simp only [askR, hp, hs], rfl⟩
    · obtain ⟨-, -, hj⟩ := rgl_some hs
      have ea : askR (nI p) w (mN I) 5 (mAbout I) = mAbout I p hsj := by simp only [askR, hp, hs]
      rw [ea]
      match hsj, hj with
      | 0, _ =>
        refine aw_aload_n dX10_about_44 rfl rfl (by first | exact isR_ref _ | exact isR_rf _ | exact isR_null) ?_
        refine aw_get dX10_about_45 fl_X10_22 (sM_kd hM) (sM_n hM) (sM_r_lies hM _ _) ?_
        refine aw_iload_n dX10_about_48 rfl rfl ?_
        refine aw_iald dX10_about_49 (sM_k_lies hM) (sM_l_lies hM) (ixm (by omega)) ?_
        refine aw_iret dX10_about_50 rfl rfl ?_
        exact ⟨rfl, rfl⟩
      | 1, _ =>
        refine aw_aload_n dX10_about_51 rfl rfl (by first | exact isR_ref _ | exact isR_rf _ | exact isR_null) ?_
        refine aw_get dX10_about_52 fl_X10_28 (sM_kd hM) (sM_n hM) (sM_r_byName hM _ _) ?_
        refine aw_iload_n dX10_about_55 rfl rfl ?_
        refine aw_iald dX10_about_56 (sM_k_byName hM) (sM_l_byName hM) (ixm (by omega)) ?_
        refine aw_iret dX10_about_57 rfl rfl ?_
        exact ⟨rfl, rfl⟩
      | 2, _ =>
        refine aw_aload_n dX10_about_58 rfl rfl (by first | exact isR_ref _ | exact isR_rf _ | exact isR_null) ?_
        refine aw_get dX10_about_59 fl_X10_31 (sM_kd hM) (sM_n hM) (sM_r_into hM _ _) ?_
        refine aw_iload_n dX10_about_62 rfl rfl ?_
        refine aw_iald dX10_about_63 (sM_k_into hM) (sM_l_into hM) (ixm (by omega)) ?_
        refine aw_iret dX10_about_64 rfl rfl ?_
        exact ⟨rfl, rfl⟩
      | 3, _ =>
        refine aw_aload_n dX10_about_65 rfl rfl (by first | exact isR_ref _ | exact isR_rf _ | exact isR_null) ?_
        refine aw_get dX10_about_66 fl_X10_34 (sM_kd hM) (sM_n hM) (sM_r_belongs hM _ _) ?_
        refine aw_iload_n dX10_about_69 rfl rfl ?_
        refine aw_iald dX10_about_70 (sM_k_belongs hM) (sM_l_belongs hM) (ixm (by omega)) ?_
        refine aw_iret dX10_about_71 rfl rfl ?_
        exact ⟨rfl, rfl⟩
      | 4, _ =>
        refine aw_aload_n dX10_about_72 rfl rfl (by first | exact isR_ref _ | exact isR_rf _ | exact isR_null) ?_
        refine aw_iload_n dX10_about_73 rfl rfl ?_
        refine aw_cVx (as := [_]) dX10_about_74 lk_X10_186 cm_X10_firstThatFits vi_X10_firstThatFits (by unfold RO; decide) rfl (sM_kd hM) (sM_n hM) rfl rfl rfl (Nat.le_of_ble_eq_true rfl) (m_firstThatFits hM hB (by omega)) ?_
        refine aw_iret dX10_about_77 rfl rfl ?_
        exact ⟨rfl, rfl⟩
  · refine aw_iconst (v := (-1)) dX10_about_8 (by decide) ?_
    refine aw_iret dX10_about_9 rfl rfl ?_
    exact ⟨by simp only [askR, isSome_f h1], rfl⟩
end MOD5
