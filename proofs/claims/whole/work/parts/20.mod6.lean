section MOD6
variable {G : GG} {y : MI} {pc : Nat} {lv : List (Nat × Value)} {st : List Value} {M : Mem} {Q : Option Value → Mem → Prop}
variable {n sz : Nat} {kd : Nat → AKd} {I : Nat → Nat → Int32} {R : Nat → Nat → Option Nat} {J : Nat → Nat → Int64}
def mHeapP (I : Nat → Nat → Int32) (c : Int32) (k : Nat) : Bool := decide (I 28 k = -1) && (decide (I 31 k = -1) && mPass I k c)
def mHeapOf (I : Nat → Nat → Int32) (c : Int32) : Nat := cnt (mHeapP I c) (mN I)
theorem m_heapOf (hM : ShM G n kd R) (hB : MB I) (c : Int32) : EX G mX10_heapOf [.ref (gz G + 22), .int c] (n, sz, kd, I, R, J) (some (.int (nI (mHeapOf I c)))) (n, sz, kd, I, R, J) := by
  refine mm_of rfl [(0, .ref (gz G + 22)), (1, .int c)] rfl (Nat.le_of_ble_eq_true rfl) ?_
  have hN : I 22 0 = nI (mN I) := hB.1.eq
  have hN1 : mN I ≤ 100 := hB.1.le
  refine aw_iconst (v := nI 0) dX10_heapOf_0 (by decide) ?_
  refine aw_istore_n (lv' := [(0, _), (1, _), (2, _)]) dX10_heapOf_1 rfl (by decide) rfl ?_
  refine aw_iconst (v := nI 0) dX10_heapOf_2 (by decide) ?_
  refine aw_istore_n (lv' := [(0, _), (1, _), (2, _), (3, _)]) dX10_heapOf_3 rfl (by decide) rfl ?_
  have loop : ∀ d i, i + d = mN I → AW G mX10_heapOf 4 [(0, .ref (gz G + 22)), (1, .int c), (2, .int (nI (cnt (mHeapP I c) i))), (3, .int (nI i))] [] (n, sz, kd, I, R, J) (fun v' M' => v' = some (.int (nI (mHeapOf I c))) ∧ M' = (n, sz, kd, I, R, J)) := by
    intro d
    induction d with
    | zero =>
      intro i hi
      refine aw_iload_n dX10_heapOf_4 rfl rfl ?_
      refine aw_aload_n dX10_heapOf_5 rfl rfl (by first | exact isR_ref _ | exact isR_rf _ | exact isR_null) ?_
      refine aw_get dX10_heapOf_6 fl_X10_182 (sM_kd hM) (sM_n hM) (congrArg Value.int hN) ?_
      refine aw_n_ge (tgt := 55) dX10_heapOf_9 (by decide) rfl rfl (by omega) (by omega) (fun h => ?_) (fun h => ?_)
      · refine aw_iload_n dX10_heapOf_55 rfl rfl ?_
        refine aw_iret dX10_heapOf_56 rfl rfl ?_
        exact ⟨by rw [mHeapOf, show i = mN I by omega], rfl⟩
      · exact absurd h (by omega)
    | succ d ih =>
      intro i hi
      have ih' := ih (i + 1) (by omega)
      have no : mHeapP I c i = false → AW G mX10_heapOf 46 [(0, .ref (gz G + 22)), (1, .int c), (2, .int (nI (cnt (mHeapP I c) i))), (3, .int (nI i))] [.int (nI (cnt (mHeapP I c) i))] (n, sz, kd, I, R, J) (fun v' M' => v' = some (.int (nI (mHeapOf I c))) ∧ M' = (n, sz, kd, I, R, J)) := by
        intro hq
        refine aw_iconst (v := nI 0) dX10_heapOf_46 (by decide) ?_
        first | refine aw_iaddN dX10_heapOf_47 ?_ | refine aw_iadd dX10_heapOf_47 ?_
        refine aw_istore_n (lv' := [(0, _), (1, _), (2, _), (3, _)]) dX10_heapOf_48 rfl (by decide) rfl ?_
        first | refine aw_iincN (c := 1) (lv' := [(0, _), (1, _), (2, _), (3, _)]) dX10_heapOf_49 rfl (by decide) rfl rfl ?_ | refine aw_iinc (v := 1) (lv' := [(0, _), (1, _), (2, _), (3, _)]) dX10_heapOf_49 rfl (by decide) (by decide) rfl ?_
        refine aw_goto (tgt := 4) dX10_heapOf_52 (by decide) ?_
        rw [cnt_no hq] at ih'
        exact ih'
      refine aw_iload_n dX10_heapOf_4 rfl rfl ?_
      refine aw_aload_n dX10_heapOf_5 rfl rfl (by first | exact isR_ref _ | exact isR_rf _ | exact isR_null) ?_
      refine aw_get dX10_heapOf_6 fl_X10_182 (sM_kd hM) (sM_n hM) (congrArg Value.int hN) ?_
      refine aw_n_ge (tgt := 55) dX10_heapOf_9 (by decide) rfl rfl (by omega) (by omega) (fun h => ?_) (fun h => ?_)
      · exact absurd h (by omega)
      · refine aw_iload_n dX10_heapOf_12 rfl rfl ?_
        refine aw_aload_n dX10_heapOf_13 rfl rfl (by first | exact isR_ref _ | exact isR_rf _ | exact isR_null) ?_
        refine aw_get dX10_heapOf_14 fl_X10_25 (sM_kd hM) (sM_n hM) (sM_r_by hM _ _) ?_
        refine aw_iload_n dX10_heapOf_17 rfl rfl ?_
        refine aw_iald dX10_heapOf_18 (sM_k_by hM) (sM_l_by hM) (ixm (by omega)) ?_
        refine aw_iconst (v := (-1)) dX10_heapOf_19 (by decide) ?_
        refine aw_icmp_ne (tgt := 46) dX10_heapOf_20 (by decide) (fun h2 => ?_) (fun h2 => ?_)
        · exact no (by simp [mHeapP, h2])
        · refine aw_aload_n dX10_heapOf_23 rfl rfl (by first | exact isR_ref _ | exact isR_rf _ | exact isR_null) ?_
          refine aw_get dX10_heapOf_24 fl_X10_34 (sM_kd hM) (sM_n hM) (sM_r_belongs hM _ _) ?_
          refine aw_iload_n dX10_heapOf_27 rfl rfl ?_
          refine aw_iald dX10_heapOf_28 (sM_k_belongs hM) (sM_l_belongs hM) (ixm (by omega)) ?_
          refine aw_iconst (v := (-1)) dX10_heapOf_29 (by decide) ?_
          refine aw_icmp_ne (tgt := 46) dX10_heapOf_30 (by decide) (fun h3 => ?_) (fun h3 => ?_)
          · exact no (by simp [mHeapP, h3])
          · refine aw_aload_n dX10_heapOf_33 rfl rfl (by first | exact isR_ref _ | exact isR_rf _ | exact isR_null) ?_
            refine aw_iload_n dX10_heapOf_34 rfl rfl ?_
            refine aw_iload_n dX10_heapOf_35 rfl rfl ?_
            refine aw_cVx (as := [_, _]) dX10_heapOf_36 lk_X10_166 cm_X10_passes vi_X10_passes (by unfold RO; decide) rfl (sM_kd hM) (sM_n hM) rfl rfl rfl (Nat.le_of_ble_eq_true rfl) (m_passes hM (by omega) _) ?_
            refine aw_b_eq (tgt := 46) dX10_heapOf_39 (by decide) rfl (fun h4 => ?_) (fun h4 => ?_)
            · exact no (by simp [mHeapP, h4])
            · refine aw_iconst (v := nI 1) dX10_heapOf_42 (by decide) ?_
              refine aw_goto (tgt := 47) dX10_heapOf_43 (by decide) ?_
              first | refine aw_iaddN dX10_heapOf_47 ?_ | refine aw_iadd dX10_heapOf_47 ?_
              refine aw_istore_n (lv' := [(0, _), (1, _), (2, _), (3, _)]) dX10_heapOf_48 rfl (by decide) rfl ?_
              first | refine aw_iincN (c := 1) (lv' := [(0, _), (1, _), (2, _), (3, _)]) dX10_heapOf_49 rfl (by decide) rfl rfl ?_ | refine aw_iinc (v := 1) (lv' := [(0, _), (1, _), (2, _), (3, _)]) dX10_heapOf_49 rfl (by decide) (by decide) rfl ?_
              refine aw_goto (tgt := 4) dX10_heapOf_52 (by decide) ?_
              rw [cnt_yes (show mHeapP I c i = true by simp [mHeapP, h2, h3, h4])] at ih'
              exact ih'
  exact loop _ 0 (Nat.zero_add _)
theorem mHeapOf_le (hB : MB I) (c : Int32) : mHeapOf I c ≤ 100 := Nat.le_trans (cnt_le _ _) hB.1.le
def mHeapS (I : Nat → Nat → Int32) (m : Nat) : Nat → Option Nat × Nat
  | 0 => (none, m - 1)
  | c + 1 => if (mHeapS I m c).2 < mHeapOf I (nI c) then (some c, mHeapOf I (nI c)) else mHeapS I m c
def mHeap (I : Nat → Nat → Int32) (x : Int32) : Int32 := match rgl x 1 101 with
  | none => -1
  | some m => oI (mHeapS I m 40).1
theorem mHeapS_le (hB : MB I) {m : Nat} (hm : m ≤ 100) : ∀ c, (mHeapS I m c).2 ≤ 100
  | 0 => by show m - 1 ≤ 100; omega
  | c + 1 => by
    rw [mHeapS]
    split
    · exact mHeapOf_le hB _
    · exact mHeapS_le hB hm c
theorem m_heap (hM : ShM G n kd R) (hB : MB I) (x : Int32) : EX G mX10_heap [.ref (gz G + 22), .int x] (n, sz, kd, I, R, J) (some (.int (mHeap I x))) (n, sz, kd, I, R, J) := by
  refine mm_of rfl [(0, .ref (gz G + 22)), (1, .int x)] rfl (Nat.le_of_ble_eq_true rfl) ?_
  refine aw_iload_n dX10_heap_0 rfl rfl ?_
  refine aw_iconst (v := nI 1) dX10_heap_1 (by decide) ?_
  refine aw_bipush (v := nI 100) dX10_heap_2 (by decide) ?_
  refine aw_cSx (as := [_, _, _]) dX10_heap_4 lk_X10_156 cm_X10_in sm_X10_in (by unfold RO; decide) rfl rfl (Nat.le_of_ble_eq_true rfl) (m_inN _) ?_
  refine aw_b_ne (tgt := 12) dX10_heap_7 (by decide) rfl (fun h1 => ?_) (fun h1 => ?_)
  · obtain ⟨m, hm⟩ := Option.isSome_iff_exists.mp h1
    obtain ⟨rfl, hm1, hm2⟩ := rgl_some hm
    have ea : mHeap I (nI m) = oI (mHeapS I m 40).1 := by unfold mHeap; rw [show rgl (nI m) 1 101 = some m from hm]
    rw [ea]
    refine aw_iconst (v := (-1)) dX10_heap_12 (by decide) ?_
    refine aw_istore_n (lv' := [(0, _), (1, _), (2, _)]) dX10_heap_13 rfl (by decide) rfl ?_
    refine aw_iload_n dX10_heap_14 rfl rfl ?_
    refine aw_iconst (v := nI 1) dX10_heap_15 (by decide) ?_
    refine aw_isubN (by omega) dX10_heap_16 ?_
    refine aw_istore_n (lv' := [(0, _), (1, _), (2, _), (3, _)]) dX10_heap_17 rfl (by decide) rfl ?_
    refine aw_iconst (v := nI 0) dX10_heap_18 (by decide) ?_
    refine aw_istore (lv' := [(0, _), (1, _), (2, _), (3, _), (4, _)]) dX10_heap_19 (by decide) rfl ?_
    have loop : ∀ d i, i + d = 40 → AW G mX10_heap 21 [(0, .ref (gz G + 22)), (1, .int (nI m)), (2, .int (oI (mHeapS I m i).1)), (3, .int (nI (mHeapS I m i).2)), (4, .int (nI i))] [] (n, sz, kd, I, R, J) (fun v' M' => v' = some (.int (oI (mHeapS I m 40).1)) ∧ M' = (n, sz, kd, I, R, J)) := by
      intro d
      induction d with
      | zero =>
        intro i hi
        refine aw_iload dX10_heap_21 rfl ?_
        refine aw_bipush (v := nI 40) dX10_heap_23 (by decide) ?_
        refine aw_n_ge (tgt := 57) dX10_heap_25 (by decide) rfl rfl (by omega) (by omega) (fun h => ?_) (fun h => ?_)
        · refine aw_iload_n dX10_heap_57 rfl rfl ?_
          refine aw_iret dX10_heap_58 rfl rfl ?_
          exact ⟨by rw [show i = 40 by omega], rfl⟩
        · exact absurd h (by omega)
      | succ d ih =>
        intro i hi
        have ih' := ih (i + 1) (by omega)
        have hb1 := mHeapS_le (m := m) hB (by omega) i
        have hb2 := mHeapOf_le hB (nI i)
        refine aw_iload dX10_heap_21 rfl ?_
        refine aw_bipush (v := nI 40) dX10_heap_23 (by decide) ?_
        refine aw_n_ge (tgt := 57) dX10_heap_25 (by decide) rfl rfl (by omega) (by omega) (fun h => ?_) (fun h => ?_)
        · exact absurd h (by omega)
        · refine aw_aload_n dX10_heap_28 rfl rfl (by first | exact isR_ref _ | exact isR_rf _ | exact isR_null) ?_
          refine aw_iload dX10_heap_29 rfl ?_
          refine aw_cVx (as := [_]) dX10_heap_31 lk_X10_275 cm_X10_heapOf vi_X10_heapOf (by unfold RO; decide) rfl (sM_kd hM) (sM_n hM) rfl rfl rfl (Nat.le_of_ble_eq_true rfl) (m_heapOf hM hB _) ?_
          refine aw_istore (lv' := [(0, _), (1, _), (2, _), (3, _), (4, _), (5, _)]) dX10_heap_34 (by decide) rfl ?_
          refine aw_iload dX10_heap_36 rfl ?_
          refine aw_iload_n dX10_heap_38 rfl rfl ?_
          refine aw_n_gt (tgt := 45) dX10_heap_39 (by decide) rfl rfl (by omega) (by omega) (fun h2 => ?_) (fun h2 => ?_)
          · refine aw_iload dX10_heap_45 rfl ?_
            refine aw_istore_n (lv' := [(0, _), (1, _), (2, _), (3, _), (4, _), (5, _)]) dX10_heap_47 rfl (by decide) rfl ?_
            refine aw_iload dX10_heap_48 rfl ?_
            refine aw_istore_n (lv' := [(0, _), (1, _), (2, _), (3, _), (4, _), (5, _)]) dX10_heap_50 rfl (by decide) rfl ?_
            first | refine aw_iincN (c := 1) (lv' := [(0, _), (1, _), (2, _), (3, _), (4, _), (5, _)]) dX10_heap_51 rfl (by decide) rfl rfl ?_ | refine aw_iinc (v := 1) (lv' := [(0, _), (1, _), (2, _), (3, _), (4, _), (5, _)]) dX10_heap_51 rfl (by decide) (by decide) rfl ?_
            refine aw_goto (tgt := 21) dX10_heap_54 (by decide) ?_
            rw [show mHeapS I m (i + 1) = (some i, mHeapOf I (nI i)) by rw [mHeapS, if_pos h2]] at ih'
            refine aw_lv (fun q hq => ?_) ih'
            simp only [List.mem_cons, List.not_mem_nil, or_false] at hq ⊢
            rcases hq with h | h | h | h | h <;> simp [h, oI]
          · refine aw_goto (tgt := 51) dX10_heap_42 (by decide) ?_
            first | refine aw_iincN (c := 1) (lv' := [(0, _), (1, _), (2, _), (3, _), (4, _), (5, _)]) dX10_heap_51 rfl (by decide) rfl rfl ?_ | refine aw_iinc (v := 1) (lv' := [(0, _), (1, _), (2, _), (3, _), (4, _), (5, _)]) dX10_heap_51 rfl (by decide) (by decide) rfl ?_
            refine aw_goto (tgt := 21) dX10_heap_54 (by decide) ?_
            rw [show mHeapS I m (i + 1) = mHeapS I m i by rw [mHeapS, if_neg h2]] at ih'
            refine aw_lv (fun q hq => ?_) ih'
            simp only [List.mem_cons, List.not_mem_nil, or_false] at hq ⊢
            rcases hq with h | h | h | h | h <;> simp [h, oI]
    exact loop 40 0 rfl
  · refine aw_iconst (v := (-1)) dX10_heap_10 (by decide) ?_
    refine aw_iret dX10_heap_11 rfl rfl ?_
    exact ⟨by unfold mHeap; rw [show rgl x 1 101 = none from isSome_f h1], rfl⟩
def mHeaped (I : Nat → Nat → Int32) (x : Int32) : Int32 := if (rgl x 0 40).isSome then nI (mHeapOf I x) else -1
theorem m_heaped (hM : ShM G n kd R) (hB : MB I) (x : Int32) : EX G mX10_heaped [.ref (gz G + 22), .int x] (n, sz, kd, I, R, J) (some (.int (mHeaped I x))) (n, sz, kd, I, R, J) := by
  refine mm_of rfl [(0, .ref (gz G + 22)), (1, .int x)] rfl (Nat.le_of_ble_eq_true rfl) ?_
  refine aw_iload_n dX10_heaped_0 rfl rfl ?_
  refine aw_iconst (v := nI 0) dX10_heaped_1 (by decide) ?_
  refine aw_bipush (v := nI 39) dX10_heaped_2 (by decide) ?_
  refine aw_cSx (as := [_, _, _]) dX10_heaped_4 lk_X10_156 cm_X10_in sm_X10_in (by unfold RO; decide) rfl rfl (Nat.le_of_ble_eq_true rfl) (m_inN _) ?_
  refine aw_b_eq (tgt := 18) dX10_heaped_7 (by decide) rfl (fun h1 => ?_) (fun h1 => ?_)
  · refine aw_iconst (v := (-1)) dX10_heaped_18 (by decide) ?_
    refine aw_iret dX10_heaped_19 rfl rfl ?_
    exact ⟨by unfold mHeaped; rw [show (rgl x 0 40).isSome = false from h1]; rfl, rfl⟩
  · refine aw_aload_n dX10_heaped_10 rfl rfl (by first | exact isR_ref _ | exact isR_rf _ | exact isR_null) ?_
    refine aw_iload_n dX10_heaped_11 rfl rfl ?_
    refine aw_cVx (as := [_]) dX10_heaped_12 lk_X10_275 cm_X10_heapOf vi_X10_heapOf (by unfold RO; decide) rfl (sM_kd hM) (sM_n hM) rfl rfl rfl (Nat.le_of_ble_eq_true rfl) (m_heapOf hM hB _) ?_
    refine aw_goto (tgt := 19) dX10_heaped_15 (by decide) ?_
    refine aw_iret dX10_heaped_19 rfl rfl ?_
    exact ⟨by unfold mHeaped; rw [show (rgl x 0 40).isSome = true from h1]; rfl, rfl⟩
def mOther (I : Nat → Nat → Int32) (k : Nat) : Bool := !decide (mWho I mFolderR (nI 0) (mFirst I k) = I 30 k)
theorem m_isOther (hM : ShM G n kd R) (hB : MB I) {k : Nat} (hk : k < 100) : EX G mX10_isOther [.ref (gz G + 22), .int (nI k)] (n, sz, kd, I, R, J) (some (.int (bi (mOther I k)))) (n, sz, kd, I, R, J) := by
  refine mm_of rfl [(0, .ref (gz G + 22)), (1, .int (nI k))] rfl (Nat.le_of_ble_eq_true rfl) ?_
  refine aw_aload_n dX10_isOther_0 rfl rfl (by first | exact isR_ref _ | exact isR_rf _ | exact isR_null) ?_
  refine aw_iload_n dX10_isOther_1 rfl rfl ?_
  refine aw_cVx (as := [_]) dX10_isOther_2 lk_X10_186 cm_X10_firstThatFits vi_X10_firstThatFits (by unfold RO; decide) rfl (sM_kd hM) (sM_n hM) rfl rfl rfl (Nat.le_of_ble_eq_true rfl) (m_firstThatFits hM hB hk) ?_
  refine aw_istore_n (lv' := [(0, _), (1, _), (2, _)]) dX10_isOther_5 rfl (by decide) rfl ?_
  refine aw_iload_n dX10_isOther_6 rfl rfl ?_
  have fin : ∀ x, x = mWho I mFolderR (nI 0) (mFirst I k) → AW G mX10_isOther 19 [(0, .ref (gz G + 22)), (1, .int (nI k)), (2, .int (oI (mFirst I k)))] [.int x] (n, sz, kd, I, R, J) (fun v' M' => v' = some (.int (bi (mOther I k))) ∧ M' = (n, sz, kd, I, R, J)) := by
    intro x hx
    refine aw_aload_n dX10_isOther_19 rfl rfl (by first | exact isR_ref _ | exact isR_rf _ | exact isR_null) ?_
    refine aw_get dX10_isOther_20 fl_X10_31 (sM_kd hM) (sM_n hM) (sM_r_into hM _ _) ?_
    refine aw_iload_n dX10_isOther_23 rfl rfl ?_
    refine aw_iald dX10_isOther_24 (sM_k_into hM) (sM_l_into hM) (ixm (by omega)) ?_
    refine aw_icmp_eq (tgt := 32) dX10_isOther_25 (by decide) (fun h => ?_) (fun h => ?_)
    · refine aw_iconst (v := nI 0) dX10_isOther_32 (by decide) ?_
      refine aw_iret dX10_isOther_33 rfl rfl ?_
      exact ⟨by rw [mOther, ← hx, decide_eq_true h]; rfl, rfl⟩
    · refine aw_iconst (v := nI 1) dX10_isOther_28 (by decide) ?_
      refine aw_goto (tgt := 33) dX10_isOther_29 (by decide) ?_
      refine aw_iret dX10_isOther_33 rfl rfl ?_
      exact ⟨by rw [mOther, ← hx, decide_eq_false h]; rfl, rfl⟩
  cases e : mFirst I k with
  | none =>
    rw [e] at fin
    refine aw_if_ge (tgt := 14) dX10_isOther_7 (by decide) (fun h1 => ?_) (fun h1 => ?_)
    · exact absurd h1 (by decide)
    · refine aw_iconst (v := nI 0) dX10_isOther_10 (by decide) ?_
      refine aw_goto (tgt := 19) dX10_isOther_11 (by decide) ?_
      exact fin _ rfl
  | some p =>
    rw [e] at fin
    have hp := mFirst_lt e
    have hH := mH_le (I := I)
    have hL6 : mL I ≤ 6 := hB.2.1.le
    refine aw_if_ge (tgt := 14) dX10_isOther_7 (by decide) (fun h1 => ?_) (fun h1 => ?_)
    · refine aw_aload_n dX10_isOther_14 rfl rfl (by first | exact isR_ref _ | exact isR_rf _ | exact isR_null) ?_
      refine aw_iload_n dX10_isOther_15 rfl rfl ?_
      refine aw_cVx (as := [_]) dX10_isOther_16 lk_X10_195 cm_X10_folderAt vi_X10_folderAt (by unfold RO; decide) rfl (sM_kd hM) (sM_n hM) rfl rfl rfl (Nat.le_of_ble_eq_true rfl) (m_folderAt hM hB hp) ?_
      exact fin _ rfl
    · exact absurd (nI_pos' (by omega)) h1
theorem m_again (hM : ShM G n kd R) (hB : MB I) : EX G mX10_again [.ref (gz G + 22)] (n, sz, kd, I, R, J) (some (.int (nI (cnt (mOther I) (mN I))))) (n, sz, kd, I, R, J) := by
  refine mm_of rfl [(0, .ref (gz G + 22))] rfl (Nat.le_of_ble_eq_true rfl) ?_
  have hN : I 22 0 = nI (mN I) := hB.1.eq
  have hN1 : mN I ≤ 100 := hB.1.le
  refine aw_iconst (v := nI 0) dX10_again_0 (by decide) ?_
  refine aw_istore_n (lv' := [(0, _), (1, _)]) dX10_again_1 rfl (by decide) rfl ?_
  refine aw_iconst (v := nI 0) dX10_again_2 (by decide) ?_
  refine aw_istore_n (lv' := [(0, _), (1, _), (2, _)]) dX10_again_3 rfl (by decide) rfl ?_
  have loop : ∀ d i, i + d = mN I → AW G mX10_again 4 [(0, .ref (gz G + 22)), (1, .int (nI (cnt (mOther I) i))), (2, .int (nI i))] [] (n, sz, kd, I, R, J) (fun v' M' => v' = some (.int (nI (cnt (mOther I) (mN I)))) ∧ M' = (n, sz, kd, I, R, J)) := by
    intro d
    induction d with
    | zero =>
      intro i hi
      refine aw_iload_n dX10_again_4 rfl rfl ?_
      refine aw_aload_n dX10_again_5 rfl rfl (by first | exact isR_ref _ | exact isR_rf _ | exact isR_null) ?_
      refine aw_get dX10_again_6 fl_X10_182 (sM_kd hM) (sM_n hM) (congrArg Value.int hN) ?_
      refine aw_n_ge (tgt := 34) dX10_again_9 (by decide) rfl rfl (by omega) (by omega) (fun h => ?_) (fun h => ?_)
      · refine aw_iload_n dX10_again_34 rfl rfl ?_
        refine aw_iret dX10_again_35 rfl rfl ?_
        exact ⟨by rw [show i = mN I by omega], rfl⟩
      · exact absurd h (by omega)
    | succ d ih =>
      intro i hi
      have ih' := ih (i + 1) (by omega)
      refine aw_iload_n dX10_again_4 rfl rfl ?_
      refine aw_aload_n dX10_again_5 rfl rfl (by first | exact isR_ref _ | exact isR_rf _ | exact isR_null) ?_
      refine aw_get dX10_again_6 fl_X10_182 (sM_kd hM) (sM_n hM) (congrArg Value.int hN) ?_
      refine aw_n_ge (tgt := 34) dX10_again_9 (by decide) rfl rfl (by omega) (by omega) (fun h => ?_) (fun h => ?_)
      · exact absurd h (by omega)
      · refine aw_iload_n dX10_again_12 rfl rfl ?_
        refine aw_aload_n dX10_again_13 rfl rfl (by first | exact isR_ref _ | exact isR_rf _ | exact isR_null) ?_
        refine aw_iload_n dX10_again_14 rfl rfl ?_
        refine aw_cVx (as := [_]) dX10_again_15 lk_X10_278 cm_X10_isOther vi_X10_isOther (by unfold RO; decide) rfl (sM_kd hM) (sM_n hM) rfl rfl rfl (Nat.le_of_ble_eq_true rfl) (m_isOther hM hB (by omega)) ?_
        refine aw_b_eq (tgt := 25) dX10_again_18 (by decide) rfl (fun h2 => ?_) (fun h2 => ?_)
        · refine aw_iconst (v := nI 0) dX10_again_25 (by decide) ?_
          first | refine aw_iaddN dX10_again_26 ?_ | refine aw_iadd dX10_again_26 ?_
          refine aw_istore_n (lv' := [(0, _), (1, _), (2, _)]) dX10_again_27 rfl (by decide) rfl ?_
          first | refine aw_iincN (c := 1) (lv' := [(0, _), (1, _), (2, _)]) dX10_again_28 rfl (by decide) rfl rfl ?_ | refine aw_iinc (v := 1) (lv' := [(0, _), (1, _), (2, _)]) dX10_again_28 rfl (by decide) (by decide) rfl ?_
          refine aw_goto (tgt := 4) dX10_again_31 (by decide) ?_
          rw [cnt_no h2] at ih'
          exact ih'
        · refine aw_iconst (v := nI 1) dX10_again_21 (by decide) ?_
          refine aw_goto (tgt := 26) dX10_again_22 (by decide) ?_
          first | refine aw_iaddN dX10_again_26 ?_ | refine aw_iadd dX10_again_26 ?_
          refine aw_istore_n (lv' := [(0, _), (1, _), (2, _)]) dX10_again_27 rfl (by decide) rfl ?_
          first | refine aw_iincN (c := 1) (lv' := [(0, _), (1, _), (2, _)]) dX10_again_28 rfl (by decide) rfl rfl ?_ | refine aw_iinc (v := 1) (lv' := [(0, _), (1, _), (2, _)]) dX10_again_28 rfl (by decide) (by decide) rfl ?_
          refine aw_goto (tgt := 4) dX10_again_31 (by decide) ?_
          rw [cnt_yes h2] at ih'
          exact ih'
  exact loop _ 0 (Nat.zero_add _)
def mDiffers (I : Nat → Nat → Int32) (x : Int32) : Int32 := match rgl x 0 (2 ^ 31) with
  | none => -1
  | some p => oI (kth (mOther I) p (mN I))
theorem rgl_all {x : Int32} (h : rgl x 0 (2 ^ 31) = none) : x < 0 := by
  unfold rgl at h
  split at h
  · cases h
  · rename_i q
    have h2 : x.toInt < 2 ^ 31 := Int32.toInt_lt x
    rw [Int32.lt_iff_toInt_lt]
    show x.toInt < 0
    omega
theorem m_differs (hM : ShM G n kd R) (hB : MB I) (x : Int32) : EX G mX10_differs [.ref (gz G + 22), .int x] (n, sz, kd, I, R, J) (some (.int (mDiffers I x))) (n, sz, kd, I, R, J) := by
  refine mm_of rfl [(0, .ref (gz G + 22)), (1, .int x)] rfl (Nat.le_of_ble_eq_true rfl) ?_
  have hN : I 22 0 = nI (mN I) := hB.1.eq
  have hN1 : mN I ≤ 100 := hB.1.le
  refine aw_iconst (v := nI 0) dX10_differs_0 (by decide) ?_
  refine aw_istore_n (lv' := [(0, _), (1, _), (2, _)]) dX10_differs_1 rfl (by decide) rfl ?_
  refine aw_iconst (v := nI 0) dX10_differs_2 (by decide) ?_
  refine aw_istore_n (lv' := [(0, _), (1, _), (2, _), (3, _)]) dX10_differs_3 rfl (by decide) rfl ?_
  have loop : ∀ d i, i + d = mN I → (∀ p, x = nI p → p < 2 ^ 31 → kth (mOther I) p i = none) → AW G mX10_differs 4 [(0, .ref (gz G + 22)), (1, .int x), (2, .int (nI (cnt (mOther I) i))), (3, .int (nI i))] [] (n, sz, kd, I, R, J) (fun v' M' => v' = some (.int (mDiffers I x)) ∧ M' = (n, sz, kd, I, R, J)) := by
    intro d
    induction d with
    | zero =>
      intro i hi hk
      refine aw_iload_n dX10_differs_4 rfl rfl ?_
      refine aw_aload_n dX10_differs_5 rfl rfl (by first | exact isR_ref _ | exact isR_rf _ | exact isR_null) ?_
      refine aw_get dX10_differs_6 fl_X10_182 (sM_kd hM) (sM_n hM) (congrArg Value.int hN) ?_
      refine aw_n_ge (tgt := 39) dX10_differs_9 (by decide) rfl rfl (by omega) (by omega) (fun h => ?_) (fun h => ?_)
      · refine aw_iconst (v := (-1)) dX10_differs_39 (by decide) ?_
        refine aw_iret dX10_differs_40 rfl rfl ?_
        refine ⟨?_, rfl⟩
        unfold mDiffers
        cases e : rgl x 0 (2 ^ 31) with
        | none => rfl
        | some p =>
          obtain ⟨h1, -, h2⟩ := rgl_some e
          show _ = some (Value.int (oI (kth (mOther I) p (mN I))))
          rw [show mN I = i by omega, hk p h1 h2]
          rfl
      · exact absurd h (by omega)
    | succ d ih =>
      intro i hi hk
      have hci := cnt_le (mOther I) i
      refine aw_iload_n dX10_differs_4 rfl rfl ?_
      refine aw_aload_n dX10_differs_5 rfl rfl (by first | exact isR_ref _ | exact isR_rf _ | exact isR_null) ?_
      refine aw_get dX10_differs_6 fl_X10_182 (sM_kd hM) (sM_n hM) (congrArg Value.int hN) ?_
      refine aw_n_ge (tgt := 39) dX10_differs_9 (by decide) rfl rfl (by omega) (by omega) (fun h => ?_) (fun h => ?_)
      · exact absurd h (by omega)
      · refine aw_aload_n dX10_differs_12 rfl rfl (by first | exact isR_ref _ | exact isR_rf _ | exact isR_null) ?_
        refine aw_iload_n dX10_differs_13 rfl rfl ?_
        refine aw_cVx (as := [_]) dX10_differs_14 lk_X10_278 cm_X10_isOther vi_X10_isOther (by unfold RO; decide) rfl (sM_kd hM) (sM_n hM) rfl rfl rfl (Nat.le_of_ble_eq_true rfl) (m_isOther hM hB (by omega)) ?_
        refine aw_b_ne (tgt := 23) dX10_differs_17 (by decide) rfl (fun h2 => ?_) (fun h2 => ?_)
        · refine aw_iload_n dX10_differs_23 rfl rfl ?_
          refine aw_iload_n dX10_differs_24 rfl rfl ?_
          refine aw_icmp_ne (tgt := 30) dX10_differs_25 (by decide) (fun h3 => ?_) (fun h3 => ?_)
          · first | refine aw_iincN (c := 1) (lv' := [(0, _), (1, _), (2, _), (3, _)]) dX10_differs_30 rfl (by decide) rfl rfl ?_ | refine aw_iinc (v := 1) (lv' := [(0, _), (1, _), (2, _), (3, _)]) dX10_differs_30 rfl (by decide) (by decide) rfl ?_
            first | refine aw_iincN (c := 1) (lv' := [(0, _), (1, _), (2, _), (3, _)]) dX10_differs_33 rfl (by decide) rfl rfl ?_ | refine aw_iinc (v := 1) (lv' := [(0, _), (1, _), (2, _), (3, _)]) dX10_differs_33 rfl (by decide) (by decide) rfl ?_
            refine aw_goto (tgt := 4) dX10_differs_36 (by decide) ?_
            have ih' := ih (i + 1) (by omega) (fun p hp hp2 => by
              rw [kth, hk p hp hp2]
              have : cnt (mOther I) i ≠ p := fun z => h3 (by rw [z, hp])
              simp [this])
            rw [cnt_yes h2] at ih'
            exact ih'
          · refine aw_iload_n dX10_differs_28 rfl rfl ?_
            refine aw_iret dX10_differs_29 rfl rfl ?_
            refine ⟨?_, rfl⟩
            have e : kth (mOther I) (cnt (mOther I) i) (i + 1) = some i := by rw [kth, hk _ h3.symm (by omega)]; simp [h2]
            have e2 := kth_stay e d
            rw [show i + 1 + d = mN I by omega] at e2
            unfold mDiffers
            rw [← h3, rgl_nI (Nat.zero_le _) (by omega) (by omega)]
            show _ = some (Value.int (oI (kth (mOther I) (cnt (mOther I) i) (mN I))))
            rw [e2]
            rfl
        · refine aw_goto (tgt := 33) dX10_differs_20 (by decide) ?_
          first | refine aw_iincN (c := 1) (lv' := [(0, _), (1, _), (2, _), (3, _)]) dX10_differs_33 rfl (by decide) rfl rfl ?_ | refine aw_iinc (v := 1) (lv' := [(0, _), (1, _), (2, _), (3, _)]) dX10_differs_33 rfl (by decide) (by decide) rfl ?_
          refine aw_goto (tgt := 4) dX10_differs_36 (by decide) ?_
          have ih' := ih (i + 1) (by omega) (fun p hp hp2 => by rw [kth, hk p hp hp2]; simp [h2])
          rw [show cnt (mOther I) (i + 1) = cnt (mOther I) i from cnt_no h2] at ih'
          exact ih'
  exact loop _ 0 (Nat.zero_add _) (fun _ _ _ => rfl)
end MOD6
