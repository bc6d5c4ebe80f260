section CLS4
variable {G : GG} {y : MI} {pc : Nat} {lv : List (Nat × Value)} {st : List Value} {M : Mem} {Q : Option Value → Mem → Prop}
theorem aw_astoreG_n {k : Fin 4} {i : Nat} {x : Option Nat} {lv' : List (Nat × Value)} (hd : decode y.2.1 pc = .ok (.astore_n k, 1)) (hi : (k : Nat) = i) (hn : i < y.2.2.1) (hv : lset i (va_rf x) lv = lv') (K : AW G y (pc + 1) lv' st M Q) : AW G y pc lv (va_rf x :: st) M Q := by
  cases x with
  | none => exact aw_astoreN_n hd hi hn hv K
  | some a => exact aw_astore_n hd hi hn hv K
theorem aw_astoreG {i : Nat} {x : Option Nat} {lv' : List (Nat × Value)} (hd : decode y.2.1 pc = .ok (.astore i, 2)) (hn : i < y.2.2.1) (hv : lset i (va_rf x) lv = lv') (K : AW G y (pc + 2) lv' st M Q) : AW G y pc lv (va_rf x :: st) M Q := by
  cases x with
  | none => exact aw_astoreN hd hn hv K
  | some a => exact aw_astore hd hn hv K
end CLS4
section CLS4
variable {G : GG} {n sz : Nat} {kd : Nat → AKd} {I : Nat → Nat → Int32} {R : Nat → Nat → Option Nat} {J : Nat → Nat → Int64}
def cPush (I : Nat → Nat → Int32) (P : Nat) (x : Int32) (l : Nat) : Nat → Nat → Int32 := u2 (u2 (u2 (u2 I 11 P x) 12 P (I l 4)) 13 P (I l 5)) 10 3 (nI (P + 1))
theorem c_push (hC : ShC G n kd R) {P : Nat} (hP : I 10 3 = nI P) (hP1 : P < 200) (x : Int32) {l : Nat} (hl : iO n kd l 3) (h52 : 52 ≤ l) : EX G mX4_push [.ref (gz G + 10), .int x, .ref (gz G + l)] (n, sz, kd, I, R, J) none (n, sz, kd, cPush I P x l, R, J) := by
  refine mm_of rfl [(0, .ref (gz G + 10)), (1, .int x), (2, .ref (gz G + l))] rfl (Nat.le_of_ble_eq_true rfl) ?_
  have e1 : u2 I 11 P x l 4 = I l 4 := by rw [u2_row _ _ _ (by omega)]
  have e2 : u2 (u2 I 11 P x) 12 P (I l 4) l 5 = I l 5 := by rw [u2_row _ _ _ (by omega), u2_row _ _ _ (by omega)]
  refine aw_aload_n dX4_push_0 rfl rfl (by first | exact isR_ref _ | exact isR_rf _ | exact isR_null) ?_
  refine aw_get dX4_push_1 fl_X4_21 (sC_k10 hC) (sC_n10 hC) (congrArg Value.int hP) ?_
  refine aw_sipush (v := nI 200) dX4_push_4 (by decide) ?_
  refine aw_n_ge (tgt := 56) dX4_push_7 (by decide) rfl rfl (by omega) (by omega) (fun h => ?_) (fun h => ?_)
  · exact absurd h (by omega)
  · refine aw_aload_n dX4_push_10 rfl rfl (by first | exact isR_ref _ | exact isR_rf _ | exact isR_null) ?_
    refine aw_get dX4_push_11 fl_X4_9 (sC_k10 hC) (sC_n10 hC) (sC_r_10_numbers hC _ _) ?_
    refine aw_aload_n dX4_push_14 rfl rfl (by first | exact isR_ref _ | exact isR_rf _ | exact isR_null) ?_
    refine aw_get dX4_push_15 fl_X4_21 (sC_k10 hC) (sC_n10 hC) (congrArg Value.int hP) ?_
    refine aw_iload_n dX4_push_18 rfl rfl ?_
    refine aw_iast dX4_push_19 (sC_k11 hC) (sC_n11 hC) (ixm (by omega)) ?_
    refine aw_aload_n dX4_push_20 rfl rfl (by first | exact isR_ref _ | exact isR_rf _ | exact isR_null) ?_
    refine aw_get dX4_push_21 fl_X4_15 (sC_k10 hC) (sC_n10 hC) (sC_r_10_lay hC _ _) ?_
    refine aw_aload_n dX4_push_24 rfl rfl (by first | exact isR_ref _ | exact isR_rf _ | exact isR_null) ?_
    refine aw_get dX4_push_25 fl_X4_21 (sC_k10 hC) (sC_n10 hC) (congrArg Value.int hP) ?_
    refine aw_aload_n dX4_push_28 rfl rfl (by first | exact isR_ref _ | exact isR_rf _ | exact isR_null) ?_
    refine aw_get dX4_push_29 fl_X4_25 hl.1 hl.2 (congrArg Value.int e1) ?_
    refine aw_iast dX4_push_32 (sC_k12 hC) (sC_n12 hC) (ixm (by omega)) ?_
    refine aw_aload_n dX4_push_33 rfl rfl (by first | exact isR_ref _ | exact isR_rf _ | exact isR_null) ?_
    refine aw_get dX4_push_34 fl_X4_18 (sC_k10 hC) (sC_n10 hC) (sC_r_10_belonged hC _ _) ?_
    refine aw_aload_n dX4_push_37 rfl rfl (by first | exact isR_ref _ | exact isR_rf _ | exact isR_null) ?_
    refine aw_get dX4_push_38 fl_X4_21 (sC_k10 hC) (sC_n10 hC) (congrArg Value.int hP) ?_
    refine aw_aload_n dX4_push_41 rfl rfl (by first | exact isR_ref _ | exact isR_rf _ | exact isR_null) ?_
    refine aw_get dX4_push_42 fl_X4_30 hl.1 hl.2 (congrArg Value.int e2) ?_
    refine aw_iast dX4_push_45 (sC_k13 hC) (sC_n13 hC) (ixm (by omega)) ?_
    refine aw_aload_n dX4_push_46 rfl rfl (by first | exact isR_ref _ | exact isR_rf _ | exact isR_null) ?_
    refine aw_dup dX4_push_47 rfl ?_
    refine aw_get dX4_push_48 fl_X4_21 (sC_k10 hC) (sC_n10 hC) (congrArg Value.int hP) ?_
    refine aw_iconst (v := nI 1) dX4_push_51 (by decide) ?_
    first | refine aw_iaddN dX4_push_52 ?_ | refine aw_iadd dX4_push_52 ?_
    refine aw_putI dX4_push_53 fl_X4_21 (Or.inl rfl) rfl (sC_k10 hC) (sC_n10 hC) ?_
    refine aw_vret dX4_push_56 rfl ?_
    exact ⟨rfl, rfl⟩
def cBack (I : Nat → Nat → Int32) (P l : Nat) : Nat → Nat → Int32 := u2 (u2 (u2 I 10 3 (nI P)) l 4 (I 12 P)) l 5 (I 13 P)
theorem c_takeBack0 (hC : ShC G n kd R) (hP : I 10 3 = nI 0) : EX G mX4_takeBack [.ref (gz G + 10), .ref (gz G + 8)] (n, sz, kd, I, R, J) (some (.int (-1))) (n, sz, kd, I, R, J) := by
  refine mm_of rfl [(0, .ref (gz G + 10)), (1, .ref (gz G + 8))] rfl (Nat.le_of_ble_eq_true rfl) ?_
  refine aw_aload_n dX4_takeBack_0 rfl rfl (by first | exact isR_ref _ | exact isR_rf _ | exact isR_null) ?_
  refine aw_get dX4_takeBack_1 fl_X4_21 (sC_k10 hC) (sC_n10 hC) (congrArg Value.int hP) ?_
  refine aw_z_ne (tgt := 9) dX4_takeBack_4 (by decide) rfl (by omega) (fun h => ?_) (fun h => ?_)
  · exact absurd rfl h
  · refine aw_iconst (v := (-1)) dX4_takeBack_7 (by decide) ?_
    refine aw_iret dX4_takeBack_8 rfl rfl ?_
    exact ⟨rfl, rfl⟩
theorem c_takeBack (hC : ShC G n kd R) {P : Nat} (hP : I 10 3 = nI (P + 1)) (hP1 : P < 200) {N : Nat} (hN : I 8 1 = nI N) (hV : LV G n kd R N) {k : Nat} (hk : I 11 P = nI k) (hkN : k < N) (h52 : 52 ≤ rc G R 9 k) : EX G mX4_takeBack [.ref (gz G + 10), .ref (gz G + 8)] (n, sz, kd, I, R, J) (some (.int (nI k))) (n, sz, kd, cBack I P (rc G R 9 k), R, J) := by
  refine mm_of rfl [(0, .ref (gz G + 10)), (1, .ref (gz G + 8))] rfl (Nat.le_of_ble_eq_true rfl) ?_
  have hN1 := hV.1
  have hl := hV.2 k hkN
  refine aw_aload_n dX4_takeBack_0 rfl rfl (by first | exact isR_ref _ | exact isR_rf _ | exact isR_null) ?_
  refine aw_get dX4_takeBack_1 fl_X4_21 (sC_k10 hC) (sC_n10 hC) (congrArg Value.int hP) ?_
  refine aw_z_ne (tgt := 9) dX4_takeBack_4 (by decide) rfl (by omega) (fun h => ?_) (fun h => ?_)
  · refine aw_aload_n dX4_takeBack_9 rfl rfl (by first | exact isR_ref _ | exact isR_rf _ | exact isR_null) ?_
    refine aw_dup dX4_takeBack_10 rfl ?_
    refine aw_get dX4_takeBack_11 fl_X4_21 (sC_k10 hC) (sC_n10 hC) (congrArg Value.int hP) ?_
    refine aw_iconst (v := nI 1) dX4_takeBack_14 (by decide) ?_
    refine aw_isubN (by omega) dX4_takeBack_15 ?_
    refine aw_putI dX4_takeBack_16 fl_X4_21 (Or.inl rfl) rfl (sC_k10 hC) (sC_n10 hC) ?_
    rw [show P + 1 - 1 = P by omega]
    refine aw_aload_n dX4_takeBack_19 rfl rfl (by first | exact isR_ref _ | exact isR_rf _ | exact isR_null) ?_
    refine aw_aload_n dX4_takeBack_20 rfl rfl (by first | exact isR_ref _ | exact isR_rf _ | exact isR_null) ?_
    refine aw_get dX4_takeBack_21 fl_X4_9 (sC_k10 hC) (sC_n10 hC) (sC_r_10_numbers hC _ _) ?_
    refine aw_aload_n dX4_takeBack_24 rfl rfl (by first | exact isR_ref _ | exact isR_rf _ | exact isR_null) ?_
    refine aw_get dX4_takeBack_25 fl_X4_21 (sC_k10 hC) (sC_n10 hC) (show _ = Value.int (nI P) from rfl) ?_
    refine aw_iald dX4_takeBack_28 (sC_k11 hC) (sC_n11 hC) (ixm (by omega)) ?_
    refine aw_top (show _ = nI k from hk) ?_
    refine aw_cVx (as := [_]) dX4_takeBack_29 lk_X4_33 cm_X3_get vi_X3_get (by unfold RO; decide) rfl (sC_k8 hC) (sC_n8 hC) rfl rfl rfl (Nat.le_of_ble_eq_true rfl) (c_mget hC (I := u2 I 10 3 (nI P)) hN hN1 _) ?_
    rw [rgl_nI (Nat.zero_le _) hkN (by omega)]
    dsimp only
    rw [hl.1]
    refine aw_st (st' := [.ref (gz G + rc G R 9 k)]) rfl ?_
    refine aw_astore_n (lv' := [(0, _), (1, _), (2, _)]) dX4_takeBack_32 rfl (by decide) rfl ?_
    refine aw_aload_n dX4_takeBack_33 rfl rfl (by first | exact isR_ref _ | exact isR_rf _ | exact isR_null) ?_
    refine aw_st (st' := [va_rf (some (gz G + rc G R 9 k))]) rfl ?_
    refine aw_ifnull (tgt := 63) dX4_takeBack_34 (by decide) (fun h2 => ?_) (fun a_h2 h2 => ?_)
    · cases h2
    · refine aw_aload_n dX4_takeBack_37 rfl rfl (by first | exact isR_ref _ | exact isR_rf _ | exact isR_null) ?_
      refine aw_aload_n dX4_takeBack_38 rfl rfl (by first | exact isR_ref _ | exact isR_rf _ | exact isR_null) ?_
      refine aw_get dX4_takeBack_39 fl_X4_15 (sC_k10 hC) (sC_n10 hC) (sC_r_10_lay hC _ _) ?_
      refine aw_aload_n dX4_takeBack_42 rfl rfl (by first | exact isR_ref _ | exact isR_rf _ | exact isR_null) ?_
      refine aw_get dX4_takeBack_43 fl_X4_21 (sC_k10 hC) (sC_n10 hC) (show _ = Value.int (nI P) from rfl) ?_
      refine aw_iald dX4_takeBack_46 (sC_k12 hC) (sC_n12 hC) (ixm (by omega)) ?_
      refine aw_putI dX4_takeBack_47 fl_X4_25 (Or.inl rfl) rfl hl.o.1 hl.o.2 ?_
      have e1 : u2 (u2 I 10 3 (nI P)) (rc G R 9 k) 4 (I 12 P) 10 3 = nI P := by rw [u2_row _ _ _ (by omega), u2_same]
      refine aw_aload_n dX4_takeBack_50 rfl rfl (by first | exact isR_ref _ | exact isR_rf _ | exact isR_null) ?_
      refine aw_aload_n dX4_takeBack_51 rfl rfl (by first | exact isR_ref _ | exact isR_rf _ | exact isR_null) ?_
      refine aw_get dX4_takeBack_52 fl_X4_18 (sC_k10 hC) (sC_n10 hC) (sC_r_10_belonged hC _ _) ?_
      refine aw_aload_n dX4_takeBack_55 rfl rfl (by first | exact isR_ref _ | exact isR_rf _ | exact isR_null) ?_
      refine aw_get dX4_takeBack_56 fl_X4_21 (sC_k10 hC) (sC_n10 hC) (congrArg Value.int e1) ?_
      refine aw_iald dX4_takeBack_59 (sC_k13 hC) (sC_n13 hC) (ixm (by omega)) ?_
      refine aw_top (show _ = I 13 P from by rw [u2_row _ _ _ (by omega), u2_row _ _ _ (by omega)]) ?_
      refine aw_putI dX4_takeBack_60 fl_X4_30 (Or.inl rfl) rfl hl.o.1 hl.o.2 ?_
      have e2 : u2 (u2 (u2 I 10 3 (nI P)) (rc G R 9 k) 4 (I 12 P)) (rc G R 9 k) 5 (I 13 P) 10 3 = nI P := by rw [u2_row _ _ _ (by omega), e1]
      refine aw_aload_n dX4_takeBack_63 rfl rfl (by first | exact isR_ref _ | exact isR_rf _ | exact isR_null) ?_
      refine aw_get dX4_takeBack_64 fl_X4_9 (sC_k10 hC) (sC_n10 hC) (sC_r_10_numbers hC _ _) ?_
      refine aw_aload_n dX4_takeBack_67 rfl rfl (by first | exact isR_ref _ | exact isR_rf _ | exact isR_null) ?_
      refine aw_get dX4_takeBack_68 fl_X4_21 (sC_k10 hC) (sC_n10 hC) (congrArg Value.int e2) ?_
      refine aw_iald dX4_takeBack_71 (sC_k11 hC) (sC_n11 hC) (ixm (by omega)) ?_
      refine aw_top (show _ = nI k from by rw [u2_row _ _ _ (by omega), u2_row _ _ _ (by omega), u2_row _ _ _ (by omega)]; exact hk) ?_
      refine aw_iret dX4_takeBack_72 rfl rfl ?_
      exact ⟨rfl, rfl⟩
  · exact absurd h (by omega)
def cCost (I : Nat → Nat → Int32) (x c : Int32) : Int32 × (Nat → Nat → Int32) :=
  if x = nI 0 then (if (rgl c 0 101).isSome then (I 14 0, u2 I 14 0 c) else (-1, I))
  else if x = nI 1 then (if (rgl c 0 101).isSome then (I 14 1, u2 I 14 1 c) else (-1, I))
  else match rgl x 10 18 with
    | none => (-1, I)
    | some j => if (rgl c 0 1001).isSome then (I 15 (j - 10), u2 I 15 (j - 10) c) else (-1, I)
theorem rgl_m10 (x : Int32) : rgl (x - nI 10) 0 8 = (rgl x 10 18).map (fun j => j - 10) := by
  cases h : rgl x 10 18 with
  | some j =>
    obtain ⟨rfl, h1, h2⟩ := rgl_some h
    rw [pk_sub h1, rgl_nI (Nat.zero_le _) (by omega) (by omega)]
    rfl
  | none =>
    cases h2 : rgl (x - nI 10) 0 8 with
    | none => rfl
    | some j =>
      obtain ⟨e, -, hj⟩ := rgl_some h2
      have e2 : x = nI (j + 10) := by
        rw [← nI_add, ← e]
        simp
      exact absurd e2 (rgl_none h (by omega) (by omega) (by omega))
theorem c_change (hC : ShC G n kd R) (x c : Int32) : EX G mX0_change [.ref (gz G + 14), .int x, .int c] (n, sz, kd, I, R, J) (some (.int (cCost I x c).1)) (n, sz, kd, (cCost I x c).2, R, J) := by
  refine mm_of rfl [(0, .ref (gz G + 14)), (1, .int x), (2, .int c)] rfl (Nat.le_of_ble_eq_true rfl) ?_
  refine aw_iload_n dX0_change_0 rfl rfl ?_
  refine aw_bipush (v := nI 10) dX0_change_1 (by decide) ?_
  refine aw_isub dX0_change_3 ?_
  refine aw_istore_n (lv' := [(0, _), (1, _), (2, _), (3, _)]) dX0_change_4 rfl (by decide) rfl ?_
  refine aw_iconst (v := (-1)) dX0_change_5 (by decide) ?_
  refine aw_istore (lv' := [(0, _), (1, _), (2, _), (3, _), (4, _)]) dX0_change_6 (by decide) rfl ?_
  refine aw_iload_n dX0_change_8 rfl rfl ?_
  have last : ∀ v I', cCost I x c = (v, I') → AW G mX0_change 97 [(0, .ref (gz G + 14)), (1, .int x), (2, .int c), (3, .int (x - nI 10)), (4, .int v)] [] (n, sz, kd, I', R, J) (fun v' M' => v' = some (.int (cCost I x c).1) ∧ M' = (n, sz, kd, (cCost I x c).2, R, J)) := by
    intro v I' e
    refine aw_iload dX0_change_97 rfl ?_
    refine aw_iret dX0_change_99 rfl rfl ?_
    rw [e]
    exact ⟨rfl, rfl⟩
  have third : ¬ x = nI 0 → ¬ x = nI 1 → AW G mX0_change 63 [(0, .ref (gz G + 14)), (1, .int x), (2, .int c), (3, .int (x - nI 10)), (4, .int (-1))] [] (n, sz, kd, I, R, J) (fun v' M' => v' = some (.int (cCost I x c).1) ∧ M' = (n, sz, kd, (cCost I x c).2, R, J)) := by
    intro h0 h1
    refine aw_iload_n dX0_change_63 rfl rfl ?_
    refine aw_bipush (v := nI 8) dX0_change_64 (by decide) ?_
    refine aw_cSx (as := [_, _]) dX0_change_66 lk_X0_22 cm_X9_isWithin sm_X9_isWithin (by unfold RO; decide) rfl rfl (Nat.le_of_ble_eq_true rfl) (c_isWithin _ (by decide) _) ?_
    refine aw_b_eq (tgt := 97) dX0_change_69 (by decide) rfl (fun h2 => ?_) (fun h2 => ?_)
    · refine last _ _ ?_
      unfold cCost
      rw [if_neg h0, if_neg h1]
      rw [rgl_m10] at h2
      cases hh : rgl x 10 18 with
      | none => rfl
      | some j => rw [hh] at h2; cases h2
    · rw [rgl_m10] at h2
      cases hh : rgl x 10 18 with
      | none => rw [hh] at h2; cases h2
      | some j =>
        obtain ⟨rfl, hj1, hj2⟩ := rgl_some hh
        refine aw_iload_n dX0_change_72 rfl rfl ?_
        refine aw_sipush (v := nI 1001) dX0_change_73 (by decide) ?_
        refine aw_cSx (as := [_, _]) dX0_change_76 lk_X0_22 cm_X9_isWithin sm_X9_isWithin (by unfold RO; decide) rfl rfl (Nat.le_of_ble_eq_true rfl) (c_isWithin _ (by decide) _) ?_
        refine aw_b_eq (tgt := 97) dX0_change_79 (by decide) rfl (fun h3 => ?_) (fun h3 => ?_)
        · refine last _ _ ?_
          unfold cCost
          rw [if_neg h0, if_neg h1, hh]
          dsimp only
          rw [if_neg (by rw [h3]; exact Bool.false_ne_true)]
        · refine aw_aload_n dX0_change_82 rfl rfl (by first | exact isR_ref _ | exact isR_rf _ | exact isR_null) ?_
          refine aw_get dX0_change_83 fl_X0_18 (sC_k14 hC) (sC_n14 hC) (sC_r_14_ofWrong hC _ _) ?_
          refine aw_iload_n dX0_change_86 rfl rfl ?_
          refine aw_iald dX0_change_87 (sC_k15 hC) (sC_n15 hC) (ixe (j := j - 10) (pk_sub hj1) (by omega)) ?_
          refine aw_istore (lv' := [(0, _), (1, _), (2, _), (3, _), (4, _)]) dX0_change_88 (by decide) rfl ?_
          refine aw_aload_n dX0_change_90 rfl rfl (by first | exact isR_ref _ | exact isR_rf _ | exact isR_null) ?_
          refine aw_get dX0_change_91 fl_X0_18 (sC_k14 hC) (sC_n14 hC) (sC_r_14_ofWrong hC _ _) ?_
          refine aw_iload_n dX0_change_94 rfl rfl ?_
          refine aw_iload_n dX0_change_95 rfl rfl ?_
          refine aw_iast dX0_change_96 (sC_k15 hC) (sC_n15 hC) (ixe (j := j - 10) (pk_sub hj1) (by omega)) ?_
          refine last _ _ ?_
          unfold cCost
          rw [if_neg h0, if_neg h1, hh]
          dsimp only
          rw [if_pos h3]
  refine aw_if_ne (tgt := 35) dX0_change_9 (by decide) (fun h0 => ?_) (fun h0 => ?_)
  · refine aw_iload_n dX0_change_35 rfl rfl ?_
    refine aw_iconst (v := nI 1) dX0_change_36 (by decide) ?_
    have h0' : ¬ x = nI 0 := h0
    refine aw_icmp_ne (tgt := 63) dX0_change_37 (by decide) (fun h1 => ?_) (fun h1 => ?_)
    · exact third h0' h1
    · subst h1
      refine aw_iload_n dX0_change_40 rfl rfl ?_
      refine aw_bipush (v := nI 101) dX0_change_41 (by decide) ?_
      refine aw_cSx (as := [_, _]) dX0_change_43 lk_X0_22 cm_X9_isWithin sm_X9_isWithin (by unfold RO; decide) rfl rfl (Nat.le_of_ble_eq_true rfl) (c_isWithin _ (by decide) _) ?_
      refine aw_b_eq (tgt := 63) dX0_change_46 (by decide) rfl (fun h3 => ?_) (fun h3 => ?_)
      · refine aw_lv (fun q hq => hq) ?_
        refine aw_iload_n dX0_change_63 rfl rfl ?_
        refine aw_bipush (v := nI 8) dX0_change_64 (by decide) ?_
        refine aw_cSx (as := [_, _]) dX0_change_66 lk_X0_22 cm_X9_isWithin sm_X9_isWithin (by unfold RO; decide) rfl rfl (Nat.le_of_ble_eq_true rfl) (c_isWithin _ (by decide) _) ?_
        refine aw_b_eq (tgt := 97) dX0_change_69 (by decide) rfl (fun h4 => ?_) (fun h4 => ?_)
        · refine last _ _ ?_
          unfold cCost
          rw [if_neg h0', if_pos rfl, if_neg (by rw [h3]; exact Bool.false_ne_true)]
        · exact absurd h4 (by decide)
      · refine aw_aload_n dX0_change_49 rfl rfl (by first | exact isR_ref _ | exact isR_rf _ | exact isR_null) ?_
        refine aw_get dX0_change_50 fl_X0_15 (sC_k14 hC) (sC_n14 hC) rfl ?_
        refine aw_istore (lv' := [(0, _), (1, _), (2, _), (3, _), (4, _)]) dX0_change_53 (by decide) rfl ?_
        refine aw_aload_n dX0_change_55 rfl rfl (by first | exact isR_ref _ | exact isR_rf _ | exact isR_null) ?_
        refine aw_iload_n dX0_change_56 rfl rfl ?_
        refine aw_putI dX0_change_57 fl_X0_15 (Or.inl rfl) rfl (sC_k14 hC) (sC_n14 hC) ?_
        refine aw_goto (tgt := 97) dX0_change_60 (by decide) ?_
        refine last _ _ ?_
        unfold cCost
        rw [if_neg h0', if_pos rfl, if_pos h3]
  · have h0' : x = nI 0 := h0
    subst h0'
    refine aw_iload_n dX0_change_12 rfl rfl ?_
    refine aw_bipush (v := nI 101) dX0_change_13 (by decide) ?_
    refine aw_cSx (as := [_, _]) dX0_change_15 lk_X0_22 cm_X9_isWithin sm_X9_isWithin (by unfold RO; decide) rfl rfl (Nat.le_of_ble_eq_true rfl) (c_isWithin _ (by decide) _) ?_
    refine aw_b_eq (tgt := 35) dX0_change_18 (by decide) rfl (fun h3 => ?_) (fun h3 => ?_)
    · refine aw_iload_n dX0_change_35 rfl rfl ?_
      refine aw_iconst (v := nI 1) dX0_change_36 (by decide) ?_
      refine aw_icmp_ne (tgt := 63) dX0_change_37 (by decide) (fun h1 => ?_) (fun h1 => ?_)
      · refine aw_iload_n dX0_change_63 rfl rfl ?_
        refine aw_bipush (v := nI 8) dX0_change_64 (by decide) ?_
        refine aw_cSx (as := [_, _]) dX0_change_66 lk_X0_22 cm_X9_isWithin sm_X9_isWithin (by unfold RO; decide) rfl rfl (Nat.le_of_ble_eq_true rfl) (c_isWithin _ (by decide) _) ?_
        refine aw_b_eq (tgt := 97) dX0_change_69 (by decide) rfl (fun h4 => ?_) (fun h4 => ?_)
        · refine last _ _ ?_
          unfold cCost
          rw [if_pos rfl, if_neg (by rw [h3]; exact Bool.false_ne_true)]
        · exact absurd h4 (by decide)
      · exact absurd h1 (by decide)
    · refine aw_aload_n dX0_change_21 rfl rfl (by first | exact isR_ref _ | exact isR_rf _ | exact isR_null) ?_
      refine aw_get dX0_change_22 fl_X0_9 (sC_k14 hC) (sC_n14 hC) rfl ?_
      refine aw_istore (lv' := [(0, _), (1, _), (2, _), (3, _), (4, _)]) dX0_change_25 (by decide) rfl ?_
      refine aw_aload_n dX0_change_27 rfl rfl (by first | exact isR_ref _ | exact isR_rf _ | exact isR_null) ?_
      refine aw_iload_n dX0_change_28 rfl rfl ?_
      refine aw_putI dX0_change_29 fl_X0_9 (Or.inl rfl) rfl (sC_k14 hC) (sC_n14 hC) ?_
      refine aw_goto (tgt := 97) dX0_change_32 (by decide) ?_
      refine last _ _ ?_
      unfold cCost
      rw [if_pos rfl, if_pos h3]
def cByte (v : Int32) (s : Nat) : Int32 := (v.toUInt32 >>> ((nI s).toUInt32 &&& Int32.toUInt32 31)).toInt32 &&& nI 255
def cPut (I : Nat → Nat → Int32) (P : Nat) (b : Int32) : Nat → Nat → Int32 := u2 (u2 I 2 P b) 1 1 (nI (P + 1))
def cFour (I : Nat → Nat → Int32) (P : Nat) (v : Int32) : Nat → Nat → Int32 := cPut (cPut (cPut (cPut I P (cByte v 24)) (P + 1) (cByte v 16)) (P + 2) (cByte v 8)) (P + 3) (cByte v 0)
theorem c_append (hC : ShC G n kd R) {P : Nat} (hT : I 1 1 = nI P) (hP : P + 4 ≤ 100) (v : Int32) : EX G mX8_append [.ref (gz G + 1), .int v] (n, sz, kd, I, R, J) none (n, sz, kd, cFour I P v, R, J) := by
  refine mm_of rfl [(0, .ref (gz G + 1)), (1, .int v)] rfl (Nat.le_of_ble_eq_true rfl) ?_
  have step : ∀ (I : Nat → Nat → Int32) (P s : Nat) (x : Int32), I 1 1 = nI P → P < 100 → s < 25 → x = nI s → ∀ Q, AW G mX8_append 13 [(0, .ref (gz G + 1)), (1, .int v), (2, .int (nI s + (-8)))] [] (n, sz, kd, cPut I P (cByte v s), R, J) Q → AW G mX8_append 13 [(0, .ref (gz G + 1)), (1, .int v), (2, .int x)] [] (n, sz, kd, I, R, J) Q := by
    intro I P s x hT hP hs hx Q K
    subst hx
    refine aw_iload_n dX8_append_13 rfl rfl ?_
    refine aw_z_lt (tgt := 49) dX8_append_14 (by decide) rfl (by omega) ?_
    refine aw_aload_n dX8_append_17 rfl rfl (by first | exact isR_ref _ | exact isR_rf _ | exact isR_null) ?_
    refine aw_get dX8_append_18 fl_X8_9 (sC_k1 hC) (sC_n1 hC) (sC_r_1_bytes hC _ _) ?_
    refine aw_aload_n dX8_append_21 rfl rfl (by first | exact isR_ref _ | exact isR_rf _ | exact isR_null) ?_
    refine aw_get dX8_append_22 fl_X8_15 (sC_k1 hC) (sC_n1 hC) (congrArg Value.int hT) ?_
    refine aw_iload_n dX8_append_25 rfl rfl ?_
    refine aw_iload_n dX8_append_26 rfl rfl ?_
    refine aw_iushr dX8_append_27 ?_
    refine aw_sipush (v := nI 255) dX8_append_28 (by decide) ?_
    refine aw_iand dX8_append_31 ?_
    refine aw_iast dX8_append_32 (sC_k2 hC) (sC_n2 hC) (ixm (by omega)) ?_
    refine aw_aload_n dX8_append_33 rfl rfl (by first | exact isR_ref _ | exact isR_rf _ | exact isR_null) ?_
    refine aw_dup dX8_append_34 rfl ?_
    refine aw_get dX8_append_35 fl_X8_15 (sC_k1 hC) (sC_n1 hC) (congrArg Value.int hT) ?_
    refine aw_iconst (v := nI 1) dX8_append_38 (by decide) ?_
    first | refine aw_iaddN dX8_append_39 ?_ | refine aw_iadd dX8_append_39 ?_
    refine aw_putI dX8_append_40 fl_X8_15 (Or.inl rfl) rfl (sC_k1 hC) (sC_n1 hC) ?_
    refine aw_iinc (v := (-8)) (lv' := [(0, _), (1, _), (2, _)]) dX8_append_43 rfl (by decide) (by decide) rfl ?_
    refine aw_goto (tgt := 13) dX8_append_46 (by decide) ?_
    exact K
  refine aw_aload_n dX8_append_0 rfl rfl (by first | exact isR_ref _ | exact isR_rf _ | exact isR_null) ?_
  refine aw_get dX8_append_1 fl_X8_15 (sC_k1 hC) (sC_n1 hC) (congrArg Value.int hT) ?_
  refine aw_bipush (v := nI 96) dX8_append_4 (by decide) ?_
  refine aw_n_le (tgt := 10) dX8_append_6 (by decide) rfl rfl (by omega) (by omega) (fun h => ?_) (fun h => ?_)
  · refine aw_bipush (v := nI 24) dX8_append_10 (by decide) ?_
    refine aw_istore_n (lv' := [(0, _), (1, _), (2, _)]) dX8_append_12 rfl (by decide) rfl ?_
    refine step I P 24 _ hT (by omega) (by decide) rfl _ ?_
    refine step _ (P + 1) 16 _ rfl (by omega) (by decide) (by decide) _ ?_
    refine step _ (P + 2) 8 _ rfl (by omega) (by decide) (by decide) _ ?_
    refine step _ (P + 3) 0 _ rfl (by omega) (by decide) (by decide) _ ?_
    refine aw_iload_n dX8_append_13 rfl rfl ?_
    refine aw_if_lt (tgt := 49) dX8_append_14 (by decide) (fun h2 => ?_) (fun h2 => ?_)
    · refine aw_vret dX8_append_49 rfl ?_
      exact ⟨rfl, rfl⟩
    · exact absurd (by decide : nI 0 + (-8) < 0) h2
  · exact absurd (show P ≤ 96 by omega) h
def cFeed (I : Nat → Nat → Int32) (P : Nat) (a b c d e : Int32) : Nat → Nat → Int32 := cFour (cFour (cFour (cFour (cFour I P a) (P + 4) b) (P + 8) c) (P + 12) d) (P + 16) e
theorem c_feed (hC : ShC G n kd R) {P : Nat} (hT : I 1 1 = nI P) (hT1 : P ≤ 100) (a b c d e : Int32) : EX G mX9_feed [.ref (gz G + 0), .int a, .int b, .int c, .int d, .int e] (n, sz, kd, I, R, J) (some (.int (if P ≤ 80 then nI (P + 20) else -1))) (n, sz, kd, if P ≤ 80 then cFeed I P a b c d e else I, R, J) := by
  refine mm_of rfl [(0, .ref (gz G + 0)), (1, .int a), (2, .int b), (3, .int c), (4, .int d), (5, .int e)] rfl (Nat.le_of_ble_eq_true rfl) ?_
  refine aw_aload_n dX9_feed_0 rfl rfl (by first | exact isR_ref _ | exact isR_rf _ | exact isR_null) ?_
  refine aw_get dX9_feed_1 fl_X9_10 (sC_k0 hC) (sC_n0 hC) (sC_r_0_tape hC _ _) ?_
  refine aw_get dX9_feed_4 fl_X9_62 (sC_k1 hC) (sC_n1 hC) (congrArg Value.int hT) ?_
  refine aw_bipush (v := nI 20) dX9_feed_7 (by decide) ?_
  first | refine aw_iaddN dX9_feed_9 ?_ | refine aw_iadd dX9_feed_9 ?_
  refine aw_bipush (v := nI 100) dX9_feed_10 (by decide) ?_
  refine aw_n_le (tgt := 17) dX9_feed_12 (by decide) rfl rfl (by omega) (by omega) (fun h => ?_) (fun h => ?_)
  · have h80 : P ≤ 80 := by omega
    rw [if_pos h80, if_pos h80]
    refine aw_aload_n dX9_feed_17 rfl rfl (by first | exact isR_ref _ | exact isR_rf _ | exact isR_null) ?_
    refine aw_get dX9_feed_18 fl_X9_10 (sC_k0 hC) (sC_n0 hC) (sC_r_0_tape hC _ _) ?_
    refine aw_iload_n dX9_feed_21 rfl rfl ?_
    refine aw_cVv (as := [_]) dX9_feed_22 lk_X9_66 cm_X8_append vi_X8_append (by unfold RO; decide) rfl (sC_k1 hC) (sC_n1 hC) rfl rfl rfl (Nat.le_of_ble_eq_true rfl) (c_append hC hT (by omega) _) ?_
    refine aw_aload_n dX9_feed_25 rfl rfl (by first | exact isR_ref _ | exact isR_rf _ | exact isR_null) ?_
    refine aw_get dX9_feed_26 fl_X9_10 (sC_k0 hC) (sC_n0 hC) (sC_r_0_tape hC _ _) ?_
    refine aw_iload_n dX9_feed_29 rfl rfl ?_
    refine aw_cVv (as := [_]) dX9_feed_30 lk_X9_66 cm_X8_append vi_X8_append (by unfold RO; decide) rfl (sC_k1 hC) (sC_n1 hC) rfl rfl rfl (Nat.le_of_ble_eq_true rfl) (c_append hC (P := P + 4) rfl (by omega) _) ?_
    refine aw_aload_n dX9_feed_33 rfl rfl (by first | exact isR_ref _ | exact isR_rf _ | exact isR_null) ?_
    refine aw_get dX9_feed_34 fl_X9_10 (sC_k0 hC) (sC_n0 hC) (sC_r_0_tape hC _ _) ?_
    refine aw_iload_n dX9_feed_37 rfl rfl ?_
    refine aw_cVv (as := [_]) dX9_feed_38 lk_X9_66 cm_X8_append vi_X8_append (by unfold RO; decide) rfl (sC_k1 hC) (sC_n1 hC) rfl rfl rfl (Nat.le_of_ble_eq_true rfl) (c_append hC (P := P + 8) rfl (by omega) _) ?_
    refine aw_aload_n dX9_feed_41 rfl rfl (by first | exact isR_ref _ | exact isR_rf _ | exact isR_null) ?_
    refine aw_get dX9_feed_42 fl_X9_10 (sC_k0 hC) (sC_n0 hC) (sC_r_0_tape hC _ _) ?_
    refine aw_iload dX9_feed_45 rfl ?_
    refine aw_cVv (as := [_]) dX9_feed_47 lk_X9_66 cm_X8_append vi_X8_append (by unfold RO; decide) rfl (sC_k1 hC) (sC_n1 hC) rfl rfl rfl (Nat.le_of_ble_eq_true rfl) (c_append hC (P := P + 12) rfl (by omega) _) ?_
    refine aw_aload_n dX9_feed_50 rfl rfl (by first | exact isR_ref _ | exact isR_rf _ | exact isR_null) ?_
    refine aw_get dX9_feed_51 fl_X9_10 (sC_k0 hC) (sC_n0 hC) (sC_r_0_tape hC _ _) ?_
    refine aw_iload dX9_feed_54 rfl ?_
    refine aw_cVv (as := [_]) dX9_feed_56 lk_X9_66 cm_X8_append vi_X8_append (by unfold RO; decide) rfl (sC_k1 hC) (sC_n1 hC) rfl rfl rfl (Nat.le_of_ble_eq_true rfl) (c_append hC (P := P + 16) rfl (by omega) _) ?_
    refine aw_aload_n dX9_feed_59 rfl rfl (by first | exact isR_ref _ | exact isR_rf _ | exact isR_null) ?_
    refine aw_get dX9_feed_60 fl_X9_10 (sC_k0 hC) (sC_n0 hC) (sC_r_0_tape hC _ _) ?_
    refine aw_get dX9_feed_63 fl_X9_62 (sC_k1 hC) (sC_n1 hC) (show _ = Value.int (nI (P + 20)) from rfl) ?_
    refine aw_iret dX9_feed_66 rfl rfl ?_
    exact ⟨rfl, rfl⟩
  · have h80 : ¬ P ≤ 80 := by omega
    rw [if_neg h80, if_neg h80]
    refine aw_iconst (v := (-1)) dX9_feed_15 (by decide) ?_
    refine aw_iret dX9_feed_16 rfl rfl ?_
    exact ⟨rfl, rfl⟩
theorem c_end (hC : ShC G n kd R) {P : Nat} (hT : I 1 1 = nI P) (hT1 : P ≤ 100) (x : Int32) : EX G mX9_end [.ref (gz G + 0), .int x] (n, sz, kd, I, R, J) (some (.int (match rgl x 0 (P + 1) with | none => -1 | some _ => x))) (n, sz, kd, match rgl x 0 (P + 1) with | none => I | some _ => u2 I 1 1 x, R, J) := by
  refine mm_of rfl [(0, .ref (gz G + 0)), (1, .int x)] rfl (Nat.le_of_ble_eq_true rfl) ?_
  refine aw_iload_n dX9_end_0 rfl rfl ?_
  refine aw_if_lt (tgt := 15) dX9_end_1 (by decide) (fun h => ?_) (fun h => ?_)
  · refine aw_iconst (v := (-1)) dX9_end_15 (by decide) ?_
    refine aw_iret dX9_end_16 rfl rfl ?_
    cases hh : rgl x 0 (P + 1) with
    | none => exact ⟨rfl, rfl⟩
    | some j => exact absurd h ((rglW (x := x) (b := P + 1) (by omega)).mp (by rw [hh]; rfl)).1
  · refine aw_iload_n dX9_end_4 rfl rfl ?_
    refine aw_aload_n dX9_end_5 rfl rfl (by first | exact isR_ref _ | exact isR_rf _ | exact isR_null) ?_
    refine aw_get dX9_end_6 fl_X9_10 (sC_k0 hC) (sC_n0 hC) (sC_r_0_tape hC _ _) ?_
    refine aw_get dX9_end_9 fl_X9_62 (sC_k1 hC) (sC_n1 hC) (congrArg Value.int hT) ?_
    refine aw_icmp_le (tgt := 17) dX9_end_12 (by decide) (fun h2 => ?_) (fun h2 => ?_)
    · refine aw_aload_n dX9_end_17 rfl rfl (by first | exact isR_ref _ | exact isR_rf _ | exact isR_null) ?_
      refine aw_get dX9_end_18 fl_X9_10 (sC_k0 hC) (sC_n0 hC) (sC_r_0_tape hC _ _) ?_
      refine aw_iload_n dX9_end_21 rfl rfl ?_
      refine aw_putI dX9_end_22 fl_X9_62 (Or.inl rfl) rfl (sC_k1 hC) (sC_n1 hC) ?_
      refine aw_iload_n dX9_end_25 rfl rfl ?_
      refine aw_iret dX9_end_26 rfl rfl ?_
      cases hh : rgl x 0 (P + 1) with
      | some j => exact ⟨rfl, rfl⟩
      | none =>
        exfalso
        have h3 := (rglW (x := x) (b := P + 1) (by omega)).mpr ⟨h, fun z => absurd (Int32.le_trans z h2) (nI_ge (by omega) (by omega))⟩
        rw [hh] at h3
        cases h3
    · refine aw_iconst (v := (-1)) dX9_end_15 (by decide) ?_
      refine aw_iret dX9_end_16 rfl rfl ?_
      cases hh : rgl x 0 (P + 1) with
      | none => exact ⟨rfl, rfl⟩
      | some j =>
        obtain ⟨rfl, -, hj⟩ := rgl_some hh
        exact absurd (nI_le (by omega) (by omega)) h2
theorem c_cost (hC : ShC G n kd R) (x c : Int32) : EX G mX9_cost [.ref (gz G + 0), .int x, .int c] (n, sz, kd, I, R, J) (some (.int (cCost I x c).1)) (n, sz, kd, (cCost I x c).2, R, J) := by
  refine mm_of rfl [(0, .ref (gz G + 0)), (1, .int x), (2, .int c)] rfl (Nat.le_of_ble_eq_true rfl) ?_
  refine aw_aload_n dX9_cost_0 rfl rfl (by first | exact isR_ref _ | exact isR_rf _ | exact isR_null) ?_
  refine aw_get dX9_cost_1 fl_X9_49 (sC_k0 hC) (sC_n0 hC) (sC_r_0_costs hC _ _) ?_
  refine aw_iload_n dX9_cost_4 rfl rfl ?_
  refine aw_iload_n dX9_cost_5 rfl rfl ?_
  refine aw_cVx (as := [_, _]) dX9_cost_6 lk_X9_129 cm_X0_change vi_X0_change (by unfold RO; decide) rfl (sC_k14 hC) (sC_n14 hC) rfl rfl rfl (Nat.le_of_ble_eq_true rfl) (c_change hC _ _) ?_
  refine aw_iret dX9_cost_9 rfl rfl ?_
  exact ⟨rfl, rfl⟩
theorem c_undo0 (hC : ShC G n kd R) (hP : I 10 3 = nI 0) : EX G mX9_undo [.ref (gz G + 0)] (n, sz, kd, I, R, J) (some (.int (-1))) (n, sz, kd, I, R, J) := by
  refine mm_of rfl [(0, .ref (gz G + 0))] rfl (Nat.le_of_ble_eq_true rfl) ?_
  refine aw_aload_n dX9_undo_0 rfl rfl (by first | exact isR_ref _ | exact isR_rf _ | exact isR_null) ?_
  refine aw_get dX9_undo_1 fl_X9_42 (sC_k0 hC) (sC_n0 hC) (sC_r_0_moves hC _ _) ?_
  refine aw_aload_n dX9_undo_4 rfl rfl (by first | exact isR_ref _ | exact isR_rf _ | exact isR_null) ?_
  refine aw_get dX9_undo_5 fl_X9_35 (sC_k0 hC) (sC_n0 hC) (sC_r_0_mail hC _ _) ?_
  refine aw_cVx (as := [_]) dX9_undo_8 lk_X9_125 cm_X4_takeBack vi_X4_takeBack (by unfold RO; decide) rfl (sC_k10 hC) (sC_n10 hC) rfl rfl rfl (Nat.le_of_ble_eq_true rfl) (c_takeBack0 hC hP) ?_
  refine aw_iret dX9_undo_11 rfl rfl ?_
  exact ⟨rfl, rfl⟩
theorem c_undo (hC : ShC G n kd R) {P : Nat} (hP : I 10 3 = nI (P + 1)) (hP1 : P < 200) {N : Nat} (hN : I 8 1 = nI N) (hV : LV G n kd R N) {k : Nat} (hk : I 11 P = nI k) (hkN : k < N) (h52 : 52 ≤ rc G R 9 k) : EX G mX9_undo [.ref (gz G + 0)] (n, sz, kd, I, R, J) (some (.int (nI k))) (n, sz, kd, cBack I P (rc G R 9 k), R, J) := by
  refine mm_of rfl [(0, .ref (gz G + 0))] rfl (Nat.le_of_ble_eq_true rfl) ?_
  refine aw_aload_n dX9_undo_0 rfl rfl (by first | exact isR_ref _ | exact isR_rf _ | exact isR_null) ?_
  refine aw_get dX9_undo_1 fl_X9_42 (sC_k0 hC) (sC_n0 hC) (sC_r_0_moves hC _ _) ?_
  refine aw_aload_n dX9_undo_4 rfl rfl (by first | exact isR_ref _ | exact isR_rf _ | exact isR_null) ?_
  refine aw_get dX9_undo_5 fl_X9_35 (sC_k0 hC) (sC_n0 hC) (sC_r_0_mail hC _ _) ?_
  refine aw_cVx (as := [_]) dX9_undo_8 lk_X9_125 cm_X4_takeBack vi_X4_takeBack (by unfold RO; decide) rfl (sC_k10 hC) (sC_n10 hC) rfl rfl rfl (Nat.le_of_ble_eq_true rfl) (c_takeBack hC hP hP1 hN hV hk hkN h52) ?_
  refine aw_iret dX9_undo_11 rfl rfl ?_
  exact ⟨rfl, rfl⟩
theorem c_drop (hC : ShC G n kd R) (x : Int32) : EX G mX9_drop [.ref (gz G + 0), .int x] (n, sz, kd, I, R, J) (some (.int (bi (match rgl x 0 10 with | none => false | some h => thC R h)))) (n, sz, kd, I, (match rgl x 0 10 with | none => R | some h => if thC R h then u2 R 6 h none else R), J) := by
  refine mm_of rfl [(0, .ref (gz G + 0)), (1, .int x)] rfl (Nat.le_of_ble_eq_true rfl) ?_
  refine aw_iload_n dX9_drop_0 rfl rfl ?_
  refine aw_if_lt (tgt := 22) dX9_drop_1 (by decide) (fun h => ?_) (fun h => ?_)
  · refine aw_iconst (v := nI 0) dX9_drop_22 (by decide) ?_
    refine aw_iret dX9_drop_23 rfl rfl ?_
    cases hh : rgl x 0 10 with
    | none => exact ⟨rfl, rfl⟩
    | some j => exact absurd h ((rglW (x := x) (b := 10) (by decide)).mp (by rw [hh]; rfl)).1
  · refine aw_iload_n dX9_drop_4 rfl rfl ?_
    refine aw_bipush (v := nI 10) dX9_drop_5 (by decide) ?_
    refine aw_icmp_ge (tgt := 22) dX9_drop_7 (by decide) (fun h2 => ?_) (fun h2 => ?_)
    · refine aw_iconst (v := nI 0) dX9_drop_22 (by decide) ?_
      refine aw_iret dX9_drop_23 rfl rfl ?_
      cases hh : rgl x 0 10 with
      | none => exact ⟨rfl, rfl⟩
      | some j => exact absurd h2 ((rglW (x := x) (b := 10) (by decide)).mp (by rw [hh]; rfl)).2
    · have h3 := (rglW (x := x) (b := 10) (by decide)).mpr ⟨h, h2⟩
      cases hh : rgl x 0 10 with
      | none => rw [hh] at h3; cases h3
      | some j =>
        obtain ⟨rfl, -, hj⟩ := rgl_some hh
        dsimp only
        refine aw_aload_n dX9_drop_10 rfl rfl (by first | exact isR_ref _ | exact isR_rf _ | exact isR_null) ?_
        refine aw_get dX9_drop_11 fl_X9_28 (sC_k0 hC) (sC_n0 hC) (sC_r_0_row hC _ _) ?_
        refine aw_get dX9_drop_14 fl_X9_77 (sC_k5 hC) (sC_n5 hC) (sC_r_5_hands hC _ _) ?_
        refine aw_iload_n dX9_drop_17 rfl rfl ?_
        refine aw_aald dX9_drop_18 (by decide) (sC_k6 hC) (sC_n6 hC) (ixm (by omega)) ?_
        refine aw_ifnonnull (tgt := 24) dX9_drop_19 (by decide) (fun a_h4 h4 => ?_) (fun h4 => ?_)
        · rw [thC_s h4]
          refine aw_aload_n dX9_drop_24 rfl rfl (by first | exact isR_ref _ | exact isR_rf _ | exact isR_null) ?_
          refine aw_get dX9_drop_25 fl_X9_28 (sC_k0 hC) (sC_n0 hC) (sC_r_0_row hC _ _) ?_
          refine aw_get dX9_drop_28 fl_X9_77 (sC_k5 hC) (sC_n5 hC) (sC_r_5_hands hC _ _) ?_
          refine aw_iload_n dX9_drop_31 rfl rfl ?_
          refine aw_null dX9_drop_32 ?_
          refine aw_aastN dX9_drop_33 (by decide) (sC_k6 hC) (sC_n6 hC) (ixm (by omega)) ?_
          refine aw_iconst (v := nI 1) dX9_drop_34 (by decide) ?_
          refine aw_iret dX9_drop_35 rfl rfl ?_
          exact ⟨rfl, rfl⟩
        · rw [thC_n h4]
          refine aw_iconst (v := nI 0) dX9_drop_22 (by decide) ?_
          refine aw_iret dX9_drop_23 rfl rfl ?_
          exact ⟨rfl, rfl⟩
theorem c_move0 (hC : ShC G n kd R) {N : Nat} (hN : I 8 1 = nI N) (hN1 : N ≤ 100) {P : Nat} (hP : I 10 3 = nI P) (hP1 : P ≤ 200) (hV : LV G n kd R N) (x f : Int32) (hno : ((rgl x 0 N).isSome && ((rgl f 0 8).isSome && !decide (P = 200))) = false) : EX G mX9_move [.ref (gz G + 0), .int x, .int f] (n, sz, kd, I, R, J) (some (.int (bi false))) (n, sz, kd, I, R, J) := by
  refine mm_of rfl [(0, .ref (gz G + 0)), (1, .int x), (2, .int f)] rfl (Nat.le_of_ble_eq_true rfl) ?_
  refine aw_aload_n dX9_move_0 rfl rfl (by first | exact isR_ref _ | exact isR_rf _ | exact isR_null) ?_
  refine aw_get dX9_move_1 fl_X9_35 (sC_k0 hC) (sC_n0 hC) (sC_r_0_mail hC _ _) ?_
  refine aw_iload_n dX9_move_4 rfl rfl ?_
  refine aw_cVx (as := [_]) dX9_move_5 lk_X9_110 cm_X3_get vi_X3_get (by unfold RO; decide) rfl (sC_k8 hC) (sC_n8 hC) rfl rfl rfl (Nat.le_of_ble_eq_true rfl) (c_mget hC hN hN1 _) ?_
  refine aw_astoreG_n (lv' := [(0, _), (1, _), (2, _), (3, _)]) dX9_move_8 rfl (by decide) rfl ?_
  refine aw_aload_n dX9_move_9 rfl rfl (by first | exact isR_ref _ | exact isR_rf _ | exact isR_null) ?_
  refine aw_ifnull (tgt := 35) dX9_move_10 (by decide) (fun h => ?_) (fun a_h h => ?_)
  · refine aw_iconst (v := nI 0) dX9_move_35 (by decide) ?_
    refine aw_iret dX9_move_36 rfl rfl ?_
    exact ⟨rfl, rfl⟩
  · refine aw_iload_n dX9_move_13 rfl rfl ?_
    refine aw_bipush (v := nI 8) dX9_move_14 (by decide) ?_
    refine aw_cSx (as := [_, _]) dX9_move_16 lk_X9_85 cm_X9_isWithin sm_X9_isWithin (by unfold RO; decide) rfl rfl (Nat.le_of_ble_eq_true rfl) (c_isWithin _ (by decide) _) ?_
    refine aw_b_eq (tgt := 35) dX9_move_19 (by decide) rfl (fun h2 => ?_) (fun h2 => ?_)
    · refine aw_iconst (v := nI 0) dX9_move_35 (by decide) ?_
      refine aw_iret dX9_move_36 rfl rfl ?_
      exact ⟨rfl, rfl⟩
    · refine aw_aload_n dX9_move_22 rfl rfl (by first | exact isR_ref _ | exact isR_rf _ | exact isR_null) ?_
      refine aw_get dX9_move_23 fl_X9_42 (sC_k0 hC) (sC_n0 hC) (sC_r_0_moves hC _ _) ?_
      refine aw_get dX9_move_26 fl_X9_114 (sC_k10 hC) (sC_n10 hC) (congrArg Value.int hP) ?_
      refine aw_sipush (v := nI 200) dX9_move_29 (by decide) ?_
      refine aw_n_ne (tgt := 37) dX9_move_32 (by decide) rfl rfl (by omega) (by omega) (fun h3 => ?_) (fun h3 => ?_)
      · exfalso
        cases hh : rgl x 0 N with
        | none => rw [hh] at h; cases h
        | some j =>
          rw [hh, h2, decide_eq_false h3] at hno
          cases hno
      · refine aw_iconst (v := nI 0) dX9_move_35 (by decide) ?_
        refine aw_iret dX9_move_36 rfl rfl ?_
        exact ⟨rfl, rfl⟩
def cMove (I : Nat → Nat → Int32) (P k l : Nat) (f : Int32) : Nat → Nat → Int32 := u2 (u2 (cPush I P (nI k) l) l 4 f) l 5 f
theorem c_move (hC : ShC G n kd R) {N : Nat} (hN : I 8 1 = nI N) {P : Nat} (hP : I 10 3 = nI P) (hP1 : P < 200) (hV : LV G n kd R N) {k : Nat} (hk : k < N) (h52 : 52 ≤ rc G R 9 k) (f : Int32) (hf : (rgl f 0 8).isSome = true) : EX G mX9_move [.ref (gz G + 0), .int (nI k), .int f] (n, sz, kd, I, R, J) (some (.int (bi true))) (n, sz, kd, cMove I P k (rc G R 9 k) f, R, J) := by
  refine mm_of rfl [(0, .ref (gz G + 0)), (1, .int (nI k)), (2, .int f)] rfl (Nat.le_of_ble_eq_true rfl) ?_
  have hN1 := hV.1
  have hl := hV.2 k hk
  refine aw_aload_n dX9_move_0 rfl rfl (by first | exact isR_ref _ | exact isR_rf _ | exact isR_null) ?_
  refine aw_get dX9_move_1 fl_X9_35 (sC_k0 hC) (sC_n0 hC) (sC_r_0_mail hC _ _) ?_
  refine aw_iload_n dX9_move_4 rfl rfl ?_
  refine aw_cVx (as := [_]) dX9_move_5 lk_X9_110 cm_X3_get vi_X3_get (by unfold RO; decide) rfl (sC_k8 hC) (sC_n8 hC) rfl rfl rfl (Nat.le_of_ble_eq_true rfl) (c_mget hC hN hN1 _) ?_
  rw [rgl_nI (Nat.zero_le _) hk (by omega)]
  dsimp only
  rw [hl.1]
  refine aw_st (st' := [.ref (gz G + rc G R 9 k)]) rfl ?_
  refine aw_astore_n (lv' := [(0, _), (1, _), (2, _), (3, _)]) dX9_move_8 rfl (by decide) rfl ?_
  refine aw_aload_n dX9_move_9 rfl rfl (by first | exact isR_ref _ | exact isR_rf _ | exact isR_null) ?_
  refine aw_st (st' := [va_rf (some (gz G + rc G R 9 k))]) rfl ?_
  refine aw_ifnull (tgt := 35) dX9_move_10 (by decide) (fun h => ?_) (fun a_h h => ?_)
  · cases h
  · refine aw_iload_n dX9_move_13 rfl rfl ?_
    refine aw_bipush (v := nI 8) dX9_move_14 (by decide) ?_
    refine aw_cSx (as := [_, _]) dX9_move_16 lk_X9_85 cm_X9_isWithin sm_X9_isWithin (by unfold RO; decide) rfl rfl (Nat.le_of_ble_eq_true rfl) (c_isWithin _ (by decide) _) ?_
    refine aw_b_eq (tgt := 35) dX9_move_19 (by decide) rfl (fun h2 => ?_) (fun h2 => ?_)
    · rw [hf] at h2; cases h2
    · refine aw_aload_n dX9_move_22 rfl rfl (by first | exact isR_ref _ | exact isR_rf _ | exact isR_null) ?_
      refine aw_get dX9_move_23 fl_X9_42 (sC_k0 hC) (sC_n0 hC) (sC_r_0_moves hC _ _) ?_
      refine aw_get dX9_move_26 fl_X9_114 (sC_k10 hC) (sC_n10 hC) (congrArg Value.int hP) ?_
      refine aw_sipush (v := nI 200) dX9_move_29 (by decide) ?_
      refine aw_n_ne (tgt := 37) dX9_move_32 (by decide) rfl rfl (by omega) (by omega) (fun h3 => ?_) (fun h3 => ?_)
      · refine aw_aload_n dX9_move_37 rfl rfl (by first | exact isR_ref _ | exact isR_rf _ | exact isR_null) ?_
        refine aw_get dX9_move_38 fl_X9_42 (sC_k0 hC) (sC_n0 hC) (sC_r_0_moves hC _ _) ?_
        refine aw_iload_n dX9_move_41 rfl rfl ?_
        refine aw_aload_n dX9_move_42 rfl rfl (by first | exact isR_ref _ | exact isR_rf _ | exact isR_null) ?_
        refine aw_cVv (as := [_, _]) dX9_move_43 lk_X9_115 cm_X4_push vi_X4_push (by unfold RO; decide) rfl (sC_k10 hC) (sC_n10 hC) rfl rfl rfl (Nat.le_of_ble_eq_true rfl) (c_push hC hP hP1 _ hl.o h52) ?_
        refine aw_aload_n dX9_move_46 rfl rfl (by first | exact isR_ref _ | exact isR_rf _ | exact isR_null) ?_
        refine aw_iload_n dX9_move_47 rfl rfl ?_
        refine aw_putI dX9_move_48 fl_X9_119 (Or.inl rfl) rfl hl.o.1 hl.o.2 ?_
        refine aw_aload_n dX9_move_51 rfl rfl (by first | exact isR_ref _ | exact isR_rf _ | exact isR_null) ?_
        refine aw_iload_n dX9_move_52 rfl rfl ?_
        refine aw_putI dX9_move_53 fl_X9_122 (Or.inl rfl) rfl hl.o.1 hl.o.2 ?_
        refine aw_iconst (v := nI 1) dX9_move_56 (by decide) ?_
        refine aw_iret dX9_move_57 rfl rfl ?_
        exact ⟨rfl, rfl⟩
      · exact absurd h3 (by omega)
end CLS4
