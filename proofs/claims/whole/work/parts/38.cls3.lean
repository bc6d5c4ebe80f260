section CLS3
variable {G : GG} {n sz : Nat} {kd : Nat → AKd} {I : Nat → Nat → Int32} {R : Nat → Nat → Option Nat} {J : Nat → Nat → Int64}
def cSo (G : GG) (R : Nat → Nat → Option Nat) (a : Option Nat) (i : Nat) : Bool := decide (R (rc G R 9 i) 2 = a)
def cRi (G : GG) (I : Nat → Nat → Int32) (R : Nat → Nat → Option Nat) (r i : Nat) : Bool := decide (R (rc G R 9 i) 2 = some (gz G + r)) && decide (I (rc G R 9 i) 5 = I r 2)
def cWr (G : GG) (I : Nat → Nat → Int32) (R : Nat → Nat → Option Nat) (r i : Nat) : Bool := decide (R (rc G R 9 i) 2 = some (gz G + r)) && (!decide (I (rc G R 9 i) 5 = -1) && !decide (I (rc G R 9 i) 5 = I r 2))
def cUn (G : GG) (I : Nat → Nat → Int32) (R : Nat → Nat → Option Nat) (J : Nat → Nat → Int64) (c : Int32) (i : Nat) : Bool := decide (R (rc G R 9 i) 2 = none) && (decide (I (rc G R 9 i) 5 = -1) && cPs I J (rc G R 9 i) c)
def cLy (G : GG) (I : Nat → Nat → Int32) (R : Nat → Nat → Option Nat) (f : Int32) (i : Nat) : Bool := decide (I (rc G R 9 i) 4 = f)
theorem c_sortedBy (hC : ShC G n kd R) {N : Nat} (hN : I 8 1 = nI N) (hV : LV G n kd R N) {r : Nat} (hr : iO n kd r 7) : EX G mX3_sortedBy [.ref (gz G + 8), .ref (gz G + r)] (n, sz, kd, I, R, J) (some (.int (nI (cnt (cSo G R (some (gz G + r))) N)))) (n, sz, kd, I, R, J) := by
  refine mm_of rfl [(0, .ref (gz G + 8)), (1, .ref (gz G + r))] rfl (Nat.le_of_ble_eq_true rfl) ?_
  have hN1 := hV.1
  refine aw_iconst (v := nI 0) dX3_sortedBy_0 (by decide) ?_
  refine aw_istore_n (lv' := [(0, _), (1, _), (2, _)]) dX3_sortedBy_1 rfl (by decide) rfl ?_
  refine aw_iconst (v := nI 0) dX3_sortedBy_2 (by decide) ?_
  refine aw_istore_n (lv' := [(0, _), (1, _), (2, _), (3, _)]) dX3_sortedBy_3 rfl (by decide) rfl ?_
  have loop : ∀ d i, i + d = N → ∀ lv, AW G mX3_sortedBy 4 ([(0, .ref (gz G + 8)), (1, .ref (gz G + r)), (2, .int (nI (cnt (cSo G R (some (gz G + r))) i))), (3, .int (nI i))] ++ lv) [] (n, sz, kd, I, R, J) (fun v' M' => v' = some (.int (nI (cnt (cSo G R (some (gz G + r))) N))) ∧ M' = (n, sz, kd, I, R, J)) := by
    intro d
    induction d with
    | zero =>
      intro i hi lv
      have eN : i = N := by omega
      subst eN
      refine aw_app ?_
      refine aw_iload_n dX3_sortedBy_4 rfl rfl ?_
      refine aw_aload_n dX3_sortedBy_5 rfl rfl (by first | exact isR_ref _ | exact isR_rf _ | exact isR_null) ?_
      refine aw_get dX3_sortedBy_6 fl_X3_17 (sC_k8 hC) (sC_n8 hC) (congrArg Value.int hN) ?_
      refine aw_n_ge (tgt := 34) dX3_sortedBy_9 (by decide) rfl rfl (by omega) (by omega) (fun h => ?_) (fun h => ?_)
      · refine aw_iload_n dX3_sortedBy_34 rfl rfl ?_
        refine aw_iret dX3_sortedBy_35 rfl rfl ?_
        exact ⟨rfl, rfl⟩
      · exact absurd h (by omega)
    | succ d ih =>
      intro i hi lv
      refine aw_app ?_
      have hl := hV.2 i (by omega)
      have hcn := cnt_le (cSo G R (some (gz G + r))) i
      refine aw_iload_n dX3_sortedBy_4 rfl rfl ?_
      refine aw_aload_n dX3_sortedBy_5 rfl rfl (by first | exact isR_ref _ | exact isR_rf _ | exact isR_null) ?_
      refine aw_get dX3_sortedBy_6 fl_X3_17 (sC_k8 hC) (sC_n8 hC) (congrArg Value.int hN) ?_
      refine aw_n_ge (tgt := 34) dX3_sortedBy_9 (by decide) rfl rfl (by omega) (by omega) (fun h => ?_) (fun h => ?_)
      · exact absurd h (by omega)
      · refine aw_aload_n dX3_sortedBy_12 rfl rfl (by first | exact isR_ref _ | exact isR_rf _ | exact isR_null) ?_
        refine aw_get dX3_sortedBy_13 fl_X3_11 (sC_k8 hC) (sC_n8 hC) (sC_r_8_letters hC _ _) ?_
        refine aw_iload_n dX3_sortedBy_16 rfl rfl ?_
        refine aw_aaS dX3_sortedBy_17 (by decide) (sC_k9 hC) (sC_n9 hC) (ixm (by omega)) (hl).1 ?_
        refine aw_get (v := va_rf (R _ _)) dX3_sortedBy_18 fl_X3_25 (hl).2.2 (hl).2.1 rfl ?_
        refine aw_aload_n dX3_sortedBy_21 rfl rfl (by first | exact isR_ref _ | exact isR_rf _ | exact isR_null) ?_
        refine aw_st (st' := [va_rf (some (gz G + r)), va_rf (R (rc G R 9 i) 2)]) rfl ?_
        refine aw_acmp_ne (tgt := 28) dX3_sortedBy_22 (by decide) (fun h2 => ?_) (fun h2 => ?_)
        · first | refine aw_iincN (c := 1) (lv' := [(0, _), (1, _), (2, _), (3, _)]) dX3_sortedBy_28 rfl (by decide) rfl rfl ?_ | refine aw_iinc (v := 1) (lv' := [(0, _), (1, _), (2, _), (3, _)]) dX3_sortedBy_28 rfl (by decide) (by decide) rfl ?_
          refine aw_goto (tgt := 4) dX3_sortedBy_31 (by decide) ?_
          have k := ih (i + 1) (by omega) []
          rw [cnt, show cSo G R (some (gz G + r)) i = false by exact decide_eq_false h2] at k
          exact k
        · first | refine aw_iincN (c := 1) (lv' := [(0, _), (1, _), (2, _), (3, _)]) dX3_sortedBy_25 rfl (by decide) rfl rfl ?_ | refine aw_iinc (v := 1) (lv' := [(0, _), (1, _), (2, _), (3, _)]) dX3_sortedBy_25 rfl (by decide) (by decide) rfl ?_
          first | refine aw_iincN (c := 1) (lv' := [(0, _), (1, _), (2, _), (3, _)]) dX3_sortedBy_28 rfl (by decide) rfl rfl ?_ | refine aw_iinc (v := 1) (lv' := [(0, _), (1, _), (2, _), (3, _)]) dX3_sortedBy_28 rfl (by decide) (by decide) rfl ?_
          refine aw_goto (tgt := 4) dX3_sortedBy_31 (by decide) ?_
          have k := ih (i + 1) (by omega) []
          rw [cnt, show cSo G R (some (gz G + r)) i = true by exact decide_eq_true h2] at k
          exact k
  exact loop _ 0 (Nat.zero_add _) []

theorem c_rightBy (hC : ShC G n kd R) {N : Nat} (hN : I 8 1 = nI N) (hV : LV G n kd R N) {r : Nat} (hr : iO n kd r 7) : EX G mX3_rightBy [.ref (gz G + 8), .ref (gz G + r)] (n, sz, kd, I, R, J) (some (.int (nI (cnt (cRi G I R r) N)))) (n, sz, kd, I, R, J) := by
  refine mm_of rfl [(0, .ref (gz G + 8)), (1, .ref (gz G + r))] rfl (Nat.le_of_ble_eq_true rfl) ?_
  have hN1 := hV.1
  refine aw_iconst (v := nI 0) dX3_rightBy_0 (by decide) ?_
  refine aw_istore_n (lv' := [(0, _), (1, _), (2, _)]) dX3_rightBy_1 rfl (by decide) rfl ?_
  refine aw_iconst (v := nI 0) dX3_rightBy_2 (by decide) ?_
  refine aw_istore_n (lv' := [(0, _), (1, _), (2, _), (3, _)]) dX3_rightBy_3 rfl (by decide) rfl ?_
  have loop : ∀ d i, i + d = N → ∀ lv, AW G mX3_rightBy 4 ([(0, .ref (gz G + 8)), (1, .ref (gz G + r)), (2, .int (nI (cnt (cRi G I R r) i))), (3, .int (nI i))] ++ lv) [] (n, sz, kd, I, R, J) (fun v' M' => v' = some (.int (nI (cnt (cRi G I R r) N))) ∧ M' = (n, sz, kd, I, R, J)) := by
    intro d
    induction d with
    | zero =>
      intro i hi lv
      have eN : i = N := by omega
      subst eN
      refine aw_app ?_
      refine aw_iload_n dX3_rightBy_4 rfl rfl ?_
      refine aw_aload_n dX3_rightBy_5 rfl rfl (by first | exact isR_ref _ | exact isR_rf _ | exact isR_null) ?_
      refine aw_get dX3_rightBy_6 fl_X3_17 (sC_k8 hC) (sC_n8 hC) (congrArg Value.int hN) ?_
      refine aw_n_ge (tgt := 50) dX3_rightBy_9 (by decide) rfl rfl (by omega) (by omega) (fun h => ?_) (fun h => ?_)
      · refine aw_iload_n dX3_rightBy_50 rfl rfl ?_
        refine aw_iret dX3_rightBy_51 rfl rfl ?_
        exact ⟨rfl, rfl⟩
      · exact absurd h (by omega)
    | succ d ih =>
      intro i hi lv
      refine aw_app ?_
      have hl := hV.2 i (by omega)
      have hcn := cnt_le (cRi G I R r) i
      refine aw_iload_n dX3_rightBy_4 rfl rfl ?_
      refine aw_aload_n dX3_rightBy_5 rfl rfl (by first | exact isR_ref _ | exact isR_rf _ | exact isR_null) ?_
      refine aw_get dX3_rightBy_6 fl_X3_17 (sC_k8 hC) (sC_n8 hC) (congrArg Value.int hN) ?_
      refine aw_n_ge (tgt := 50) dX3_rightBy_9 (by decide) rfl rfl (by omega) (by omega) (fun h => ?_) (fun h => ?_)
      · exact absurd h (by omega)
      · refine aw_aload_n dX3_rightBy_12 rfl rfl (by first | exact isR_ref _ | exact isR_rf _ | exact isR_null) ?_
        refine aw_get dX3_rightBy_13 fl_X3_11 (sC_k8 hC) (sC_n8 hC) (sC_r_8_letters hC _ _) ?_
        refine aw_iload_n dX3_rightBy_16 rfl rfl ?_
        refine aw_aaS dX3_rightBy_17 (by decide) (sC_k9 hC) (sC_n9 hC) (ixm (by omega)) (hl).1 ?_
        refine aw_get (v := va_rf (R _ _)) dX3_rightBy_18 fl_X3_25 (hl).2.2 (hl).2.1 rfl ?_
        refine aw_aload_n dX3_rightBy_21 rfl rfl (by first | exact isR_ref _ | exact isR_rf _ | exact isR_null) ?_
        refine aw_st (st' := [va_rf (some (gz G + r)), va_rf (R (rc G R 9 i) 2)]) rfl ?_
        refine aw_acmp_ne (tgt := 44) dX3_rightBy_22 (by decide) (fun h2 => ?_) (fun h2 => ?_)
        · first | refine aw_iincN (c := 1) (lv' := [(0, _), (1, _), (2, _), (3, _)]) dX3_rightBy_44 rfl (by decide) rfl rfl ?_ | refine aw_iinc (v := 1) (lv' := [(0, _), (1, _), (2, _), (3, _)]) dX3_rightBy_44 rfl (by decide) (by decide) rfl ?_
          refine aw_goto (tgt := 4) dX3_rightBy_47 (by decide) ?_
          have k := ih (i + 1) (by omega) []
          rw [cnt, show cRi G I R r i = false by unfold cRi; rw [decide_eq_false h2]; rfl] at k
          exact k
        · refine aw_aload_n dX3_rightBy_25 rfl rfl (by first | exact isR_ref _ | exact isR_rf _ | exact isR_null) ?_
          refine aw_get dX3_rightBy_26 fl_X3_11 (sC_k8 hC) (sC_n8 hC) (sC_r_8_letters hC _ _) ?_
          refine aw_iload_n dX3_rightBy_29 rfl rfl ?_
          refine aw_aaS dX3_rightBy_30 (by decide) (sC_k9 hC) (sC_n9 hC) (ixm (by omega)) (hl).1 ?_
          refine aw_get dX3_rightBy_31 fl_X3_29 (hl).2.2 (hl).2.1 rfl ?_
          refine aw_aload_n dX3_rightBy_34 rfl rfl (by first | exact isR_ref _ | exact isR_rf _ | exact isR_null) ?_
          refine aw_get dX3_rightBy_35 fl_X3_32 hr.1 hr.2 rfl ?_
          refine aw_icmp_ne (tgt := 44) dX3_rightBy_38 (by decide) (fun h3 => ?_) (fun h3 => ?_)
          · first | refine aw_iincN (c := 1) (lv' := [(0, _), (1, _), (2, _), (3, _)]) dX3_rightBy_44 rfl (by decide) rfl rfl ?_ | refine aw_iinc (v := 1) (lv' := [(0, _), (1, _), (2, _), (3, _)]) dX3_rightBy_44 rfl (by decide) (by decide) rfl ?_
            refine aw_goto (tgt := 4) dX3_rightBy_47 (by decide) ?_
            have k := ih (i + 1) (by omega) []
            rw [cnt, show cRi G I R r i = false by unfold cRi; rw [decide_eq_false h3, Bool.and_false]] at k
            exact k
          · first | refine aw_iincN (c := 1) (lv' := [(0, _), (1, _), (2, _), (3, _)]) dX3_rightBy_41 rfl (by decide) rfl rfl ?_ | refine aw_iinc (v := 1) (lv' := [(0, _), (1, _), (2, _), (3, _)]) dX3_rightBy_41 rfl (by decide) (by decide) rfl ?_
            first | refine aw_iincN (c := 1) (lv' := [(0, _), (1, _), (2, _), (3, _)]) dX3_rightBy_44 rfl (by decide) rfl rfl ?_ | refine aw_iinc (v := 1) (lv' := [(0, _), (1, _), (2, _), (3, _)]) dX3_rightBy_44 rfl (by decide) (by decide) rfl ?_
            refine aw_goto (tgt := 4) dX3_rightBy_47 (by decide) ?_
            have k := ih (i + 1) (by omega) []
            rw [cnt, show cRi G I R r i = true by unfold cRi; rw [decide_eq_true h2, decide_eq_true h3]; rfl] at k
            exact k
  exact loop _ 0 (Nat.zero_add _) []

theorem c_wrongBy (hC : ShC G n kd R) {N : Nat} (hN : I 8 1 = nI N) (hV : LV G n kd R N) {r : Nat} (hr : iO n kd r 7) : EX G mX3_wrongBy [.ref (gz G + 8), .ref (gz G + r)] (n, sz, kd, I, R, J) (some (.int (nI (cnt (cWr G I R r) N)))) (n, sz, kd, I, R, J) := by
  refine mm_of rfl [(0, .ref (gz G + 8)), (1, .ref (gz G + r))] rfl (Nat.le_of_ble_eq_true rfl) ?_
  have hN1 := hV.1
  refine aw_iconst (v := nI 0) dX3_wrongBy_0 (by decide) ?_
  refine aw_istore_n (lv' := [(0, _), (1, _), (2, _)]) dX3_wrongBy_1 rfl (by decide) rfl ?_
  refine aw_iconst (v := nI 0) dX3_wrongBy_2 (by decide) ?_
  refine aw_istore_n (lv' := [(0, _), (1, _), (2, _), (3, _)]) dX3_wrongBy_3 rfl (by decide) rfl ?_
  have loop : ∀ d i, i + d = N → ∀ lv, AW G mX3_wrongBy 4 ([(0, .ref (gz G + 8)), (1, .ref (gz G + r)), (2, .int (nI (cnt (cWr G I R r) i))), (3, .int (nI i))] ++ lv) [] (n, sz, kd, I, R, J) (fun v' M' => v' = some (.int (nI (cnt (cWr G I R r) N))) ∧ M' = (n, sz, kd, I, R, J)) := by
    intro d
    induction d with
    | zero =>
      intro i hi lv
      have eN : i = N := by omega
      subst eN
      refine aw_app ?_
      refine aw_iload_n dX3_wrongBy_4 rfl rfl ?_
      refine aw_aload_n dX3_wrongBy_5 rfl rfl (by first | exact isR_ref _ | exact isR_rf _ | exact isR_null) ?_
      refine aw_get dX3_wrongBy_6 fl_X3_17 (sC_k8 hC) (sC_n8 hC) (congrArg Value.int hN) ?_
      refine aw_n_ge (tgt := 59) dX3_wrongBy_9 (by decide) rfl rfl (by omega) (by omega) (fun h => ?_) (fun h => ?_)
      · refine aw_iload_n dX3_wrongBy_59 rfl rfl ?_
        refine aw_iret dX3_wrongBy_60 rfl rfl ?_
        exact ⟨rfl, rfl⟩
      · exact absurd h (by omega)
    | succ d ih =>
      intro i hi lv
      refine aw_app ?_
      have hl := hV.2 i (by omega)
      have hcn := cnt_le (cWr G I R r) i
      refine aw_iload_n dX3_wrongBy_4 rfl rfl ?_
      refine aw_aload_n dX3_wrongBy_5 rfl rfl (by first | exact isR_ref _ | exact isR_rf _ | exact isR_null) ?_
      refine aw_get dX3_wrongBy_6 fl_X3_17 (sC_k8 hC) (sC_n8 hC) (congrArg Value.int hN) ?_
      refine aw_n_ge (tgt := 59) dX3_wrongBy_9 (by decide) rfl rfl (by omega) (by omega) (fun h => ?_) (fun h => ?_)
      · exact absurd h (by omega)
      · refine aw_aload_n dX3_wrongBy_12 rfl rfl (by first | exact isR_ref _ | exact isR_rf _ | exact isR_null) ?_
        refine aw_get dX3_wrongBy_13 fl_X3_11 (sC_k8 hC) (sC_n8 hC) (sC_r_8_letters hC _ _) ?_
        refine aw_iload_n dX3_wrongBy_16 rfl rfl ?_
        refine aw_aaS dX3_wrongBy_17 (by decide) (sC_k9 hC) (sC_n9 hC) (ixm (by omega)) (hl).1 ?_
        refine aw_astore (lv' := [(0, _), (1, _), (2, _), (3, _), (4, _)]) dX3_wrongBy_18 (by decide) rfl ?_
        refine aw_aload dX3_wrongBy_20 rfl (by first | exact isR_ref _ | exact isR_rf _ | exact isR_null) ?_
        refine aw_get (v := va_rf (R _ _)) dX3_wrongBy_22 fl_X3_25 (hl).2.2 (hl).2.1 rfl ?_
        refine aw_aload_n dX3_wrongBy_25 rfl rfl (by first | exact isR_ref _ | exact isR_rf _ | exact isR_null) ?_
        refine aw_st (st' := [va_rf (some (gz G + r)), va_rf (R (rc G R 9 i) 2)]) rfl ?_
        refine aw_acmp_ne (tgt := 53) dX3_wrongBy_26 (by decide) (fun h2 => ?_) (fun h2 => ?_)
        · first | refine aw_iincN (c := 1) (lv' := [(0, _), (1, _), (2, _), (3, _), (4, _)]) dX3_wrongBy_53 rfl (by decide) rfl rfl ?_ | refine aw_iinc (v := 1) (lv' := [(0, _), (1, _), (2, _), (3, _), (4, _)]) dX3_wrongBy_53 rfl (by decide) (by decide) rfl ?_
          refine aw_goto (tgt := 4) dX3_wrongBy_56 (by decide) ?_
          have k := ih (i + 1) (by omega) []
          rw [cnt, show cWr G I R r i = false by unfold cWr; rw [decide_eq_false h2]; rfl] at k
          exact aw_app (lv := [_, _, _, _]) (ex := [_]) k
        · refine aw_aload dX3_wrongBy_29 rfl (by first | exact isR_ref _ | exact isR_rf _ | exact isR_null) ?_
          refine aw_get dX3_wrongBy_31 fl_X3_29 (hl).2.2 (hl).2.1 rfl ?_
          refine aw_iconst (v := (-1)) dX3_wrongBy_34 (by decide) ?_
          refine aw_icmp_eq (tgt := 53) dX3_wrongBy_35 (by decide) (fun h3 => ?_) (fun h3 => ?_)
          · first | refine aw_iincN (c := 1) (lv' := [(0, _), (1, _), (2, _), (3, _), (4, _)]) dX3_wrongBy_53 rfl (by decide) rfl rfl ?_ | refine aw_iinc (v := 1) (lv' := [(0, _), (1, _), (2, _), (3, _), (4, _)]) dX3_wrongBy_53 rfl (by decide) (by decide) rfl ?_
            refine aw_goto (tgt := 4) dX3_wrongBy_56 (by decide) ?_
            have k := ih (i + 1) (by omega) []
            rw [cnt, show cWr G I R r i = false by unfold cWr; rw [decide_eq_true h3]; simp] at k
            exact aw_app (lv := [_, _, _, _]) (ex := [_]) k
          · refine aw_aload dX3_wrongBy_38 rfl (by first | exact isR_ref _ | exact isR_rf _ | exact isR_null) ?_
            refine aw_get dX3_wrongBy_40 fl_X3_29 (hl).2.2 (hl).2.1 rfl ?_
            refine aw_aload_n dX3_wrongBy_43 rfl rfl (by first | exact isR_ref _ | exact isR_rf _ | exact isR_null) ?_
            refine aw_get dX3_wrongBy_44 fl_X3_32 hr.1 hr.2 rfl ?_
            refine aw_icmp_eq (tgt := 53) dX3_wrongBy_47 (by decide) (fun h4 => ?_) (fun h4 => ?_)
            · first | refine aw_iincN (c := 1) (lv' := [(0, _), (1, _), (2, _), (3, _), (4, _)]) dX3_wrongBy_53 rfl (by decide) rfl rfl ?_ | refine aw_iinc (v := 1) (lv' := [(0, _), (1, _), (2, _), (3, _), (4, _)]) dX3_wrongBy_53 rfl (by decide) (by decide) rfl ?_
              refine aw_goto (tgt := 4) dX3_wrongBy_56 (by decide) ?_
              have k := ih (i + 1) (by omega) []
              rw [cnt, show cWr G I R r i = false by unfold cWr; rw [decide_eq_true h4]; simp] at k
              exact aw_app (lv := [_, _, _, _]) (ex := [_]) k
            · first | refine aw_iincN (c := 1) (lv' := [(0, _), (1, _), (2, _), (3, _), (4, _)]) dX3_wrongBy_50 rfl (by decide) rfl rfl ?_ | refine aw_iinc (v := 1) (lv' := [(0, _), (1, _), (2, _), (3, _), (4, _)]) dX3_wrongBy_50 rfl (by decide) (by decide) rfl ?_
              first | refine aw_iincN (c := 1) (lv' := [(0, _), (1, _), (2, _), (3, _), (4, _)]) dX3_wrongBy_53 rfl (by decide) rfl rfl ?_ | refine aw_iinc (v := 1) (lv' := [(0, _), (1, _), (2, _), (3, _), (4, _)]) dX3_wrongBy_53 rfl (by decide) (by decide) rfl ?_
              refine aw_goto (tgt := 4) dX3_wrongBy_56 (by decide) ?_
              have k := ih (i + 1) (by omega) []
              rw [cnt, show cWr G I R r i = true by unfold cWr; rw [decide_eq_true h2, decide_eq_false h3, decide_eq_false h4]; rfl] at k
              exact aw_app (lv := [_, _, _, _]) (ex := [_]) k
  exact loop _ 0 (Nat.zero_add _) []

theorem c_unsortedPassing (hC : ShC G n kd R) {N : Nat} (hN : I 8 1 = nI N) (hV : LV G n kd R N) (c : Int32) : EX G mX3_unsortedPassing [.ref (gz G + 8), .int c] (n, sz, kd, I, R, J) (some (.int (nI (cnt (cUn G I R J c) N)))) (n, sz, kd, I, R, J) := by
  refine mm_of rfl [(0, .ref (gz G + 8)), (1, .int c)] rfl (Nat.le_of_ble_eq_true rfl) ?_
  have hN1 := hV.1
  refine aw_iconst (v := nI 0) dX3_unsortedPassing_0 (by decide) ?_
  refine aw_istore_n (lv' := [(0, _), (1, _), (2, _)]) dX3_unsortedPassing_1 rfl (by decide) rfl ?_
  refine aw_iconst (v := nI 0) dX3_unsortedPassing_2 (by decide) ?_
  refine aw_istore_n (lv' := [(0, _), (1, _), (2, _), (3, _)]) dX3_unsortedPassing_3 rfl (by decide) rfl ?_
  have loop : ∀ d i, i + d = N → ∀ lv, AW G mX3_unsortedPassing 4 ([(0, .ref (gz G + 8)), (1, .int c), (2, .int (nI (cnt (cUn G I R J c) i))), (3, .int (nI i))] ++ lv) [] (n, sz, kd, I, R, J) (fun v' M' => v' = some (.int (nI (cnt (cUn G I R J c) N))) ∧ M' = (n, sz, kd, I, R, J)) := by
    intro d
    induction d with
    | zero =>
      intro i hi lv
      have eN : i = N := by omega
      subst eN
      refine aw_app ?_
      refine aw_iload_n dX3_unsortedPassing_4 rfl rfl ?_
      refine aw_aload_n dX3_unsortedPassing_5 rfl rfl (by first | exact isR_ref _ | exact isR_rf _ | exact isR_null) ?_
      refine aw_get dX3_unsortedPassing_6 fl_X3_17 (sC_k8 hC) (sC_n8 hC) (congrArg Value.int hN) ?_
      refine aw_n_ge (tgt := 55) dX3_unsortedPassing_9 (by decide) rfl rfl (by omega) (by omega) (fun h => ?_) (fun h => ?_)
      · refine aw_iload_n dX3_unsortedPassing_55 rfl rfl ?_
        refine aw_iret dX3_unsortedPassing_56 rfl rfl ?_
        exact ⟨rfl, rfl⟩
      · exact absurd h (by omega)
    | succ d ih =>
      intro i hi lv
      refine aw_app ?_
      have hl := hV.2 i (by omega)
      have hcn := cnt_le (cUn G I R J c) i
      refine aw_iload_n dX3_unsortedPassing_4 rfl rfl ?_
      refine aw_aload_n dX3_unsortedPassing_5 rfl rfl (by first | exact isR_ref _ | exact isR_rf _ | exact isR_null) ?_
      refine aw_get dX3_unsortedPassing_6 fl_X3_17 (sC_k8 hC) (sC_n8 hC) (congrArg Value.int hN) ?_
      refine aw_n_ge (tgt := 55) dX3_unsortedPassing_9 (by decide) rfl rfl (by omega) (by omega) (fun h => ?_) (fun h => ?_)
      · exact absurd h (by omega)
      · refine aw_aload_n dX3_unsortedPassing_12 rfl rfl (by first | exact isR_ref _ | exact isR_rf _ | exact isR_null) ?_
        refine aw_get dX3_unsortedPassing_13 fl_X3_11 (sC_k8 hC) (sC_n8 hC) (sC_r_8_letters hC _ _) ?_
        refine aw_iload_n dX3_unsortedPassing_16 rfl rfl ?_
        refine aw_aaS dX3_unsortedPassing_17 (by decide) (sC_k9 hC) (sC_n9 hC) (ixm (by omega)) (hl).1 ?_
        refine aw_astore (lv' := [(0, _), (1, _), (2, _), (3, _), (4, _)]) dX3_unsortedPassing_18 (by decide) rfl ?_
        refine aw_aload dX3_unsortedPassing_20 rfl (by first | exact isR_ref _ | exact isR_rf _ | exact isR_null) ?_
        refine aw_get (v := va_rf (R _ _)) dX3_unsortedPassing_22 fl_X3_25 (hl).2.2 (hl).2.1 rfl ?_
        refine aw_ifnonnull (tgt := 49) dX3_unsortedPassing_25 (by decide) (fun a_h2 h2 => ?_) (fun h2 => ?_)
        · first | refine aw_iincN (c := 1) (lv' := [(0, _), (1, _), (2, _), (3, _), (4, _)]) dX3_unsortedPassing_49 rfl (by decide) rfl rfl ?_ | refine aw_iinc (v := 1) (lv' := [(0, _), (1, _), (2, _), (3, _), (4, _)]) dX3_unsortedPassing_49 rfl (by decide) (by decide) rfl ?_
          refine aw_goto (tgt := 4) dX3_unsortedPassing_52 (by decide) ?_
          have k := ih (i + 1) (by omega) []
          rw [cnt, show cUn G I R J c i = false by unfold cUn; rw [h2]; rfl] at k
          exact aw_app (lv := [_, _, _, _]) (ex := [_]) k
        · refine aw_aload dX3_unsortedPassing_28 rfl (by first | exact isR_ref _ | exact isR_rf _ | exact isR_null) ?_
          refine aw_get dX3_unsortedPassing_30 fl_X3_29 (hl).2.2 (hl).2.1 rfl ?_
          refine aw_iconst (v := (-1)) dX3_unsortedPassing_33 (by decide) ?_
          refine aw_icmp_ne (tgt := 49) dX3_unsortedPassing_34 (by decide) (fun h3 => ?_) (fun h3 => ?_)
          · first | refine aw_iincN (c := 1) (lv' := [(0, _), (1, _), (2, _), (3, _), (4, _)]) dX3_unsortedPassing_49 rfl (by decide) rfl rfl ?_ | refine aw_iinc (v := 1) (lv' := [(0, _), (1, _), (2, _), (3, _), (4, _)]) dX3_unsortedPassing_49 rfl (by decide) (by decide) rfl ?_
            refine aw_goto (tgt := 4) dX3_unsortedPassing_52 (by decide) ?_
            have k := ih (i + 1) (by omega) []
            rw [cnt, show cUn G I R J c i = false by unfold cUn; rw [decide_eq_false h3]; simp] at k
            exact aw_app (lv := [_, _, _, _]) (ex := [_]) k
          · refine aw_aload dX3_unsortedPassing_37 rfl (by first | exact isR_ref _ | exact isR_rf _ | exact isR_null) ?_
            refine aw_iload_n dX3_unsortedPassing_39 rfl rfl ?_
            refine aw_cVx (as := [_]) dX3_unsortedPassing_40 lk_X3_37 cm_X2_passes vi_X2_passes (by unfold RO; decide) rfl (hl).2.2 (hl).2.1 rfl rfl rfl (Nat.le_of_ble_eq_true rfl) (c_passes hl.o _) ?_
            refine aw_b_eq (tgt := 49) dX3_unsortedPassing_43 (by decide) rfl (fun h4 => ?_) (fun h4 => ?_)
            · first | refine aw_iincN (c := 1) (lv' := [(0, _), (1, _), (2, _), (3, _), (4, _)]) dX3_unsortedPassing_49 rfl (by decide) rfl rfl ?_ | refine aw_iinc (v := 1) (lv' := [(0, _), (1, _), (2, _), (3, _), (4, _)]) dX3_unsortedPassing_49 rfl (by decide) (by decide) rfl ?_
              refine aw_goto (tgt := 4) dX3_unsortedPassing_52 (by decide) ?_
              have k := ih (i + 1) (by omega) []
              rw [cnt, show cUn G I R J c i = false by unfold cUn; rw [h4]; simp] at k
              exact aw_app (lv := [_, _, _, _]) (ex := [_]) k
            · first | refine aw_iincN (c := 1) (lv' := [(0, _), (1, _), (2, _), (3, _), (4, _)]) dX3_unsortedPassing_46 rfl (by decide) rfl rfl ?_ | refine aw_iinc (v := 1) (lv' := [(0, _), (1, _), (2, _), (3, _), (4, _)]) dX3_unsortedPassing_46 rfl (by decide) (by decide) rfl ?_
              first | refine aw_iincN (c := 1) (lv' := [(0, _), (1, _), (2, _), (3, _), (4, _)]) dX3_unsortedPassing_49 rfl (by decide) rfl rfl ?_ | refine aw_iinc (v := 1) (lv' := [(0, _), (1, _), (2, _), (3, _), (4, _)]) dX3_unsortedPassing_49 rfl (by decide) (by decide) rfl ?_
              refine aw_goto (tgt := 4) dX3_unsortedPassing_52 (by decide) ?_
              have k := ih (i + 1) (by omega) []
              rw [cnt, show cUn G I R J c i = true by unfold cUn; rw [decide_eq_true h2, decide_eq_true h3, h4]; rfl] at k
              exact aw_app (lv := [_, _, _, _]) (ex := [_]) k
  exact loop _ 0 (Nat.zero_add _) []

theorem c_lyingIn (hC : ShC G n kd R) {N : Nat} (hN : I 8 1 = nI N) (hV : LV G n kd R N) (f : Int32) : EX G mX3_lyingIn [.ref (gz G + 8), .int f] (n, sz, kd, I, R, J) (some (.int (nI (cnt (cLy G I R f) N)))) (n, sz, kd, I, R, J) := by
  refine mm_of rfl [(0, .ref (gz G + 8)), (1, .int f)] rfl (Nat.le_of_ble_eq_true rfl) ?_
  have hN1 := hV.1
  refine aw_iconst (v := nI 0) dX3_lyingIn_0 (by decide) ?_
  refine aw_istore_n (lv' := [(0, _), (1, _), (2, _)]) dX3_lyingIn_1 rfl (by decide) rfl ?_
  refine aw_iconst (v := nI 0) dX3_lyingIn_2 (by decide) ?_
  refine aw_istore_n (lv' := [(0, _), (1, _), (2, _), (3, _)]) dX3_lyingIn_3 rfl (by decide) rfl ?_
  have loop : ∀ d i, i + d = N → ∀ lv, AW G mX3_lyingIn 4 ([(0, .ref (gz G + 8)), (1, .int f), (2, .int (nI (cnt (cLy G I R f) i))), (3, .int (nI i))] ++ lv) [] (n, sz, kd, I, R, J) (fun v' M' => v' = some (.int (nI (cnt (cLy G I R f) N))) ∧ M' = (n, sz, kd, I, R, J)) := by
    intro d
    induction d with
    | zero =>
      intro i hi lv
      have eN : i = N := by omega
      subst eN
      refine aw_app ?_
      refine aw_iload_n dX3_lyingIn_4 rfl rfl ?_
      refine aw_aload_n dX3_lyingIn_5 rfl rfl (by first | exact isR_ref _ | exact isR_rf _ | exact isR_null) ?_
      refine aw_get dX3_lyingIn_6 fl_X3_17 (sC_k8 hC) (sC_n8 hC) (congrArg Value.int hN) ?_
      refine aw_n_ge (tgt := 34) dX3_lyingIn_9 (by decide) rfl rfl (by omega) (by omega) (fun h => ?_) (fun h => ?_)
      · refine aw_iload_n dX3_lyingIn_34 rfl rfl ?_
        refine aw_iret dX3_lyingIn_35 rfl rfl ?_
        exact ⟨rfl, rfl⟩
      · exact absurd h (by omega)
    | succ d ih =>
      intro i hi lv
      refine aw_app ?_
      have hl := hV.2 i (by omega)
      have hcn := cnt_le (cLy G I R f) i
      refine aw_iload_n dX3_lyingIn_4 rfl rfl ?_
      refine aw_aload_n dX3_lyingIn_5 rfl rfl (by first | exact isR_ref _ | exact isR_rf _ | exact isR_null) ?_
      refine aw_get dX3_lyingIn_6 fl_X3_17 (sC_k8 hC) (sC_n8 hC) (congrArg Value.int hN) ?_
      refine aw_n_ge (tgt := 34) dX3_lyingIn_9 (by decide) rfl rfl (by omega) (by omega) (fun h => ?_) (fun h => ?_)
      · exact absurd h (by omega)
      · refine aw_aload_n dX3_lyingIn_12 rfl rfl (by first | exact isR_ref _ | exact isR_rf _ | exact isR_null) ?_
        refine aw_get dX3_lyingIn_13 fl_X3_11 (sC_k8 hC) (sC_n8 hC) (sC_r_8_letters hC _ _) ?_
        refine aw_iload_n dX3_lyingIn_16 rfl rfl ?_
        refine aw_aaS dX3_lyingIn_17 (by decide) (sC_k9 hC) (sC_n9 hC) (ixm (by omega)) (hl).1 ?_
        refine aw_get dX3_lyingIn_18 fl_X3_41 (hl).2.2 (hl).2.1 rfl ?_
        refine aw_iload_n dX3_lyingIn_21 rfl rfl ?_
        refine aw_icmp_ne (tgt := 28) dX3_lyingIn_22 (by decide) (fun h2 => ?_) (fun h2 => ?_)
        · first | refine aw_iincN (c := 1) (lv' := [(0, _), (1, _), (2, _), (3, _)]) dX3_lyingIn_28 rfl (by decide) rfl rfl ?_ | refine aw_iinc (v := 1) (lv' := [(0, _), (1, _), (2, _), (3, _)]) dX3_lyingIn_28 rfl (by decide) (by decide) rfl ?_
          refine aw_goto (tgt := 4) dX3_lyingIn_31 (by decide) ?_
          have k := ih (i + 1) (by omega) []
          rw [cnt, show cLy G I R f i = false by exact decide_eq_false h2] at k
          exact k
        · first | refine aw_iincN (c := 1) (lv' := [(0, _), (1, _), (2, _), (3, _)]) dX3_lyingIn_25 rfl (by decide) rfl rfl ?_ | refine aw_iinc (v := 1) (lv' := [(0, _), (1, _), (2, _), (3, _)]) dX3_lyingIn_25 rfl (by decide) (by decide) rfl ?_
          first | refine aw_iincN (c := 1) (lv' := [(0, _), (1, _), (2, _), (3, _)]) dX3_lyingIn_28 rfl (by decide) rfl rfl ?_ | refine aw_iinc (v := 1) (lv' := [(0, _), (1, _), (2, _), (3, _)]) dX3_lyingIn_28 rfl (by decide) (by decide) rfl ?_
          refine aw_goto (tgt := 4) dX3_lyingIn_31 (by decide) ?_
          have k := ih (i + 1) (by omega) []
          rw [cnt, show cLy G I R f i = true by exact decide_eq_true h2] at k
          exact k
  exact loop _ 0 (Nat.zero_add _) []

theorem lstF_stop {q : Nat → Bool} {i : Nat} (h : q i = true) : lstF q (i + 1) = some i := by rw [lstF, h]; rfl
theorem lstF_step {q : Nat → Bool} {i : Nat} (h : q i = false) : lstF q (i + 1) = lstF q i := by rw [lstF, h]; rfl
theorem c_lastBy (hC : ShC G n kd R) {N : Nat} (hN : I 8 1 = nI N) (hV : LV G n kd R N) {r : Nat} (hr : iO n kd r 7) : EX G mX3_lastBy [.ref (gz G + 8), .ref (gz G + r)] (n, sz, kd, I, R, J) (some (.int (oI (lstF (cSo G R (some (gz G + r))) N)))) (n, sz, kd, I, R, J) := by
  refine mm_of rfl [(0, .ref (gz G + 8)), (1, .ref (gz G + r))] rfl (Nat.le_of_ble_eq_true rfl) ?_
  have hN1 := hV.1
  refine aw_aload_n dX3_lastBy_0 rfl rfl (by first | exact isR_ref _ | exact isR_rf _ | exact isR_null) ?_
  refine aw_get dX3_lastBy_1 fl_X3_17 (sC_k8 hC) (sC_n8 hC) (congrArg Value.int hN) ?_
  refine aw_iconst (v := nI 1) dX3_lastBy_4 (by decide) ?_
  refine aw_isub dX3_lastBy_5 ?_
  refine aw_istore_n (lv' := [(0, _), (1, _), (2, _)]) dX3_lastBy_6 rfl (by decide) rfl ?_
  have loop : ∀ i, i ≤ N → lstF (cSo G R (some (gz G + r))) N = lstF (cSo G R (some (gz G + r))) i → AW G mX3_lastBy 7 [(0, .ref (gz G + 8)), (1, .ref (gz G + r)), (2, .int (nI i - nI 1))] [] (n, sz, kd, I, R, J) (fun v' M' => v' = some (.int (oI (lstF (cSo G R (some (gz G + r))) N))) ∧ M' = (n, sz, kd, I, R, J)) := by
    intro i
    induction i with
    | zero =>
      intro hi e
      refine aw_iload_n dX3_lastBy_7 rfl rfl ?_
      refine aw_if_lt (tgt := 32) dX3_lastBy_8 (by decide) (fun h => ?_) (fun h => ?_)
      · refine aw_iconst (v := (-1)) dX3_lastBy_32 (by decide) ?_
        refine aw_iret dX3_lastBy_33 rfl rfl ?_
        exact ⟨by rw [e]; rfl, rfl⟩
      · exact absurd (by decide) h
    | succ i ih =>
      intro hi e
      have hl := hV.2 i (by omega)
      refine aw_lve (lv' := [(0, .ref (gz G + 8)), (1, .ref (gz G + r)), (2, .int (nI i))]) (by rw [pk_sub (by omega), show i + 1 - 1 = i by omega]) ?_
      refine aw_iload_n dX3_lastBy_7 rfl rfl ?_
      refine aw_z_lt (tgt := 32) dX3_lastBy_8 (by decide) rfl (by omega) ?_
      refine aw_aload_n dX3_lastBy_11 rfl rfl (by first | exact isR_ref _ | exact isR_rf _ | exact isR_null) ?_
      refine aw_get dX3_lastBy_12 fl_X3_11 (sC_k8 hC) (sC_n8 hC) (sC_r_8_letters hC _ _) ?_
      refine aw_iload_n dX3_lastBy_15 rfl rfl ?_
      refine aw_aaS dX3_lastBy_16 (by decide) (sC_k9 hC) (sC_n9 hC) (ixm (by omega)) (hl).1 ?_
      refine aw_get (v := va_rf (R _ _)) dX3_lastBy_17 fl_X3_25 (hl).2.2 (hl).2.1 rfl ?_
      refine aw_aload_n dX3_lastBy_20 rfl rfl (by first | exact isR_ref _ | exact isR_rf _ | exact isR_null) ?_
      refine aw_st (st' := [va_rf (some (gz G + r)), va_rf (R (rc G R 9 i) 2)]) rfl ?_
      refine aw_acmp_ne (tgt := 26) dX3_lastBy_21 (by decide) (fun h2 => ?_) (fun h2 => ?_)
      · refine aw_iinc (v := (-1)) (lv' := [(0, _), (1, _), (2, _)]) dX3_lastBy_26 rfl (by decide) (by decide) rfl ?_
        refine aw_goto (tgt := 7) dX3_lastBy_29 (by decide) ?_
        refine aw_lve (lv' := [(0, .ref (gz G + 8)), (1, .ref (gz G + r)), (2, .int (nI i - nI 1))]) (by rw [Int32.sub_eq_add_neg]; rfl) ?_
        exact ih (by omega) (by rw [e]; exact lstF_step (decide_eq_false h2))
      · refine aw_iload_n dX3_lastBy_24 rfl rfl ?_
        refine aw_iret dX3_lastBy_25 rfl rfl ?_
        exact ⟨by rw [e, lstF_stop (decide_eq_true h2)]; rfl, rfl⟩
  exact loop N (Nat.le_refl _) rfl
theorem c_mget (hC : ShC G n kd R) {N : Nat} (hN : I 8 1 = nI N) (hN1 : N ≤ 100) (x : Int32) : EX G mX3_get [.ref (gz G + 8), .int x] (n, sz, kd, I, R, J) (some (va_rf (match rgl x 0 N with | none => none | some i => R 9 i))) (n, sz, kd, I, R, J) := by
  refine mm_of rfl [(0, .ref (gz G + 8)), (1, .int x)] rfl (Nat.le_of_ble_eq_true rfl) ?_
  refine aw_iload_n dX3_get_0 rfl rfl ?_
  refine aw_aload_n dX3_get_1 rfl rfl (by first | exact isR_ref _ | exact isR_rf _ | exact isR_null) ?_
  refine aw_get dX3_get_2 fl_X3_17 (sC_k8 hC) (sC_n8 hC) (congrArg Value.int hN) ?_
  refine aw_cSx (as := [_, _]) dX3_get_5 lk_X3_21 cm_X9_isWithin sm_X9_isWithin (by unfold RO; decide) rfl rfl (Nat.le_of_ble_eq_true rfl) (c_isWithin _ (by omega) _) ?_
  refine aw_b_eq (tgt := 20) dX3_get_8 (by decide) rfl (fun h => ?_) (fun h => ?_)
  · refine aw_null dX3_get_20 ?_
    refine aw_aret dX3_get_21 rfl (Or.inl ⟨_, rfl⟩) (by first | exact isR_ref _ | exact isR_rf _ | exact isR_null) ?_
    cases hh : rgl x 0 N with
    | none => exact ⟨rfl, rfl⟩
    | some j => rw [hh] at h; cases h
  · cases hh : rgl x 0 N with
    | none => rw [hh] at h; cases h
    | some j =>
      obtain ⟨rfl, -, hj⟩ := rgl_some hh
      refine aw_aload_n dX3_get_11 rfl rfl (by first | exact isR_ref _ | exact isR_rf _ | exact isR_null) ?_
      refine aw_get dX3_get_12 fl_X3_11 (sC_k8 hC) (sC_n8 hC) (sC_r_8_letters hC _ _) ?_
      refine aw_iload_n dX3_get_15 rfl rfl ?_
      refine aw_aald dX3_get_16 (by decide) (sC_k9 hC) (sC_n9 hC) (ixm (by omega)) ?_
      refine aw_goto (tgt := 21) dX3_get_17 (by decide) ?_
      refine aw_aret dX3_get_21 rfl (Or.inl ⟨_, rfl⟩) (by first | exact isR_ref _ | exact isR_rf _ | exact isR_null) ?_
      exact ⟨rfl, rfl⟩
theorem c_madd (hC : ShC G n kd R) {N : Nat} (hN : I 8 1 = nI N) (hN1 : N < 100) {l : Nat} (hl : iO n kd l 3) : EX G mX3_add [.ref (gz G + 8), .ref (gz G + l)] (n, sz, kd, I, R, J) (some (.int (nI N))) (n, sz, kd, u2 I 8 1 (nI (N + 1)), u2 R 9 N (some (gz G + l)), J) := by
  refine mm_of rfl [(0, .ref (gz G + 8)), (1, .ref (gz G + l))] rfl (Nat.le_of_ble_eq_true rfl) ?_
  refine aw_aload_n dX3_add_0 rfl rfl (by first | exact isR_ref _ | exact isR_rf _ | exact isR_null) ?_
  refine aw_get dX3_add_1 fl_X3_17 (sC_k8 hC) (sC_n8 hC) (congrArg Value.int hN) ?_
  refine aw_bipush (v := nI 100) dX3_add_4 (by decide) ?_
  refine aw_n_ne (tgt := 11) dX3_add_6 (by decide) rfl rfl (by omega) (by omega) (fun h => ?_) (fun h => ?_)
  · refine aw_aload_n dX3_add_11 rfl rfl (by first | exact isR_ref _ | exact isR_rf _ | exact isR_null) ?_
    refine aw_get dX3_add_12 fl_X3_11 (sC_k8 hC) (sC_n8 hC) (sC_r_8_letters hC _ _) ?_
    refine aw_aload_n dX3_add_15 rfl rfl (by first | exact isR_ref _ | exact isR_rf _ | exact isR_null) ?_
    refine aw_get dX3_add_16 fl_X3_17 (sC_k8 hC) (sC_n8 hC) (congrArg Value.int hN) ?_
    refine aw_aload_n dX3_add_19 rfl rfl (by first | exact isR_ref _ | exact isR_rf _ | exact isR_null) ?_
    refine aw_aast dX3_add_20 (by decide) rfl (sC_k9 hC) (sC_n9 hC) (ixm (by omega)) hl.1 hl.2 rfl (Or.inl rfl) ?_
    have hC := hC.put (a := 9) N (some (gz G + l)) (by decide)
    refine aw_aload_n dX3_add_21 rfl rfl (by first | exact isR_ref _ | exact isR_rf _ | exact isR_null) ?_
    refine aw_dup dX3_add_22 rfl ?_
    refine aw_get dX3_add_23 fl_X3_17 (sC_k8 hC) (sC_n8 hC) (congrArg Value.int hN) ?_
    refine aw_iconst (v := nI 1) dX3_add_26 (by decide) ?_
    first | refine aw_iaddN dX3_add_27 ?_ | refine aw_iadd dX3_add_27 ?_
    refine aw_putI dX3_add_28 fl_X3_17 (Or.inl rfl) rfl (sC_k8 hC) (sC_n8 hC) ?_
    refine aw_aload_n dX3_add_31 rfl rfl (by first | exact isR_ref _ | exact isR_rf _ | exact isR_null) ?_
    refine aw_get dX3_add_32 fl_X3_17 (sC_k8 hC) (sC_n8 hC) (show _ = Value.int (nI (N + 1)) from rfl) ?_
    refine aw_iconst (v := nI 1) dX3_add_35 (by decide) ?_
    refine aw_isubN (by omega) dX3_add_36 ?_
    refine aw_iret dX3_add_37 rfl rfl ?_
    exact ⟨rfl, rfl⟩
  · exact absurd h (by omega)
end CLS3
