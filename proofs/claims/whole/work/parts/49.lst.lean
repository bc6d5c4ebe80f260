section LST
variable {G : GG} {n sz : Nat} {kd : Nat → AKd} {I : Nat → Nat → Int32} {R : Nat → Nat → Option Nat} {J : Nat → Nat → Int64} {em mi : Nat}
def LsP (G : GG) (em mi : Nat) : Prop := ∀ U, gP G U → va_Z "java/util/ArrayList" "DEFAULTCAPACITY_EMPTY_ELEMENTDATA" "[Ljava/lang/Object;" (.ref em) (fun q => gz G ≤ q) U (gH G) ∧ va_T (.object "java/lang/Object") em 0 (fun _ => .null) (fun q => gz G ≤ q) U (gH G) ∧ va_Mi "[Ljava/lang/Object;" mi U ∧ va_Dc U
theorem dc_st : Cond.fieldLink RJx4a65c 39 "java/util/ArrayList" "DEFAULTCAPACITY_EMPTY_ELEMENTDATA" "[Ljava/lang/Object;" ∈ lw_tbl := List.mem_of_getElem? (i := 228) (by decide +kernel)
theorem gc_l : Cond.methodLink RJ7 86 ⟨"java/lang/Object", "getClass", "()Ljava/lang/Class;"⟩ ∈ lw_tbl := List.mem_of_getElem? (i := 690) (by decide +kernel)
theorem gc_s : Cond.selects "[Ljava/lang/Object;" ⟨"java/lang/Object", "getClass", "()Ljava/lang/Class;"⟩ ⟨"java/lang/Object", "getClass", "()Ljava/lang/Class;"⟩ ∈ lw_tbl := List.mem_of_getElem? (i := 1203) (by decide +kernel)
theorem gc_i : Cond.instanceMethod ⟨"java/lang/Object", "getClass", "()Ljava/lang/Class;"⟩ ∈ lw_tbl := List.mem_of_getElem? (i := 691) (by decide +kernel)
theorem gc_n : Cond.native ⟨"java/lang/Object", "getClass", "()Ljava/lang/Class;"⟩ ∈ lw_tbl := List.mem_of_getElem? (i := 705) (by decide +kernel)
theorem l_newLen {c : Nat} (hc : 2 ≤ c) (hc2 : c ≤ 100000) (M : Mem) : EX G mJ8_newLength_cabcc [.int (nI c), .int (nI 1), .int (nI (c / 2))] M (some (.int (nI (c + c / 2)))) M := by
  refine mm_of rfl [(0, .int (nI c)), (1, .int (nI 1)), (2, .int (nI (c / 2)))] rfl (Nat.le_of_ble_eq_true rfl) ?_
  refine aw_iload_n dJ8_newLength_cabcc_0 rfl rfl ?_
  refine aw_iload_n dJ8_newLength_cabcc_1 rfl rfl ?_
  refine aw_iload_n dJ8_newLength_cabcc_2 rfl rfl ?_
  refine aw_mmax dJ8_newLength_cabcc_3 mx_J8 (by decide) (Nat.le_of_ble_eq_true rfl) ?_
  have e : (if nI 1 < nI (c / 2) then nI (c / 2) else nI 1) = nI (c / 2) := by
    split
    · rfl
    · rename_i h
      have h2 : ¬ 1 < c / 2 := fun z => h ((nI_ltI (by decide) (by omega)).mpr z)
      rw [show c / 2 = 1 by omega]
  refine aw_top e ?_
  first | refine aw_iaddN dJ8_newLength_cabcc_6 ?_ | refine aw_iadd dJ8_newLength_cabcc_6 ?_
  refine aw_istore_n (lv' := [(0, _), (1, _), (2, _), (3, _)]) dJ8_newLength_cabcc_7 rfl (by decide) rfl ?_
  refine aw_iconst (v := nI 0) dJ8_newLength_cabcc_8 (by decide) ?_
  refine aw_iload_n dJ8_newLength_cabcc_9 rfl rfl ?_
  refine aw_n_ge (tgt := 21) dJ8_newLength_cabcc_10 (by decide) rfl rfl (by omega) (by omega) (fun h => ?_) (fun h => ?_)
  · exact absurd h (by omega)
  · refine aw_iload_n dJ8_newLength_cabcc_13 rfl rfl ?_
    refine aw_ldc (v := nI 2147483639) dJ8_newLength_cabcc_14 (List.mem_of_getElem? (i := 683) (by decide +kernel)) ?_
    refine aw_n_gt (tgt := 21) dJ8_newLength_cabcc_16 (by decide) rfl rfl (by omega) (by omega) (fun h2 => ?_) (fun h2 => ?_)
    · exact absurd h2 (by omega)
    · refine aw_iload_n dJ8_newLength_cabcc_19 rfl rfl ?_
      refine aw_iret dJ8_newLength_cabcc_20 rfl rfl ?_
      exact ⟨rfl, rfl⟩
def cpR (n : Nat) (R : Nat → Nat → Option Nat) (E c : Nat) : Nat → Nat → Option Nat := va_up (va_up R n (fun _ => none)) n (va_cpy (va_up R n (fun _ => none) E) (va_up R n (fun _ => none) n) 0 0 c)
theorem l_copy3 (hG : LsP G em mi) {E c N : Nat} (hE : kd E = .inr (5, c)) (hEn : E < n) (hcN : c ≤ N) (hN : N ≤ 10000) (hc1 : n + 10 ≤ 600000) (hc2 : sz + 10000 ≤ 7302250) (hel : ∀ i, i < c → ∀ a, R E i = some a → ∃ q, a = gz G + q ∧ q < n ∧ kd q = .inl 7) : EX G mJ7_copyOf_6403c [.ref (gz G + E), .int (nI N), .ref mi] (n, sz, kd, I, R, J) (some (.ref (gz G + n))) (n + 1, sz + N, va_up kd n (.inr (5, N)), I, cpR n R E c, J) := by
  refine mm_of rfl [(0, .ref (gz G + E)), (1, .int (nI N)), (2, .ref mi)] rfl (Nat.le_of_ble_eq_true rfl) ?_
  refine aw_aload_n dJ7_copyOf_6403c_0 rfl rfl (by first | exact isR_ref _ | exact isR_rf _ | exact isR_null) ?_
  refine aw_ldcM dJ7_copyOf_6403c_1 cl_J7_110 (fun U h => (hG U h).2.2.1) ?_
  refine aw_st (st' := [va_rf (some mi), va_rf (some mi)]) rfl ?_
  refine aw_acmp_ne (tgt := 13) dJ7_copyOf_6403c_3 (by decide) (fun h => ?_) (fun h => ?_)
  · exact absurd rfl h
  · refine aw_iload_n dJ7_copyOf_6403c_6 rfl rfl ?_
    refine aw_anew (t := 5) dJ7_copyOf_6403c_7 rfl (by decide) (by decide) cl_J7_2 ao_O rfl (by first | decide | omega) (by show _ ≤ 600000; omega) (by show _ ≤ 7302250; omega) ?_
    have hE2 : va_up kd n (.inr (5, N)) E = .inr (5, c) := by rw [vz_up_ne _ _ (by omega)]; exact hE
    have hEn2 : E < n + 1 := by omega
    refine aw_goto (tgt := 24) dJ7_copyOf_6403c_10 (by decide) ?_
    refine aw_astore_n (lv' := [(0, _), (1, _), (2, _), (3, _)]) dJ7_copyOf_6403c_24 rfl (by decide) rfl ?_
    refine aw_aload_n dJ7_copyOf_6403c_25 rfl rfl (by first | exact isR_ref _ | exact isR_rf _ | exact isR_null) ?_
    refine aw_iconst (v := nI 0) dJ7_copyOf_6403c_26 (by decide) ?_
    refine aw_aload_n dJ7_copyOf_6403c_27 rfl rfl (by first | exact isR_ref _ | exact isR_rf _ | exact isR_null) ?_
    refine aw_iconst (v := nI 0) dJ7_copyOf_6403c_28 (by decide) ?_
    refine aw_aload_n dJ7_copyOf_6403c_29 rfl rfl (by first | exact isR_ref _ | exact isR_rf _ | exact isR_null) ?_
    refine aw_alen dJ7_copyOf_6403c_30 hE2 hEn2 ?_
    refine aw_iload_n dJ7_copyOf_6403c_31 rfl rfl ?_
    refine aw_mmin dJ7_copyOf_6403c_32 mn_J7 (by decide) (Nat.le_of_ble_eq_true rfl) ?_
    have e : (if nI N < nI c then nI N else nI c) = nI c := if_neg (fun z => absurd ((nI_ltI (by omega) (by omega)).mp z) (by omega))
    refine aw_top e ?_
    refine aw_copyR (ci := 7) (r := (RX6, TX6, 3)) dJ7_copyOf_6403c_35 cp_J7 (by decide) (by decide) rfl rfl hE2 hEn2 (vz_up_same _ _ _) (Nat.lt_succ_self _) (by omega) (by omega) (by omega) (by omega) (by decide) (Nat.le_of_ble_eq_true rfl) rfl (Or.inr ca_X6) (fun i hi a ha => ?_) ?_
    · rw [vz_up_ne _ _ (by omega)] at ha
      obtain ⟨q, h1, h2, h3⟩ := hel i hi a (by rw [Nat.zero_add] at ha; exact ha)
      exact ⟨q, h1, by omega, by rw [vz_up_ne _ _ (by omega)]; exact h3⟩
    · refine aw_aload_n dJ7_copyOf_6403c_38 rfl rfl (by first | exact isR_ref _ | exact isR_rf _ | exact isR_null) ?_
      refine aw_aret dJ7_copyOf_6403c_39 rfl (Or.inr ⟨_, rfl⟩) (by first | exact isR_ref _ | exact isR_rf _ | exact isR_null) ?_
      exact ⟨rfl, rfl⟩
theorem l_copy2 (hG : LsP G em mi) {E c N : Nat} (hE : kd E = .inr (5, c)) (hEn : E < n) (hcN : c ≤ N) (hN : N ≤ 10000) (hc1 : n + 10 ≤ 600000) (hc2 : sz + 10000 ≤ 7302250) (hel : ∀ i, i < c → ∀ a, R E i = some a → ∃ q, a = gz G + q ∧ q < n ∧ kd q = .inl 7) : EX G mJ7_copyOf_1904c [.ref (gz G + E), .int (nI N)] (n, sz, kd, I, R, J) (some (.ref (gz G + n))) (n + 1, sz + N, va_up kd n (.inr (5, N)), I, cpR n R E c, J) := by
  refine mm_of rfl [(0, .ref (gz G + E)), (1, .int (nI N))] rfl (Nat.le_of_ble_eq_true rfl) ?_
  refine aw_aload_n dJ7_copyOf_1904c_0 rfl rfl (by first | exact isR_ref _ | exact isR_rf _ | exact isR_null) ?_
  refine aw_iload_n dJ7_copyOf_1904c_1 rfl rfl ?_
  refine aw_aload_n dJ7_copyOf_1904c_2 rfl rfl (by first | exact isR_ref _ | exact isR_rf _ | exact isR_null) ?_
  refine aw_getC dJ7_copyOf_1904c_3 gc_l gc_s gc_i gc_n (fun U h => ⟨(hG U h).2.2.1, (hG U h).2.2.2⟩) hE hEn (by decide) (Nat.le_of_ble_eq_true rfl) ?_
  refine aw_cSx (as := [_, _, _]) dJ7_copyOf_1904c_6 lk_J7_300 cm_J7_copyOf_6403c sm_J7_copyOf_6403c (by unfold RO; decide) rfl rfl (Nat.le_of_ble_eq_true rfl) (l_copy3 hG hE hEn hcN hN hc1 hc2 hel) ?_
  refine aw_aret dJ7_copyOf_1904c_9 rfl (Or.inr ⟨_, rfl⟩) (by first | exact isR_ref _ | exact isR_rf _ | exact isR_null) ?_
  exact ⟨rfl, rfl⟩
def gr0R (G : GG) (n : Nat) (R : Nat → Nat → Option Nat) : Nat → Nat → Option Nat := u2 (va_up R n (fun _ => none)) 17 1 (some (gz G + n))
theorem l_growA0 (hG : LsP G em mi) (hC : ShC G n kd R) (hE : R 17 1 = some em) (hc1 : n + 10 ≤ 600000) (hc2 : sz + 10000 ≤ 7302250) : EX G mJx4a65c_grow_92f84 [.ref (gz G + 17), .int (nI 1)] (n, sz, kd, I, R, J) (some (.ref (gz G + n))) (n + 1, sz + 10, va_up kd n (.inr (5, 10)), I, gr0R G n R, J) := by
  refine mm_of rfl [(0, .ref (gz G + 17)), (1, .int (nI 1))] rfl (Nat.le_of_ble_eq_true rfl) ?_
  have hn := hC.1
  refine aw_aload_n dJx4a65c_grow_92f84_0 rfl rfl (by first | exact isR_ref _ | exact isR_rf _ | exact isR_null) ?_
  refine aw_get (v := .ref em) dJx4a65c_grow_92f84_1 fl_Jx4a65c_9 (sC_k17 hC) (sC_n17 hC) (by rw [hE]; rfl) ?_
  refine aw_alenX dJx4a65c_grow_92f84_4 (fun U h => (hG U h).2.1) ?_
  refine aw_istore_n (lv' := [(0, _), (1, _), (2, _)]) dJx4a65c_grow_92f84_5 rfl (by decide) rfl ?_
  refine aw_iload_n dJx4a65c_grow_92f84_6 rfl rfl ?_
  refine aw_if_gt (tgt := 20) dJx4a65c_grow_92f84_7 (by decide) (fun h => ?_) (fun h => ?_)
  · exact absurd h (by decide)
  · refine aw_aload_n dJx4a65c_grow_92f84_10 rfl rfl (by first | exact isR_ref _ | exact isR_rf _ | exact isR_null) ?_
    refine aw_get (v := .ref em) dJx4a65c_grow_92f84_11 fl_Jx4a65c_9 (sC_k17 hC) (sC_n17 hC) (by rw [hE]; rfl) ?_
    refine aw_gets (v := .ref em) dJx4a65c_grow_92f84_14 dc_st (fun U h => (hG U h).1) ?_
    refine aw_st (st' := [va_rf (some em), va_rf (some em)]) rfl ?_
    refine aw_acmp_eq (tgt := 45) dJx4a65c_grow_92f84_17 (by decide) (fun h2 => ?_) (fun h2 => ?_)
    · refine aw_aload_n dJx4a65c_grow_92f84_45 rfl rfl (by first | exact isR_ref _ | exact isR_rf _ | exact isR_null) ?_
      refine aw_bipush (v := nI 10) dJx4a65c_grow_92f84_46 (by decide) ?_
      refine aw_iload_n dJx4a65c_grow_92f84_48 rfl rfl ?_
      refine aw_mmax dJx4a65c_grow_92f84_49 mx_L (by decide) (Nat.le_of_ble_eq_true rfl) ?_
      refine aw_top (show (if nI 10 < nI 1 then nI 1 else nI 10) = nI 10 by decide) ?_
      refine aw_anew (t := 5) dJx4a65c_grow_92f84_52 rfl (by decide) (by decide) cl_Jx4a65c_7 ao_O rfl (by first | decide | omega) (by show _ ≤ 600000; omega) (by show _ ≤ 7302250; omega) ?_
      have hC := hC.grow (n' := n + 1) (kd' := va_up kd n (.inr (5, 10))) (R' := R) (by omega) (fun i hi => vz_up_ne _ _ (by omega)) (fun i hi => rfl)
      refine aw_dup_x1 dJx4a65c_grow_92f84_55 rfl rfl ?_
      refine aw_putR (x := some _) dJx4a65c_grow_92f84_56 fl_Jx4a65c_9 (Or.inl rfl) rfl (sC_k17 hC) (sC_n17 hC) ?_
      refine aw_aret dJx4a65c_grow_92f84_59 rfl (Or.inr ⟨_, rfl⟩) (by first | exact isR_ref _ | exact isR_rf _ | exact isR_null) ?_
      exact ⟨rfl, rfl⟩
    · exact absurd rfl h2
def gr1R (G : GG) (n : Nat) (R : Nat → Nat → Option Nat) (E c : Nat) : Nat → Nat → Option Nat := u2 (cpR n R E c) 17 1 (some (gz G + n))
theorem l_growA1 (hG : LsP G em mi) (hC : ShC G n kd R) {E c : Nat} (hR : R 17 1 = some (gz G + E)) (hE : kd E = .inr (5, c)) (hEn : E < n) (hc : 10 ≤ c) (hcm : c ≤ 6000) (hc1 : n + 10 ≤ 600000) (hc2 : sz + 10000 ≤ 7302250) (hel : ∀ i, i < c → ∀ a, R E i = some a → ∃ q, a = gz G + q ∧ q < n ∧ kd q = .inl 7) : EX G mJx4a65c_grow_92f84 [.ref (gz G + 17), .int (nI (c + 1))] (n, sz, kd, I, R, J) (some (.ref (gz G + n))) (n + 1, sz + (c + c / 2), va_up kd n (.inr (5, c + c / 2)), I, gr1R G n R E c, J) := by
  refine mm_of rfl [(0, .ref (gz G + 17)), (1, .int (nI (c + 1)))] rfl (Nat.le_of_ble_eq_true rfl) ?_
  have hn := hC.1
  refine aw_aload_n dJx4a65c_grow_92f84_0 rfl rfl (by first | exact isR_ref _ | exact isR_rf _ | exact isR_null) ?_
  refine aw_get (v := .ref (gz G + E)) dJx4a65c_grow_92f84_1 fl_Jx4a65c_9 (sC_k17 hC) (sC_n17 hC) (by rw [hR]; rfl) ?_
  refine aw_alen dJx4a65c_grow_92f84_4 hE hEn ?_
  refine aw_istore_n (lv' := [(0, _), (1, _), (2, _)]) dJx4a65c_grow_92f84_5 rfl (by decide) rfl ?_
  refine aw_iload_n dJx4a65c_grow_92f84_6 rfl rfl ?_
  refine aw_if_gt (tgt := 20) dJx4a65c_grow_92f84_7 (by decide) (fun h => ?_) (fun h => ?_)
  · refine aw_iload_n dJx4a65c_grow_92f84_20 rfl rfl ?_
    refine aw_iload_n dJx4a65c_grow_92f84_21 rfl rfl ?_
    refine aw_iload_n dJx4a65c_grow_92f84_22 rfl rfl ?_
    refine aw_isubN (by omega) dJx4a65c_grow_92f84_23 ?_
    refine aw_iload_n dJx4a65c_grow_92f84_24 rfl rfl ?_
    refine aw_iconst (v := nI 1) dJx4a65c_grow_92f84_25 (by decide) ?_
    refine aw_ishr dJx4a65c_grow_92f84_26 ?_
    have e : nI c >>> (nI 1 &&& 31) = nI (c / 2) := pk_shrN (by omega) _ 1 (by decide)
    refine aw_st (st' := [.int (nI (c / 2)), .int (nI 1), .int (nI c)]) (by rw [e, show c + 1 - c = 1 by omega]) ?_
    refine aw_cSx (as := [_, _, _]) dJx4a65c_grow_92f84_27 lk_Jx4a65c_73 cm_J8_newLength_cabcc sm_J8_newLength_cabcc (by unfold RO; decide) rfl rfl (Nat.le_of_ble_eq_true rfl) (l_newLen (by omega) (by omega) _) ?_
    refine aw_istore_n (lv' := [(0, _), (1, _), (2, _), (3, _)]) dJx4a65c_grow_92f84_30 rfl (by decide) rfl ?_
    refine aw_aload_n dJx4a65c_grow_92f84_31 rfl rfl (by first | exact isR_ref _ | exact isR_rf _ | exact isR_null) ?_
    refine aw_aload_n dJx4a65c_grow_92f84_32 rfl rfl (by first | exact isR_ref _ | exact isR_rf _ | exact isR_null) ?_
    refine aw_get (v := .ref (gz G + E)) dJx4a65c_grow_92f84_33 fl_Jx4a65c_9 (sC_k17 hC) (sC_n17 hC) (by rw [hR]; rfl) ?_
    refine aw_iload_n dJx4a65c_grow_92f84_36 rfl rfl ?_
    refine aw_cSx (as := [_, _]) dJx4a65c_grow_92f84_37 lk_Jx4a65c_66 cm_J7_copyOf_1904c sm_J7_copyOf_1904c (by unfold RO; decide) rfl rfl (Nat.le_of_ble_eq_true rfl) (l_copy2 hG hE hEn (by omega) (by omega) hc1 hc2 hel) ?_
    have hC := hC.grow (n' := n + 1) (kd' := va_up kd n (.inr (5, c + c / 2))) (R' := R) (by omega) (fun i hi => vz_up_ne _ _ (by omega)) (fun i hi => rfl)
    refine aw_dup_x1 dJx4a65c_grow_92f84_40 rfl rfl ?_
    refine aw_putR (x := some _) dJx4a65c_grow_92f84_41 fl_Jx4a65c_9 (Or.inl rfl) rfl (sC_k17 hC) (sC_n17 hC) ?_
    refine aw_aret dJx4a65c_grow_92f84_44 rfl (Or.inr ⟨_, rfl⟩) (by first | exact isR_ref _ | exact isR_rf _ | exact isR_null) ?_
    exact ⟨rfl, rfl⟩
  · exact absurd ((nI_ltI (a := 0) (b := c) (by decide) (by omega)).mpr (by omega)) h
theorem l_growB0 (hG : LsP G em mi) (hC : ShC G n kd R) (hE : R 17 1 = some em) (hK : I 17 2 = nI 0) (hc1 : n + 10 ≤ 600000) (hc2 : sz + 10000 ≤ 7302250) : EX G mJx4a65c_grow_d5877 [.ref (gz G + 17)] (n, sz, kd, I, R, J) (some (.ref (gz G + n))) (n + 1, sz + 10, va_up kd n (.inr (5, 10)), I, gr0R G n R, J) := by
  refine mm_of rfl [(0, .ref (gz G + 17))] rfl (Nat.le_of_ble_eq_true rfl) ?_
  refine aw_aload_n dJx4a65c_grow_d5877_0 rfl rfl (by first | exact isR_ref _ | exact isR_rf _ | exact isR_null) ?_
  refine aw_aload_n dJx4a65c_grow_d5877_1 rfl rfl (by first | exact isR_ref _ | exact isR_rf _ | exact isR_null) ?_
  refine aw_get dJx4a65c_grow_d5877_2 fl_Jx4a65c_48 (sC_k17 hC) (sC_n17 hC) (congrArg Value.int hK) ?_
  refine aw_iconst (v := nI 1) dJx4a65c_grow_d5877_5 (by decide) ?_
  first | refine aw_iaddN dJx4a65c_grow_d5877_6 ?_ | refine aw_iadd dJx4a65c_grow_d5877_6 ?_
  refine aw_cVx (as := [_]) dJx4a65c_grow_d5877_7 lk_Jx4a65c_69 cm_Jx4a65c_grow_92f84 vi_Jx4a65c_grow_92f84 (by unfold RO; decide) rfl (sC_k17 hC) (sC_n17 hC) rfl rfl rfl (Nat.le_of_ble_eq_true rfl) (l_growA0 hG hC hE hc1 hc2) ?_
  refine aw_aret dJx4a65c_grow_d5877_10 rfl (Or.inr ⟨_, rfl⟩) (by first | exact isR_ref _ | exact isR_rf _ | exact isR_null) ?_
  exact ⟨rfl, rfl⟩
theorem l_growB1 (hG : LsP G em mi) (hC : ShC G n kd R) {E c : Nat} (hR : R 17 1 = some (gz G + E)) (hE : kd E = .inr (5, c)) (hEn : E < n) (hK : I 17 2 = nI c) (hc : 10 ≤ c) (hcm : c ≤ 6000) (hc1 : n + 10 ≤ 600000) (hc2 : sz + 10000 ≤ 7302250) (hel : ∀ i, i < c → ∀ a, R E i = some a → ∃ q, a = gz G + q ∧ q < n ∧ kd q = .inl 7) : EX G mJx4a65c_grow_d5877 [.ref (gz G + 17)] (n, sz, kd, I, R, J) (some (.ref (gz G + n))) (n + 1, sz + (c + c / 2), va_up kd n (.inr (5, c + c / 2)), I, gr1R G n R E c, J) := by
  refine mm_of rfl [(0, .ref (gz G + 17))] rfl (Nat.le_of_ble_eq_true rfl) ?_
  refine aw_aload_n dJx4a65c_grow_d5877_0 rfl rfl (by first | exact isR_ref _ | exact isR_rf _ | exact isR_null) ?_
  refine aw_aload_n dJx4a65c_grow_d5877_1 rfl rfl (by first | exact isR_ref _ | exact isR_rf _ | exact isR_null) ?_
  refine aw_get dJx4a65c_grow_d5877_2 fl_Jx4a65c_48 (sC_k17 hC) (sC_n17 hC) (congrArg Value.int hK) ?_
  refine aw_iconst (v := nI 1) dJx4a65c_grow_d5877_5 (by decide) ?_
  first | refine aw_iaddN dJx4a65c_grow_d5877_6 ?_ | refine aw_iadd dJx4a65c_grow_d5877_6 ?_
  refine aw_cVx (as := [_]) dJx4a65c_grow_d5877_7 lk_Jx4a65c_69 cm_Jx4a65c_grow_92f84 vi_Jx4a65c_grow_92f84 (by unfold RO; decide) rfl (sC_k17 hC) (sC_n17 hC) rfl rfl rfl (Nat.le_of_ble_eq_true rfl) (l_growA1 hG hC hR hE hEn hc hcm hc1 hc2 hel) ?_
  refine aw_aret dJx4a65c_grow_d5877_10 rfl (Or.inr ⟨_, rfl⟩) (by first | exact isR_ref _ | exact isR_rf _ | exact isR_null) ?_
  exact ⟨rfl, rfl⟩
/-- the list of the RULES that were ever learnt: how many, its room, where they are -/
def Ls (G : GG) (em n : Nat) (kd : Nat → AKd) (I : Nat → Nat → Int32) (R : Nat → Nat → Option Nat) (K cap : Nat) (kn : Nat → Nat) : Prop := I 17 2 = nI K ∧ K ≤ cap ∧ cap ≤ 10 + 2 * K ∧ (∀ i, i < K → iO n kd (kn i) 7) ∧ ((K = 0 ∧ cap = 0 ∧ R 17 1 = some em) ∨ ∃ E, 52 ≤ E ∧ E < n ∧ R 17 1 = some (gz G + E) ∧ kd E = .inr (5, cap) ∧ 10 ≤ cap ∧ (∀ i, i < K → R E i = some (gz G + kn i)) ∧ ∀ i, K ≤ i → i < cap → R E i = none)
theorem l_elem (hC : ShC G n kd R) {K cap i : Nat} {kn : Nat → Nat} (hL : Ls G em n kd I R K cap kn) (hi : i < K) (hcap : cap < 2 ^ 31) : EX G mJx4a65c_elementData_915e3 [.ref (gz G + 17), .int (nI i)] (n, sz, kd, I, R, J) (some (.ref (gz G + kn i))) (n, sz, kd, I, R, J) := by
  refine mm_of rfl [(0, .ref (gz G + 17)), (1, .int (nI i))] rfl (Nat.le_of_ble_eq_true rfl) ?_
  obtain ⟨h1, h2, h3, h4, h5⟩ := hL
  rcases h5 with ⟨h6, -, -⟩ | ⟨E, e1, e2, e3, e4, e5, e6, e7⟩
  · omega
  · refine aw_aload_n dJx4a65c_elementData_915e3_0 rfl rfl (by first | exact isR_ref _ | exact isR_rf _ | exact isR_null) ?_
    refine aw_get (v := .ref (gz G + E)) dJx4a65c_elementData_915e3_1 fl_Jx4a65c_9 (sC_k17 hC) (sC_n17 hC) (by rw [e3]; rfl) ?_
    refine aw_iload_n dJx4a65c_elementData_915e3_4 rfl rfl ?_
    refine aw_aaS dJx4a65c_elementData_915e3_5 (by decide) e4 e2 (ixm (by omega) hcap) (e6 i hi) ?_
    refine aw_aret dJx4a65c_elementData_915e3_6 rfl (Or.inl ⟨_, rfl⟩) (by first | exact isR_ref _ | exact isR_rf _ | exact isR_null) ?_
    exact ⟨rfl, rfl⟩
theorem l_check {i N : Nat} (h : i < N) (hN : N < 2 ^ 31) (M : Mem) : EX G mJ15_checkIndex_7cf53 [.int (nI i), .int (nI N)] M (some (.int (nI i))) M := by
  refine mm_of rfl [(0, .int (nI i)), (1, .int (nI N))] rfl (Nat.le_of_ble_eq_true rfl) ?_
  refine aw_iload_n dJ15_checkIndex_7cf53_0 rfl rfl ?_
  refine aw_iload_n dJ15_checkIndex_7cf53_1 rfl rfl ?_
  refine aw_null dJ15_checkIndex_7cf53_2 ?_
  refine aw_st (st' := [va_rf none, .int (nI N), .int (nI i)]) rfl ?_
  refine aw_cSx (as := [_, _, _]) dJ15_checkIndex_7cf53_3 lk_J15_105 cm_J3_checkIndex_8e157 sm_J3_checkIndex_8e157 (by unfold RO; decide) rfl rfl (Nat.le_of_ble_eq_true rfl) (s_check3 h hN none) ?_
  refine aw_iret dJ15_checkIndex_7cf53_6 rfl rfl ?_
  exact ⟨rfl, rfl⟩
theorem l_get (hC : ShC G n kd R) {K cap i : Nat} {kn : Nat → Nat} (hL : Ls G em n kd I R K cap kn) (hi : i < K) (hcap : cap < 2 ^ 31) : EX G mJx4a65c_get_915e3 [.ref (gz G + 17), .int (nI i)] (n, sz, kd, I, R, J) (some (.ref (gz G + kn i))) (n, sz, kd, I, R, J) := by
  refine mm_of rfl [(0, .ref (gz G + 17)), (1, .int (nI i))] rfl (Nat.le_of_ble_eq_true rfl) ?_
  have hK := hL.1
  have hKc := hL.2.1
  refine aw_iload_n dJx4a65c_get_915e3_0 rfl rfl ?_
  refine aw_aload_n dJx4a65c_get_915e3_1 rfl rfl (by first | exact isR_ref _ | exact isR_rf _ | exact isR_null) ?_
  refine aw_get dJx4a65c_get_915e3_2 fl_Jx4a65c_48 (sC_k17 hC) (sC_n17 hC) (congrArg Value.int hK) ?_
  refine aw_cSx (as := [_, _]) dJx4a65c_get_915e3_5 lk_Jx4a65c_118 cm_J15_checkIndex_7cf53 sm_J15_checkIndex_7cf53 (by unfold RO; decide) rfl rfl (Nat.le_of_ble_eq_true rfl) (l_check hi (by omega) _) ?_
  refine aw_pop dJx4a65c_get_915e3_8 rfl ?_
  refine aw_aload_n dJx4a65c_get_915e3_9 rfl rfl (by first | exact isR_ref _ | exact isR_rf _ | exact isR_null) ?_
  refine aw_iload_n dJx4a65c_get_915e3_10 rfl rfl ?_
  refine aw_cVx (as := [_]) dJx4a65c_get_915e3_11 lk_Jx4a65c_123 cm_Jx4a65c_elementData_915e3 vi_Jx4a65c_elementData_915e3 (by unfold RO; decide) rfl (sC_k17 hC) (sC_n17 hC) rfl rfl rfl (Nat.le_of_ble_eq_true rfl) (l_elem hC hL hi hcap) ?_
  refine aw_aret dJx4a65c_get_915e3_14 rfl (Or.inl ⟨_, rfl⟩) (by first | exact isR_ref _ | exact isR_rf _ | exact isR_null) ?_
  exact ⟨rfl, rfl⟩
def QAddL (G : GG) (em n sz : Nat) (kd : Nat → AKd) (I : Nat → Nat → Int32) (R : Nat → Nat → Option Nat) (J : Nat → Nat → Int64) (K cap : Nat) (kn : Nat → Nat) (r : Nat) (M' : Mem) : Prop :=
  ∃ n' sz' kd' I' R' cap', M' = (n', sz', kd', I', R', J) ∧ n ≤ n' ∧ n' ≤ n + 1 ∧ sz' + 4 * cap ≤ sz + 4 * cap' ∧ (∀ a, a < n → kd' a = kd a) ∧ (∀ a, n ≤ a → a < n' → ∃ c, kd' a = .inr (5, c)) ∧ (∀ a, a ≠ 17 → I' a = I a) ∧ (∀ a, a < n → a ≠ 17 → (∀ c, kd a ≠ .inr (5, c)) → R' a = R a) ∧ Ls G em n' kd' I' R' (K + 1) cap' (va_up kn K r)
end LST
