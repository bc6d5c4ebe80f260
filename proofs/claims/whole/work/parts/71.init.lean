section INI
variable {G : GG} {sz : Nat} {kd : KD} {I : II} {R : RR} {J : JJ} {em mi : Nat}
theorem i_tape (hk : kd 1 = .inl 9) (hs : sz ≤ 2000) : EX G mX8_init [.ref (gz G + 1)] (2, sz, kd, I, R, J) none (3, sz + 100, va_up kd 2 (.inr (0, 100)), va_up I 2 (fun _ => 0), u2 R 1 0 (some (gz G + 2)), J) := by
  refine mm_of rfl [(0, .ref (gz G + 1))] rfl (Nat.le_of_ble_eq_true rfl) ?_
  refine aw_aload_n dX8_init_0 rfl rfl (by first | exact isR_ref _ | exact isR_rf _ | exact isR_null) ?_
  refine aw_objInit dX8_init_1 oi_X8_3 oi_in oi_co (by decide) (by decide) ?_
  refine aw_aload_n dX8_init_4 rfl rfl (by first | exact isR_ref _ | exact isR_rf _ | exact isR_null) ?_
  refine aw_bipush (v := nI 100) dX8_init_5 (by decide) ?_
  refine aw_newa (t := 0) dX8_init_7 rfl (by decide) ac_0 rfl (by first | decide | omega) (by show _ ≤ 600000; omega) (by show _ ≤ 7302250; omega) ?_
  refine aw_putR (x := some _) dX8_init_9 fl_X8_9 fw_X8_9 rfl hk (by decide) ?_
  refine aw_vret dX8_init_12 rfl ?_
  exact ⟨rfl, rfl⟩
theorem i_reader (hk : kd 3 = .inl 8) (hs : sz ≤ 2000) : EX G mX7_init [.ref (gz G + 3), .ref (gz G + 1)] (4, sz, kd, I, R, J) none (5, sz + 4, va_up kd 4 (.inr (0, 4)), va_up I 4 (fun _ => 0), u2 (u2 R 3 1 (some (gz G + 4))) 3 0 (some (gz G + 1)), J) := by
  refine mm_of rfl [(0, .ref (gz G + 3)), (1, .ref (gz G + 1))] rfl (Nat.le_of_ble_eq_true rfl) ?_
  refine aw_aload_n dX7_init_0 rfl rfl (by first | exact isR_ref _ | exact isR_rf _ | exact isR_null) ?_
  refine aw_objInit dX7_init_1 oi_X7_3 oi_in oi_co (by decide) (by decide) ?_
  refine aw_aload_n dX7_init_4 rfl rfl (by first | exact isR_ref _ | exact isR_rf _ | exact isR_null) ?_
  refine aw_iconst (v := nI 4) dX7_init_5 (by decide) ?_
  refine aw_newa (t := 0) dX7_init_6 rfl (by decide) ac_0 rfl (by first | decide | omega) (by show _ ≤ 600000; omega) (by show _ ≤ 7302250; omega) ?_
  refine aw_putR (x := some _) dX7_init_8 fl_X7_9 fw_X7_9 rfl hk (by decide) ?_
  refine aw_aload_n dX7_init_11 rfl rfl (by first | exact isR_ref _ | exact isR_rf _ | exact isR_null) ?_
  refine aw_aload_n dX7_init_12 rfl rfl (by first | exact isR_ref _ | exact isR_rf _ | exact isR_null) ?_
  refine aw_putR (x := some _) dX7_init_13 fl_X7_15 fw_X7_15 rfl hk (by decide) ?_
  refine aw_vret dX7_init_16 rfl ?_
  exact ⟨rfl, rfl⟩
theorem i_row (hk : kd 5 = .inl 6) (hs : sz ≤ 2000) : EX G mX5_init [.ref (gz G + 5)] (6, sz, kd, I, R, J) none (8, sz + 10 + 6, va_up (va_up kd 6 (.inr (3, 10))) 7 (.inr (3, 6)), I, u2 (va_up (u2 (va_up R 6 (fun _ => none)) 5 0 (some (gz G + 6))) 7 (fun _ => none)) 5 1 (some (gz G + 7)), J) := by
  refine mm_of rfl [(0, .ref (gz G + 5))] rfl (Nat.le_of_ble_eq_true rfl) ?_
  refine aw_aload_n dX5_init_0 rfl rfl (by first | exact isR_ref _ | exact isR_rf _ | exact isR_null) ?_
  refine aw_objInit dX5_init_1 oi_X5_3 oi_in oi_co (by decide) (by decide) ?_
  refine aw_aload_n dX5_init_4 rfl rfl (by first | exact isR_ref _ | exact isR_rf _ | exact isR_null) ?_
  refine aw_bipush (v := nI 10) dX5_init_5 (by decide) ?_
  refine aw_anew (t := 3) dX5_init_7 rfl (by decide) (by decide) cl_X5_9 ao_X6 rfl (by first | decide | omega) (by show _ ≤ 600000; omega) (by show _ ≤ 7302250; omega) ?_
  refine aw_putR (x := some _) dX5_init_10 fl_X5_11 fw_X5_11 rfl hk (by decide) ?_
  refine aw_aload_n dX5_init_13 rfl rfl (by first | exact isR_ref _ | exact isR_rf _ | exact isR_null) ?_
  refine aw_bipush (v := nI 6) dX5_init_14 (by decide) ?_
  refine aw_anew (t := 3) dX5_init_16 rfl (by decide) (by decide) cl_X5_9 ao_X6 rfl (by first | decide | omega) (by show _ ≤ 600000; omega) (by show _ ≤ 7302250; omega) ?_
  refine aw_putR (x := some _) dX5_init_19 fl_X5_17 fw_X5_17 rfl hk (by decide) ?_
  refine aw_vret dX5_init_22 rfl ?_
  exact ⟨rfl, rfl⟩
theorem i_mail (hk : kd 8 = .inl 4) (hs : sz ≤ 2000) : EX G mX3_init [.ref (gz G + 8)] (9, sz, kd, I, R, J) none (10, sz + 100, va_up kd 9 (.inr (4, 100)), I, u2 (va_up R 9 (fun _ => none)) 8 0 (some (gz G + 9)), J) := by
  refine mm_of rfl [(0, .ref (gz G + 8))] rfl (Nat.le_of_ble_eq_true rfl) ?_
  refine aw_aload_n dX3_init_0 rfl rfl (by first | exact isR_ref _ | exact isR_rf _ | exact isR_null) ?_
  refine aw_objInit dX3_init_1 oi_X3_3 oi_in oi_co (by decide) (by decide) ?_
  refine aw_aload_n dX3_init_4 rfl rfl (by first | exact isR_ref _ | exact isR_rf _ | exact isR_null) ?_
  refine aw_bipush (v := nI 100) dX3_init_5 (by decide) ?_
  refine aw_anew (t := 4) dX3_init_7 rfl (by decide) (by decide) cl_X3_9 ao_X2 rfl (by first | decide | omega) (by show _ ≤ 600000; omega) (by show _ ≤ 7302250; omega) ?_
  refine aw_putR (x := some _) dX3_init_10 fl_X3_11 fw_X3_11 rfl hk (by decide) ?_
  refine aw_vret dX3_init_13 rfl ?_
  exact ⟨rfl, rfl⟩
theorem i_moves (hk : kd 10 = .inl 5) (hs : sz ≤ 2000) : EX G mX4_init [.ref (gz G + 10)] (11, sz, kd, I, R, J) none (14, sz + 200 + 200 + 200, va_up (va_up (va_up kd 11 (.inr (0, 200))) 12 (.inr (0, 200))) 13 (.inr (0, 200)), va_up (va_up (va_up I 11 (fun _ => 0)) 12 (fun _ => 0)) 13 (fun _ => 0), u2 (u2 (u2 R 10 0 (some (gz G + 11))) 10 1 (some (gz G + 12))) 10 2 (some (gz G + 13)), J) := by
  refine mm_of rfl [(0, .ref (gz G + 10))] rfl (Nat.le_of_ble_eq_true rfl) ?_
  refine aw_aload_n dX4_init_0 rfl rfl (by first | exact isR_ref _ | exact isR_rf _ | exact isR_null) ?_
  refine aw_objInit dX4_init_1 oi_X4_3 oi_in oi_co (by decide) (by decide) ?_
  refine aw_aload_n dX4_init_4 rfl rfl (by first | exact isR_ref _ | exact isR_rf _ | exact isR_null) ?_
  refine aw_sipush (v := nI 200) dX4_init_5 (by decide) ?_
  refine aw_newa (t := 0) dX4_init_8 rfl (by decide) ac_0 rfl (by first | decide | omega) (by show _ ≤ 600000; omega) (by show _ ≤ 7302250; omega) ?_
  refine aw_putR (x := some _) dX4_init_10 fl_X4_9 fw_X4_9 rfl hk (by decide) ?_
  refine aw_aload_n dX4_init_13 rfl rfl (by first | exact isR_ref _ | exact isR_rf _ | exact isR_null) ?_
  refine aw_sipush (v := nI 200) dX4_init_14 (by decide) ?_
  refine aw_newa (t := 0) dX4_init_17 rfl (by decide) ac_0 rfl (by first | decide | omega) (by show _ ≤ 600000; omega) (by show _ ≤ 7302250; omega) ?_
  refine aw_putR (x := some _) dX4_init_19 fl_X4_15 fw_X4_15 rfl hk (by decide) ?_
  refine aw_aload_n dX4_init_22 rfl rfl (by first | exact isR_ref _ | exact isR_rf _ | exact isR_null) ?_
  refine aw_sipush (v := nI 200) dX4_init_23 (by decide) ?_
  refine aw_newa (t := 0) dX4_init_26 rfl (by decide) ac_0 rfl (by first | decide | omega) (by show _ ≤ 600000; omega) (by show _ ≤ 7302250; omega) ?_
  refine aw_putR (x := some _) dX4_init_28 fl_X4_18 fw_X4_18 rfl hk (by decide) ?_
  refine aw_vret dX4_init_31 rfl ?_
  exact ⟨rfl, rfl⟩
def wc8 (I : II) (k : Nat) : II := u2 (u2 (u2 (u2 (u2 (u2 (u2 (u2 I k 0 (nI 2)) k 1 (nI 2)) k 2 (nI 2)) k 3 (nI 2)) k 4 (nI 2)) k 5 (nI 2)) k 6 (nI 2)) k 7 (nI 10)
theorem i_costs (hk : kd 14 = .inl 1) (hs : sz ≤ 2000) : EX G mX0_init [.ref (gz G + 14)] (15, sz, kd, I, R, J) none (16, sz + 8, va_up kd 15 (.inr (0, 8)), wc8 (va_up (u2 (u2 I 14 0 (nI 3)) 14 1 (nI 1)) 15 (fun _ => 0)) 15, u2 R 14 2 (some (gz G + 15)), J) := by
  refine mm_of rfl [(0, .ref (gz G + 14))] rfl (Nat.le_of_ble_eq_true rfl) ?_
  refine aw_aload_n dX0_init_0 rfl rfl (by first | exact isR_ref _ | exact isR_rf _ | exact isR_null) ?_
  refine aw_objInit dX0_init_1 oi_X0_3 oi_in oi_co (by decide) (by decide) ?_
  refine aw_aload_n dX0_init_4 rfl rfl (by first | exact isR_ref _ | exact isR_rf _ | exact isR_null) ?_
  refine aw_iconst (v := nI 3) dX0_init_5 (by decide) ?_
  refine aw_putI dX0_init_6 fl_X0_9 (Or.inl rfl) rfl hk (by decide) ?_
  refine aw_aload_n dX0_init_9 rfl rfl (by first | exact isR_ref _ | exact isR_rf _ | exact isR_null) ?_
  refine aw_iconst (v := nI 1) dX0_init_10 (by decide) ?_
  refine aw_putI dX0_init_11 fl_X0_15 (Or.inl rfl) rfl hk (by decide) ?_
  refine aw_aload_n dX0_init_14 rfl rfl (by first | exact isR_ref _ | exact isR_rf _ | exact isR_null) ?_
  refine aw_bipush (v := nI 8) dX0_init_15 (by decide) ?_
  refine aw_newa (t := 0) dX0_init_17 rfl (by decide) ac_0 rfl (by first | decide | omega) (by show _ ≤ 600000; omega) (by show _ ≤ 7302250; omega) ?_
  refine aw_dup dX0_init_19 rfl ?_
  refine aw_iconst (v := nI 0) dX0_init_20 (by decide) ?_
  refine aw_iconst (v := nI 2) dX0_init_21 (by decide) ?_
  refine aw_iast dX0_init_22 (vz_up_same _ _ _) (Nat.lt_succ_self _) (ixm (by omega)) ?_
  refine aw_dup dX0_init_23 rfl ?_
  refine aw_iconst (v := nI 1) dX0_init_24 (by decide) ?_
  refine aw_iconst (v := nI 2) dX0_init_25 (by decide) ?_
  refine aw_iast dX0_init_26 (vz_up_same _ _ _) (Nat.lt_succ_self _) (ixm (by omega)) ?_
  refine aw_dup dX0_init_27 rfl ?_
  refine aw_iconst (v := nI 2) dX0_init_28 (by decide) ?_
  refine aw_iconst (v := nI 2) dX0_init_29 (by decide) ?_
  refine aw_iast dX0_init_30 (vz_up_same _ _ _) (Nat.lt_succ_self _) (ixm (by omega)) ?_
  refine aw_dup dX0_init_31 rfl ?_
  refine aw_iconst (v := nI 3) dX0_init_32 (by decide) ?_
  refine aw_iconst (v := nI 2) dX0_init_33 (by decide) ?_
  refine aw_iast dX0_init_34 (vz_up_same _ _ _) (Nat.lt_succ_self _) (ixm (by omega)) ?_
  refine aw_dup dX0_init_35 rfl ?_
  refine aw_iconst (v := nI 4) dX0_init_36 (by decide) ?_
  refine aw_iconst (v := nI 2) dX0_init_37 (by decide) ?_
  refine aw_iast dX0_init_38 (vz_up_same _ _ _) (Nat.lt_succ_self _) (ixm (by omega)) ?_
  refine aw_dup dX0_init_39 rfl ?_
  refine aw_iconst (v := nI 5) dX0_init_40 (by decide) ?_
  refine aw_iconst (v := nI 2) dX0_init_41 (by decide) ?_
  refine aw_iast dX0_init_42 (vz_up_same _ _ _) (Nat.lt_succ_self _) (ixm (by omega)) ?_
  refine aw_dup dX0_init_43 rfl ?_
  refine aw_bipush (v := nI 6) dX0_init_44 (by decide) ?_
  refine aw_iconst (v := nI 2) dX0_init_46 (by decide) ?_
  refine aw_iast dX0_init_47 (vz_up_same _ _ _) (Nat.lt_succ_self _) (ixm (by omega)) ?_
  refine aw_dup dX0_init_48 rfl ?_
  refine aw_bipush (v := nI 7) dX0_init_49 (by decide) ?_
  refine aw_bipush (v := nI 10) dX0_init_51 (by decide) ?_
  refine aw_iast dX0_init_53 (vz_up_same _ _ _) (Nat.lt_succ_self _) (ixm (by omega)) ?_
  refine aw_putR (x := some _) dX0_init_54 fl_X0_18 fw_X0_18 rfl hk (by decide) ?_
  refine aw_vret dX0_init_57 rfl ?_
  exact ⟨rfl, rfl⟩
theorem i_ac (M : Mem) (a : Nat) : EX G mJxa1e45_init_da8c8 [.ref a] M none M := by
  refine mm_of rfl [(0, .ref a)] rfl (Nat.le_of_ble_eq_true rfl) ?_
  refine aw_aload_n dJxa1e45_init_da8c8_0 rfl rfl (by first | exact isR_ref _ | exact isR_rf _ | exact isR_null) ?_
  refine aw_objInit dJxa1e45_init_da8c8_1 oi_Jxa1e45_1 oi_in oi_co (by decide) (by decide) ?_
  refine aw_vret dJxa1e45_init_da8c8_4 rfl ?_
  exact ⟨rfl, rfl⟩
theorem i_al (hk : kd 17 = .inl 0) : EX G mJxc12de_init_da8c8 [.ref (gz G + 17)] (18, sz, kd, I, R, J) none (18, sz, kd, u2 I 17 0 (nI 0), R, J) := by
  refine mm_of rfl [(0, .ref (gz G + 17))] rfl (Nat.le_of_ble_eq_true rfl) ?_
  refine aw_aload_n dJxc12de_init_da8c8_0 rfl rfl (by first | exact isR_ref _ | exact isR_rf _ | exact isR_null) ?_
  refine aw_cIv (as := []) dJxc12de_init_da8c8_1 lk_Jxc12de_1 cm_Jxa1e45_init_da8c8 im_Jxa1e45_init_da8c8 (by unfold RO; decide) rfl rfl (Nat.le_of_ble_eq_true rfl) (i_ac _ _) ?_
  refine aw_aload_n dJxc12de_init_da8c8_4 rfl rfl (by first | exact isR_ref _ | exact isR_rf _ | exact isR_null) ?_
  refine aw_iconst (v := nI 0) dJxc12de_init_da8c8_5 (by decide) ?_
  refine aw_putI dJxc12de_init_da8c8_6 fl_Jxc12de_7 (Or.inl rfl) rfl hk (by decide) ?_
  refine aw_vret dJxc12de_init_da8c8_9 rfl ?_
  exact ⟨rfl, rfl⟩
theorem i_list (hG : LsP G em mi) (hk : kd 17 = .inl 0) : EX G mJx4a65c_init_da8c8 [.ref (gz G + 17)] (18, sz, kd, I, R, J) none (18, sz, kd, u2 I 17 0 (nI 0), u2 R 17 1 (some em), J) := by
  refine mm_of rfl [(0, .ref (gz G + 17))] rfl (Nat.le_of_ble_eq_true rfl) ?_
  refine aw_aload_n dJx4a65c_init_da8c8_0 rfl rfl (by first | exact isR_ref _ | exact isR_rf _ | exact isR_null) ?_
  refine aw_cIv (as := []) dJx4a65c_init_da8c8_1 lk_Jx4a65c_1 cm_Jxc12de_init_da8c8 im_Jxc12de_init_da8c8 (by unfold RO; decide) rfl rfl (Nat.le_of_ble_eq_true rfl) (i_al hk) ?_
  refine aw_aload_n dJx4a65c_init_da8c8_4 rfl rfl (by first | exact isR_ref _ | exact isR_rf _ | exact isR_null) ?_
  refine aw_gets (v := .ref em) dJx4a65c_init_da8c8_5 dc_st (fun U h => (hG U h).1) ?_
  refine aw_putR (x := some _) dJx4a65c_init_da8c8_8 fl_Jx4a65c_9 (Or.inl rfl) rfl hk (by decide) ?_
  refine aw_vret dJx4a65c_init_da8c8_11 rfl ?_
  exact ⟨rfl, rfl⟩
theorem i_learner (hG : LsP G em mi) (hk : kd 16 = .inl 2) (hs : sz ≤ 2000) : EX G mX1_init [.ref (gz G + 16), .ref (gz G + 14)] (17, sz, kd, I, R, J) none (22, sz + 3 + 6 + 100 + 8 + 40, va_up (va_up (va_up (va_up (va_up kd 17 (.inl 0)) 18 (.inr (3, 6))) 19 (.inr (4, 100))) 20 (.inr (0, 8))) 21 (.inr (0, 40)), va_up (va_up (u2 (va_up I 17 (fun _ => 0)) 17 0 (nI 0)) 20 (fun _ => 0)) 21 (fun _ => 0), u2 (u2 (u2 (u2 (va_up (u2 (va_up (u2 (u2 (va_up R 17 (fun _ => none)) 17 1 (some em)) 16 1 (some (gz G + 17))) 18 (fun _ => none)) 16 8 (some (gz G + 18))) 19 (fun _ => none)) 16 10 (some (gz G + 19))) 16 13 (some (gz G + 20))) 16 14 (some (gz G + 21))) 16 0 (some (gz G + 14)), va_up J 17 (fun _ => 0)) := by
  refine mm_of rfl [(0, .ref (gz G + 16)), (1, .ref (gz G + 14))] rfl (Nat.le_of_ble_eq_true rfl) ?_
  refine aw_aload_n dX1_init_0 rfl rfl (by first | exact isR_ref _ | exact isR_rf _ | exact isR_null) ?_
  refine aw_objInit dX1_init_1 oi_X1_3 oi_in oi_co (by decide) (by decide) ?_
  refine aw_aload_n dX1_init_4 rfl rfl (by first | exact isR_ref _ | exact isR_rf _ | exact isR_null) ?_
  refine aw_new dX1_init_5 cf_Jx4a65c cl_X1_9 (List.mem_of_getElem? (i := 217) (by decide +kernel)) (List.mem_of_getElem? (i := 63) (by decide +kernel)) (by show _ ≤ 600000; omega) (by show _ + 3 ≤ 7302250; omega) ?_
  refine aw_dup dX1_init_8 rfl ?_
  refine aw_mem (M' := (18, sz + 3, va_up kd 17 (.inl 0), va_up I 17 (fun _ => 0), va_up R 17 (fun _ => none), va_up J 17 (fun _ => 0))) rfl ?_
  refine aw_cIv (as := []) dX1_init_9 lk_X1_11 cm_Jx4a65c_init_da8c8 im_Jx4a65c_init_da8c8 (by unfold RO; decide) rfl rfl (Nat.le_of_ble_eq_true rfl) (i_list hG rfl) ?_
  refine aw_putR (x := some _) dX1_init_12 fl_X1_12 fw_X1_12 rfl hk (by decide) ?_
  refine aw_aload_n dX1_init_15 rfl rfl (by first | exact isR_ref _ | exact isR_rf _ | exact isR_null) ?_
  refine aw_bipush (v := nI 6) dX1_init_16 (by decide) ?_
  refine aw_anew (t := 3) dX1_init_18 rfl (by decide) (by decide) cl_X1_18 ao_X6 rfl (by first | decide | omega) (by show _ ≤ 600000; omega) (by show _ ≤ 7302250; omega) ?_
  refine aw_putR (x := some _) dX1_init_21 fl_X1_20 fw_X1_20 rfl hk (by decide) ?_
  refine aw_aload_n dX1_init_24 rfl rfl (by first | exact isR_ref _ | exact isR_rf _ | exact isR_null) ?_
  refine aw_bipush (v := nI 100) dX1_init_25 (by decide) ?_
  refine aw_anew (t := 4) dX1_init_27 rfl (by decide) (by decide) cl_X1_24 ao_X2 rfl (by first | decide | omega) (by show _ ≤ 600000; omega) (by show _ ≤ 7302250; omega) ?_
  refine aw_putR (x := some _) dX1_init_30 fl_X1_26 fw_X1_26 rfl hk (by decide) ?_
  refine aw_aload_n dX1_init_33 rfl rfl (by first | exact isR_ref _ | exact isR_rf _ | exact isR_null) ?_
  refine aw_bipush (v := nI 8) dX1_init_34 (by decide) ?_
  refine aw_newa (t := 0) dX1_init_36 rfl (by decide) ac_0 rfl (by first | decide | omega) (by show _ ≤ 600000; omega) (by show _ ≤ 7302250; omega) ?_
  refine aw_putR (x := some _) dX1_init_38 fl_X1_30 fw_X1_30 rfl hk (by decide) ?_
  refine aw_aload_n dX1_init_41 rfl rfl (by first | exact isR_ref _ | exact isR_rf _ | exact isR_null) ?_
  refine aw_bipush (v := nI 40) dX1_init_42 (by decide) ?_
  refine aw_newa (t := 0) dX1_init_44 rfl (by decide) ac_0 rfl (by first | decide | omega) (by show _ ≤ 600000; omega) (by show _ ≤ 7302250; omega) ?_
  refine aw_putR (x := some _) dX1_init_46 fl_X1_34 fw_X1_34 rfl hk (by decide) ?_
  refine aw_aload_n dX1_init_49 rfl rfl (by first | exact isR_ref _ | exact isR_rf _ | exact isR_null) ?_
  refine aw_aload_n dX1_init_50 rfl rfl (by first | exact isR_ref _ | exact isR_rf _ | exact isR_null) ?_
  refine aw_putR (x := some _) dX1_init_51 fl_X1_37 fw_X1_37 rfl hk (by decide) ?_
  refine aw_vret dX1_init_54 rfl ?_
  exact ⟨rfl, rfl⟩
end INI
