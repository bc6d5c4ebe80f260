section INI2
variable {G : GG} {sz : Nat} {kd : KD} {I : II} {R : RR} {J : JJ} {em mi : Nat}
def QX9 (G : GG) (em sz : Nat) (v' : Option Value) (M' : Mem) : Prop := v' = none ∧ ∃ sz' kd' I' R' J', M' = (22, sz', kd', I', R', J') ∧ sz' ≤ sz + 1100 ∧ (∀ i, i < 22 → kd' i = ctab i) ∧ (∀ i, i < 23 → R' (cref i).1 (cref i).2.1 = some (gz G + (cref i).2.2)) ∧ R' 17 1 = some em ∧ (∀ h, R' 6 h = none) ∧ I' 1 1 = nI 0 ∧ (∀ i, I' 2 i = nI 0) ∧ I' 5 2 = nI 0 ∧ I' 8 1 = nI 0 ∧ I' 10 3 = nI 0 ∧ I' 14 0 = nI 3 ∧ I' 14 1 = nI 1 ∧ (∀ f, f < 8 → I' 15 f = nI (if f = 7 then 10 else 2)) ∧ (I' 16 2 = nI 0 ∧ I' 16 3 = nI 0 ∧ I' 16 4 = nI 0 ∧ I' 16 5 = nI 0 ∧ I' 16 6 = nI 0 ∧ I' 16 7 = nI 0) ∧ I' 17 2 = nI 0
theorem lt8 (P : Nat → Prop) (h0 : P 0) (h1 : P 1) (h2 : P 2) (h3 : P 3) (h4 : P 4) (h5 : P 5) (h6 : P 6) (h7 : P 7) : ∀ f, f < 8 → P f := fun f hf => by
  match f, hf with
  | 0, _ => exact h0
  | 1, _ => exact h1
  | 2, _ => exact h2
  | 3, _ => exact h3
  | 4, _ => exact h4
  | 5, _ => exact h5
  | 6, _ => exact h6
  | 7, _ => exact h7
theorem i_class (hG : LsP G em mi) (hk : kd 0 = .inl 10) (hs : sz ≤ 100) (hI : I 0 = fun _ => 0) : MM G mX9_init [.ref (gz G + 0)] (1, sz, kd, I, R, J) (QX9 G em sz) := by
  refine mm_of rfl [(0, .ref (gz G + 0))] rfl (Nat.le_of_ble_eq_true rfl) ?_
  refine aw_aload_n dX9_init_0 rfl rfl (by first | exact isR_ref _ | exact isR_rf _ | exact isR_null) ?_
  refine aw_objInit dX9_init_1 oi_X9_1 oi_in oi_co (by decide) (by decide) ?_
  refine aw_aload_n dX9_init_4 rfl rfl (by first | exact isR_ref _ | exact isR_rf _ | exact isR_null) ?_
  refine aw_new dX9_init_5 cf_X8 cl_X9_7 (List.mem_of_getElem? (i := 85) (by decide +kernel)) (List.mem_of_getElem? (i := 54) (by decide +kernel)) (by show _ ≤ 600000; omega) (by show _ + 2 ≤ 7302250; omega) ?_
  refine aw_dup dX9_init_8 rfl ?_
  refine aw_mem (M' := (2, sz + 2, _, _, _, _)) rfl ?_
  refine aw_cIv (as := []) dX9_init_9 lk_X9_9 cm_X8_init im_X8_init (by unfold RO; decide) rfl rfl (Nat.le_of_ble_eq_true rfl) (i_tape rfl (by omega)) ?_
  refine aw_putR (x := some _) dX9_init_12 fl_X9_10 fw_X9_10 rfl hk (by decide) ?_
  refine aw_aload_n dX9_init_15 rfl rfl (by first | exact isR_ref _ | exact isR_rf _ | exact isR_null) ?_
  refine aw_new dX9_init_16 cf_X7 cl_X9_16 (List.mem_of_getElem? (i := 102) (by decide +kernel)) (List.mem_of_getElem? (i := 55) (by decide +kernel)) (by show _ ≤ 600000; omega) (by show _ + 7 ≤ 7302250; omega) ?_
  refine aw_dup dX9_init_19 rfl ?_
  refine aw_mem (M' := (4, sz + 2 + 100 + 7, _, _, _, _)) rfl ?_
  refine aw_aload_n dX9_init_20 rfl rfl (by first | exact isR_ref _ | exact isR_rf _ | exact isR_null) ?_
  refine aw_get (v := .ref (gz G + 1)) dX9_init_21 fl_X9_10 hk (by decide) rfl ?_
  refine aw_cIv (as := [_]) dX9_init_24 lk_X9_18 cm_X7_init im_X7_init (by unfold RO; decide) rfl rfl (Nat.le_of_ble_eq_true rfl) (i_reader rfl (by omega)) ?_
  refine aw_putR (x := some _) dX9_init_27 fl_X9_21 fw_X9_21 rfl hk (by decide) ?_
  refine aw_aload_n dX9_init_30 rfl rfl (by first | exact isR_ref _ | exact isR_rf _ | exact isR_null) ?_
  refine aw_new dX9_init_31 cf_X5 cl_X9_25 (List.mem_of_getElem? (i := 130) (by decide +kernel)) (List.mem_of_getElem? (i := 56) (by decide +kernel)) (by show _ ≤ 600000; omega) (by show _ + 3 ≤ 7302250; omega) ?_
  refine aw_dup dX9_init_34 rfl ?_
  refine aw_mem (M' := (6, sz + 2 + 100 + 7 + 4 + 3, _, _, _, _)) rfl ?_
  refine aw_cIv (as := []) dX9_init_35 lk_X9_27 cm_X5_init im_X5_init (by unfold RO; decide) rfl rfl (Nat.le_of_ble_eq_true rfl) (i_row rfl (by omega)) ?_
  refine aw_putR (x := some _) dX9_init_38 fl_X9_28 fw_X9_28 rfl hk (by decide) ?_
  refine aw_aload_n dX9_init_41 rfl rfl (by first | exact isR_ref _ | exact isR_rf _ | exact isR_null) ?_
  refine aw_new dX9_init_42 cf_X3 cl_X9_32 (List.mem_of_getElem? (i := 153) (by decide +kernel)) (List.mem_of_getElem? (i := 57) (by decide +kernel)) (by show _ ≤ 600000; omega) (by show _ + 2 ≤ 7302250; omega) ?_
  refine aw_dup dX9_init_45 rfl ?_
  refine aw_mem (M' := (9, sz + 2 + 100 + 7 + 4 + 3 + 10 + 6 + 2, _, _, _, _)) rfl ?_
  refine aw_cIv (as := []) dX9_init_46 lk_X9_34 cm_X3_init im_X3_init (by unfold RO; decide) rfl rfl (Nat.le_of_ble_eq_true rfl) (i_mail rfl (by omega)) ?_
  refine aw_putR (x := some _) dX9_init_49 fl_X9_35 fw_X9_35 rfl hk (by decide) ?_
  refine aw_aload_n dX9_init_52 rfl rfl (by first | exact isR_ref _ | exact isR_rf _ | exact isR_null) ?_
  refine aw_new dX9_init_53 cf_X4 cl_X9_39 (List.mem_of_getElem? (i := 172) (by decide +kernel)) (List.mem_of_getElem? (i := 58) (by decide +kernel)) (by show _ ≤ 600000; omega) (by show _ + 4 ≤ 7302250; omega) ?_
  refine aw_dup dX9_init_56 rfl ?_
  refine aw_mem (M' := (11, sz + 2 + 100 + 7 + 4 + 3 + 10 + 6 + 2 + 100 + 4, _, _, _, _)) rfl ?_
  refine aw_cIv (as := []) dX9_init_57 lk_X9_41 cm_X4_init im_X4_init (by unfold RO; decide) rfl rfl (Nat.le_of_ble_eq_true rfl) (i_moves rfl (by omega)) ?_
  refine aw_putR (x := some _) dX9_init_60 fl_X9_42 fw_X9_42 rfl hk (by decide) ?_
  refine aw_aload_n dX9_init_63 rfl rfl (by first | exact isR_ref _ | exact isR_rf _ | exact isR_null) ?_
  refine aw_new dX9_init_64 cf_X0 cl_X9_46 (List.mem_of_getElem? (i := 192) (by decide +kernel)) (List.mem_of_getElem? (i := 59) (by decide +kernel)) (by show _ ≤ 600000; omega) (by show _ + 3 ≤ 7302250; omega) ?_
  refine aw_dup dX9_init_67 rfl ?_
  refine aw_mem (M' := (15, sz + 2 + 100 + 7 + 4 + 3 + 10 + 6 + 2 + 100 + 4 + 200 + 200 + 200 + 3, _, _, _, _)) rfl ?_
  refine aw_cIv (as := []) dX9_init_68 lk_X9_48 cm_X0_init im_X0_init (by unfold RO; decide) rfl rfl (Nat.le_of_ble_eq_true rfl) (i_costs rfl (by omega)) ?_
  refine aw_putR (x := some _) dX9_init_71 fl_X9_49 fw_X9_49 rfl hk (by decide) ?_
  refine aw_aload_n dX9_init_74 rfl rfl (by first | exact isR_ref _ | exact isR_rf _ | exact isR_null) ?_
  refine aw_new dX9_init_75 cf_X1 cl_X9_53 (List.mem_of_getElem? (i := 211) (by decide +kernel)) (List.mem_of_getElem? (i := 60) (by decide +kernel)) (by show _ ≤ 600000; omega) (by show _ + 19 ≤ 7302250; omega) ?_
  refine aw_dup dX9_init_78 rfl ?_
  refine aw_mem (M' := (17, sz + 2 + 100 + 7 + 4 + 3 + 10 + 6 + 2 + 100 + 4 + 200 + 200 + 200 + 3 + 8 + 19, _, _, _, _)) rfl ?_
  refine aw_aload_n dX9_init_79 rfl rfl (by first | exact isR_ref _ | exact isR_rf _ | exact isR_null) ?_
  refine aw_get (v := .ref (gz G + 14)) dX9_init_80 fl_X9_49 hk (by decide) rfl ?_
  refine aw_cIv (as := [_]) dX9_init_83 lk_X9_55 cm_X1_init im_X1_init (by unfold RO; decide) rfl rfl (Nat.le_of_ble_eq_true rfl) (i_learner hG rfl (by omega)) ?_
  refine aw_putR (x := some _) dX9_init_86 fl_X9_58 fw_X9_58 rfl hk (by decide) ?_
  refine aw_vret dX9_init_89 rfl ?_
  refine ⟨rfl, _, _, _, _, _, rfl, by omega, fun i hi => ?_, fun i hi => ?_, rfl, fun h => rfl, rfl, fun i => rfl, rfl, rfl, rfl, rfl, rfl, lt8 _ rfl rfl rfl rfl rfl rfl rfl rfl, ⟨rfl, rfl, rfl, rfl, rfl, rfl⟩, rfl⟩
  · match i, hi with
    | 0, _ => exact hk
    | 1, _ => exact rfl
    | 2, _ => exact rfl
    | 3, _ => exact rfl
    | 4, _ => exact rfl
    | 5, _ => exact rfl
    | 6, _ => exact rfl
    | 7, _ => exact rfl
    | 8, _ => exact rfl
    | 9, _ => exact rfl
    | 10, _ => exact rfl
    | 11, _ => exact rfl
    | 12, _ => exact rfl
    | 13, _ => exact rfl
    | 14, _ => exact rfl
    | 15, _ => exact rfl
    | 16, _ => exact rfl
    | 17, _ => exact rfl
    | 18, _ => exact rfl
    | 19, _ => exact rfl
    | 20, _ => exact rfl
    | 21, _ => exact rfl
    | i + 22, h => exact absurd h (by omega)
  · match i, hi with
    | 0, _ => rfl
    | 1, _ => rfl
    | 2, _ => rfl
    | 3, _ => rfl
    | 4, _ => rfl
    | 5, _ => rfl
    | 6, _ => rfl
    | 7, _ => rfl
    | 8, _ => rfl
    | 9, _ => rfl
    | 10, _ => rfl
    | 11, _ => rfl
    | 12, _ => rfl
    | 13, _ => rfl
    | 14, _ => rfl
    | 15, _ => rfl
    | 16, _ => rfl
    | 17, _ => rfl
    | 18, _ => rfl
    | 19, _ => rfl
    | 20, _ => rfl
    | 21, _ => rfl
    | 22, _ => rfl
    | i + 23, h => exact absurd h (by omega)
def kf (c : Nat) : Int32 := if c = 44 then (nI 119).toInt8.toInt32 else if c = 43 then (nI 111).toInt8.toInt32 else if c = 42 then (nI 108).toInt8.toInt32 else if c = 41 then (nI 101).toInt8.toInt32 else if c = 40 then (nI 98).toInt8.toInt32 else if c = 39 then (nI 101).toInt8.toInt32 else if c = 38 then (nI 118).toInt8.toInt32 else if c = 37 then (nI 111).toInt8.toInt32 else if c = 36 then (nI 98).toInt8.toInt32 else if c = 35 then (nI 97).toInt8.toInt32 else if c = 34 then (nI 0).toInt8.toInt32 else if c = 33 then (nI 100).toInt8.toInt32 else if c = 32 then (nI 114).toInt8.toInt32 else if c = 31 then (nI 111).toInt8.toInt32 else if c = 30 then (nI 119).toInt8.toInt32 else if c = 29 then (nI 0).toInt8.toInt32 else if c = 28 then (nI 116).toInt8.toInt32 else if c = 27 then (nI 115).toInt8.toInt32 else if c = 26 then (nI 105).toInt8.toInt32 else if c = 25 then (nI 108).toInt8.toInt32 else if c = 24 then (nI 0).toInt8.toInt32 else if c = 23 then (nI 109).toInt8.toInt32 else if c = 22 then (nI 111).toInt8.toInt32 else if c = 21 then (nI 114).toInt8.toInt32 else if c = 20 then (nI 102).toInt8.toInt32 else if c = 19 then (nI 0).toInt8.toInt32 else if c = 18 then (nI 0).toInt8.toInt32 else if c = 17 then (nI 0).toInt8.toInt32 else if c = 16 then (nI 111).toInt8.toInt32 else if c = 15 then (nI 116).toInt8.toInt32 else if c = 14 then (nI 0).toInt8.toInt32 else if c = 13 then (nI 0).toInt8.toInt32 else if c = 12 then (nI 100).toInt8.toInt32 else if c = 11 then (nI 110).toInt8.toInt32 else if c = 10 then (nI 97).toInt8.toInt32 else if c = 9 then (nI 0).toInt8.toInt32 else if c = 8 then (nI 0).toInt8.toInt32 else if c = 7 then (nI 0).toInt8.toInt32 else if c = 6 then (nI 102).toInt8.toInt32 else if c = 5 then (nI 105).toInt8.toInt32 else if c = 4 then (nI 0).toInt8.toInt32 else if c = 3 then (nI 0).toInt8.toInt32 else if c = 2 then (nI 108).toInt8.toInt32 else if c = 1 then (nI 108).toInt8.toInt32 else if c = 0 then (nI 97).toInt8.toInt32 else 0
theorem kf_ok : ∀ i, i < 45 → kf i = nI (kwb i) := by decide +kernel
def QX10 (G : GG) (sz : Nat) (kd : KD) (I : II) (R : RR) (v' : Option Value) (M' : Mem) : Prop := v' = none ∧ ∃ sz' kd' I' R' J', M' = (52, sz', kd', I', R', J') ∧ sz' ≤ sz + 9000 ∧ (∀ a, a < 22 → kd' a = kd a ∧ I' a = I a ∧ R' a = R a) ∧ kd' 22 = .inl 11 ∧ (∀ i, i < 29 → kd' (23 + i) = .inr (mtab i)) ∧ (∀ i, i < 29 → R' 22 (mfld i) = some (gz G + (23 + i))) ∧ (∀ c, c ≠ 23 → c ≠ 24 → I' 22 c = nI 0) ∧ I' 22 23 = nI 3 ∧ I' 22 24 = nI 1 ∧ (∀ f, f < 8 → I' 42 f = nI (if f = 7 then 10 else 2)) ∧ (∀ i, i < 45 → I' 48 i = nI (kwb i)) ∧ (∀ a, 23 ≤ a → a < 52 → a ≠ 42 → a ≠ 48 → ∀ j, I' a j = nI 0)
theorem i_model (hk : kd 22 = .inl 11) (hs : sz ≤ 2000) (hI : I 22 = fun _ => 0) : MM G mX10_init [.ref (gz G + 22)] (23, sz, kd, I, R, J) (QX10 G sz kd I R) := by
  refine mm_of rfl [(0, .ref (gz G + 22))] rfl (Nat.le_of_ble_eq_true rfl) ?_
  refine aw_aload_n dX10_init_0 rfl rfl (by first | exact isR_ref _ | exact isR_rf _ | exact isR_null) ?_
  refine aw_objInit dX10_init_1 oi_X10_1 oi_in oi_co (by decide) (by decide) ?_
  refine aw_aload_n dX10_init_4 rfl rfl (by first | exact isR_ref _ | exact isR_rf _ | exact isR_null) ?_
  refine aw_bipush (v := nI 100) dX10_init_5 (by decide) ?_
  refine aw_newa (t := 0) dX10_init_7 rfl (by decide) ac_0 rfl (by first | decide | omega) (by show _ ≤ 600000; omega) (by show _ ≤ 7302250; omega) ?_
  refine aw_putR (x := some _) dX10_init_9 fl_X10_7 fw_X10_7 rfl hk (by decide) ?_
  refine aw_aload_n dX10_init_12 rfl rfl (by first | exact isR_ref _ | exact isR_rf _ | exact isR_null) ?_
  refine aw_bipush (v := nI 100) dX10_init_13 (by decide) ?_
  refine aw_newa (t := 0) dX10_init_15 rfl (by decide) ac_0 rfl (by first | decide | omega) (by show _ ≤ 600000; omega) (by show _ ≤ 7302250; omega) ?_
  refine aw_putR (x := some _) dX10_init_17 fl_X10_13 fw_X10_13 rfl hk (by decide) ?_
  refine aw_aload_n dX10_init_20 rfl rfl (by first | exact isR_ref _ | exact isR_rf _ | exact isR_null) ?_
  refine aw_bipush (v := nI 100) dX10_init_21 (by decide) ?_
  refine aw_newa (t := 0) dX10_init_23 rfl (by decide) ac_0 rfl (by first | decide | omega) (by show _ ≤ 600000; omega) (by show _ ≤ 7302250; omega) ?_
  refine aw_putR (x := some _) dX10_init_25 fl_X10_16 fw_X10_16 rfl hk (by decide) ?_
  refine aw_aload_n dX10_init_28 rfl rfl (by first | exact isR_ref _ | exact isR_rf _ | exact isR_null) ?_
  refine aw_bipush (v := nI 100) dX10_init_29 (by decide) ?_
  refine aw_newa (t := 0) dX10_init_31 rfl (by decide) ac_0 rfl (by first | decide | omega) (by show _ ≤ 600000; omega) (by show _ ≤ 7302250; omega) ?_
  refine aw_putR (x := some _) dX10_init_33 fl_X10_19 fw_X10_19 rfl hk (by decide) ?_
  refine aw_aload_n dX10_init_36 rfl rfl (by first | exact isR_ref _ | exact isR_rf _ | exact isR_null) ?_
  refine aw_bipush (v := nI 100) dX10_init_37 (by decide) ?_
  refine aw_newa (t := 0) dX10_init_39 rfl (by decide) ac_0 rfl (by first | decide | omega) (by show _ ≤ 600000; omega) (by show _ ≤ 7302250; omega) ?_
  refine aw_putR (x := some _) dX10_init_41 fl_X10_22 fw_X10_22 rfl hk (by decide) ?_
  refine aw_aload_n dX10_init_44 rfl rfl (by first | exact isR_ref _ | exact isR_rf _ | exact isR_null) ?_
  refine aw_bipush (v := nI 100) dX10_init_45 (by decide) ?_
  refine aw_newa (t := 0) dX10_init_47 rfl (by decide) ac_0 rfl (by first | decide | omega) (by show _ ≤ 600000; omega) (by show _ ≤ 7302250; omega) ?_
  refine aw_putR (x := some _) dX10_init_49 fl_X10_25 fw_X10_25 rfl hk (by decide) ?_
  refine aw_aload_n dX10_init_52 rfl rfl (by first | exact isR_ref _ | exact isR_rf _ | exact isR_null) ?_
  refine aw_bipush (v := nI 100) dX10_init_53 (by decide) ?_
  refine aw_newa (t := 0) dX10_init_55 rfl (by decide) ac_0 rfl (by first | decide | omega) (by show _ ≤ 600000; omega) (by show _ ≤ 7302250; omega) ?_
  refine aw_putR (x := some _) dX10_init_57 fl_X10_28 fw_X10_28 rfl hk (by decide) ?_
  refine aw_aload_n dX10_init_60 rfl rfl (by first | exact isR_ref _ | exact isR_rf _ | exact isR_null) ?_
  refine aw_bipush (v := nI 100) dX10_init_61 (by decide) ?_
  refine aw_newa (t := 0) dX10_init_63 rfl (by decide) ac_0 rfl (by first | decide | omega) (by show _ ≤ 600000; omega) (by show _ ≤ 7302250; omega) ?_
  refine aw_putR (x := some _) dX10_init_65 fl_X10_31 fw_X10_31 rfl hk (by decide) ?_
  refine aw_aload_n dX10_init_68 rfl rfl (by first | exact isR_ref _ | exact isR_rf _ | exact isR_null) ?_
  refine aw_bipush (v := nI 100) dX10_init_69 (by decide) ?_
  refine aw_newa (t := 0) dX10_init_71 rfl (by decide) ac_0 rfl (by first | decide | omega) (by show _ ≤ 600000; omega) (by show _ ≤ 7302250; omega) ?_
  refine aw_putR (x := some _) dX10_init_73 fl_X10_34 fw_X10_34 rfl hk (by decide) ?_
  refine aw_aload_n dX10_init_76 rfl rfl (by first | exact isR_ref _ | exact isR_rf _ | exact isR_null) ?_
  refine aw_bipush (v := nI 10) dX10_init_77 (by decide) ?_
  refine aw_newa (t := 2) dX10_init_79 rfl (by decide) ac_2 rfl (by first | decide | omega) (by show _ ≤ 600000; omega) (by show _ ≤ 7302250; omega) ?_
  refine aw_putR (x := some _) dX10_init_81 fl_X10_37 fw_X10_37 rfl hk (by decide) ?_
  refine aw_aload_n dX10_init_84 rfl rfl (by first | exact isR_ref _ | exact isR_rf _ | exact isR_null) ?_
  refine aw_bipush (v := nI 10) dX10_init_85 (by decide) ?_
  refine aw_newa (t := 0) dX10_init_87 rfl (by decide) ac_0 rfl (by first | decide | omega) (by show _ ≤ 600000; omega) (by show _ ≤ 7302250; omega) ?_
  refine aw_putR (x := some _) dX10_init_89 fl_X10_41 fw_X10_41 rfl hk (by decide) ?_
  refine aw_aload_n dX10_init_92 rfl rfl (by first | exact isR_ref _ | exact isR_rf _ | exact isR_null) ?_
  refine aw_bipush (v := nI 10) dX10_init_93 (by decide) ?_
  refine aw_newa (t := 0) dX10_init_95 rfl (by decide) ac_0 rfl (by first | decide | omega) (by show _ ≤ 600000; omega) (by show _ ≤ 7302250; omega) ?_
  refine aw_putR (x := some _) dX10_init_97 fl_X10_44 fw_X10_44 rfl hk (by decide) ?_
  refine aw_aload_n dX10_init_100 rfl rfl (by first | exact isR_ref _ | exact isR_rf _ | exact isR_null) ?_
  refine aw_bipush (v := nI 40) dX10_init_101 (by decide) ?_
  refine aw_newa (t := 0) dX10_init_103 rfl (by decide) ac_0 rfl (by first | decide | omega) (by show _ ≤ 600000; omega) (by show _ ≤ 7302250; omega) ?_
  refine aw_putR (x := some _) dX10_init_105 fl_X10_47 fw_X10_47 rfl hk (by decide) ?_
  refine aw_aload_n dX10_init_108 rfl rfl (by first | exact isR_ref _ | exact isR_rf _ | exact isR_null) ?_
  refine aw_bipush (v := nI 10) dX10_init_109 (by decide) ?_
  refine aw_newa (t := 0) dX10_init_111 rfl (by decide) ac_0 rfl (by first | decide | omega) (by show _ ≤ 600000; omega) (by show _ ≤ 7302250; omega) ?_
  refine aw_putR (x := some _) dX10_init_113 fl_X10_50 fw_X10_50 rfl hk (by decide) ?_
  refine aw_aload_n dX10_init_116 rfl rfl (by first | exact isR_ref _ | exact isR_rf _ | exact isR_null) ?_
  refine aw_bipush (v := nI 6) dX10_init_117 (by decide) ?_
  refine aw_newa (t := 0) dX10_init_119 rfl (by decide) ac_0 rfl (by first | decide | omega) (by show _ ≤ 600000; omega) (by show _ ≤ 7302250; omega) ?_
  refine aw_putR (x := some _) dX10_init_121 fl_X10_53 fw_X10_53 rfl hk (by decide) ?_
  refine aw_aload_n dX10_init_124 rfl rfl (by first | exact isR_ref _ | exact isR_rf _ | exact isR_null) ?_
  refine aw_bipush (v := nI 6) dX10_init_125 (by decide) ?_
  refine aw_newa (t := 0) dX10_init_127 rfl (by decide) ac_0 rfl (by first | decide | omega) (by show _ ≤ 600000; omega) (by show _ ≤ 7302250; omega) ?_
  refine aw_putR (x := some _) dX10_init_129 fl_X10_56 fw_X10_56 rfl hk (by decide) ?_
  refine aw_aload_n dX10_init_132 rfl rfl (by first | exact isR_ref _ | exact isR_rf _ | exact isR_null) ?_
  refine aw_bipush (v := nI 12) dX10_init_133 (by decide) ?_
  refine aw_newa (t := 0) dX10_init_135 rfl (by decide) ac_0 rfl (by first | decide | omega) (by show _ ≤ 600000; omega) (by show _ ≤ 7302250; omega) ?_
  refine aw_putR (x := some _) dX10_init_137 fl_X10_59 fw_X10_59 rfl hk (by decide) ?_
  refine aw_aload_n dX10_init_140 rfl rfl (by first | exact isR_ref _ | exact isR_rf _ | exact isR_null) ?_
  refine aw_bipush (v := nI 6) dX10_init_141 (by decide) ?_
  refine aw_newa (t := 0) dX10_init_143 rfl (by decide) ac_0 rfl (by first | decide | omega) (by show _ ≤ 600000; omega) (by show _ ≤ 7302250; omega) ?_
  refine aw_putR (x := some _) dX10_init_145 fl_X10_62 fw_X10_62 rfl hk (by decide) ?_
  refine aw_aload_n dX10_init_148 rfl rfl (by first | exact isR_ref _ | exact isR_rf _ | exact isR_null) ?_
  refine aw_sipush (v := nI 6560) dX10_init_149 (by decide) ?_
  refine aw_newa (t := 0) dX10_init_152 rfl (by decide) ac_0 rfl (by first | decide | omega) (by show _ ≤ 600000; omega) (by show _ ≤ 7302250; omega) ?_
  refine aw_putR (x := some _) dX10_init_154 fl_X10_65 fw_X10_65 rfl hk (by decide) ?_
  refine aw_aload_n dX10_init_157 rfl rfl (by first | exact isR_ref _ | exact isR_rf _ | exact isR_null) ?_
  refine aw_iconst (v := nI 3) dX10_init_158 (by decide) ?_
  refine aw_putI dX10_init_159 fl_X10_68 (Or.inl rfl) rfl hk (by decide) ?_
  refine aw_aload_n dX10_init_162 rfl rfl (by first | exact isR_ref _ | exact isR_rf _ | exact isR_null) ?_
  refine aw_iconst (v := nI 1) dX10_init_163 (by decide) ?_
  refine aw_putI dX10_init_164 fl_X10_72 (Or.inl rfl) rfl hk (by decide) ?_
  refine aw_aload_n dX10_init_167 rfl rfl (by first | exact isR_ref _ | exact isR_rf _ | exact isR_null) ?_
  refine aw_bipush (v := nI 8) dX10_init_168 (by decide) ?_
  refine aw_newa (t := 0) dX10_init_170 rfl (by decide) ac_0 rfl (by first | decide | omega) (by show _ ≤ 600000; omega) (by show _ ≤ 7302250; omega) ?_
  refine aw_dup dX10_init_172 rfl ?_
  refine aw_iconst (v := nI 0) dX10_init_173 (by decide) ?_
  refine aw_iconst (v := nI 2) dX10_init_174 (by decide) ?_
  refine aw_iast dX10_init_175 (vz_up_same _ _ _) (Nat.lt_succ_self _) (ixm (by omega)) ?_
  refine aw_dup dX10_init_176 rfl ?_
  refine aw_iconst (v := nI 1) dX10_init_177 (by decide) ?_
  refine aw_iconst (v := nI 2) dX10_init_178 (by decide) ?_
  refine aw_iast dX10_init_179 (vz_up_same _ _ _) (Nat.lt_succ_self _) (ixm (by omega)) ?_
  refine aw_dup dX10_init_180 rfl ?_
  refine aw_iconst (v := nI 2) dX10_init_181 (by decide) ?_
  refine aw_iconst (v := nI 2) dX10_init_182 (by decide) ?_
  refine aw_iast dX10_init_183 (vz_up_same _ _ _) (Nat.lt_succ_self _) (ixm (by omega)) ?_
  refine aw_dup dX10_init_184 rfl ?_
  refine aw_iconst (v := nI 3) dX10_init_185 (by decide) ?_
  refine aw_iconst (v := nI 2) dX10_init_186 (by decide) ?_
  refine aw_iast dX10_init_187 (vz_up_same _ _ _) (Nat.lt_succ_self _) (ixm (by omega)) ?_
  refine aw_dup dX10_init_188 rfl ?_
  refine aw_iconst (v := nI 4) dX10_init_189 (by decide) ?_
  refine aw_iconst (v := nI 2) dX10_init_190 (by decide) ?_
  refine aw_iast dX10_init_191 (vz_up_same _ _ _) (Nat.lt_succ_self _) (ixm (by omega)) ?_
  refine aw_dup dX10_init_192 rfl ?_
  refine aw_iconst (v := nI 5) dX10_init_193 (by decide) ?_
  refine aw_iconst (v := nI 2) dX10_init_194 (by decide) ?_
  refine aw_iast dX10_init_195 (vz_up_same _ _ _) (Nat.lt_succ_self _) (ixm (by omega)) ?_
  refine aw_dup dX10_init_196 rfl ?_
  refine aw_bipush (v := nI 6) dX10_init_197 (by decide) ?_
  refine aw_iconst (v := nI 2) dX10_init_199 (by decide) ?_
  refine aw_iast dX10_init_200 (vz_up_same _ _ _) (Nat.lt_succ_self _) (ixm (by omega)) ?_
  refine aw_dup dX10_init_201 rfl ?_
  refine aw_bipush (v := nI 7) dX10_init_202 (by decide) ?_
  refine aw_bipush (v := nI 10) dX10_init_204 (by decide) ?_
  refine aw_iast dX10_init_206 (vz_up_same _ _ _) (Nat.lt_succ_self _) (ixm (by omega)) ?_
  refine aw_putR (x := some _) dX10_init_207 fl_X10_75 fw_X10_75 rfl hk (by decide) ?_
  refine aw_aload_n dX10_init_210 rfl rfl (by first | exact isR_ref _ | exact isR_rf _ | exact isR_null) ?_
  refine aw_sipush (v := nI 200) dX10_init_211 (by decide) ?_
  refine aw_newa (t := 0) dX10_init_214 rfl (by decide) ac_0 rfl (by first | decide | omega) (by show _ ≤ 600000; omega) (by show _ ≤ 7302250; omega) ?_
  refine aw_putR (x := some _) dX10_init_216 fl_X10_78 fw_X10_78 rfl hk (by decide) ?_
  refine aw_aload_n dX10_init_219 rfl rfl (by first | exact isR_ref _ | exact isR_rf _ | exact isR_null) ?_
  refine aw_sipush (v := nI 200) dX10_init_220 (by decide) ?_
  refine aw_newa (t := 0) dX10_init_223 rfl (by decide) ac_0 rfl (by first | decide | omega) (by show _ ≤ 600000; omega) (by show _ ≤ 7302250; omega) ?_
  refine aw_putR (x := some _) dX10_init_225 fl_X10_81 fw_X10_81 rfl hk (by decide) ?_
  refine aw_aload_n dX10_init_228 rfl rfl (by first | exact isR_ref _ | exact isR_rf _ | exact isR_null) ?_
  refine aw_sipush (v := nI 200) dX10_init_229 (by decide) ?_
  refine aw_newa (t := 0) dX10_init_232 rfl (by decide) ac_0 rfl (by first | decide | omega) (by show _ ≤ 600000; omega) (by show _ ≤ 7302250; omega) ?_
  refine aw_putR (x := some _) dX10_init_234 fl_X10_84 fw_X10_84 rfl hk (by decide) ?_
  refine aw_aload_n dX10_init_237 rfl rfl (by first | exact isR_ref _ | exact isR_rf _ | exact isR_null) ?_
  refine aw_bipush (v := nI 100) dX10_init_238 (by decide) ?_
  refine aw_newa (t := 1) dX10_init_240 rfl (by decide) ac_1 rfl (by first | decide | omega) (by show _ ≤ 600000; omega) (by show _ ≤ 7302250; omega) ?_
  refine aw_putR (x := some _) dX10_init_242 fl_X10_87 fw_X10_87 rfl hk (by decide) ?_
  refine aw_aload_n dX10_init_245 rfl rfl (by first | exact isR_ref _ | exact isR_rf _ | exact isR_null) ?_
  refine aw_iconst (v := nI 4) dX10_init_246 (by decide) ?_
  refine aw_newa (t := 0) dX10_init_247 rfl (by decide) ac_0 rfl (by first | decide | omega) (by show _ ≤ 600000; omega) (by show _ ≤ 7302250; omega) ?_
  refine aw_putR (x := some _) dX10_init_249 fl_X10_91 fw_X10_91 rfl hk (by decide) ?_
  refine aw_aload_n dX10_init_252 rfl rfl (by first | exact isR_ref _ | exact isR_rf _ | exact isR_null) ?_
  refine aw_bipush (v := nI 45) dX10_init_253 (by decide) ?_
  refine aw_newa (t := 1) dX10_init_255 rfl (by decide) ac_1 rfl (by first | decide | omega) (by show _ ≤ 600000; omega) (by show _ ≤ 7302250; omega) ?_
  refine aw_dup dX10_init_257 rfl ?_
  refine aw_iconst (v := nI 0) dX10_init_258 (by decide) ?_
  refine aw_bipush (v := nI 97) dX10_init_259 (by decide) ?_
  refine aw_bast dX10_init_261 (vz_up_same _ _ _) (Nat.lt_succ_self _) (ixm (by omega)) rfl ?_
  refine aw_dup dX10_init_262 rfl ?_
  refine aw_iconst (v := nI 1) dX10_init_263 (by decide) ?_
  refine aw_bipush (v := nI 108) dX10_init_264 (by decide) ?_
  refine aw_bast dX10_init_266 (vz_up_same _ _ _) (Nat.lt_succ_self _) (ixm (by omega)) rfl ?_
  refine aw_dup dX10_init_267 rfl ?_
  refine aw_iconst (v := nI 2) dX10_init_268 (by decide) ?_
  refine aw_bipush (v := nI 108) dX10_init_269 (by decide) ?_
  refine aw_bast dX10_init_271 (vz_up_same _ _ _) (Nat.lt_succ_self _) (ixm (by omega)) rfl ?_
  refine aw_dup dX10_init_272 rfl ?_
  refine aw_iconst (v := nI 3) dX10_init_273 (by decide) ?_
  refine aw_iconst (v := nI 0) dX10_init_274 (by decide) ?_
  refine aw_bast dX10_init_275 (vz_up_same _ _ _) (Nat.lt_succ_self _) (ixm (by omega)) rfl ?_
  refine aw_dup dX10_init_276 rfl ?_
  refine aw_iconst (v := nI 4) dX10_init_277 (by decide) ?_
  refine aw_iconst (v := nI 0) dX10_init_278 (by decide) ?_
  refine aw_bast dX10_init_279 (vz_up_same _ _ _) (Nat.lt_succ_self _) (ixm (by omega)) rfl ?_
  refine aw_dup dX10_init_280 rfl ?_
  refine aw_iconst (v := nI 5) dX10_init_281 (by decide) ?_
  refine aw_bipush (v := nI 105) dX10_init_282 (by decide) ?_
  refine aw_bast dX10_init_284 (vz_up_same _ _ _) (Nat.lt_succ_self _) (ixm (by omega)) rfl ?_
  refine aw_dup dX10_init_285 rfl ?_
  refine aw_bipush (v := nI 6) dX10_init_286 (by decide) ?_
  refine aw_bipush (v := nI 102) dX10_init_288 (by decide) ?_
  refine aw_bast dX10_init_290 (vz_up_same _ _ _) (Nat.lt_succ_self _) (ixm (by omega)) rfl ?_
  refine aw_dup dX10_init_291 rfl ?_
  refine aw_bipush (v := nI 7) dX10_init_292 (by decide) ?_
  refine aw_iconst (v := nI 0) dX10_init_294 (by decide) ?_
  refine aw_bast dX10_init_295 (vz_up_same _ _ _) (Nat.lt_succ_self _) (ixm (by omega)) rfl ?_
  refine aw_dup dX10_init_296 rfl ?_
  refine aw_bipush (v := nI 8) dX10_init_297 (by decide) ?_
  refine aw_iconst (v := nI 0) dX10_init_299 (by decide) ?_
  refine aw_bast dX10_init_300 (vz_up_same _ _ _) (Nat.lt_succ_self _) (ixm (by omega)) rfl ?_
  refine aw_dup dX10_init_301 rfl ?_
  refine aw_bipush (v := nI 9) dX10_init_302 (by decide) ?_
  refine aw_iconst (v := nI 0) dX10_init_304 (by decide) ?_
  refine aw_bast dX10_init_305 (vz_up_same _ _ _) (Nat.lt_succ_self _) (ixm (by omega)) rfl ?_
  refine aw_dup dX10_init_306 rfl ?_
  refine aw_bipush (v := nI 10) dX10_init_307 (by decide) ?_
  refine aw_bipush (v := nI 97) dX10_init_309 (by decide) ?_
  refine aw_bast dX10_init_311 (vz_up_same _ _ _) (Nat.lt_succ_self _) (ixm (by omega)) rfl ?_
  refine aw_dup dX10_init_312 rfl ?_
  refine aw_bipush (v := nI 11) dX10_init_313 (by decide) ?_
  refine aw_bipush (v := nI 110) dX10_init_315 (by decide) ?_
  refine aw_bast dX10_init_317 (vz_up_same _ _ _) (Nat.lt_succ_self _) (ixm (by omega)) rfl ?_
  refine aw_dup dX10_init_318 rfl ?_
  refine aw_bipush (v := nI 12) dX10_init_319 (by decide) ?_
  refine aw_bipush (v := nI 100) dX10_init_321 (by decide) ?_
  refine aw_bast dX10_init_323 (vz_up_same _ _ _) (Nat.lt_succ_self _) (ixm (by omega)) rfl ?_
  refine aw_dup dX10_init_324 rfl ?_
  refine aw_bipush (v := nI 13) dX10_init_325 (by decide) ?_
  refine aw_iconst (v := nI 0) dX10_init_327 (by decide) ?_
  refine aw_bast dX10_init_328 (vz_up_same _ _ _) (Nat.lt_succ_self _) (ixm (by omega)) rfl ?_
  refine aw_dup dX10_init_329 rfl ?_
  refine aw_bipush (v := nI 14) dX10_init_330 (by decide) ?_
  refine aw_iconst (v := nI 0) dX10_init_332 (by decide) ?_
  refine aw_bast dX10_init_333 (vz_up_same _ _ _) (Nat.lt_succ_self _) (ixm (by omega)) rfl ?_
  refine aw_dup dX10_init_334 rfl ?_
  refine aw_bipush (v := nI 15) dX10_init_335 (by decide) ?_
  refine aw_bipush (v := nI 116) dX10_init_337 (by decide) ?_
  refine aw_bast dX10_init_339 (vz_up_same _ _ _) (Nat.lt_succ_self _) (ixm (by omega)) rfl ?_
  refine aw_dup dX10_init_340 rfl ?_
  refine aw_bipush (v := nI 16) dX10_init_341 (by decide) ?_
  refine aw_bipush (v := nI 111) dX10_init_343 (by decide) ?_
  refine aw_bast dX10_init_345 (vz_up_same _ _ _) (Nat.lt_succ_self _) (ixm (by omega)) rfl ?_
  refine aw_dup dX10_init_346 rfl ?_
  refine aw_bipush (v := nI 17) dX10_init_347 (by decide) ?_
  refine aw_iconst (v := nI 0) dX10_init_349 (by decide) ?_
  refine aw_bast dX10_init_350 (vz_up_same _ _ _) (Nat.lt_succ_self _) (ixm (by omega)) rfl ?_
  refine aw_dup dX10_init_351 rfl ?_
  refine aw_bipush (v := nI 18) dX10_init_352 (by decide) ?_
  refine aw_iconst (v := nI 0) dX10_init_354 (by decide) ?_
  refine aw_bast dX10_init_355 (vz_up_same _ _ _) (Nat.lt_succ_self _) (ixm (by omega)) rfl ?_
  refine aw_dup dX10_init_356 rfl ?_
  refine aw_bipush (v := nI 19) dX10_init_357 (by decide) ?_
  refine aw_iconst (v := nI 0) dX10_init_359 (by decide) ?_
  refine aw_bast dX10_init_360 (vz_up_same _ _ _) (Nat.lt_succ_self _) (ixm (by omega)) rfl ?_
  refine aw_dup dX10_init_361 rfl ?_
  refine aw_bipush (v := nI 20) dX10_init_362 (by decide) ?_
  refine aw_bipush (v := nI 102) dX10_init_364 (by decide) ?_
  refine aw_bast dX10_init_366 (vz_up_same _ _ _) (Nat.lt_succ_self _) (ixm (by omega)) rfl ?_
  refine aw_dup dX10_init_367 rfl ?_
  refine aw_bipush (v := nI 21) dX10_init_368 (by decide) ?_
  refine aw_bipush (v := nI 114) dX10_init_370 (by decide) ?_
  refine aw_bast dX10_init_372 (vz_up_same _ _ _) (Nat.lt_succ_self _) (ixm (by omega)) rfl ?_
  refine aw_dup dX10_init_373 rfl ?_
  refine aw_bipush (v := nI 22) dX10_init_374 (by decide) ?_
  refine aw_bipush (v := nI 111) dX10_init_376 (by decide) ?_
  refine aw_bast dX10_init_378 (vz_up_same _ _ _) (Nat.lt_succ_self _) (ixm (by omega)) rfl ?_
  refine aw_dup dX10_init_379 rfl ?_
  refine aw_bipush (v := nI 23) dX10_init_380 (by decide) ?_
  refine aw_bipush (v := nI 109) dX10_init_382 (by decide) ?_
  refine aw_bast dX10_init_384 (vz_up_same _ _ _) (Nat.lt_succ_self _) (ixm (by omega)) rfl ?_
  refine aw_dup dX10_init_385 rfl ?_
  refine aw_bipush (v := nI 24) dX10_init_386 (by decide) ?_
  refine aw_iconst (v := nI 0) dX10_init_388 (by decide) ?_
  refine aw_bast dX10_init_389 (vz_up_same _ _ _) (Nat.lt_succ_self _) (ixm (by omega)) rfl ?_
  refine aw_dup dX10_init_390 rfl ?_
  refine aw_bipush (v := nI 25) dX10_init_391 (by decide) ?_
  refine aw_bipush (v := nI 108) dX10_init_393 (by decide) ?_
  refine aw_bast dX10_init_395 (vz_up_same _ _ _) (Nat.lt_succ_self _) (ixm (by omega)) rfl ?_
  refine aw_dup dX10_init_396 rfl ?_
  refine aw_bipush (v := nI 26) dX10_init_397 (by decide) ?_
  refine aw_bipush (v := nI 105) dX10_init_399 (by decide) ?_
  refine aw_bast dX10_init_401 (vz_up_same _ _ _) (Nat.lt_succ_self _) (ixm (by omega)) rfl ?_
  refine aw_dup dX10_init_402 rfl ?_
  refine aw_bipush (v := nI 27) dX10_init_403 (by decide) ?_
  refine aw_bipush (v := nI 115) dX10_init_405 (by decide) ?_
  refine aw_bast dX10_init_407 (vz_up_same _ _ _) (Nat.lt_succ_self _) (ixm (by omega)) rfl ?_
  refine aw_dup dX10_init_408 rfl ?_
  refine aw_bipush (v := nI 28) dX10_init_409 (by decide) ?_
  refine aw_bipush (v := nI 116) dX10_init_411 (by decide) ?_
  refine aw_bast dX10_init_413 (vz_up_same _ _ _) (Nat.lt_succ_self _) (ixm (by omega)) rfl ?_
  refine aw_dup dX10_init_414 rfl ?_
  refine aw_bipush (v := nI 29) dX10_init_415 (by decide) ?_
  refine aw_iconst (v := nI 0) dX10_init_417 (by decide) ?_
  refine aw_bast dX10_init_418 (vz_up_same _ _ _) (Nat.lt_succ_self _) (ixm (by omega)) rfl ?_
  refine aw_dup dX10_init_419 rfl ?_
  refine aw_bipush (v := nI 30) dX10_init_420 (by decide) ?_
  refine aw_bipush (v := nI 119) dX10_init_422 (by decide) ?_
  refine aw_bast dX10_init_424 (vz_up_same _ _ _) (Nat.lt_succ_self _) (ixm (by omega)) rfl ?_
  refine aw_dup dX10_init_425 rfl ?_
  refine aw_bipush (v := nI 31) dX10_init_426 (by decide) ?_
  refine aw_bipush (v := nI 111) dX10_init_428 (by decide) ?_
  refine aw_bast dX10_init_430 (vz_up_same _ _ _) (Nat.lt_succ_self _) (ixm (by omega)) rfl ?_
  refine aw_dup dX10_init_431 rfl ?_
  refine aw_bipush (v := nI 32) dX10_init_432 (by decide) ?_
  refine aw_bipush (v := nI 114) dX10_init_434 (by decide) ?_
  refine aw_bast dX10_init_436 (vz_up_same _ _ _) (Nat.lt_succ_self _) (ixm (by omega)) rfl ?_
  refine aw_dup dX10_init_437 rfl ?_
  refine aw_bipush (v := nI 33) dX10_init_438 (by decide) ?_
  refine aw_bipush (v := nI 100) dX10_init_440 (by decide) ?_
  refine aw_bast dX10_init_442 (vz_up_same _ _ _) (Nat.lt_succ_self _) (ixm (by omega)) rfl ?_
  refine aw_dup dX10_init_443 rfl ?_
  refine aw_bipush (v := nI 34) dX10_init_444 (by decide) ?_
  refine aw_iconst (v := nI 0) dX10_init_446 (by decide) ?_
  refine aw_bast dX10_init_447 (vz_up_same _ _ _) (Nat.lt_succ_self _) (ixm (by omega)) rfl ?_
  refine aw_dup dX10_init_448 rfl ?_
  refine aw_bipush (v := nI 35) dX10_init_449 (by decide) ?_
  refine aw_bipush (v := nI 97) dX10_init_451 (by decide) ?_
  refine aw_bast dX10_init_453 (vz_up_same _ _ _) (Nat.lt_succ_self _) (ixm (by omega)) rfl ?_
  refine aw_dup dX10_init_454 rfl ?_
  refine aw_bipush (v := nI 36) dX10_init_455 (by decide) ?_
  refine aw_bipush (v := nI 98) dX10_init_457 (by decide) ?_
  refine aw_bast dX10_init_459 (vz_up_same _ _ _) (Nat.lt_succ_self _) (ixm (by omega)) rfl ?_
  refine aw_dup dX10_init_460 rfl ?_
  refine aw_bipush (v := nI 37) dX10_init_461 (by decide) ?_
  refine aw_bipush (v := nI 111) dX10_init_463 (by decide) ?_
  refine aw_bast dX10_init_465 (vz_up_same _ _ _) (Nat.lt_succ_self _) (ixm (by omega)) rfl ?_
  refine aw_dup dX10_init_466 rfl ?_
  refine aw_bipush (v := nI 38) dX10_init_467 (by decide) ?_
  refine aw_bipush (v := nI 118) dX10_init_469 (by decide) ?_
  refine aw_bast dX10_init_471 (vz_up_same _ _ _) (Nat.lt_succ_self _) (ixm (by omega)) rfl ?_
  refine aw_dup dX10_init_472 rfl ?_
  refine aw_bipush (v := nI 39) dX10_init_473 (by decide) ?_
  refine aw_bipush (v := nI 101) dX10_init_475 (by decide) ?_
  refine aw_bast dX10_init_477 (vz_up_same _ _ _) (Nat.lt_succ_self _) (ixm (by omega)) rfl ?_
  refine aw_dup dX10_init_478 rfl ?_
  refine aw_bipush (v := nI 40) dX10_init_479 (by decide) ?_
  refine aw_bipush (v := nI 98) dX10_init_481 (by decide) ?_
  refine aw_bast dX10_init_483 (vz_up_same _ _ _) (Nat.lt_succ_self _) (ixm (by omega)) rfl ?_
  refine aw_dup dX10_init_484 rfl ?_
  refine aw_bipush (v := nI 41) dX10_init_485 (by decide) ?_
  refine aw_bipush (v := nI 101) dX10_init_487 (by decide) ?_
  refine aw_bast dX10_init_489 (vz_up_same _ _ _) (Nat.lt_succ_self _) (ixm (by omega)) rfl ?_
  refine aw_dup dX10_init_490 rfl ?_
  refine aw_bipush (v := nI 42) dX10_init_491 (by decide) ?_
  refine aw_bipush (v := nI 108) dX10_init_493 (by decide) ?_
  refine aw_bast dX10_init_495 (vz_up_same _ _ _) (Nat.lt_succ_self _) (ixm (by omega)) rfl ?_
  refine aw_dup dX10_init_496 rfl ?_
  refine aw_bipush (v := nI 43) dX10_init_497 (by decide) ?_
  refine aw_bipush (v := nI 111) dX10_init_499 (by decide) ?_
  refine aw_bast dX10_init_501 (vz_up_same _ _ _) (Nat.lt_succ_self _) (ixm (by omega)) rfl ?_
  refine aw_dup dX10_init_502 rfl ?_
  refine aw_bipush (v := nI 44) dX10_init_503 (by decide) ?_
  refine aw_bipush (v := nI 119) dX10_init_505 (by decide) ?_
  refine aw_bast dX10_init_507 (vz_up_same _ _ _) (Nat.lt_succ_self _) (ixm (by omega)) rfl ?_
  refine aw_putR (x := some _) dX10_init_508 fl_X10_94 fw_X10_94 rfl hk (by decide) ?_
  refine aw_aload_n dX10_init_511 rfl rfl (by first | exact isR_ref _ | exact isR_rf _ | exact isR_null) ?_
  refine aw_bipush (v := nI 100) dX10_init_512 (by decide) ?_
  refine aw_newa (t := 2) dX10_init_514 rfl (by decide) ac_2 rfl (by first | decide | omega) (by show _ ≤ 600000; omega) (by show _ ≤ 7302250; omega) ?_
  refine aw_putR (x := some _) dX10_init_516 fl_X10_97 fw_X10_97 rfl hk (by decide) ?_
  refine aw_aload_n dX10_init_519 rfl rfl (by first | exact isR_ref _ | exact isR_rf _ | exact isR_null) ?_
  refine aw_bipush (v := nI 8) dX10_init_520 (by decide) ?_
  refine aw_newa (t := 0) dX10_init_522 rfl (by decide) ac_0 rfl (by first | decide | omega) (by show _ ≤ 600000; omega) (by show _ ≤ 7302250; omega) ?_
  refine aw_putR (x := some _) dX10_init_524 fl_X10_100 fw_X10_100 rfl hk (by decide) ?_
  refine aw_aload_n dX10_init_527 rfl rfl (by first | exact isR_ref _ | exact isR_rf _ | exact isR_null) ?_
  refine aw_bipush (v := nI 6) dX10_init_528 (by decide) ?_
  refine aw_newa (t := 0) dX10_init_530 rfl (by decide) ac_0 rfl (by first | decide | omega) (by show _ ≤ 600000; omega) (by show _ ≤ 7302250; omega) ?_
  refine aw_putR (x := some _) dX10_init_532 fl_X10_103 fw_X10_103 rfl hk (by decide) ?_
  refine aw_vret dX10_init_535 rfl ?_
  refine ⟨rfl, _, _, _, _, _, rfl, by omega, fun a ha => ⟨?_, ?_, ?_⟩, hk, fun i hi => ?_, fun i hi => ?_, fun c h1 h2 => ?_, rfl, rfl, lt8 _ rfl rfl rfl rfl rfl rfl rfl rfl, fun i hi => ?_, fun a h1 h2 h3 h4 j => ?_⟩
  · iterate 29 rw [vz_up_ne _ _ (by omega)]
  · repeat (first | rw [u2_row _ _ _ (by omega)] | rw [vz_up_ne _ _ (by omega)])
  · repeat (first | rw [u2_row _ _ _ (by omega)] | rw [vz_up_ne _ _ (by omega)])
  · match i, hi with
    | 0, _ => rfl
    | 1, _ => rfl
    | 2, _ => rfl
    | 3, _ => rfl
    | 4, _ => rfl
    | 5, _ => rfl
    | 6, _ => rfl
    | 7, _ => rfl
    | 8, _ => rfl
    | 9, _ => rfl
    | 10, _ => rfl
    | 11, _ => rfl
    | 12, _ => rfl
    | 13, _ => rfl
    | 14, _ => rfl
    | 15, _ => rfl
    | 16, _ => rfl
    | 17, _ => rfl
    | 18, _ => rfl
    | 19, _ => rfl
    | 20, _ => rfl
    | 21, _ => rfl
    | 22, _ => rfl
    | 23, _ => rfl
    | 24, _ => rfl
    | 25, _ => rfl
    | 26, _ => rfl
    | 27, _ => rfl
    | 28, _ => rfl
    | i + 29, h => exact absurd h (by omega)
  · match i, hi with
    | 0, _ => rfl
    | 1, _ => rfl
    | 2, _ => rfl
    | 3, _ => rfl
    | 4, _ => rfl
    | 5, _ => rfl
    | 6, _ => rfl
    | 7, _ => rfl
    | 8, _ => rfl
    | 9, _ => rfl
    | 10, _ => rfl
    | 11, _ => rfl
    | 12, _ => rfl
    | 13, _ => rfl
    | 14, _ => rfl
    | 15, _ => rfl
    | 16, _ => rfl
    | 17, _ => rfl
    | 18, _ => rfl
    | 19, _ => rfl
    | 20, _ => rfl
    | 21, _ => rfl
    | 22, _ => rfl
    | 23, _ => rfl
    | 24, _ => rfl
    | 25, _ => rfl
    | 26, _ => rfl
    | 27, _ => rfl
    | 28, _ => rfl
    | i + 29, h => exact absurd h (by omega)
  · show (if c = 24 then nI 1 else if c = 23 then nI 3 else I 22 c) = nI 0
    rw [if_neg h2, if_neg h1, hI]
    rfl
  · show kf i = _
    exact kf_ok i hi
  · obtain ⟨i, rfl⟩ : ∃ i, a = 23 + i := ⟨a - 23, by omega⟩
    match i with
    | 0 => rfl
    | 1 => rfl
    | 2 => rfl
    | 3 => rfl
    | 4 => rfl
    | 5 => rfl
    | 6 => rfl
    | 7 => rfl
    | 8 => rfl
    | 9 => rfl
    | 10 => rfl
    | 11 => rfl
    | 12 => rfl
    | 13 => rfl
    | 14 => rfl
    | 15 => rfl
    | 16 => rfl
    | 17 => rfl
    | 18 => rfl
    | 19 => exact absurd rfl h3
    | 20 => rfl
    | 21 => rfl
    | 22 => rfl
    | 23 => rfl
    | 24 => rfl
    | 25 => exact absurd rfl h4
    | 26 => rfl
    | 27 => rfl
    | 28 => rfl
    | i + 29 => exact absurd h2 (by omega)
end INI2
