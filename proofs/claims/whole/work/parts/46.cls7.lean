section CLS7
variable {G : GG} {n sz : Nat} {kd : Nat → AKd} {I : Nat → Nat → Int32} {R : Nat → Nat → Option Nat} {J : Nat → Nat → Int64} {ad av : Nat → Nat} {fx : Option Nat}
theorem c_ruleInit {k : Nat} (hk : iO n kd k 7) (nm fo : Int32) (a : Nat) : EX G mX6_init [.ref (gz G + k), .int nm, .ref a, .int fo] (n, sz, kd, I, R, J) none (n, sz, kd, u2 (u2 I k 0 nm) k 2 fo, u2 R k 1 (some a), J) := by
  refine mm_of rfl [(0, .ref (gz G + k)), (1, .int nm), (2, .ref a), (3, .int fo)] rfl (Nat.le_of_ble_eq_true rfl) ?_
  refine aw_aload_n dX6_init_0 rfl rfl (by first | exact isR_ref _ | exact isR_rf _ | exact isR_null) ?_
  refine aw_objInit dX6_init_1 oi_X6_3 oi_in oi_co (by decide) (by decide) ?_
  refine aw_aload_n dX6_init_4 rfl rfl (by first | exact isR_ref _ | exact isR_rf _ | exact isR_null) ?_
  refine aw_iload_n dX6_init_5 rfl rfl ?_
  refine aw_putI dX6_init_6 fl_X6_9 fw_X6_9 rfl hk.1 hk.2 ?_
  refine aw_aload_n dX6_init_9 rfl rfl (by first | exact isR_ref _ | exact isR_rf _ | exact isR_null) ?_
  refine aw_aload_n dX6_init_10 rfl rfl (by first | exact isR_ref _ | exact isR_rf _ | exact isR_null) ?_
  refine aw_putR (x := some _) dX6_init_11 fl_X6_15 fw_X6_15 rfl hk.1 hk.2 ?_
  refine aw_aload_n dX6_init_14 rfl rfl (by first | exact isR_ref _ | exact isR_rf _ | exact isR_null) ?_
  refine aw_iload_n dX6_init_15 rfl rfl ?_
  refine aw_putI dX6_init_16 fl_X6_19 fw_X6_19 rfl hk.1 hk.2 ?_
  refine aw_vret dX6_init_19 rfl ?_
  exact ⟨rfl, rfl⟩
def QRule (G : GG) (n sz : Nat) (kd : Nat → AKd) (I : Nat → Nat → Int32) (R : Nat → Nat → Option Nat) (J : Nat → Nat → Int64) (nm fo : Int32) (t : Nat) (cd : Nat → Int32) (v' : Option Value) (M' : Mem) : Prop :=
  v' = some (.ref (gz G + (n + 1))) ∧ ∃ kd' I' R' J', M' = (n + 2, sz + t + 3, kd', I', R', J') ∧ (∀ a, a < n → kd' a = kd a ∧ I' a = I a ∧ R' a = R a ∧ J' a = J a) ∧ kd' n = .inr (0, t) ∧ kd' (n + 1) = .inl 7 ∧ R' (n + 1) 1 = some (gz G + n) ∧ I' (n + 1) 0 = nm ∧ I' (n + 1) 2 = fo ∧ ∀ j, j < t → I' n j = cd j
theorem c_toRule (hC : ShC G n kd R) (hc1 : n + 10 ≤ 600000) (hc2 : sz + 100 ≤ 7302250) {t : Nat} (ht : I 3 2 = nI t) (ht4 : t ≤ 4) (nm : Int32) : MM G mX7_toRule [.ref (gz G + 3), .int nm] (n, sz, kd, I, R, J) (QRule G n sz kd I R J nm (I 3 3) t (I 4)) := by
  refine mm_of rfl [(0, .ref (gz G + 3)), (1, .int nm)] rfl (Nat.le_of_ble_eq_true rfl) ?_
  have hn := hC.1
  refine aw_aload_n dX7_toRule_0 rfl rfl (by first | exact isR_ref _ | exact isR_rf _ | exact isR_null) ?_
  refine aw_get dX7_toRule_1 fl_X7_23 (sC_k3 hC) (sC_n3 hC) (congrArg Value.int ht) ?_
  refine aw_newa (t := 0) dX7_toRule_4 rfl (by decide) ac_0 rfl (by first | decide | omega) (by show _ ≤ 600000; omega) (by show _ ≤ 7302250; omega) ?_
  have hC := hC.grow (n' := n + 1) (kd' := va_up kd n (.inr (0, t))) (R' := R) (by omega) (fun i hi => vz_up_ne _ _ (by omega)) (fun _ _ => rfl)
  have e1 : va_up I n (fun _ => 0) 3 2 = nI t := by rw [vz_up_ne _ _ (by omega)]; exact ht
  refine aw_astore_n (lv' := [(0, _), (1, _), (2, _)]) dX7_toRule_6 rfl (by decide) rfl ?_
  refine aw_aload_n dX7_toRule_7 rfl rfl (by first | exact isR_ref _ | exact isR_rf _ | exact isR_null) ?_
  refine aw_get dX7_toRule_8 fl_X7_9 (sC_k3 hC) (sC_n3 hC) (sC_r_3_codes hC _ _) ?_
  refine aw_iconst (v := nI 0) dX7_toRule_11 (by decide) ?_
  refine aw_aload_n dX7_toRule_12 rfl rfl (by first | exact isR_ref _ | exact isR_rf _ | exact isR_null) ?_
  refine aw_iconst (v := nI 0) dX7_toRule_13 (by decide) ?_
  refine aw_aload_n dX7_toRule_14 rfl rfl (by first | exact isR_ref _ | exact isR_rf _ | exact isR_null) ?_
  refine aw_get dX7_toRule_15 fl_X7_23 (sC_k3 hC) (sC_n3 hC) (congrArg Value.int e1) ?_
  refine aw_copyI dX7_toRule_18 cp_X7 (sC_k4 hC) (sC_n4 hC) (vz_up_same _ _ _) (Nat.lt_succ_self _) (by omega) (by omega) (by decide) (by omega) (by decide) (by decide) ?_
  refine aw_new dX7_toRule_21 cf_X6 cl_X7_65 (List.mem_of_getElem? (i := 462) (by decide +kernel)) (List.mem_of_getElem? (i := 71) (by decide +kernel)) (by show _ ≤ 600000; omega) (by show _ + 3 ≤ 7302250; omega) ?_
  refine aw_dup dX7_toRule_24 rfl ?_
  refine aw_iload_n dX7_toRule_25 rfl rfl ?_
  refine aw_aload_n dX7_toRule_26 rfl rfl (by first | exact isR_ref _ | exact isR_rf _ | exact isR_null) ?_
  have hC := hC.grow (n' := n + 1 + 1) (kd' := va_up (va_up kd n (.inr (0, t))) (n + 1) (.inl 7)) (R' := va_up R (n + 1) (fun _ => none)) (by omega) (fun i hi => vz_up_ne _ _ (by omega)) (fun i hi => vz_up_ne _ _ (by omega))
  have e2 : va_up (va_up (va_up I n (fun _ => 0)) n (va_cpy (va_up I n (fun _ => 0) 4) (va_up I n (fun _ => 0) n) 0 0 t)) (n + 1) (fun _ => 0) 3 3 = I 3 3 := by rw [vz_up_ne _ _ (by omega), vz_up_ne _ _ (by omega), vz_up_ne _ _ (by omega)]
  refine aw_aload_n dX7_toRule_27 rfl rfl (by first | exact isR_ref _ | exact isR_rf _ | exact isR_null) ?_
  refine aw_get dX7_toRule_28 fl_X7_53 (sC_k3 hC) (sC_n3 hC) (congrArg Value.int e2) ?_
  refine aw_cIv (as := [_, _, _]) dX7_toRule_31 lk_X7_67 cm_X6_init im_X6_init (by unfold RO; decide) rfl rfl (Nat.le_of_ble_eq_true rfl) (c_ruleInit ⟨vz_up_same _ _ _, Nat.lt_succ_self _⟩ _ _ _) ?_
  refine aw_aret dX7_toRule_34 rfl (Or.inl ⟨_, rfl⟩) (by first | exact isR_ref _ | exact isR_rf _ | exact isR_null) ?_
  refine ⟨rfl, _, _, _, _, rfl, fun a ha => ⟨?_, ?_, ?_, ?_⟩, ?_, vz_up_same _ _ _, u2_same _ _ _ _, ?_, u2_same _ _ _ _, fun j hj => ?_⟩
  · rw [vz_up_ne _ _ (by omega), vz_up_ne _ _ (by omega)]
  · rw [u2_row _ _ _ (by omega), u2_row _ _ _ (by omega), vz_up_ne _ _ (by omega), vz_up_ne _ _ (by omega), vz_up_ne _ _ (by omega)]
  · rw [u2_row _ _ _ (by omega), vz_up_ne _ _ (by omega)]
  · rw [vz_up_ne _ _ (by omega)]
  · rw [vz_up_ne _ _ (by omega), vz_up_same]
  · rw [u2_col _ _ _ (by decide), u2_same]
  · rw [u2_row _ _ _ (by omega), u2_row _ _ _ (by omega), vz_up_ne _ _ (by omega), vz_up_same, pk_cpy_in (Nat.zero_le _) (by omega), vz_up_ne _ _ (by omega), Nat.zero_add, Nat.sub_zero]
def QCHand (G : GG) (n sz : Nat) (kd : Nat → AKd) (I : Nat → Nat → Int32) (R : Nat → Nat → Option Nat) (J : Nat → Nat → Int64) (o : Nat ⊕ (List Nat × Nat)) (f : Option Nat) (v' : Option Value) (M' : Mem) : Prop := match f with
  | none => v' = some (.int (-1)) ∧ M' = (n, sz, kd, I, R, J)
  | some k => match o with
    | .inl x => v' = some (.int (-2 - nI x)) ∧ ∃ p, M' = (n, sz, kd, rS (u2 I 1 1 (nI 0)) p, R, J)
    | .inr (cs, v) => v' = some (.int (nI k)) ∧ ∃ p kd' I' R' J', M' = (n + 2, sz + cs.length + 3, kd', I', u2 R' 6 k (some (gz G + (n + 1))), J') ∧ (∀ a, a < n → kd' a = kd a ∧ I' a = rS (u2 I 1 1 (nI 0)) p a ∧ R' a = R a ∧ J' a = J a) ∧ kd' n = .inr (0, cs.length) ∧ kd' (n + 1) = .inl 7 ∧ R' (n + 1) 1 = some (gz G + n) ∧ I' (n + 1) 0 = nI k ∧ I' (n + 1) 2 = nI v ∧ ∀ j, j < cs.length → I' n j = nI (cs.getD j 0)
theorem c_hand (hG : StP G ad av fx) (hC : ShC G n kd R) (hc1 : n + 10 ≤ 600000) (hc2 : sz + 100 ≤ 7302250) {b : Nat → Nat} (hT : TC I b) {P : Nat} (hP : I 1 1 = nI P) (hP1 : P ≤ 100) : MM G mX9_hand [.ref (gz G + 0)] (n, sz, kd, I, R, J) (QCHand G n sz kd I R J (pText b P) (fstF (fun h => !thC R h) 10)) := by
  refine mm_of rfl [(0, .ref (gz G + 0))] rfl (Nat.le_of_ble_eq_true rfl) ?_
  have hn := hC.1
  refine aw_aload_n dX9_hand_0 rfl rfl (by first | exact isR_ref _ | exact isR_rf _ | exact isR_null) ?_
  refine aw_get dX9_hand_1 fl_X9_28 (sC_k0 hC) (sC_n0 hC) (sC_r_0_row hC _ _) ?_
  refine aw_cVx (as := []) dX9_hand_4 lk_X9_70 cm_X5_freeHandNumber vi_X5_freeHandNumber (by unfold RO; decide) rfl (sC_k5 hC) (sC_n5 hC) rfl rfl rfl (Nat.le_of_ble_eq_true rfl) (c_freeHandNumber hC) ?_
  cases hfr : fstF (fun h => !thC R h) 10 with
  | none =>
    refine aw_istore_n (lv' := [(0, _), (1, _)]) dX9_hand_7 rfl (by decide) rfl ?_
    refine aw_iload_n dX9_hand_8 rfl rfl ?_
    refine aw_iconst (v := (-1)) dX9_hand_9 (by decide) ?_
    refine aw_icmp_ne (tgt := 15) dX9_hand_10 (by decide) (fun h => ?_) (fun h => ?_)
    · exact absurd rfl h
    · refine aw_iconst (v := (-1)) dX9_hand_13 (by decide) ?_
      refine aw_iret dX9_hand_14 rfl rfl ?_
      exact ⟨rfl, rfl⟩
  | some k =>
    obtain ⟨hk, -, -⟩ := fstF_some hfr
    refine aw_top (show _ = nI k from rfl) ?_
    refine aw_istore_n (lv' := [(0, _), (1, _)]) dX9_hand_7 rfl (by decide) rfl ?_
    refine aw_iload_n dX9_hand_8 rfl rfl ?_
    refine aw_iconst (v := (-1)) dX9_hand_9 (by decide) ?_
    refine aw_icmp_ne (tgt := 15) dX9_hand_10 (by decide) (fun h => ?_) (fun h => ?_)
    · refine aw_aload_n dX9_hand_15 rfl rfl (by first | exact isR_ref _ | exact isR_rf _ | exact isR_null) ?_
      refine aw_get dX9_hand_16 fl_X9_21 (sC_k0 hC) (sC_n0 hC) (sC_r_0_reader hC _ _) ?_
      refine aw_callV (as := []) dX9_hand_19 lk_X9_74 cm_X7_readTape vi_X7_readTape (by unfold RO; decide) rfl (sC_k3 hC) (sC_n3 hC) rfl rfl rfl (Nat.le_of_ble_eq_true rfl) (r_tape hG hC hT hP hP1) ?_
      intro v' M' hq
      obtain ⟨t', fo', f', i', s', rd', rfl, rfl, hf', hm⟩ := hq
      show AW G mX9_hand (19 + 3) [(0, .ref (gz G + 0)), (1, .int (nI k))] [.int (nI f')] _ _
      refine aw_istore_n (lv' := [(0, _), (1, _), (2, _)]) dX9_hand_22 rfl (by decide) rfl ?_
      refine aw_aload_n dX9_hand_23 rfl rfl (by first | exact isR_ref _ | exact isR_rf _ | exact isR_null) ?_
      refine aw_get dX9_hand_24 fl_X9_10 (sC_k0 hC) (sC_n0 hC) (sC_r_0_tape hC _ _) ?_
      refine aw_iconst (v := nI 0) dX9_hand_27 (by decide) ?_
      refine aw_putI dX9_hand_28 fl_X9_62 (Or.inl rfl) rfl (sC_k1 hC) (sC_n1 hC) ?_
      rw [rS_u2 _ _ _ (by decide) (by decide)]
      refine aw_iload_n dX9_hand_31 rfl rfl ?_
      cases hpt : pText b P with
      | inl x =>
        rw [hpt] at hm
        obtain ⟨rfl, hx0⟩ := hm
        refine aw_z_eq (tgt := 40) dX9_hand_32 (by decide) rfl (by omega) (fun h2 => ?_) (fun h2 => ?_)
        · exact absurd h2 hx0
        · refine aw_bipush (v := (-2)) dX9_hand_35 (by decide) ?_
          refine aw_iload_n dX9_hand_37 rfl rfl ?_
          refine aw_isub dX9_hand_38 ?_
          refine aw_iret dX9_hand_39 rfl rfl ?_
          exact ⟨rfl, _, rfl⟩
      | inr cv =>
        obtain ⟨cs, v⟩ := cv
        rw [hpt] at hm
        obtain ⟨rfl, rfl, hrd, rfl⟩ := hm
        have hl4 := pText_len hpt
        refine aw_z_eq (tgt := 40) dX9_hand_32 (by decide) rfl (by omega) (fun h2 => ?_) (fun h2 => ?_)
        · refine aw_aload_n dX9_hand_40 rfl rfl (by first | exact isR_ref _ | exact isR_rf _ | exact isR_null) ?_
          refine aw_get dX9_hand_41 fl_X9_28 (sC_k0 hC) (sC_n0 hC) (sC_r_0_row hC _ _) ?_
          refine aw_get dX9_hand_44 fl_X9_77 (sC_k5 hC) (sC_n5 hC) (sC_r_5_hands hC _ _) ?_
          refine aw_iload_n dX9_hand_47 rfl rfl ?_
          refine aw_aload_n dX9_hand_48 rfl rfl (by first | exact isR_ref _ | exact isR_rf _ | exact isR_null) ?_
          refine aw_get dX9_hand_49 fl_X9_21 (sC_k0 hC) (sC_n0 hC) (sC_r_0_reader hC _ _) ?_
          refine aw_iload_n dX9_hand_52 rfl rfl ?_
          refine aw_callV (as := [_]) dX9_hand_53 lk_X9_81 cm_X7_toRule vi_X7_toRule (by unfold RO; decide) rfl (sC_k3 hC) (sC_n3 hC) rfl rfl rfl (Nat.le_of_ble_eq_true rfl) (c_toRule hC hc1 hc2 (t := cs.length) rfl hl4 _) ?_
          intro v' M' hq
          obtain ⟨rfl, kd', I', R', J', rfl, hFr, q1, q2, q3, q4, q5, q6⟩ := hq
          have hC := hC.grow (n' := n + 2) (kd' := kd') (R' := R') (by omega) (fun i hi => (hFr i (by omega)).1) (fun i hi => (hFr i (by omega)).2.2.1)
          show AW G mX9_hand (53 + 3) [(0, .ref (gz G + 0)), (1, .int (nI k)), (2, .int (nI 0))] [.ref (gz G + (n + 1)), .int (nI k), .ref (gz G + 6)] _ _
          have ho : iO (n + 2) kd' (n + 1) 7 := ⟨q2, by omega⟩
          refine aw_aast dX9_hand_56 (by decide) rfl (sC_k6 hC) (sC_n6 hC) (ixm hk) ho.1 ho.2 rfl (Or.inl rfl) ?_
          refine aw_iload_n dX9_hand_57 rfl rfl ?_
          refine aw_iret dX9_hand_58 rfl rfl ?_
          exact ⟨rfl, _, kd', I', R', J', rfl, hFr, q1, q2, q3, q4, q5, fun j hj => (q6 j hj).trans (hrd j hj)⟩
        · exact absurd rfl h2
    · exact absurd h (fun z => absurd (show nI k < 0 by rw [z]; decide) (nI_pos (by omega)))
def cMark (f l w : Int32) : Int64 := if l = -1 then sh1 (nI 0 + f) ||| (w.toInt64 <<< ((nI 24).toInt64 &&& 63)) else (sh1 (nI 0 + f) ||| (w.toInt64 <<< ((nI 24).toInt64 &&& 63))) ||| sh1 (nI 16 + l)
theorem c_letInit {k : Nat} (hk : iO n kd k 3) (f l s w : Int32) : EX G mX2_init [.ref (gz G + k), .int f, .int l, .int s, .int w] (n, sz, kd, I, R, J) none (n, sz, kd, u2 (u2 I k 1 s) k 5 (-1), R, u2 J k 0 (cMark f l w)) := by
  refine mm_of rfl [(0, .ref (gz G + k)), (1, .int f), (2, .int l), (3, .int s), (4, .int w)] rfl (Nat.le_of_ble_eq_true rfl) ?_
  have fin : ∀ m, m = cMark f l w → AW G mX2_init 34 [(0, .ref (gz G + k)), (1, .int f), (2, .int l), (3, .int s), (4, .int w), (5, .long m)] [] (n, sz, kd, I, R, J) (fun v' M' => v' = none ∧ M' = (n, sz, kd, u2 (u2 I k 1 s) k 5 (-1), R, u2 J k 0 (cMark f l w))) := by
    intro m hm
    subst hm
    refine aw_aload_n dX2_init_34 rfl rfl (by first | exact isR_ref _ | exact isR_rf _ | exact isR_null) ?_
    refine aw_lload dX2_init_35 rfl ?_
    refine aw_putJ dX2_init_37 fl_X2_9 fw_X2_9 rfl hk.1 hk.2 ?_
    refine aw_aload_n dX2_init_40 rfl rfl (by first | exact isR_ref _ | exact isR_rf _ | exact isR_null) ?_
    refine aw_iload_n dX2_init_41 rfl rfl ?_
    refine aw_putI dX2_init_42 fl_X2_15 fw_X2_15 rfl hk.1 hk.2 ?_
    refine aw_aload_n dX2_init_45 rfl rfl (by first | exact isR_ref _ | exact isR_rf _ | exact isR_null) ?_
    refine aw_iconst (v := (-1)) dX2_init_46 (by decide) ?_
    refine aw_putI dX2_init_47 fl_X2_19 (Or.inl rfl) rfl hk.1 hk.2 ?_
    refine aw_vret dX2_init_50 rfl ?_
    exact ⟨rfl, rfl⟩
  refine aw_aload_n dX2_init_0 rfl rfl (by first | exact isR_ref _ | exact isR_rf _ | exact isR_null) ?_
  refine aw_objInit dX2_init_1 oi_X2_3 oi_in oi_co (by decide) (by decide) ?_
  refine aw_lconst (v := 1) dX2_init_4 (by decide) ?_
  refine aw_iconst (v := nI 0) dX2_init_5 (by decide) ?_
  refine aw_iload_n dX2_init_6 rfl rfl ?_
  refine aw_iadd dX2_init_7 ?_
  refine aw_lshl dX2_init_8 ?_
  refine aw_iload dX2_init_9 rfl ?_
  refine aw_i2l dX2_init_11 ?_
  refine aw_bipush (v := nI 24) dX2_init_12 (by decide) ?_
  refine aw_lshl dX2_init_14 ?_
  refine aw_lor dX2_init_15 ?_
  refine aw_lstore (lv' := [(5, _), (0, _), (1, _), (2, _), (3, _), (4, _)]) dX2_init_16 (by decide) rfl ?_
  refine aw_lv (lv' := [(0, .ref (gz G + k)), (1, .int f), (2, .int l), (3, .int s), (4, .int w), (5, .long (sh1 (nI 0 + f) ||| (w.toInt64 <<< ((nI 24).toInt64 &&& 63))))]) (fun q hq => by
    simp only [List.mem_cons, List.not_mem_nil, or_false] at hq ⊢
    rcases hq with h | h | h | h | h | h <;> simp [h, sh1]) ?_
  refine aw_iload_n dX2_init_18 rfl rfl ?_
  refine aw_iconst (v := (-1)) dX2_init_19 (by decide) ?_
  refine aw_icmp_eq (tgt := 34) dX2_init_20 (by decide) (fun h => ?_) (fun h => ?_)
  · exact fin _ (by unfold cMark; rw [if_pos h])
  · refine aw_lload dX2_init_23 rfl ?_
    refine aw_lconst (v := 1) dX2_init_25 (by decide) ?_
    refine aw_bipush (v := nI 16) dX2_init_26 (by decide) ?_
    refine aw_iload_n dX2_init_28 rfl rfl ?_
    refine aw_iadd dX2_init_29 ?_
    refine aw_lshl dX2_init_30 ?_
    refine aw_lor dX2_init_31 ?_
    refine aw_lstore (lv' := [(5, _), (0, _), (1, _), (2, _), (3, _), (4, _)]) dX2_init_32 (by decide) rfl ?_
    refine aw_lv (lv' := [(0, .ref (gz G + k)), (1, .int f), (2, .int l), (3, .int s), (4, .int w), (5, .long ((sh1 (nI 0 + f) ||| (w.toInt64 <<< ((nI 24).toInt64 &&& 63))) ||| sh1 (nI 16 + l)))]) (fun q hq => by
      simp only [List.mem_cons, List.not_mem_nil, or_false] at hq ⊢
      rcases hq with h | h | h | h | h | h <;> simp [h, sh1]) ?_
    exact fin _ (by unfold cMark; rw [if_neg h])
theorem c_sortBy {l : Nat} (hl : iO n kd l 3) {o : Option Nat} (ho : o = none ∨ ∃ r, o = some (gz G + r) ∧ iO n kd r 7) : EX G mX2_sortBy [.ref (gz G + l), va_rf o] (n, sz, kd, I, R, J) none (n, sz, kd, u2 (u2 I l 3 (cFo G I o)) l 4 (cFo G I o), u2 R l 2 o, J) := by
  rcases ho with rfl | ⟨r, rfl, hr⟩
  · refine mm_of rfl [(0, .ref (gz G + l)), (1, .null)] rfl (Nat.le_of_ble_eq_true rfl) ?_
    refine aw_aload_n dX2_sortBy_0 rfl rfl (by first | exact isR_ref _ | exact isR_rf _ | exact isR_null) ?_
    refine aw_aload_n dX2_sortBy_1 rfl rfl (by first | exact isR_ref _ | exact isR_rf _ | exact isR_null) ?_
    refine aw_putR (x := none) dX2_sortBy_2 fl_X2_22 (Or.inl rfl) rfl hl.1 hl.2 ?_
    refine aw_aload_n dX2_sortBy_5 rfl rfl (by first | exact isR_ref _ | exact isR_rf _ | exact isR_null) ?_
    refine aw_aload_n dX2_sortBy_6 rfl rfl (by first | exact isR_ref _ | exact isR_rf _ | exact isR_null) ?_
    refine aw_st (st' := [va_rf none, .ref (gz G + l)]) rfl ?_
    refine aw_ifnonnull (tgt := 14) dX2_sortBy_7 (by decide) (fun a_h h => ?_) (fun h => ?_)
    · cases h
    · refine aw_iconst (v := nI 0) dX2_sortBy_10 (by decide) ?_
      refine aw_goto (tgt := 18) dX2_sortBy_11 (by decide) ?_
      refine aw_putI dX2_sortBy_18 fl_X2_31 (Or.inl rfl) rfl hl.1 hl.2 ?_
      have e : u2 I l 3 (nI 0) l 3 = nI 0 := u2_same _ _ _ _
      refine aw_aload_n dX2_sortBy_21 rfl rfl (by first | exact isR_ref _ | exact isR_rf _ | exact isR_null) ?_
      refine aw_aload_n dX2_sortBy_22 rfl rfl (by first | exact isR_ref _ | exact isR_rf _ | exact isR_null) ?_
      refine aw_get dX2_sortBy_23 fl_X2_31 hl.1 hl.2 (congrArg Value.int e) ?_
      refine aw_putI dX2_sortBy_26 fl_X2_34 (Or.inl rfl) rfl hl.1 hl.2 ?_
      refine aw_vret dX2_sortBy_29 rfl ?_
      exact ⟨rfl, rfl⟩
  · refine mm_of rfl [(0, .ref (gz G + l)), (1, .ref (gz G + r))] rfl (Nat.le_of_ble_eq_true rfl) ?_
    have ef : cFo G I (some (gz G + r)) = I r 2 := by unfold cFo; dsimp only; rw [gz_sub]
    rw [ef]
    refine aw_aload_n dX2_sortBy_0 rfl rfl (by first | exact isR_ref _ | exact isR_rf _ | exact isR_null) ?_
    refine aw_aload_n dX2_sortBy_1 rfl rfl (by first | exact isR_ref _ | exact isR_rf _ | exact isR_null) ?_
    refine aw_putR (x := some _) dX2_sortBy_2 fl_X2_22 (Or.inl rfl) rfl hl.1 hl.2 ?_
    refine aw_aload_n dX2_sortBy_5 rfl rfl (by first | exact isR_ref _ | exact isR_rf _ | exact isR_null) ?_
    refine aw_aload_n dX2_sortBy_6 rfl rfl (by first | exact isR_ref _ | exact isR_rf _ | exact isR_null) ?_
    refine aw_st (st' := [va_rf (some (gz G + r)), .ref (gz G + l)]) rfl ?_
    refine aw_ifnonnull (tgt := 14) dX2_sortBy_7 (by decide) (fun a_h h => ?_) (fun h => ?_)
    · refine aw_aload_n dX2_sortBy_14 rfl rfl (by first | exact isR_ref _ | exact isR_rf _ | exact isR_null) ?_
      refine aw_get dX2_sortBy_15 fl_X2_26 hr.1 hr.2 rfl ?_
      refine aw_putI dX2_sortBy_18 fl_X2_31 (Or.inl rfl) rfl hl.1 hl.2 ?_
      have e : u2 I l 3 (I r 2) l 3 = I r 2 := u2_same _ _ _ _
      refine aw_aload_n dX2_sortBy_21 rfl rfl (by first | exact isR_ref _ | exact isR_rf _ | exact isR_null) ?_
      refine aw_aload_n dX2_sortBy_22 rfl rfl (by first | exact isR_ref _ | exact isR_rf _ | exact isR_null) ?_
      refine aw_get dX2_sortBy_23 fl_X2_31 hl.1 hl.2 (congrArg Value.int e) ?_
      refine aw_putI dX2_sortBy_26 fl_X2_34 (Or.inl rfl) rfl hl.1 hl.2 ?_
      refine aw_vret dX2_sortBy_29 rfl ?_
      exact ⟨rfl, rfl⟩
    · cases h
end CLS7
