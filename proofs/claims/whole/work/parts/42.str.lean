section STR
variable {G : GG} {M : Mem} {ad av : Nat → Nat} {fx : Option Nat}
/-- the words that stand outside: their objects, their bytes -/
def sidx (w : Nat) : Nat := [41, 32, 73, 47, 82, 84, 86, 88, 90].getD w 0
def stx (w : Nat) : String := ["all", "if", "and", "to", "from", "list", "word", "above", "below"].getD w ""
def StP (G : GG) (ad av : Nat → Nat) (fx : Option Nat) : Prop := ∀ U, gP G U → (∀ w, w < 9 → va_O "java/lang/String" (ad w) (fun q => gz G ≤ q) U (gH G) ∧ va_OF "java/lang/String" "coder" "B" (.int 0) (ad w) (fun q => gz G ≤ q) U (gH G) ∧ va_OF "java/lang/String" "value" "[B" (.ref (av w)) (ad w) (fun q => gz G ≤ q) U (gH G) ∧ va_T .byte (av w) (kl w) (fun j => .int (nI (kwb (5 * w + j)))) (fun q => gz G ≤ q) U (gH G) ∧ vk_R RX7 (sidx w) (stx w) (ad w) U) ∧ va_Z "java/lang/String" "COMPACT_STRINGS" "Z" (.int 1) (fun q => gz G ≤ q) U (gH G) ∧ va_Z "jdk/internal/util/Preconditions" "SIOOBE_FORMATTER" "Ljava/util/function/BiFunction;" (va_rf fx) (fun q => gz G ≤ q) U (gH G)
theorem sf_cs : Cond.fieldLink RJ0 38 "java/lang/String" "COMPACT_STRINGS" "Z" ∈ lw_tbl := List.mem_of_getElem? (i := 376) (by decide +kernel)
theorem sf_sf : Cond.fieldLink RJ0 1053 "jdk/internal/util/Preconditions" "SIOOBE_FORMATTER" "Ljava/util/function/BiFunction;" ∈ lw_tbl := List.mem_of_getElem? (i := 392) (by decide +kernel)
theorem sf_va : Cond.fieldLink RJ0 9 "java/lang/String" "value" "[B" ∈ lw_tbl := List.mem_of_getElem? (i := 1211) (by decide +kernel)
theorem sf_co : Cond.fieldLink RJ0 15 "java/lang/String" "coder" "B" ∈ lw_tbl := List.mem_of_getElem? (i := 1212) (by decide +kernel)
theorem kl_le : ∀ w, w < 9 → kl w ≤ 5 ∧ nI (kl w) >>> ((0 : Int32) &&& 31) = nI (kl w) := by decide +kernel
theorem kwb_ch : ∀ i, i < 45 → ((nI (kwb i) &&& nI 255).toUInt32 % 65536).toInt32 = nI (kwb i) ∧ narrow .char (.int (nI (kwb i))) = .int (nI (kwb i)) ∧ kwb i < 256 := by decide +kernel
theorem s_coder (hG : StP G ad av fx) {w : Nat} (hw : w < 9) : EX G mJ0_coder_7d493 [.ref (ad w)] M (some (.int 0)) M := by
  refine mm_of rfl [(0, .ref (ad w))] rfl (Nat.le_of_ble_eq_true rfl) ?_
  refine aw_gets (v := .int 1) dJ0_coder_7d493_0 sf_cs (fun U h => (hG U h).2.1) ?_
  refine aw_if_eq (tgt := 13) dJ0_coder_7d493_3 (by decide) (fun h => absurd h (by decide)) (fun _ => ?_)
  refine aw_aload_n dJ0_coder_7d493_6 rfl rfl (isR_ref _) ?_
  refine aw_getX (v := .int 0) dJ0_coder_7d493_7 sf_co (fun U h => ((hG U h).1 w hw).2.1) ?_
  refine aw_goto (tgt := 14) dJ0_coder_7d493_10 (by decide) ?_
  refine aw_iret dJ0_coder_7d493_14 rfl rfl ?_
  exact ⟨rfl, rfl⟩
theorem s_isLatin1 (hG : StP G ad av fx) {w : Nat} (hw : w < 9) : EX G mJ0_isLatin1_aae02 [.ref (ad w)] M (some (.int (nI 1))) M := by
  refine mm_of rfl [(0, .ref (ad w))] rfl (Nat.le_of_ble_eq_true rfl) ?_
  refine aw_gets (v := .int 1) dJ0_isLatin1_aae02_0 sf_cs (fun U h => (hG U h).2.1) ?_
  refine aw_if_eq (tgt := 17) dJ0_isLatin1_aae02_3 (by decide) (fun h => absurd h (by decide)) (fun _ => ?_)
  refine aw_aload_n dJ0_isLatin1_aae02_6 rfl rfl (isR_ref _) ?_
  refine aw_getX (v := .int 0) dJ0_isLatin1_aae02_7 sf_co (fun U h => ((hG U h).1 w hw).2.1) ?_
  refine aw_if_ne (tgt := 17) dJ0_isLatin1_aae02_10 (by decide) (fun h => absurd rfl h) (fun _ => ?_)
  refine aw_iconst (v := nI 1) dJ0_isLatin1_aae02_13 (by decide) ?_
  refine aw_goto (tgt := 18) dJ0_isLatin1_aae02_14 (by decide) ?_
  refine aw_iret dJ0_isLatin1_aae02_18 rfl rfl ?_
  exact ⟨rfl, rfl⟩
theorem s_length (hG : StP G ad av fx) {w : Nat} (hw : w < 9) : EX G mJ0_length_8abf5 [.ref (ad w)] M (some (.int (nI (kl w)))) M := by
  refine mm_of rfl [(0, .ref (ad w))] rfl (Nat.le_of_ble_eq_true rfl) ?_
  refine aw_aload_n dJ0_length_8abf5_0 rfl rfl (isR_ref _) ?_
  refine aw_getX (v := .ref (av w)) dJ0_length_8abf5_1 sf_va (fun U h => ((hG U h).1 w hw).2.2.1) ?_
  refine aw_alenX dJ0_length_8abf5_4 (fun U h => ((hG U h).1 w hw).2.2.2.1) ?_
  refine aw_aload_n dJ0_length_8abf5_5 rfl rfl (isR_ref _) ?_
  refine aw_callX (as := []) dJ0_length_8abf5_6 lk_J0_335 cm_J0_coder_7d493 vi_J0_coder_7d493 (by unfold RO; decide) rfl (fun U h => ((hG U h).1 w hw).1) rfl (Nat.le_of_ble_eq_true rfl) (s_coder hG hw) ?_
  refine aw_ishr dJ0_length_8abf5_9 ?_
  refine aw_iret dJ0_length_8abf5_10 rfl rfl ?_
  rw [(kl_le w hw).2]
  exact ⟨rfl, rfl⟩
theorem s_check3 {i N : Nat} (h : i < N) (hN : N < 2 ^ 31) (f : Option Nat) : EX G mJ3_checkIndex_8e157 [.int (nI i), .int (nI N), va_rf f] M (some (.int (nI i))) M := by
  refine mm_of rfl [(0, .int (nI i)), (1, .int (nI N)), (2, va_rf f)] rfl (by cases f <;> exact Nat.le_of_ble_eq_true rfl) ?_
  refine aw_iload_n dJ3_checkIndex_8e157_0 rfl rfl ?_
  refine aw_z_lt (tgt := 9) dJ3_checkIndex_8e157_1 (by decide) rfl (by omega) ?_
  refine aw_iload_n dJ3_checkIndex_8e157_4 rfl rfl ?_
  refine aw_iload_n dJ3_checkIndex_8e157_5 rfl rfl ?_
  refine aw_n_lt (tgt := 16) dJ3_checkIndex_8e157_6 (by decide) rfl rfl (by omega) (by omega) (fun h2 => ?_) (fun h2 => ?_)
  · refine aw_iload_n dJ3_checkIndex_8e157_16 rfl rfl ?_
    refine aw_iret dJ3_checkIndex_8e157_17 rfl rfl ?_
    exact ⟨rfl, rfl⟩
  · exact absurd h h2
theorem s_check (hG : StP G ad av fx) {i N : Nat} (h : i < N) (hN : N < 2 ^ 31) : EX G mJ0_checkIndex_df160 [.int (nI i), .int (nI N)] M none M := by
  refine mm_of rfl [(0, .int (nI i)), (1, .int (nI N))] rfl (Nat.le_of_ble_eq_true rfl) ?_
  refine aw_iload_n dJ0_checkIndex_df160_0 rfl rfl ?_
  refine aw_iload_n dJ0_checkIndex_df160_1 rfl rfl ?_
  refine aw_gets (v := va_rf fx) dJ0_checkIndex_df160_2 sf_sf (fun U h => (hG U h).2.2) ?_
  refine aw_cSx (as := [_, _, _]) dJ0_checkIndex_df160_5 lk_J0_1059 cm_J3_checkIndex_8e157 sm_J3_checkIndex_8e157 (by unfold RO; decide) rfl rfl (Nat.le_of_ble_eq_true rfl) (s_check3 h hN fx) ?_
  refine aw_pop dJ0_checkIndex_df160_8 rfl ?_
  refine aw_vret dJ0_checkIndex_df160_9 rfl ?_
  exact ⟨rfl, rfl⟩
theorem s_charAt1 (hG : StP G ad av fx) {w k : Nat} (hw : w < 9) (hk : k < kl w) : EX G mJ1_charAt_3b067 [.ref (av w), .int (nI k)] M (some (.int (nI (kwb (5 * w + k))))) M := by
  refine mm_of rfl [(0, .ref (av w)), (1, .int (nI k))] rfl (Nat.le_of_ble_eq_true rfl) ?_
  have h5 := (kl_le w hw).1
  have hc := kwb_ch (5 * w + k) (by omega)
  refine aw_iload_n dJ1_charAt_3b067_0 rfl rfl ?_
  refine aw_aload_n dJ1_charAt_3b067_1 rfl rfl (by first | exact isR_ref _ | exact isR_rf _ | exact isR_null) ?_
  refine aw_alenX dJ1_charAt_3b067_2 (fun U h => ((hG U h).1 w hw).2.2.2.1) ?_
  refine aw_cSv (as := [_, _]) dJ1_charAt_3b067_3 lk_J1_9 cm_J0_checkIndex_df160 sm_J0_checkIndex_df160 (by unfold RO; decide) rfl rfl (Nat.le_of_ble_eq_true rfl) (s_check hG hk (by omega)) ?_
  refine aw_aload_n dJ1_charAt_3b067_6 rfl rfl (by first | exact isR_ref _ | exact isR_rf _ | exact isR_null) ?_
  refine aw_iload_n dJ1_charAt_3b067_7 rfl rfl ?_
  refine aw_baldX dJ1_charAt_3b067_8 (fun U h => ((hG U h).1 w hw).2.2.2.1) (ixm hk (by omega)) ?_
  refine aw_sipush (v := nI 255) dJ1_charAt_3b067_9 (by decide) ?_
  refine aw_iand dJ1_charAt_3b067_12 ?_
  refine aw_i2c dJ1_charAt_3b067_13 ?_
  refine aw_top hc.1 ?_
  refine aw_iret dJ1_charAt_3b067_14 rfl hc.2.1 ?_
  exact ⟨rfl, rfl⟩
theorem s_charAt (hG : StP G ad av fx) {w k : Nat} (hw : w < 9) (hk : k < kl w) : EX G mJ0_charAt_5068e [.ref (ad w), .int (nI k)] M (some (.int (nI (kwb (5 * w + k))))) M := by
  refine mm_of rfl [(0, .ref (ad w)), (1, .int (nI k))] rfl (Nat.le_of_ble_eq_true rfl) ?_
  have h5 := (kl_le w hw).1
  have hc := kwb_ch (5 * w + k) (by omega)
  refine aw_aload_n dJ0_charAt_5068e_0 rfl rfl (isR_ref _) ?_
  refine aw_callX (as := []) dJ0_charAt_5068e_1 lk_J0_492 cm_J0_isLatin1_aae02 vi_J0_isLatin1_aae02 (by unfold RO; decide) rfl (fun U h => ((hG U h).1 w hw).1) rfl (Nat.le_of_ble_eq_true rfl) (s_isLatin1 hG hw) ?_
  refine aw_if_eq (tgt := 16) dJ0_charAt_5068e_4 (by decide) (fun h => absurd h (by decide)) (fun _ => ?_)
  refine aw_aload_n dJ0_charAt_5068e_7 rfl rfl (isR_ref _) ?_
  refine aw_getX (v := .ref (av w)) dJ0_charAt_5068e_8 sf_va (fun U h => ((hG U h).1 w hw).2.2.1) ?_
  refine aw_iload_n dJ0_charAt_5068e_11 rfl rfl ?_
  refine aw_cSx (as := [_, _]) dJ0_charAt_5068e_12 lk_J0_495 cm_J1_charAt_3b067 sm_J1_charAt_3b067 (by unfold RO; decide) rfl rfl (Nat.le_of_ble_eq_true rfl) (s_charAt1 hG hw hk) ?_
  refine aw_iret dJ0_charAt_5068e_15 rfl hc.2.1 ?_
  exact ⟨rfl, rfl⟩
end STR
