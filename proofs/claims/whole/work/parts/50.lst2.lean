section LST2
variable {G : GG} {n sz : Nat} {kd : Nat → AKd} {I : Nat → Nat → Int32} {R : Nat → Nat → Option Nat} {J : Nat → Nat → Int64} {em mi : Nat}
theorem l_addA (hG : LsP G em mi) (hC : ShC G n kd R) {kn : Nat → Nat} (hL : I 17 2 = nI 0) (hE : R 17 1 = some em) {r : Nat} (hr : iO n kd r 7) (hc1 : n + 10 ≤ 600000) (hc2 : sz + 10000 ≤ 7302250) : MM G mJx4a65c_add_72be8 [.ref (gz G + 17), .ref (gz G + r), .ref em, .int (nI 0)] (n, sz, kd, I, R, J) (fun v' M' => v' = none ∧ QAddL G em n sz kd I R J 0 0 kn r M') := by
  refine mm_of rfl [(0, .ref (gz G + 17)), (1, .ref (gz G + r)), (2, .ref em), (3, .int (nI 0))] rfl (Nat.le_of_ble_eq_true rfl) ?_
  have hn := hC.1
  refine aw_iload_n dJx4a65c_add_72be8_0 rfl rfl ?_
  refine aw_aload_n dJx4a65c_add_72be8_1 rfl rfl (by first | exact isR_ref _ | exact isR_rf _ | exact isR_null) ?_
  refine aw_alenX dJx4a65c_add_72be8_2 (fun U h => (hG U h).2.1) ?_
  refine aw_n_ne (tgt := 11) dJx4a65c_add_72be8_3 (by decide) rfl rfl (by omega) (by omega) (fun h => ?_) (fun h => ?_)
  · exact absurd rfl h
  · refine aw_aload_n dJx4a65c_add_72be8_6 rfl rfl (by first | exact isR_ref _ | exact isR_rf _ | exact isR_null) ?_
    refine aw_cVx (as := []) dJx4a65c_add_72be8_7 lk_Jx4a65c_129 cm_Jx4a65c_grow_d5877 vi_Jx4a65c_grow_d5877 (by unfold RO; decide) rfl (sC_k17 hC) (sC_n17 hC) rfl rfl rfl (Nat.le_of_ble_eq_true rfl) (l_growB0 hG hC hE hL hc1 hc2) ?_
    have hr2 : iO (n + 1) (va_up kd n (.inr (5, 10))) r 7 := ⟨by rw [vz_up_ne _ _ (by have := hr.2; omega)]; exact hr.1, by have := hr.2; omega⟩
    have hC2 := hC.grow (n' := n + 1) (kd' := va_up kd n (.inr (5, 10))) (R' := R) (by omega) (fun i hi => vz_up_ne _ _ (by omega)) (fun i hi => rfl)
    refine aw_astore_n (lv' := [(0, _), (1, _), (2, _), (3, _)]) dJx4a65c_add_72be8_10 rfl (by decide) rfl ?_
    have hC := hC2
    have hA : va_up kd n (.inr (5, 10)) n = .inr (5, 10) := vz_up_same _ _ _
    have hAn : n < n + 1 := Nat.lt_succ_self n
    refine aw_aload_n dJx4a65c_add_72be8_11 rfl rfl (by first | exact isR_ref _ | exact isR_rf _ | exact isR_null) ?_
    refine aw_iload_n dJx4a65c_add_72be8_12 rfl rfl ?_
    refine aw_aload_n dJx4a65c_add_72be8_13 rfl rfl (by first | exact isR_ref _ | exact isR_rf _ | exact isR_null) ?_
    refine aw_aast dJx4a65c_add_72be8_14 (by decide) rfl hA hAn (ixm (by omega)) hr2.1 hr2.2 rfl (Or.inr ca_X6) ?_
    refine aw_aload_n dJx4a65c_add_72be8_15 rfl rfl (by first | exact isR_ref _ | exact isR_rf _ | exact isR_null) ?_
    refine aw_iload_n dJx4a65c_add_72be8_16 rfl rfl ?_
    refine aw_iconst (v := nI 1) dJx4a65c_add_72be8_17 (by decide) ?_
    first | refine aw_iaddN dJx4a65c_add_72be8_18 ?_ | refine aw_iadd dJx4a65c_add_72be8_18 ?_
    refine aw_putI dJx4a65c_add_72be8_19 fl_Jx4a65c_48 (Or.inl rfl) rfl (sC_k17 hC) (sC_n17 hC) ?_
    refine aw_vret dJx4a65c_add_72be8_22 rfl ?_
    refine ⟨rfl, n + 1, sz + 10, va_up kd n (.inr (5, 10)), u2 I 17 2 (nI (0 + 1)), u2 (gr0R G n R) n 0 (some (gz G + r)), 10, rfl, by omega, by omega, by omega, fun a ha => vz_up_ne _ _ (by omega), fun a h1 h2 => ⟨10, by rw [show a = n by omega, vz_up_same]⟩, fun a ha => u2_row _ _ _ ha, fun a h1 h2 h3 => ?_, u2_same _ _ _ _, by omega, by omega, fun i hi => ?_, Or.inr ⟨n, by omega, by omega, ?_, vz_up_same _ _ _, by omega, fun i hi => ?_, fun i h1 h2 => ?_⟩⟩
    · rw [u2_row _ _ _ (by omega), gr0R, u2_row _ _ _ h2, vz_up_ne _ _ (by omega)]
    · rw [show i = 0 by omega, vz_up_same]; exact hr2
    · rw [u2_row _ _ _ (by omega), gr0R, u2_same]
    · rw [show i = 0 by omega, u2_same, vz_up_same]
    · rw [u2_col _ _ _ (by omega), gr0R, u2_row _ _ _ (by omega), vz_up_same]
theorem l_addB (hC : ShC G n kd R) {K cap : Nat} {kn : Nat → Nat} (hK : I 17 2 = nI K) (hc10 : cap ≤ 10 + 2 * K) (hke : ∀ i, i < K → iO n kd (kn i) 7) {E : Nat} (h52 : 52 ≤ E) (hEn : E < n) (hR : R 17 1 = some (gz G + E)) (hE : kd E = .inr (5, cap)) (h10 : 10 ≤ cap) (hel : ∀ i, i < K → R E i = some (gz G + kn i)) (hno : ∀ i, K ≤ i → i < cap → R E i = none) (hKc : K < cap) (hcm : cap ≤ 6500) {r : Nat} (hr : iO n kd r 7) : MM G mJx4a65c_add_72be8 [.ref (gz G + 17), .ref (gz G + r), .ref (gz G + E), .int (nI K)] (n, sz, kd, I, R, J) (fun v' M' => v' = none ∧ QAddL G em n sz kd I R J K cap kn r M') := by
  refine mm_of rfl [(0, .ref (gz G + 17)), (1, .ref (gz G + r)), (2, .ref (gz G + E)), (3, .int (nI K))] rfl (Nat.le_of_ble_eq_true rfl) ?_
  have hn := hC.1
  refine aw_iload_n dJx4a65c_add_72be8_0 rfl rfl ?_
  refine aw_aload_n dJx4a65c_add_72be8_1 rfl rfl (by first | exact isR_ref _ | exact isR_rf _ | exact isR_null) ?_
  refine aw_alen dJx4a65c_add_72be8_2 hE hEn ?_
  refine aw_n_ne (tgt := 11) dJx4a65c_add_72be8_3 (by decide) rfl rfl (by omega) (by omega) (fun h => ?_) (fun h => ?_)
  · refine aw_aload_n dJx4a65c_add_72be8_11 rfl rfl (by first | exact isR_ref _ | exact isR_rf _ | exact isR_null) ?_
    refine aw_iload_n dJx4a65c_add_72be8_12 rfl rfl ?_
    refine aw_aload_n dJx4a65c_add_72be8_13 rfl rfl (by first | exact isR_ref _ | exact isR_rf _ | exact isR_null) ?_
    refine aw_aast dJx4a65c_add_72be8_14 (by decide) rfl hE hEn (ixm hKc (by omega)) hr.1 hr.2 rfl (Or.inr ca_X6) ?_
    refine aw_aload_n dJx4a65c_add_72be8_15 rfl rfl (by first | exact isR_ref _ | exact isR_rf _ | exact isR_null) ?_
    refine aw_iload_n dJx4a65c_add_72be8_16 rfl rfl ?_
    refine aw_iconst (v := nI 1) dJx4a65c_add_72be8_17 (by decide) ?_
    first | refine aw_iaddN dJx4a65c_add_72be8_18 ?_ | refine aw_iadd dJx4a65c_add_72be8_18 ?_
    refine aw_putI dJx4a65c_add_72be8_19 fl_Jx4a65c_48 (Or.inl rfl) rfl (sC_k17 hC) (sC_n17 hC) ?_
    refine aw_vret dJx4a65c_add_72be8_22 rfl ?_
    refine ⟨rfl, n, sz, kd, u2 I 17 2 (nI (K + 1)), u2 R E K (some (gz G + r)), cap, rfl, by omega, by omega, by omega, fun a ha => rfl, fun a h1 h2 => by omega, fun a ha => u2_row _ _ _ ha, fun a h1 h2 h3 => ?_, u2_same _ _ _ _, by omega, by omega, fun i hi => ?_, Or.inr ⟨E, h52, hEn, ?_, hE, h10, fun i hi => ?_, fun i h1 h2 => ?_⟩⟩
    · rw [u2_row _ _ _ (fun z => h3 cap (by rw [z]; exact hE))]
    · by_cases hi2 : i = K
      · rw [hi2, vz_up_same]; exact hr
      · rw [vz_up_ne _ _ hi2]; exact hke i (by omega)
    · rw [u2_row _ _ _ (by omega)]; exact hR
    · by_cases hi2 : i = K
      · rw [hi2, u2_same, vz_up_same]
      · rw [u2_col _ _ _ hi2, vz_up_ne _ _ hi2]; exact hel i (by omega)
    · rw [u2_col _ _ _ (by omega)]; exact hno i (by omega) h2
  · exact absurd h (by omega)
theorem l_addC (hG : LsP G em mi) (hC : ShC G n kd R) {K : Nat} {kn : Nat → Nat} (hK : I 17 2 = nI K) (hke : ∀ i, i < K → iO n kd (kn i) 7) {E : Nat} (h52 : 52 ≤ E) (hEn : E < n) (hR : R 17 1 = some (gz G + E)) (hE : kd E = .inr (5, K)) (h10 : 10 ≤ K) (hel : ∀ i, i < K → R E i = some (gz G + kn i)) (hcm : K ≤ 6000) {r : Nat} (hr : iO n kd r 7) (hc1 : n + 10 ≤ 600000) (hc2 : sz + 10000 ≤ 7302250) : MM G mJx4a65c_add_72be8 [.ref (gz G + 17), .ref (gz G + r), .ref (gz G + E), .int (nI K)] (n, sz, kd, I, R, J) (fun v' M' => v' = none ∧ QAddL G em n sz kd I R J K K kn r M') := by
  refine mm_of rfl [(0, .ref (gz G + 17)), (1, .ref (gz G + r)), (2, .ref (gz G + E)), (3, .int (nI K))] rfl (Nat.le_of_ble_eq_true rfl) ?_
  have hn := hC.1
  refine aw_iload_n dJx4a65c_add_72be8_0 rfl rfl ?_
  refine aw_aload_n dJx4a65c_add_72be8_1 rfl rfl (by first | exact isR_ref _ | exact isR_rf _ | exact isR_null) ?_
  refine aw_alen dJx4a65c_add_72be8_2 hE hEn ?_
  refine aw_n_ne (tgt := 11) dJx4a65c_add_72be8_3 (by decide) rfl rfl (by omega) (by omega) (fun h => ?_) (fun h => ?_)
  · exact absurd rfl h
  · refine aw_aload_n dJx4a65c_add_72be8_6 rfl rfl (by first | exact isR_ref _ | exact isR_rf _ | exact isR_null) ?_
    refine aw_cVx (as := []) dJx4a65c_add_72be8_7 lk_Jx4a65c_129 cm_Jx4a65c_grow_d5877 vi_Jx4a65c_grow_d5877 (by unfold RO; decide) rfl (sC_k17 hC) (sC_n17 hC) rfl rfl rfl (Nat.le_of_ble_eq_true rfl) (l_growB1 hG hC hR hE hEn hK h10 hcm hc1 hc2 (fun i hi a ha => ⟨kn i, by rw [hel i hi] at ha; exact (Option.some.inj ha).symm, (hke i hi).2, (hke i hi).1⟩)) ?_
    have hr2 : iO (n + 1) (va_up kd n (.inr (5, K + K / 2))) r 7 := ⟨by rw [vz_up_ne _ _ (by have := hr.2; omega)]; exact hr.1, by have := hr.2; omega⟩
    have hC2 := hC.grow (n' := n + 1) (kd' := va_up kd n (.inr (5, K + K / 2))) (R' := R) (by omega) (fun i hi => vz_up_ne _ _ (by omega)) (fun i hi => rfl)
    refine aw_astore_n (lv' := [(0, _), (1, _), (2, _), (3, _)]) dJx4a65c_add_72be8_10 rfl (by decide) rfl ?_
    have hC := hC2
    have hA : va_up kd n (.inr (5, K + K / 2)) n = .inr (5, K + K / 2) := vz_up_same _ _ _
    have hAn : n < n + 1 := Nat.lt_succ_self n
    refine aw_aload_n dJx4a65c_add_72be8_11 rfl rfl (by first | exact isR_ref _ | exact isR_rf _ | exact isR_null) ?_
    refine aw_iload_n dJx4a65c_add_72be8_12 rfl rfl ?_
    refine aw_aload_n dJx4a65c_add_72be8_13 rfl rfl (by first | exact isR_ref _ | exact isR_rf _ | exact isR_null) ?_
    refine aw_aast dJx4a65c_add_72be8_14 (by decide) rfl hA hAn (ixm (by omega) (by omega)) hr2.1 hr2.2 rfl (Or.inr ca_X6) ?_
    refine aw_aload_n dJx4a65c_add_72be8_15 rfl rfl (by first | exact isR_ref _ | exact isR_rf _ | exact isR_null) ?_
    refine aw_iload_n dJx4a65c_add_72be8_16 rfl rfl ?_
    refine aw_iconst (v := nI 1) dJx4a65c_add_72be8_17 (by decide) ?_
    first | refine aw_iaddN dJx4a65c_add_72be8_18 ?_ | refine aw_iadd dJx4a65c_add_72be8_18 ?_
    refine aw_putI dJx4a65c_add_72be8_19 fl_Jx4a65c_48 (Or.inl rfl) rfl (sC_k17 hC) (sC_n17 hC) ?_
    refine aw_vret dJx4a65c_add_72be8_22 rfl ?_
    have hRn : ∀ i, gr1R G n R E K n i = if i < K then R E i else none := fun i => by
      rw [gr1R, u2_row _ _ _ (by omega), cpR, vz_up_same]
      by_cases hi : i < K
      · rw [pk_cpy_in (Nat.zero_le _) (by omega), Nat.zero_add, Nat.sub_zero, vz_up_ne _ _ (by omega), if_pos hi]
      · rw [pk_cpy_out (by omega), vz_up_same, if_neg hi]
    refine ⟨rfl, n + 1, sz + (K + K / 2), va_up kd n (.inr (5, K + K / 2)), u2 I 17 2 (nI (K + 1)), u2 (gr1R G n R E K) n K (some (gz G + r)), K + K / 2, rfl, by omega, by omega, by omega, fun a ha => vz_up_ne _ _ (by omega), fun a h1 h2 => ⟨K + K / 2, by rw [show a = n by omega, vz_up_same]⟩, fun a ha => u2_row _ _ _ ha, fun a h1 h2 h3 => ?_, u2_same _ _ _ _, by omega, by omega, fun i hi => ?_, Or.inr ⟨n, by omega, by omega, ?_, vz_up_same _ _ _, by omega, fun i hi => ?_, fun i h1 h2 => ?_⟩⟩
    · rw [u2_row _ _ _ (by omega), gr1R, u2_row _ _ _ h2, cpR, vz_up_ne _ _ (by omega), vz_up_ne _ _ (by omega)]
    · by_cases hi2 : i = K
      · rw [hi2, vz_up_same]; exact hr2
      · have hk := hke i (by omega)
        rw [vz_up_ne _ _ hi2]; exact ⟨by rw [vz_up_ne _ _ (by have := hk.2; omega)]; exact hk.1, by have := hk.2; omega⟩
    · rw [u2_row _ _ _ (by omega), gr1R, u2_same]
    · by_cases hi2 : i = K
      · rw [hi2, u2_same, vz_up_same]
      · rw [u2_col _ _ _ hi2, hRn, if_pos (by omega), vz_up_ne _ _ hi2]; exact hel i (by omega)
    · rw [u2_col _ _ _ (by omega), hRn, if_neg (by omega)]
theorem l_add (hG : LsP G em mi) (hC : ShC G n kd R) {K cap : Nat} {kn : Nat → Nat} (hL : Ls G em n kd I R K cap kn) (hcm : K ≤ 3200) {r : Nat} (hr : iO n kd r 7) (hc1 : n + 10 ≤ 600000) (hc2 : sz + 10000 ≤ 7302250) : MM G mJx4a65c_add_9ea2d [.ref (gz G + 17), .ref (gz G + r)] (n, sz, kd, I, R, J) (fun v' M' => v' = some (.int (nI 1)) ∧ QAddL G em n sz kd I R J K cap kn r M') := by
  refine mm_of rfl [(0, .ref (gz G + 17)), (1, .ref (gz G + r))] rfl (Nat.le_of_ble_eq_true rfl) ?_
  obtain ⟨h1, h2, h3, h4, h5⟩ := hL
  have key : ∀ x : Int32, QAddL G em n sz kd (u2 I 17 0 x) R J K cap kn r = QAddL G em n sz kd I R J K cap kn r := fun x => by
    unfold QAddL
    have e : ∀ (I' : Nat → Nat → Int32), (∀ a, a ≠ 17 → I' a = u2 I 17 0 x a) ↔ (∀ a, a ≠ 17 → I' a = I a) := fun I' => ⟨fun h a ha => by rw [h a ha, u2_row _ _ _ ha], fun h a ha => by rw [h a ha, u2_row _ _ _ ha]⟩
    funext M'
    simp only [e]
  refine aw_aload_n dJx4a65c_add_9ea2d_0 rfl rfl (by first | exact isR_ref _ | exact isR_rf _ | exact isR_null) ?_
  refine aw_dup dJx4a65c_add_9ea2d_1 rfl ?_
  refine aw_get dJx4a65c_add_9ea2d_2 fl_Jx4a65c_63 (sC_k17 hC) (sC_n17 hC) rfl ?_
  refine aw_iconst (v := nI 1) dJx4a65c_add_9ea2d_5 (by decide) ?_
  refine aw_iadd dJx4a65c_add_9ea2d_6 ?_
  refine aw_putI dJx4a65c_add_9ea2d_7 fl_Jx4a65c_63 (Or.inl rfl) rfl (sC_k17 hC) (sC_n17 hC) ?_
  have hK2 : ∀ x : Int32, u2 I 17 0 x 17 2 = nI K := fun x => by rw [u2_col _ _ _ (by decide)]; exact h1
  refine aw_aload_n dJx4a65c_add_9ea2d_10 rfl rfl (by first | exact isR_ref _ | exact isR_rf _ | exact isR_null) ?_
  refine aw_aload_n dJx4a65c_add_9ea2d_11 rfl rfl (by first | exact isR_ref _ | exact isR_rf _ | exact isR_null) ?_
  refine aw_aload_n dJx4a65c_add_9ea2d_12 rfl rfl (by first | exact isR_ref _ | exact isR_rf _ | exact isR_null) ?_
  rcases h5 with ⟨rfl, rfl, e3⟩ | ⟨E, e1, e2, e3, e4, e5, e6, e7⟩
  · refine aw_get (v := .ref em) dJx4a65c_add_9ea2d_13 fl_Jx4a65c_9 (sC_k17 hC) (sC_n17 hC) (by rw [e3]; rfl) ?_
    refine aw_aload_n dJx4a65c_add_9ea2d_16 rfl rfl (by first | exact isR_ref _ | exact isR_rf _ | exact isR_null) ?_
    refine aw_get (v := .int (nI 0)) dJx4a65c_add_9ea2d_17 fl_Jx4a65c_48 (sC_k17 hC) (sC_n17 hC) (congrArg Value.int (hK2 _)) ?_
    refine aw_callV (as := [_, _, _]) dJx4a65c_add_9ea2d_20 lk_Jx4a65c_131 cm_Jx4a65c_add_72be8 vi_Jx4a65c_add_72be8 (by unfold RO; decide) rfl (sC_k17 hC) (sC_n17 hC) rfl rfl rfl (Nat.le_of_ble_eq_true rfl) (l_addA hG hC (kn := kn) (hK2 _) e3 hr hc1 hc2) ?_
    intro v' M' hq
    rw [key] at hq
    obtain ⟨rfl, hq⟩ := hq
    refine aw_iconst (v := nI 1) dJx4a65c_add_9ea2d_23 (by decide) ?_
    refine aw_iret dJx4a65c_add_9ea2d_24 rfl rfl ?_
    exact ⟨rfl, hq⟩
  · refine aw_get (v := .ref (gz G + E)) dJx4a65c_add_9ea2d_13 fl_Jx4a65c_9 (sC_k17 hC) (sC_n17 hC) (by rw [e3]; rfl) ?_
    refine aw_aload_n dJx4a65c_add_9ea2d_16 rfl rfl (by first | exact isR_ref _ | exact isR_rf _ | exact isR_null) ?_
    refine aw_get (v := .int (nI K)) dJx4a65c_add_9ea2d_17 fl_Jx4a65c_48 (sC_k17 hC) (sC_n17 hC) (congrArg Value.int (hK2 _)) ?_
    by_cases hKc : K = cap
    · subst hKc
      refine aw_callV (as := [_, _, _]) dJx4a65c_add_9ea2d_20 lk_Jx4a65c_131 cm_Jx4a65c_add_72be8 vi_Jx4a65c_add_72be8 (by unfold RO; decide) rfl (sC_k17 hC) (sC_n17 hC) rfl rfl rfl (Nat.le_of_ble_eq_true rfl) (l_addC hG hC (kn := kn) (hK2 _) h4 e1 e2 e3 e4 e5 e6 (by omega) hr hc1 hc2) ?_
      intro v' M' hq
      rw [key] at hq
      obtain ⟨rfl, hq⟩ := hq
      refine aw_iconst (v := nI 1) dJx4a65c_add_9ea2d_23 (by decide) ?_
      refine aw_iret dJx4a65c_add_9ea2d_24 rfl rfl ?_
      exact ⟨rfl, hq⟩
    · refine aw_callV (as := [_, _, _]) dJx4a65c_add_9ea2d_20 lk_Jx4a65c_131 cm_Jx4a65c_add_72be8 vi_Jx4a65c_add_72be8 (by unfold RO; decide) rfl (sC_k17 hC) (sC_n17 hC) rfl rfl rfl (Nat.le_of_ble_eq_true rfl) (l_addB (em := em) hC (kn := kn) (hK2 _) h3 h4 e1 e2 e3 e4 e5 e6 e7 (by omega) (by omega) hr) ?_
      intro v' M' hq
      rw [key] at hq
      obtain ⟨rfl, hq⟩ := hq
      refine aw_iconst (v := nI 1) dJx4a65c_add_9ea2d_23 (by decide) ?_
      refine aw_iret dJx4a65c_add_9ea2d_24 rfl rfl ?_
      exact ⟨rfl, hq⟩
end LST2
