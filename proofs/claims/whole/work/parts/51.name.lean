section NAM
variable {G : GG} {n sz : Nat} {kd : Nat → AKd} {I : Nat → Nat → Int32} {R : Nat → Nat → Option Nat} {J : Nat → Nat → Int64} {em mi : Nat}
theorem Ls.grow {K cap : Nat} {kn : Nat → Nat} (h : Ls G em n kd I R K cap kn) {n' : Nat} {kd' : Nat → AKd} {I' : Nat → Nat → Int32} {R' : Nat → Nat → Option Nat} (hn : n ≤ n') (h17 : 17 < n) (h1 : ∀ a, a < n → kd' a = kd a) (h2 : I' 17 = I 17) (h3 : ∀ a, a < n → R' a = R a) : Ls G em n' kd' I' R' K cap kn := by
  obtain ⟨g1, g2, g3, g4, g5⟩ := h
  refine ⟨by rw [h2]; exact g1, g2, g3, fun i hi => ⟨by rw [h1 _ (g4 i hi).2]; exact (g4 i hi).1, Nat.lt_of_lt_of_le (g4 i hi).2 hn⟩, ?_⟩
  rcases g5 with ⟨e1, e2, e3⟩ | ⟨E, e1, e2, e3, e4, e5, e6, e7⟩
  · exact Or.inl ⟨e1, e2, by rw [h3 17 h17]; exact e3⟩
  · exact Or.inr ⟨E, e1, by omega, by rw [h3 17 h17]; exact e3, by rw [h1 E e2]; exact e4, e5, fun i hi => by rw [h3 E e2]; exact e6 i hi, fun i h1 h2 => by rw [h3 E e2]; exact e7 i h1 h2⟩
def nmQ (G : GG) (kd : Nat → AKd) (I : Nat → Nat → Int32) (R : Nat → Nat → Option Nat) (kn : Nat → Nat) (a : Nat) (o : Option Nat) (f i : Nat) : Bool := cTl G kd I R (kn i) (nI a) (oI o) (nI f)
def QNew (G : GG) (em n sz : Nat) (kd : Nat → AKd) (I : Nat → Nat → Int32) (R : Nat → Nat → Option Nat) (J : Nat → Nat → Int64) (K cap : Nat) (kn : Nat → Nat) (a : Nat) (o : Option Nat) (f : Nat) (M' : Mem) : Prop :=
  ∃ n' sz' kd' I' R' J' cap', M' = (n', sz', kd', I', R', J') ∧ n + 2 ≤ n' ∧ n' ≤ n + 3 ∧ sz' + 4 * cap ≤ sz + 5 + 4 * cap' ∧ (∀ x, x < n → kd' x = kd x ∧ J' x = J x) ∧ (∀ x, x < n → x ≠ 17 → I' x = I x) ∧ (∀ x, x < n → x ≠ 17 → (∀ c, kd x ≠ .inr (5, c)) → R' x = R x) ∧ (∀ x, n + 2 ≤ x → x < n' → ∃ c, kd' x = .inr (5, c)) ∧ kd' n = .inr (0, oC o) ∧ kd' (n + 1) = .inl 7 ∧ R' (n + 1) 1 = some (gz G + n) ∧ I' (n + 1) 0 = nI (100 + K) ∧ I' (n + 1) 2 = nI f ∧ I' n 0 = nI a ∧ (∀ b, o = some b → I' n 1 = nI b) ∧ Ls G em n' kd' I' R' (K + 1) cap' (va_up kn K (n + 1))
def QName (G : GG) (em n sz : Nat) (kd : Nat → AKd) (I : Nat → Nat → Int32) (R : Nat → Nat → Option Nat) (J : Nat → Nat → Int64) (K cap : Nat) (kn : Nat → Nat) (a : Nat) (o : Option Nat) (f : Nat) (v' : Option Value) (M' : Mem) : Prop := match fstF (nmQ G kd I R kn a o f) K with
  | some i => v' = some (.ref (gz G + kn i)) ∧ M' = (n, sz, kd, I, R, J)
  | none => v' = some (.ref (gz G + (n + 1))) ∧ QNew G em n sz kd I R J K cap kn a o f M'
theorem l_name (hG : LsP G em mi) (hC : ShC G n kd R) {K cap : Nat} {kn : Nat → Nat} (hL : Ls G em n kd I R K cap kn) (hRu : ∀ i, i < K → RuS G n kd R (kn i)) (hK : K ≤ 3200) {a f : Nat} {o : Option Nat} (ho : ∀ b, o = some b → b < 2 ^ 31) (hc1 : n + 20 ≤ 600000) (hc2 : sz + 11000 ≤ 7302250) : MM G mX1_nameRule [.ref (gz G + 16), .int (nI a), .int (oI o), .int (nI f)] (n, sz, kd, I, R, J) (QName G em n sz kd I R J K cap kn a o f) := by
  refine mm_of rfl [(0, .ref (gz G + 16)), (1, .int (nI a)), (2, .int (oI o)), (3, .int (nI f))] rfl (Nat.le_of_ble_eq_true rfl) ?_
  have hn := hC.1
  have hcap : cap < 2 ^ 31 := by have := hL.2.2.1; omega
  have hoC : oC o ≤ 2 := by cases o with
    | none => decide
    | some b => exact Nat.le_refl 2
  have tail : fstF (nmQ G kd I R kn a o f) K = none → ∀ I1 : Nat → Nat → Int32, (∀ x, x < n → I1 x = I x) → I1 n 0 = nI a → (∀ b, o = some b → I1 n 1 = nI b) → AW G mX1_nameRule 81 [(0, .ref (gz G + 16)), (1, .int (nI a)), (2, .int (oI o)), (3, .int (nI f)), (4, .int (nI K))] [.ref (gz G + n)] (n + 1, sz + oC o, va_up kd n (.inr (0, oC o)), I1, R, J) (QName G em n sz kd I R J K cap kn a o f) := by
    intro hf I1 h1 h2 h3
    refine aw_astore (lv' := [(0, _), (1, _), (2, _), (3, _), (4, _)]) dX1_nameRule_81 (by decide) rfl ?_
    refine aw_new dX1_nameRule_83 cf_X6 cl_X1_18 (List.mem_of_getElem? (i := 462) (by decide +kernel)) (List.mem_of_getElem? (i := 71) (by decide +kernel)) (by show _ ≤ 600000; omega) (by show _ + 3 ≤ 7302250; omega) ?_
    have hkd2 : ∀ x, x < n → va_up (va_up kd n (.inr (0, oC o))) (n + 1) (.inl 7) x = kd x := fun x hx => by rw [vz_up_ne _ _ (by omega), vz_up_ne _ _ (by omega)]
    have hC2 := hC.grow (n' := n + 1 + 1) (kd' := va_up (va_up kd n (.inr (0, oC o))) (n + 1) (.inl 7)) (R' := va_up R (n + 1) (fun _ => none)) (by omega) (fun i hi => hkd2 i (by omega)) (fun i hi => vz_up_ne _ _ (by omega))
    have hC := hC2
    have h17 : va_up I1 (n + 1) (fun _ => 0) 17 2 = nI K := by rw [vz_up_ne _ _ (by omega), h1 17 (by omega)]; exact hL.1
    refine aw_dup dX1_nameRule_86 rfl ?_
    refine aw_bipush (v := nI 100) dX1_nameRule_87 (by decide) ?_
    refine aw_aload_n dX1_nameRule_89 rfl rfl (by first | exact isR_ref _ | exact isR_rf _ | exact isR_null) ?_
    refine aw_get dX1_nameRule_90 fl_X1_12 (sC_k16 hC) (sC_n16 hC) (sC_r_16_known hC _ _) ?_
    refine aw_cVx (as := []) dX1_nameRule_93 lk_X1_167 cm_Jx4a65c_size_8abf5 vi_Jx4a65c_size_8abf5 (by unfold RO; decide) rfl (sC_k17 hC) (sC_n17 hC) rfl rfl rfl (Nat.le_of_ble_eq_true rfl) (c_lsize hC) ?_
    refine aw_top h17 ?_
    first | refine aw_iaddN dX1_nameRule_96 ?_ | refine aw_iadd dX1_nameRule_96 ?_
    refine aw_aload dX1_nameRule_97 rfl (by first | exact isR_ref _ | exact isR_rf _ | exact isR_null) ?_
    refine aw_iload_n dX1_nameRule_99 rfl rfl ?_
    refine aw_cIv (as := [_, _, _]) dX1_nameRule_100 lk_X1_178 cm_X6_init im_X6_init (by unfold RO; decide) rfl rfl (Nat.le_of_ble_eq_true rfl) (c_ruleInit ⟨vz_up_same _ _ _, Nat.lt_succ_self _⟩ _ _ _) ?_
    have hC3 := hC.grow (n' := n + 1 + 1) (kd' := va_up (va_up kd n (.inr (0, oC o))) (n + 1) (.inl 7)) (R' := u2 (va_up R (n + 1) (fun _ => none)) (n + 1) 1 (some (gz G + n))) (by omega) (fun i hi => rfl) (fun i hi => u2_row _ _ _ (by omega))
    have hC := hC3
    have hI3 : ∀ x, x < n → u2 (u2 (va_up I1 (n + 1) (fun _ => 0)) (n + 1) 0 (nI (100 + K))) (n + 1) 2 (nI f) x = I x := fun x hx => by rw [u2_row _ _ _ (by omega), u2_row _ _ _ (by omega), vz_up_ne _ _ (by omega), h1 x hx]
    have hR3 : ∀ x, x < n → u2 (va_up R (n + 1) (fun _ => none)) (n + 1) 1 (some (gz G + n)) x = R x := fun x hx => by rw [u2_row _ _ _ (by omega), vz_up_ne _ _ (by omega)]
    have hL3 := hL.grow (n' := n + 1 + 1) (kd' := va_up (va_up kd n (.inr (0, oC o))) (n + 1) (.inl 7)) (I' := u2 (u2 (va_up I1 (n + 1) (fun _ => 0)) (n + 1) 0 (nI (100 + K))) (n + 1) 2 (nI f)) (R' := u2 (va_up R (n + 1) (fun _ => none)) (n + 1) 1 (some (gz G + n))) (by omega) (by omega) hkd2 (hI3 17 (by omega)) hR3
    refine aw_astore (lv' := [(0, _), (1, _), (2, _), (3, _), (4, _), (5, _)]) dX1_nameRule_103 (by decide) rfl ?_
    refine aw_aload_n dX1_nameRule_105 rfl rfl (by first | exact isR_ref _ | exact isR_rf _ | exact isR_null) ?_
    refine aw_get dX1_nameRule_106 fl_X1_12 (sC_k16 hC) (sC_n16 hC) (sC_r_16_known hC _ _) ?_
    refine aw_aload dX1_nameRule_109 rfl (by first | exact isR_ref _ | exact isR_rf _ | exact isR_null) ?_
    refine aw_callV (as := [_]) dX1_nameRule_111 lk_X1_181 cm_Jx4a65c_add_9ea2d vi_Jx4a65c_add_9ea2d (by unfold RO; decide) rfl (sC_k17 hC) (sC_n17 hC) rfl rfl rfl (Nat.le_of_ble_eq_true rfl) (l_add hG hC hL3 hK ⟨vz_up_same _ _ _, Nat.lt_succ_self _⟩ (by omega) (by show sz + oC o + 3 + 10000 ≤ 7302250; omega)) ?_
    intro v' M' hq
    obtain ⟨rfl, n', sz', kd', I', R', cap', rfl, q1, q2, q3, q4, q5, q6, q7, q8⟩ := hq
    refine aw_pop dX1_nameRule_114 rfl ?_
    refine aw_aload dX1_nameRule_115 rfl (by first | exact isR_ref _ | exact isR_rf _ | exact isR_null) ?_
    refine aw_aret dX1_nameRule_117 rfl (Or.inl ⟨_, rfl⟩) (by first | exact isR_ref _ | exact isR_rf _ | exact isR_null) ?_
    have q3 : sz' + 4 * cap ≤ sz + oC o + 3 + 4 * cap' := q3
    unfold QName
    rw [hf]
    have hka : va_up (va_up kd n (.inr (0, oC o))) (n + 1) (.inl 7) n = .inr (0, oC o) := by rw [vz_up_ne _ _ (by omega), vz_up_same]
    have hkb : va_up (va_up kd n (.inr (0, oC o))) (n + 1) (.inl 7) (n + 1) = .inl 7 := vz_up_same _ _ _
    refine ⟨rfl, n', sz', kd', I', R', _, cap', rfl, by omega, by omega, by omega, fun x hx => ⟨?_, ?_⟩, fun x hx hx2 => ?_, fun x hx hx2 hx3 => ?_, fun x hx hx2 => q5 x (by omega) hx2, ?_, ?_, ?_, ?_, ?_, ?_, fun b hb => ?_, q8⟩
    · rw [q4 x (by omega), hkd2 x hx]
    · rw [vz_up_ne _ _ (by omega)]
    · rw [q6 x hx2, hI3 x hx]
    · rw [q7 x (by omega) hx2 (fun c => by rw [hkd2 x hx]; exact hx3 c), hR3 x hx]
    · rw [q4 n (by omega), hka]
    · rw [q4 (n + 1) (by omega), hkb]
    · rw [q7 (n + 1) (by omega) (by omega) (fun c => by rw [hkb]; exact fun z => by cases z), u2_same]
    · rw [q6 (n + 1) (by omega), u2_col _ _ _ (by decide), u2_same]
    · rw [q6 (n + 1) (by omega), u2_same]
    · rw [q6 n (by omega), u2_row _ _ _ (by omega), u2_row _ _ _ (by omega), vz_up_ne _ _ (by omega)]; exact h2
    · rw [q6 n (by omega), u2_row _ _ _ (by omega), u2_row _ _ _ (by omega), vz_up_ne _ _ (by omega)]; exact h3 b hb
  refine aw_iconst (v := nI 0) dX1_nameRule_0 (by decide) ?_
  refine aw_istore (lv' := [(0, _), (1, _), (2, _), (3, _), (4, _)]) dX1_nameRule_1 (by decide) rfl ?_
  have loop : ∀ d i, i + d = K → fstF (nmQ G kd I R kn a o f) i = none → AW G mX1_nameRule 3 [(0, .ref (gz G + 16)), (1, .int (nI a)), (2, .int (oI o)), (3, .int (nI f)), (4, .int (nI i))] [] (n, sz, kd, I, R, J) (QName G em n sz kd I R J K cap kn a o f) := by
    intro d
    induction d with
    | zero =>
      intro i hi ha
      have eK : i = K := by omega
      subst eK
      refine aw_iload dX1_nameRule_3 rfl ?_
      refine aw_aload_n dX1_nameRule_5 rfl rfl (by first | exact isR_ref _ | exact isR_rf _ | exact isR_null) ?_
      refine aw_get dX1_nameRule_6 fl_X1_12 (sC_k16 hC) (sC_n16 hC) (sC_r_16_known hC _ _) ?_
      refine aw_cVx (as := []) dX1_nameRule_9 lk_X1_167 cm_Jx4a65c_size_8abf5 vi_Jx4a65c_size_8abf5 (by unfold RO; decide) rfl (sC_k17 hC) (sC_n17 hC) rfl rfl rfl (Nat.le_of_ble_eq_true rfl) (c_lsize hC) ?_
      refine aw_top hL.1 ?_
      refine aw_n_ge (tgt := 55) dX1_nameRule_12 (by decide) rfl rfl (by omega) (by omega) (fun h => ?_) (fun h => ?_)
      · refine aw_iload_n dX1_nameRule_55 rfl rfl ?_
        refine aw_iconst (v := (-1)) dX1_nameRule_56 (by decide) ?_
        cases o with
        | none =>
          refine aw_icmp_ne (tgt := 70) dX1_nameRule_57 (by decide) (fun h2 => ?_) (fun h2 => ?_)
          · exact absurd rfl h2
          · refine aw_iconst (v := nI 1) dX1_nameRule_60 (by decide) ?_
            refine aw_newa (t := 0) dX1_nameRule_61 rfl (by decide) ac_0 rfl (by first | decide | omega) (by show _ ≤ 600000; omega) (by show _ ≤ 7302250; omega) ?_
            have hA : va_up kd n (.inr (0, 1)) n = .inr (0, 1) := vz_up_same _ _ _
            have hAn : n < n + 1 := Nat.lt_succ_self n
            refine aw_dup dX1_nameRule_63 rfl ?_
            refine aw_iconst (v := nI 0) dX1_nameRule_64 (by decide) ?_
            refine aw_iload_n dX1_nameRule_65 rfl rfl ?_
            refine aw_iast dX1_nameRule_66 hA hAn (ixm (by omega)) ?_
            refine aw_goto (tgt := 81) dX1_nameRule_67 (by decide) ?_
            exact tail ha _ (fun x hx => by rw [u2_row _ _ _ (by omega), vz_up_ne _ _ (by omega)]) (u2_same _ _ _ _) (fun b hb => by cases hb)
        | some b =>
          have hb := ho b rfl
          refine aw_icmp_ne (tgt := 70) dX1_nameRule_57 (by decide) (fun h2 => ?_) (fun h2 => ?_)
          · refine aw_iconst (v := nI 2) dX1_nameRule_70 (by decide) ?_
            refine aw_newa (t := 0) dX1_nameRule_71 rfl (by decide) ac_0 rfl (by first | decide | omega) (by show _ ≤ 600000; omega) (by show _ ≤ 7302250; omega) ?_
            have hA : va_up kd n (.inr (0, 2)) n = .inr (0, 2) := vz_up_same _ _ _
            have hAn : n < n + 1 := Nat.lt_succ_self n
            refine aw_dup dX1_nameRule_73 rfl ?_
            refine aw_iconst (v := nI 0) dX1_nameRule_74 (by decide) ?_
            refine aw_iload_n dX1_nameRule_75 rfl rfl ?_
            refine aw_iast dX1_nameRule_76 hA hAn (ixm (by omega)) ?_
            refine aw_dup dX1_nameRule_77 rfl ?_
            refine aw_iconst (v := nI 1) dX1_nameRule_78 (by decide) ?_
            refine aw_iload_n dX1_nameRule_79 rfl rfl ?_
            refine aw_iast dX1_nameRule_80 hA hAn (ixm (by omega)) ?_
            exact tail ha _ (fun x hx => by rw [u2_row _ _ _ (by omega), u2_row _ _ _ (by omega), vz_up_ne _ _ (by omega)]) (by rw [u2_col _ _ _ (by decide), u2_same]) (fun c hc => by cases hc; exact u2_same _ _ _ _)
          · have h2 : nI b = -1 := h2
            exact absurd (show nI b < 0 by rw [h2]; decide) (nI_pos hb)
      · exact absurd h (by omega)
    | succ d ih =>
      intro i hi ha
      refine aw_iload dX1_nameRule_3 rfl ?_
      refine aw_aload_n dX1_nameRule_5 rfl rfl (by first | exact isR_ref _ | exact isR_rf _ | exact isR_null) ?_
      refine aw_get dX1_nameRule_6 fl_X1_12 (sC_k16 hC) (sC_n16 hC) (sC_r_16_known hC _ _) ?_
      refine aw_cVx (as := []) dX1_nameRule_9 lk_X1_167 cm_Jx4a65c_size_8abf5 vi_Jx4a65c_size_8abf5 (by unfold RO; decide) rfl (sC_k17 hC) (sC_n17 hC) rfl rfl rfl (Nat.le_of_ble_eq_true rfl) (c_lsize hC) ?_
      refine aw_top hL.1 ?_
      refine aw_n_ge (tgt := 55) dX1_nameRule_12 (by decide) rfl rfl (by omega) (by omega) (fun h => ?_) (fun h => ?_)
      · exact absurd h (by omega)
      · have hr := hL.2.2.2.1 i (by omega)
        have hs := hRu i (by omega)
        refine aw_aload_n dX1_nameRule_15 rfl rfl (by first | exact isR_ref _ | exact isR_rf _ | exact isR_null) ?_
        refine aw_get dX1_nameRule_16 fl_X1_12 (sC_k16 hC) (sC_n16 hC) (sC_r_16_known hC _ _) ?_
        refine aw_iload dX1_nameRule_19 rfl ?_
        refine aw_cVx (as := [_]) dX1_nameRule_21 lk_X1_170 cm_Jx4a65c_get_915e3 vi_Jx4a65c_get_915e3 (by unfold RO; decide) rfl (sC_k17 hC) (sC_n17 hC) rfl rfl rfl (Nat.le_of_ble_eq_true rfl) (l_get hC hL (by omega) hcap) ?_
        refine aw_cast (r := (RX6, TX6, 3)) dX1_nameRule_24 cl_X1_18 hr.1 hr.2 rfl ?_
        refine aw_iload_n dX1_nameRule_27 rfl rfl ?_
        refine aw_iload_n dX1_nameRule_28 rfl rfl ?_
        refine aw_iload_n dX1_nameRule_29 rfl rfl ?_
        refine aw_cVx (as := [_, _, _]) dX1_nameRule_30 lk_X1_174 cm_X6_tells vi_X6_tells (by unfold RO; decide) rfl hr.1 hr.2 rfl rfl rfl (Nat.le_of_ble_eq_true rfl) (c_tells hr hs _ _ _) ?_
        refine aw_b_eq (tgt := 49) dX1_nameRule_33 (by decide) rfl (fun h3 => ?_) (fun h3 => ?_)
        · first | refine aw_iincN (c := 1) (lv' := [(0, _), (1, _), (2, _), (3, _), (4, _)]) dX1_nameRule_49 rfl (by decide) rfl rfl ?_ | refine aw_iinc (v := 1) (lv' := [(0, _), (1, _), (2, _), (3, _), (4, _)]) dX1_nameRule_49 rfl (by decide) (by decide) rfl ?_
          refine aw_goto (tgt := 3) dX1_nameRule_52 (by decide) ?_
          exact ih (i + 1) (by omega) (by rw [fstF, ha]; simp [nmQ, h3])
        · refine aw_aload_n dX1_nameRule_36 rfl rfl (by first | exact isR_ref _ | exact isR_rf _ | exact isR_null) ?_
          refine aw_get dX1_nameRule_37 fl_X1_12 (sC_k16 hC) (sC_n16 hC) (sC_r_16_known hC _ _) ?_
          refine aw_iload dX1_nameRule_40 rfl ?_
          refine aw_cVx (as := [_]) dX1_nameRule_42 lk_X1_170 cm_Jx4a65c_get_915e3 vi_Jx4a65c_get_915e3 (by unfold RO; decide) rfl (sC_k17 hC) (sC_n17 hC) rfl rfl rfl (Nat.le_of_ble_eq_true rfl) (l_get hC hL (by omega) hcap) ?_
          refine aw_cast (r := (RX6, TX6, 3)) dX1_nameRule_45 cl_X1_18 hr.1 hr.2 rfl ?_
          refine aw_aret dX1_nameRule_48 rfl (Or.inl ⟨_, rfl⟩) (by first | exact isR_ref _ | exact isR_rf _ | exact isR_null) ?_
          have e : fstF (nmQ G kd I R kn a o f) (i + 1) = some i := by rw [fstF, ha]; simp [nmQ, h3]
          have e2 := fstF_stay e d
          rw [show i + 1 + d = K by omega] at e2
          unfold QName
          rw [e2]
          exact ⟨rfl, rfl⟩
  exact loop K 0 (Nat.zero_add _) rfl
end NAM
