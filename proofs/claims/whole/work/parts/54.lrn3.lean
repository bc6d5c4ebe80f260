section LRN3
variable {G : GG} {n sz : Nat} {kd : Nat → AKd} {I : Nat → Nat → Int32} {R : Nat → Nat → Option Nat} {J : Nat → Nat → Int64}
/-- a RULE fits alike where its cells and the LETTER's are the same -/
theorem cFt_frame {I' : Nat → Nat → Int32} {R' : Nat → Nat → Option Nat} {J' : Nat → Nat → Int64} {r l : Nat} (h1 : R' r = R r) (h2 : I' (rc G R r 1) = I (rc G R r 1)) (h3 : I' l 1 = I l 1) (h4 : J' l 0 = J l 0) : cFt G kd I' R' J' r l = cFt G kd I R J r l := by
  have e : rc G R' r 1 = rc G R r 1 := rc_cong h1
  unfold cFt cM cPs
  rw [e, h2, h3, h4]
theorem RuS.row {r a : Nat} {f : Nat → Option Nat} (h : RuS G n kd R r) (ha : r ≠ a) : RuS G n kd (va_up R a f) r := by
  have e : va_up R a f r = R r := vz_up_ne _ _ ha
  unfold RuS cM
  rw [rc_cong e, e]
  exact h
theorem cpy_zero {α : Type} (f g : Nat → α) : va_cpy f g 0 0 0 = g := by
  funext k
  unfold va_cpy
  rw [if_neg (by omega)]
theorem cpy_succ {α : Type} (f g : Nat → α) (i : Nat) : va_up (va_cpy f g 0 0 i) i (f i) = va_cpy f g 0 0 (i + 1) := by
  funext k
  by_cases h : k = i
  · rw [h, vz_up_same]
    unfold va_cpy
    rw [if_pos (by omega), Nat.sub_zero, Nat.zero_add]
  · rw [vz_up_ne _ _ h]
    unfold va_cpy
    by_cases h2 : k < i
    · rw [if_pos (by omega), if_pos (by omega)]
    · rw [if_neg (by omega), if_neg (by omega)]
theorem l_aside (hC : ShC G n kd R) {L : Nat} (hL : I 5 2 = nI L) (hK : KV G n kd R L) : EX G mX1_putAside [.ref (gz G + 16), .ref (gz G + 5)] (n, sz, kd, I, R, J) none (n, sz, kd, u2 (u2 I 16 9 (nI L)) 5 2 (nI 0), va_up R 18 (va_cpy (R 7) (R 18) 0 0 L), J) := by
  refine mm_of rfl [(0, .ref (gz G + 16)), (1, .ref (gz G + 5))] rfl (Nat.le_of_ble_eq_true rfl) ?_
  have hL6 := hK.1
  have loop : ∀ d i, i + d = L → ∀ lx, AW G mX1_putAside 10 ([(0, .ref (gz G + 16)), (1, .ref (gz G + 5)), (2, .int (nI i))] ++ lx) [] (n, sz, kd, u2 I 16 9 (nI L), va_up R 18 (va_cpy (R 7) (R 18) 0 0 i), J) (fun v' M' => v' = none ∧ M' = (n, sz, kd, u2 (u2 I 16 9 (nI L)) 5 2 (nI 0), va_up R 18 (va_cpy (R 7) (R 18) 0 0 L), J)) := by
    have hes : u2 I 16 9 (nI L) 16 9 = nI L := u2_same _ _ _ _
    intro d
    induction d with
    | zero =>
      intro i hi lx
      refine aw_app ?_
      have eN : i = L := by omega
      have hC := hC.row (a := 18) (va_cpy (R 7) (R 18) 0 0 i) (by decide)
      refine aw_iload_n dX1_putAside_10 rfl rfl ?_
      refine aw_aload_n dX1_putAside_11 rfl rfl (by first | exact isR_ref _ | exact isR_rf _ | exact isR_null) ?_
      refine aw_get dX1_putAside_12 fl_X1_104 (sC_k16 hC) (sC_n16 hC) (congrArg Value.int hes) ?_
      refine aw_n_ge (tgt := 36) dX1_putAside_15 (by decide) rfl rfl (by omega) (by omega) (fun h => ?_) (fun h => ?_)
      · refine aw_aload_n dX1_putAside_36 rfl rfl (by first | exact isR_ref _ | exact isR_rf _ | exact isR_null) ?_
        refine aw_iconst (v := nI 0) dX1_putAside_37 (by decide) ?_
        refine aw_putI dX1_putAside_38 fl_X1_101 (Or.inl rfl) rfl (sC_k5 hC) (sC_n5 hC) ?_
        refine aw_vret dX1_putAside_41 rfl ?_
        rw [eN]
        exact ⟨rfl, rfl⟩
      · exact absurd h (by omega)
    | succ d ih =>
      intro i hi lx
      refine aw_app ?_
      have hC0 := hC
      have hC := hC.row (a := 18) (va_cpy (R 7) (R 18) 0 0 i) (by decide)
      have hr : isC G n kd (va_up R 18 (va_cpy (R 7) (R 18) 0 0 i)) 7 i 7 := (hK.2 i (by omega)).1
      refine aw_iload_n dX1_putAside_10 rfl rfl ?_
      refine aw_aload_n dX1_putAside_11 rfl rfl (by first | exact isR_ref _ | exact isR_rf _ | exact isR_null) ?_
      refine aw_get dX1_putAside_12 fl_X1_104 (sC_k16 hC) (sC_n16 hC) (congrArg Value.int hes) ?_
      refine aw_n_ge (tgt := 36) dX1_putAside_15 (by decide) rfl rfl (by omega) (by omega) (fun h => ?_) (fun h => ?_)
      · exact absurd h (by omega)
      · have k := ih (i + 1) (by omega) []
        rw [← cpy_succ, show R 7 i = some (gz G + rc G R 7 i) from (hK.2 i (by omega)).1.1] at k
        refine aw_aload_n dX1_putAside_18 rfl rfl (by first | exact isR_ref _ | exact isR_rf _ | exact isR_null) ?_
        refine aw_get dX1_putAside_19 fl_X1_20 (sC_k16 hC) (sC_n16 hC) (sC_r_16_earlier hC _ _) ?_
        refine aw_iload_n dX1_putAside_22 rfl rfl ?_
        refine aw_aload_n dX1_putAside_23 rfl rfl (by first | exact isR_ref _ | exact isR_rf _ | exact isR_null) ?_
        refine aw_get dX1_putAside_24 fl_X1_98 (sC_k5 hC) (sC_n5 hC) (sC_r_5_learnt hC _ _) ?_
        refine aw_iload_n dX1_putAside_27 rfl rfl ?_
        refine aw_aaS dX1_putAside_28 (by decide) (sC_k7 hC) (sC_n7 hC) (ixm (by omega)) (hr).1 ?_
        refine aw_aast dX1_putAside_29 (by decide) rfl (sC_k18 hC) (sC_n18 hC) (ixm (by omega)) (hr).2.2 (hr).2.1 rfl (Or.inl rfl) ?_
        rw [u2_up]
        first | refine aw_iincN (c := 1) (lv' := [(0, _), (1, _), (2, _)]) dX1_putAside_30 rfl (by decide) rfl rfl ?_ | refine aw_iinc (v := 1) (lv' := [(0, _), (1, _), (2, _)]) dX1_putAside_30 rfl (by decide) (by decide) rfl ?_
        refine aw_goto (tgt := 10) dX1_putAside_33 (by decide) ?_
        exact aw_app (lv := [_, _, _]) (ex := []) k
  have l0 := loop L 0 (Nat.zero_add _) []
  rw [cpy_zero, up_own] at l0
  refine aw_aload_n dX1_putAside_0 rfl rfl (by first | exact isR_ref _ | exact isR_rf _ | exact isR_null) ?_
  refine aw_aload_n dX1_putAside_1 rfl rfl (by first | exact isR_ref _ | exact isR_rf _ | exact isR_null) ?_
  refine aw_get dX1_putAside_2 fl_X1_101 (sC_k5 hC) (sC_n5 hC) (congrArg Value.int hL) ?_
  refine aw_putI dX1_putAside_5 fl_X1_104 (Or.inl rfl) rfl (sC_k16 hC) (sC_n16 hC) ?_
  refine aw_iconst (v := nI 0) dX1_putAside_8 (by decide) ?_
  refine aw_istore_n (lv' := [(0, _), (1, _), (2, _)]) dX1_putAside_9 rfl (by decide) rfl ?_
  exact l0
def opC (G : GG) (kd : Nat → AKd) (I : Nat → Nat → Int32) (R : Nat → Nat → Option Nat) (J : Nat → Nat → Int64) (i : Nat) : Bool := !decide (I (rc G R 9 i) 5 = -1) && !(fstF (cHf G kd I R J (rc G R 9 i)) 10).isSome
theorem fstF_cong {p q : Nat → Bool} : ∀ {n : Nat}, (∀ k, k < n → p k = q k) → fstF p n = fstF q n
  | 0, _ => rfl
  | n + 1, h => by rw [fstF, fstF, h n (by omega), fstF_cong (fun k hk => h k (by omega))]
theorem l_open (hC : ShC G n kd R) (hV : HV G n kd R) {N : Nat} (hN : I 8 1 = nI N) (hW : LV G n kd R N) (h52 : ∀ i, i < N → 52 ≤ rc G R 9 i) : MM G mX1_open [.ref (gz G + 16), .ref (gz G + 8), .ref (gz G + 5)] (n, sz, kd, I, R, J) (fun v' M' => v' = none ∧ ∃ g, (∀ k, k < N → opC G kd I R J k = true → g (cnt (opC G kd I R J) k) = R 9 k) ∧ M' = (n, sz, kd, u2 I 16 11 (nI (cnt (opC G kd I R J) N)), va_up R 19 g, J)) := by
  refine mm_of rfl [(0, .ref (gz G + 16)), (1, .ref (gz G + 8)), (2, .ref (gz G + 5))] rfl (Nat.le_of_ble_eq_true rfl) ?_
  have hN1 := hW.1
  have loop : ∀ d i, i + d = N → ∀ (g : Nat → Option Nat) lx, (∀ k, k < i → opC G kd I R J k = true → g (cnt (opC G kd I R J) k) = R 9 k) → AW G mX1_open 7 ([(0, .ref (gz G + 16)), (1, .ref (gz G + 8)), (2, .ref (gz G + 5)), (3, .int (nI i))] ++ lx) [] (n, sz, kd, u2 I 16 11 (nI (cnt (opC G kd I R J) i)), va_up R 19 g, J) (fun v' M' => v' = none ∧ ∃ g, (∀ k, k < N → opC G kd I R J k = true → g (cnt (opC G kd I R J) k) = R 9 k) ∧ M' = (n, sz, kd, u2 I 16 11 (nI (cnt (opC G kd I R J) N)), va_up R 19 g, J)) := by
    intro d
    induction d with
    | zero =>
      intro i hi g lx hg
      refine aw_app ?_
      have eN : i = N := by omega
      subst eN
      have hC := hC.row (a := 19) g (by decide)
      refine aw_iload_n dX1_open_7 rfl rfl ?_
      refine aw_aload_n dX1_open_8 rfl rfl (by first | exact isR_ref _ | exact isR_rf _ | exact isR_null) ?_
      refine aw_get dX1_open_9 fl_X1_121 (sC_k8 hC) (sC_n8 hC) (congrArg Value.int hN) ?_
      refine aw_n_ge (tgt := 68) dX1_open_12 (by decide) rfl rfl (by omega) (by omega) (fun h => ?_) (fun h => ?_)
      · refine aw_vret dX1_open_68 rfl ?_
        exact ⟨rfl, g, hg, rfl⟩
      · exact absurd h (by omega)
    | succ d ih =>
      intro i hi g lx hg
      refine aw_app ?_
      have hC0 := hC
      have hC := hC.row (a := 19) g (by decide)
      have hl : isC G n kd (va_up R 19 g) 9 i 3 := hW.2 i (by omega)
      have hV' : HV G n kd (va_up R 19 g) := fun h hh hne => by
        have q := hV h hh hne
        exact ⟨q.1, q.2.row (fun z => by have z2 := q.1.2.2; rw [z, sC_k19 hC0] at z2; cases z2)⟩
      have h5 := h52 i (by omega)
      have hcl := cnt_le (opC G kd I R J) i
      have ehf : ∀ x : Int32, fstF (cHf G kd (u2 I 16 11 x) (va_up R 19 g) J (rc G R 9 i)) 10 = fstF (cHf G kd I R J (rc G R 9 i)) 10 := fun x => fstF_cong (fun h hh => by
        unfold cHf
        rw [show thC (va_up R 19 g) h = thC R h from rfl]
        cases ht : thC R h with
        | false => rw [Bool.false_and, Bool.false_and]
        | true =>
          have q := hV h hh (fun z => by rw [thC_n z] at ht; cases ht)
          rw [show rc G (va_up R 19 g) 6 h = rc G R 6 h from rfl, cFt_frame (vz_up_ne _ _ (fun z => by have z2 := q.1.2.2; rw [z, sC_k19 hC0] at z2; cases z2)) (u2_row _ _ _ (fun z => by have z2 := q.2.2.2.1; rw [z, sC_k16 hC0] at z2; cases z2)) (by rw [u2_row _ _ _ (by omega)]) rfl])
      have hbe : u2 I 16 11 (nI (cnt (opC G kd I R J) i)) (rc G R 9 i) 5 = I (rc G R 9 i) 5 := by rw [u2_row _ _ _ (by omega)]
      have hos : u2 I 16 11 (nI (cnt (opC G kd I R J) i)) 16 11 = nI (cnt (opC G kd I R J) i) := u2_same _ _ _ _
      refine aw_iload_n dX1_open_7 rfl rfl ?_
      refine aw_aload_n dX1_open_8 rfl rfl (by first | exact isR_ref _ | exact isR_rf _ | exact isR_null) ?_
      refine aw_get dX1_open_9 fl_X1_121 (sC_k8 hC) (sC_n8 hC) (congrArg Value.int hN) ?_
      refine aw_n_ge (tgt := 68) dX1_open_12 (by decide) rfl rfl (by omega) (by omega) (fun h => ?_) (fun h => ?_)
      · exact absurd h (by omega)
      · refine aw_aload_n dX1_open_15 rfl rfl (by first | exact isR_ref _ | exact isR_rf _ | exact isR_null) ?_
        refine aw_get dX1_open_16 fl_X1_126 (sC_k8 hC) (sC_n8 hC) (sC_r_8_letters hC _ _) ?_
        refine aw_iload_n dX1_open_19 rfl rfl ?_
        refine aw_aaS dX1_open_20 (by decide) (sC_k9 hC) (sC_n9 hC) (ixm (by omega)) (hl).1 ?_
        refine aw_astore (lv' := [(0, _), (1, _), (2, _), (3, _), (4, _)]) dX1_open_21 (by decide) rfl ?_
        refine aw_aload dX1_open_23 rfl (by first | exact isR_ref _ | exact isR_rf _ | exact isR_null) ?_
        refine aw_get dX1_open_25 fl_X1_129 (hl).2.2 (hl).2.1 (congrArg Value.int hbe) ?_
        refine aw_iconst (v := (-1)) dX1_open_28 (by decide) ?_
        refine aw_icmp_eq (tgt := 62) dX1_open_29 (by decide) (fun h2 => ?_) (fun h2 => ?_)
        · have e1 : opC G kd I R J i = false := by unfold opC; rw [decide_eq_true h2]; rfl
          have k := ih (i + 1) (by omega) g [] (fun k hk hq => by
            by_cases hki : k = i
            · rw [hki, e1] at hq; cases hq
            · exact hg k (by omega) hq)
          rw [cnt_no e1] at k
          first | refine aw_iincN (c := 1) (lv' := [(0, _), (1, _), (2, _), (3, _), (4, _)]) dX1_open_62 rfl (by decide) rfl rfl ?_ | refine aw_iinc (v := 1) (lv' := [(0, _), (1, _), (2, _), (3, _), (4, _)]) dX1_open_62 rfl (by decide) (by decide) rfl ?_
          refine aw_goto (tgt := 7) dX1_open_65 (by decide) ?_
          exact aw_app (lv := [_, _, _, _]) (ex := [_]) k
        · refine aw_aload_n dX1_open_32 rfl rfl (by first | exact isR_ref _ | exact isR_rf _ | exact isR_null) ?_
          refine aw_aload dX1_open_33 rfl (by first | exact isR_ref _ | exact isR_rf _ | exact isR_null) ?_
          refine aw_cVx (as := [_]) dX1_open_35 lk_X1_132 cm_X5_anyHandFits vi_X5_anyHandFits (by unfold RO; decide) rfl (sC_k5 hC) (sC_n5 hC) rfl rfl rfl (Nat.le_of_ble_eq_true rfl) (c_anyHandFits hC hV' hl.o) ?_
          rw [show rc G (va_up R 19 g) 9 i = rc G R 9 i from rfl, ehf]
          refine aw_b_ne (tgt := 62) dX1_open_38 (by decide) rfl (fun h3 => ?_) (fun h3 => ?_)
          · have e1 : opC G kd I R J i = false := by unfold opC; rw [h3]; simp
            have k := ih (i + 1) (by omega) g [] (fun k hk hq => by
              by_cases hki : k = i
              · rw [hki, e1] at hq; cases hq
              · exact hg k (by omega) hq)
            rw [cnt_no e1] at k
            first | refine aw_iincN (c := 1) (lv' := [(0, _), (1, _), (2, _), (3, _), (4, _)]) dX1_open_62 rfl (by decide) rfl rfl ?_ | refine aw_iinc (v := 1) (lv' := [(0, _), (1, _), (2, _), (3, _), (4, _)]) dX1_open_62 rfl (by decide) (by decide) rfl ?_
            refine aw_goto (tgt := 7) dX1_open_65 (by decide) ?_
            exact aw_app (lv := [_, _, _, _]) (ex := [_]) k
          · have e1 : opC G kd I R J i = true := by unfold opC; rw [h3, decide_eq_false h2]; rfl
            have k := ih (i + 1) (by omega) (va_up g (cnt (opC G kd I R J) i) (R 9 i)) [] (fun k hk hq => by
              by_cases hki : k = i
              · rw [hki, vz_up_same]
              · have hm := cnt_mono (opC G kd I R J) (k + 1) (i - (k + 1))
                rw [show k + 1 + (i - (k + 1)) = i by omega, cnt_yes hq] at hm
                rw [vz_up_ne _ _ (by omega)]
                exact hg k (by omega) hq)
            rw [cnt_yes e1, show R 9 i = some (gz G + rc G R 9 i) from hl.1] at k
            refine aw_aload_n dX1_open_41 rfl rfl (by first | exact isR_ref _ | exact isR_rf _ | exact isR_null) ?_
            refine aw_get dX1_open_42 fl_X1_26 (sC_k16 hC) (sC_n16 hC) (sC_r_16_open hC _ _) ?_
            refine aw_aload_n dX1_open_45 rfl rfl (by first | exact isR_ref _ | exact isR_rf _ | exact isR_null) ?_
            refine aw_get dX1_open_46 fl_X1_52 (sC_k16 hC) (sC_n16 hC) (congrArg Value.int hos) ?_
            refine aw_aload dX1_open_49 rfl (by first | exact isR_ref _ | exact isR_rf _ | exact isR_null) ?_
            refine aw_aast dX1_open_51 (by decide) rfl (sC_k19 hC) (sC_n19 hC) (ixm (by omega)) (hl).2.2 (hl).2.1 rfl (Or.inl rfl) ?_
            rw [u2_up]
            have hC := hC0.row (a := 19) (va_up g (cnt (opC G kd I R J) i) (some (gz G + rc G R 9 i))) (by decide)
            refine aw_aload_n dX1_open_52 rfl rfl (by first | exact isR_ref _ | exact isR_rf _ | exact isR_null) ?_
            refine aw_dup dX1_open_53 rfl ?_
            refine aw_get dX1_open_54 fl_X1_52 (sC_k16 hC) (sC_n16 hC) (congrArg Value.int hos) ?_
            refine aw_iconst (v := nI 1) dX1_open_57 (by decide) ?_
            first | refine aw_iaddN dX1_open_58 ?_ | refine aw_iadd dX1_open_58 ?_
            refine aw_putI dX1_open_59 fl_X1_52 (Or.inl rfl) rfl (sC_k16 hC) (sC_n16 hC) ?_
            rw [u2_u2]
            first | refine aw_iincN (c := 1) (lv' := [(0, _), (1, _), (2, _), (3, _), (4, _)]) dX1_open_62 rfl (by decide) rfl rfl ?_ | refine aw_iinc (v := 1) (lv' := [(0, _), (1, _), (2, _), (3, _), (4, _)]) dX1_open_62 rfl (by decide) (by decide) rfl ?_
            refine aw_goto (tgt := 7) dX1_open_65 (by decide) ?_
            exact aw_app (lv := [_, _, _, _]) (ex := [_]) k
  refine aw_aload_n dX1_open_0 rfl rfl (by first | exact isR_ref _ | exact isR_rf _ | exact isR_null) ?_
  refine aw_iconst (v := nI 0) dX1_open_1 (by decide) ?_
  refine aw_putI dX1_open_2 fl_X1_52 (Or.inl rfl) rfl (sC_k16 hC) (sC_n16 hC) ?_
  refine aw_iconst (v := nI 0) dX1_open_5 (by decide) ?_
  refine aw_istore_n (lv' := [(0, _), (1, _), (2, _), (3, _)]) dX1_open_6 rfl (by decide) rfl ?_
  have l0 := loop N 0 (Nat.zero_add _) (R 19) [] (fun k hk => absurd hk (Nat.not_lt_zero k))
  rw [up_own] at l0
  exact l0
def clP (G : GG) (kd : Nat → AKd) (I : Nat → Nat → Int32) (R : Nat → Nat → Option Nat) (J : Nat → Nat → Int64) (r j : Nat) : Bool := !cFt G kd I R J r (rc G R 19 j)
theorem l_close (hC : ShC G n kd R) {m : Nat} (hO : I 16 11 = nI m) (hV : OV G n kd I R m) {r : Nat} (hr : iO n kd r 7) (hs : RuS G n kd R r) : MM G mX1_closeFitted [.ref (gz G + 16), .ref (gz G + r)] (n, sz, kd, I, R, J) (fun v' M' => v' = none ∧ ∃ g, (∀ k, k < m → clP G kd I R J r k = true → g (cnt (clP G kd I R J r) k) = R 19 k) ∧ M' = (n, sz, kd, u2 I 16 11 (nI (cnt (clP G kd I R J r) m)), va_up R 19 g, J)) := by
  refine mm_of rfl [(0, .ref (gz G + 16)), (1, .ref (gz G + r))] rfl (Nat.le_of_ble_eq_true rfl) ?_
  have hm := hV.1
  have hr19 : r ≠ 19 := fun z => by have z2 := hr.1; rw [z, sC_k19 hC] at z2; cases z2
  have loop : ∀ d i, i + d = m → ∀ (g : Nat → Option Nat) lx, (∀ k, k < i → clP G kd I R J r k = true → g (cnt (clP G kd I R J r) k) = R 19 k) → (∀ k, i ≤ k → g k = R 19 k) → AW G mX1_closeFitted 4 ([(0, .ref (gz G + 16)), (1, .ref (gz G + r)), (2, .int (nI (cnt (clP G kd I R J r) i))), (3, .int (nI i))] ++ lx) [] (n, sz, kd, I, va_up R 19 g, J) (fun v' M' => v' = none ∧ ∃ g, (∀ k, k < m → clP G kd I R J r k = true → g (cnt (clP G kd I R J r) k) = R 19 k) ∧ M' = (n, sz, kd, u2 I 16 11 (nI (cnt (clP G kd I R J r) m)), va_up R 19 g, J)) := by
    intro d
    induction d with
    | zero =>
      intro i hi g lx hg hg2
      refine aw_app ?_
      have eN : i = m := by omega
      subst eN
      have hC := hC.row (a := 19) g (by decide)
      refine aw_iload_n dX1_closeFitted_4 rfl rfl ?_
      refine aw_aload_n dX1_closeFitted_5 rfl rfl (by first | exact isR_ref _ | exact isR_rf _ | exact isR_null) ?_
      refine aw_get dX1_closeFitted_6 fl_X1_52 (sC_k16 hC) (sC_n16 hC) (congrArg Value.int hO) ?_
      refine aw_n_ge (tgt := 46) dX1_closeFitted_9 (by decide) rfl rfl (by omega) (by omega) (fun h => ?_) (fun h => ?_)
      · refine aw_aload_n dX1_closeFitted_46 rfl rfl (by first | exact isR_ref _ | exact isR_rf _ | exact isR_null) ?_
        refine aw_iload_n dX1_closeFitted_47 rfl rfl ?_
        refine aw_putI dX1_closeFitted_48 fl_X1_52 (Or.inl rfl) rfl (sC_k16 hC) (sC_n16 hC) ?_
        refine aw_vret dX1_closeFitted_51 rfl ?_
        exact ⟨rfl, g, hg, rfl⟩
      · exact absurd h (by omega)
    | succ d ih =>
      intro i hi g lx hg hg2
      refine aw_app ?_
      have hC0 := hC
      have hC := hC.row (a := 19) g (by decide)
      have hl := hV.2 i (by omega)
      have hl2 := hl.1.o
      have hv : va_up R 19 g 19 i = some (gz G + rc G R 19 i) := by rw [vz_up_same, hg2 i (Nat.le_refl _)]; exact hl.1.1
      have hcl := cnt_le (clP G kd I R J r) i
      have ef : cFt G kd I (va_up R 19 g) J r (rc G R 19 i) = cFt G kd I R J r (rc G R 19 i) := cFt_frame (vz_up_ne _ _ hr19) rfl rfl rfl
      refine aw_iload_n dX1_closeFitted_4 rfl rfl ?_
      refine aw_aload_n dX1_closeFitted_5 rfl rfl (by first | exact isR_ref _ | exact isR_rf _ | exact isR_null) ?_
      refine aw_get dX1_closeFitted_6 fl_X1_52 (sC_k16 hC) (sC_n16 hC) (congrArg Value.int hO) ?_
      refine aw_n_ge (tgt := 46) dX1_closeFitted_9 (by decide) rfl rfl (by omega) (by omega) (fun h => ?_) (fun h => ?_)
      · exact absurd h (by omega)
      · refine aw_aload_n dX1_closeFitted_12 rfl rfl (by first | exact isR_ref _ | exact isR_rf _ | exact isR_null) ?_
        refine aw_get dX1_closeFitted_13 fl_X1_26 (sC_k16 hC) (sC_n16 hC) (sC_r_16_open hC _ _) ?_
        refine aw_iload_n dX1_closeFitted_16 rfl rfl ?_
        refine aw_aaS dX1_closeFitted_17 (by decide) (sC_k19 hC) (sC_n19 hC) (ixm (by omega)) hv ?_
        refine aw_astore (lv' := [(0, _), (1, _), (2, _), (3, _), (4, _)]) dX1_closeFitted_18 (by decide) rfl ?_
        refine aw_aload_n dX1_closeFitted_20 rfl rfl (by first | exact isR_ref _ | exact isR_rf _ | exact isR_null) ?_
        refine aw_aload dX1_closeFitted_21 rfl (by first | exact isR_ref _ | exact isR_rf _ | exact isR_null) ?_
        refine aw_cVx (as := [_]) dX1_closeFitted_23 lk_X1_136 cm_X6_fits vi_X6_fits (by unfold RO; decide) rfl hr.1 hr.2 rfl rfl rfl (Nat.le_of_ble_eq_true rfl) (c_fits hr (hs.row hr19) hl2) ?_
        rw [ef]
        refine aw_b_ne (tgt := 40) dX1_closeFitted_26 (by decide) rfl (fun h3 => ?_) (fun h3 => ?_)
        · have e1 : clP G kd I R J r i = false := by unfold clP; rw [h3]; rfl
          have k := ih (i + 1) (by omega) g [] (fun k hk hq => by
            by_cases hki : k = i
            · rw [hki, e1] at hq; cases hq
            · exact hg k (by omega) hq) (fun k hk => hg2 k (by omega))
          rw [cnt_no e1] at k
          first | refine aw_iincN (c := 1) (lv' := [(0, _), (1, _), (2, _), (3, _), (4, _)]) dX1_closeFitted_40 rfl (by decide) rfl rfl ?_ | refine aw_iinc (v := 1) (lv' := [(0, _), (1, _), (2, _), (3, _), (4, _)]) dX1_closeFitted_40 rfl (by decide) (by decide) rfl ?_
          refine aw_goto (tgt := 4) dX1_closeFitted_43 (by decide) ?_
          exact aw_app (lv := [_, _, _, _]) (ex := [_]) k
        · have e1 : clP G kd I R J r i = true := by unfold clP; rw [h3]; rfl
          have k := ih (i + 1) (by omega) (va_up g (cnt (clP G kd I R J r) i) (R 19 i)) [] (fun k hk hq => by
            by_cases hki : k = i
            · rw [hki, vz_up_same]
            · have hm := cnt_mono (clP G kd I R J r) (k + 1) (i - (k + 1))
              rw [show k + 1 + (i - (k + 1)) = i by omega, cnt_yes hq] at hm
              rw [vz_up_ne _ _ (by omega)]
              exact hg k (by omega) hq) (fun k hk => by rw [vz_up_ne _ _ (by omega)]; exact hg2 k (by omega))
          rw [cnt_yes e1, hl.1.1] at k
          refine aw_aload_n dX1_closeFitted_29 rfl rfl (by first | exact isR_ref _ | exact isR_rf _ | exact isR_null) ?_
          refine aw_get dX1_closeFitted_30 fl_X1_26 (sC_k16 hC) (sC_n16 hC) (sC_r_16_open hC _ _) ?_
          refine aw_iload_n dX1_closeFitted_33 rfl rfl ?_
          refine aw_aload dX1_closeFitted_34 rfl (by first | exact isR_ref _ | exact isR_rf _ | exact isR_null) ?_
          refine aw_aast dX1_closeFitted_36 (by decide) rfl (sC_k19 hC) (sC_n19 hC) (ixm (by omega)) hl2.1 hl2.2 rfl (Or.inl rfl) ?_
          rw [u2_up]
          first | refine aw_iincN (c := 1) (lv' := [(0, _), (1, _), (2, _), (3, _), (4, _)]) dX1_closeFitted_37 rfl (by decide) rfl rfl ?_ | refine aw_iinc (v := 1) (lv' := [(0, _), (1, _), (2, _), (3, _), (4, _)]) dX1_closeFitted_37 rfl (by decide) (by decide) rfl ?_
          first | refine aw_iincN (c := 1) (lv' := [(0, _), (1, _), (2, _), (3, _), (4, _)]) dX1_closeFitted_40 rfl (by decide) rfl rfl ?_ | refine aw_iinc (v := 1) (lv' := [(0, _), (1, _), (2, _), (3, _), (4, _)]) dX1_closeFitted_40 rfl (by decide) (by decide) rfl ?_
          refine aw_goto (tgt := 4) dX1_closeFitted_43 (by decide) ?_
          exact aw_app (lv := [_, _, _, _]) (ex := [_]) k
  refine aw_iconst (v := nI 0) dX1_closeFitted_0 (by decide) ?_
  refine aw_istore_n (lv' := [(0, _), (1, _), (2, _)]) dX1_closeFitted_1 rfl (by decide) rfl ?_
  refine aw_iconst (v := nI 0) dX1_closeFitted_2 (by decide) ?_
  refine aw_istore_n (lv' := [(0, _), (1, _), (2, _), (3, _)]) dX1_closeFitted_3 rfl (by decide) rfl ?_
  have l0 := loop m 0 (Nat.zero_add _) (R 19) [] (fun k hk => absurd hk (Nat.not_lt_zero k)) (fun k _ => rfl)
  rw [up_own] at l0
  exact l0
def orT (q : Nat → Bool) : Nat → Bool
  | 0 => false
  | j + 1 => orT q j || q j
theorem bi_or (a b : Bool) : bi a ||| bi b = bi (a || b) := by cases a <;> cases b <;> decide
def msP (R : Nat → Nat → Option Nat) (A B s2 i : Nat) : Bool := !orT (fun j => decide (R A i = R B j)) s2
theorem l_missing {A B s1 s2 : Nat} (hA : kd A = .inr (3, 6)) (hAn : A < n) (hB : kd B = .inr (3, 6)) (hBn : B < n) (h1 : s1 ≤ 6) (h2 : s2 ≤ 6) : EX G mX1_missing [.ref (gz G + A), .int (nI s1), .ref (gz G + B), .int (nI s2)] (n, sz, kd, I, R, J) (some (.int (nI (cnt (msP R A B s2) s1)))) (n, sz, kd, I, R, J) := by
  refine mm_of rfl [(0, .ref (gz G + A)), (1, .int (nI s1)), (2, .ref (gz G + B)), (3, .int (nI s2))] rfl (Nat.le_of_ble_eq_true rfl) ?_
  have loop : ∀ d i, i + d = s1 → ∀ lx, AW G mX1_missing 6 ([(0, .ref (gz G + A)), (1, .int (nI s1)), (2, .ref (gz G + B)), (3, .int (nI s2)), (4, .int (nI (cnt (msP R A B s2) i))), (5, .int (nI i))] ++ lx) [] (n, sz, kd, I, R, J) (fun v' M' => v' = some (.int (nI (cnt (msP R A B s2) s1))) ∧ M' = (n, sz, kd, I, R, J)) := by
    intro d
    induction d with
    | zero =>
      intro i hi lx
      refine aw_app ?_
      have eN : i = s1 := by omega
      subst eN
      refine aw_iload dX1_missing_6 rfl ?_
      refine aw_iload_n dX1_missing_8 rfl rfl ?_
      refine aw_n_ge (tgt := 65) dX1_missing_9 (by decide) rfl rfl (by omega) (by omega) (fun h => ?_) (fun h => ?_)
      · refine aw_iload dX1_missing_65 rfl ?_
        refine aw_iret dX1_missing_67 rfl rfl ?_
        exact ⟨rfl, rfl⟩
      · exact absurd h (by omega)
    | succ d ih =>
      intro i hi lx
      refine aw_app ?_
      have hcl := cnt_le (msP R A B s2) i
      refine aw_iload dX1_missing_6 rfl ?_
      refine aw_iload_n dX1_missing_8 rfl rfl ?_
      refine aw_n_ge (tgt := 65) dX1_missing_9 (by decide) rfl rfl (by omega) (by omega) (fun h => ?_) (fun h => ?_)
      · exact absurd h (by omega)
      · refine aw_iconst (v := nI 0) dX1_missing_12 (by decide) ?_
        refine aw_istore (lv' := [(0, _), (1, _), (2, _), (3, _), (4, _), (5, _), (6, _)]) dX1_missing_13 (by decide) rfl ?_
        refine aw_iconst (v := nI 0) dX1_missing_15 (by decide) ?_
        refine aw_istore (lv' := [(0, _), (1, _), (2, _), (3, _), (4, _), (5, _), (6, _), (7, _)]) dX1_missing_16 (by decide) rfl ?_
        have inner : ∀ e j, j + e = s2 → AW G mX1_missing 18 [(0, .ref (gz G + A)), (1, .int (nI s1)), (2, .ref (gz G + B)), (3, .int (nI s2)), (4, .int (nI (cnt (msP R A B s2) i))), (5, .int (nI i)), (6, .int (bi (orT (fun j => decide (R A i = R B j)) j))), (7, .int (nI j))] [] (n, sz, kd, I, R, J) (fun v' M' => v' = some (.int (nI (cnt (msP R A B s2) s1))) ∧ M' = (n, sz, kd, I, R, J)) := by
          intro e
          induction e with
          | zero =>
            intro j hj
            have ej : j = s2 := by omega
            subst ej
            refine aw_iload dX1_missing_18 rfl ?_
            refine aw_iload_n dX1_missing_20 rfl rfl ?_
            refine aw_n_ge (tgt := 51) dX1_missing_21 (by decide) rfl rfl (by omega) (by omega) (fun h3 => ?_) (fun h3 => ?_)
            · refine aw_iload dX1_missing_51 rfl ?_
              refine aw_b_ne (tgt := 59) dX1_missing_53 (by decide) rfl (fun h4 => ?_) (fun h4 => ?_)
              · have e1 : msP R A B j i = false := by unfold msP; rw [h4]; rfl
                have k := ih (i + 1) (by omega) []
                rw [cnt_no e1] at k
                first | refine aw_iincN (c := 1) (lv' := [(0, _), (1, _), (2, _), (3, _), (4, _), (5, _), (6, _), (7, _)]) dX1_missing_59 rfl (by decide) rfl rfl ?_ | refine aw_iinc (v := 1) (lv' := [(0, _), (1, _), (2, _), (3, _), (4, _), (5, _), (6, _), (7, _)]) dX1_missing_59 rfl (by decide) (by decide) rfl ?_
                refine aw_goto (tgt := 6) dX1_missing_62 (by decide) ?_
                exact aw_app (lv := [_, _, _, _, _, _]) (ex := [_, _]) k
              · have e1 : msP R A B j i = true := by unfold msP; rw [h4]; rfl
                have k := ih (i + 1) (by omega) []
                rw [cnt_yes e1] at k
                first | refine aw_iincN (c := 1) (lv' := [(0, _), (1, _), (2, _), (3, _), (4, _), (5, _), (6, _), (7, _)]) dX1_missing_56 rfl (by decide) rfl rfl ?_ | refine aw_iinc (v := 1) (lv' := [(0, _), (1, _), (2, _), (3, _), (4, _), (5, _), (6, _), (7, _)]) dX1_missing_56 rfl (by decide) (by decide) rfl ?_
                first | refine aw_iincN (c := 1) (lv' := [(0, _), (1, _), (2, _), (3, _), (4, _), (5, _), (6, _), (7, _)]) dX1_missing_59 rfl (by decide) rfl rfl ?_ | refine aw_iinc (v := 1) (lv' := [(0, _), (1, _), (2, _), (3, _), (4, _), (5, _), (6, _), (7, _)]) dX1_missing_59 rfl (by decide) (by decide) rfl ?_
                refine aw_goto (tgt := 6) dX1_missing_62 (by decide) ?_
                exact aw_app (lv := [_, _, _, _, _, _]) (ex := [_, _]) k
            · exact absurd h3 (by omega)
          | succ e ihe =>
            intro j hj
            refine aw_iload dX1_missing_18 rfl ?_
            refine aw_iload_n dX1_missing_20 rfl rfl ?_
            refine aw_n_ge (tgt := 51) dX1_missing_21 (by decide) rfl rfl (by omega) (by omega) (fun h3 => ?_) (fun h3 => ?_)
            · exact absurd h3 (by omega)
            · refine aw_iload dX1_missing_24 rfl ?_
              refine aw_aload_n dX1_missing_26 rfl rfl (by first | exact isR_ref _ | exact isR_rf _ | exact isR_null) ?_
              refine aw_iload dX1_missing_27 rfl ?_
              refine aw_aald dX1_missing_29 (by decide) hA hAn (ixm (by omega)) ?_
              refine aw_aload_n dX1_missing_30 rfl rfl (by first | exact isR_ref _ | exact isR_rf _ | exact isR_null) ?_
              refine aw_iload dX1_missing_31 rfl ?_
              refine aw_aald dX1_missing_33 (by decide) hB hBn (ixm (by omega)) ?_
              have k := ihe (j + 1) (by omega)
              rw [orT] at k
              refine aw_acmp_ne (tgt := 41) dX1_missing_34 (by decide) (fun h4 => ?_) (fun h4 => ?_)
              · rw [decide_eq_false h4, ← bi_or] at k
                refine aw_iconst (v := nI 0) dX1_missing_41 (by decide) ?_
                refine aw_ior dX1_missing_42 ?_
                refine aw_istore (lv' := [(0, _), (1, _), (2, _), (3, _), (4, _), (5, _), (6, _), (7, _)]) dX1_missing_43 (by decide) rfl ?_
                first | refine aw_iincN (c := 1) (lv' := [(0, _), (1, _), (2, _), (3, _), (4, _), (5, _), (6, _), (7, _)]) dX1_missing_45 rfl (by decide) rfl rfl ?_ | refine aw_iinc (v := 1) (lv' := [(0, _), (1, _), (2, _), (3, _), (4, _), (5, _), (6, _), (7, _)]) dX1_missing_45 rfl (by decide) (by decide) rfl ?_
                refine aw_goto (tgt := 18) dX1_missing_48 (by decide) ?_
                exact k
              · rw [decide_eq_true h4, ← bi_or] at k
                refine aw_iconst (v := nI 1) dX1_missing_37 (by decide) ?_
                refine aw_goto (tgt := 42) dX1_missing_38 (by decide) ?_
                refine aw_ior dX1_missing_42 ?_
                refine aw_istore (lv' := [(0, _), (1, _), (2, _), (3, _), (4, _), (5, _), (6, _), (7, _)]) dX1_missing_43 (by decide) rfl ?_
                first | refine aw_iincN (c := 1) (lv' := [(0, _), (1, _), (2, _), (3, _), (4, _), (5, _), (6, _), (7, _)]) dX1_missing_45 rfl (by decide) rfl rfl ?_ | refine aw_iinc (v := 1) (lv' := [(0, _), (1, _), (2, _), (3, _), (4, _), (5, _), (6, _), (7, _)]) dX1_missing_45 rfl (by decide) (by decide) rfl ?_
                refine aw_goto (tgt := 18) dX1_missing_48 (by decide) ?_
                exact k
        exact inner s2 0 (Nat.zero_add _)
  refine aw_iconst (v := nI 0) dX1_missing_0 (by decide) ?_
  refine aw_istore (lv' := [(0, _), (1, _), (2, _), (3, _), (4, _)]) dX1_missing_1 (by decide) rfl ?_
  refine aw_iconst (v := nI 0) dX1_missing_3 (by decide) ?_
  refine aw_istore (lv' := [(0, _), (1, _), (2, _), (3, _), (4, _), (5, _)]) dX1_missing_4 (by decide) rfl ?_
  exact loop s1 0 (Nat.zero_add _) []
end LRN3
