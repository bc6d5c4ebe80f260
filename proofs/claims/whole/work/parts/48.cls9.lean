section CLS9
variable {G : GG} {n sz : Nat} {kd : Nat → AKd} {I : Nat → Nat → Int32} {R : Nat → Nat → Option Nat} {J : Nat → Nat → Int64}
theorem lstF_cong {p q : Nat → Bool} : ∀ {n : Nat}, (∀ k, k < n → p k = q k) → lstF p n = lstF q n
  | 0, _ => rfl
  | n + 1, h => by rw [lstF, lstF, h n (by omega), lstF_cong (fun k hk => h k (by omega))]
theorem cFad_row {N m r : Nat} {g : Nat → Option Nat} (h52 : ∀ i, i < N → 52 ≤ rc G R 9 i) : cFad G I (va_up R 7 g) N m r = cFad G I R N m r := by
  have e : ∀ i, i < N → va_up R 7 g (rc G (va_up R 7 g) 9 i) 2 = R (rc G R 9 i) 2 := fun i hi => by
    rw [show rc G (va_up R 7 g) 9 i = rc G R 9 i from rfl, vz_up_ne _ _ (by have := h52 i hi; omega)]
  unfold cFad
  rw [lstF_cong (p := cSo G (va_up R 7 g) (some (gz G + r))) (q := cSo G R (some (gz G + r))) (fun i hi => by unfold cSo; rw [e i hi]), cnt_cong (p := cRi G I (va_up R 7 g) r) (q := cRi G I R r) (fun i hi => by unfold cRi; rw [e i hi]; rfl), cnt_cong (p := cWr G I (va_up R 7 g) r) (q := cWr G I R r) (fun i hi => by unfold cWr; rw [e i hi]; rfl)]
def cFS (q : Nat → Bool) (f : Nat → Option Nat) : Nat → (Nat → Option Nat) × Nat
  | 0 => (f, 0)
  | i + 1 => if q i then cFS q f i else (va_up (cFS q f i).1 (cFS q f i).2 ((cFS q f i).1 i), (cFS q f i).2 + 1)
theorem cFS_le (q : Nat → Bool) (f : Nat → Option Nat) : ∀ i, (cFS q f i).2 ≤ i
  | 0 => Nat.le_refl _
  | i + 1 => by
    have := cFS_le q f i
    rw [cFS]
    split
    · omega
    · show (cFS q f i).2 + 1 ≤ i + 1; omega
theorem cFS_ge (q : Nat → Bool) (f : Nat → Option Nat) : ∀ i j, i ≤ j → (cFS q f i).1 j = f j
  | 0, j, _ => rfl
  | i + 1, j, h => by
    have h1 := cFS_le q f i
    rw [cFS]
    split
    · exact cFS_ge q f i j (by omega)
    · show va_up _ _ _ j = _
      rw [vz_up_ne _ _ (by omega)]
      exact cFS_ge q f i j (by omega)
theorem u2_up (a k : Nat) (g : Nat → Option Nat) (x : Option Nat) : u2 (va_up R a g) a k x = va_up R a (va_up g k x) := by
  funext c d
  unfold u2 va_up
  by_cases h : c = a
  · subst h
    by_cases h2 : d = k
    · simp [h2]
    · simp [h2]
  · simp [h]
theorem up_own (a : Nat) : va_up R a (R a) = R := by
  funext c
  unfold va_up
  by_cases h : c = a
  · subst h; simp
  · simp [h]
theorem c_fade0 (hC : ShC G n kd R) (x : Int32) (hx : rgl x 1 101 = none) : EX G mX9_fade [.ref (gz G + 0), .int x] (n, sz, kd, I, R, J) (some (.int (-1))) (n, sz, kd, I, R, J) := by
  refine mm_of rfl [(0, .ref (gz G + 0)), (1, .int x)] rfl (Nat.le_of_ble_eq_true rfl) ?_
  refine aw_iload_n dX9_fade_0 rfl rfl ?_
  refine aw_iconst (v := nI 1) dX9_fade_1 (by decide) ?_
  refine aw_icmp_lt (tgt := 11) dX9_fade_2 (by decide) (fun h => ?_) (fun h => ?_)
  · refine aw_iconst (v := (-1)) dX9_fade_11 (by decide) ?_
    refine aw_iret dX9_fade_12 rfl rfl ?_
    exact ⟨rfl, rfl⟩
  · refine aw_iload_n dX9_fade_5 rfl rfl ?_
    refine aw_bipush (v := nI 100) dX9_fade_6 (by decide) ?_
    refine aw_icmp_le (tgt := 13) dX9_fade_8 (by decide) (fun h2 => ?_) (fun h2 => ?_)
    · exfalso
      have h3 := (rgl_iff (x := x) (a := 1) (b := 100) (by decide) (by decide)).mp ⟨Int32.not_lt.mp h, h2⟩
      rw [hx] at h3
      cases h3
    · refine aw_iconst (v := (-1)) dX9_fade_11 (by decide) ?_
      refine aw_iret dX9_fade_12 rfl rfl ?_
      exact ⟨rfl, rfl⟩
def cFq (G : GG) (I : Nat → Nat → Int32) (R : Nat → Nat → Option Nat) (N m i : Nat) : Bool := cFad G I R N m (rc G R 7 i)
theorem c_fade (hC : ShC G n kd R) {L : Nat} (hL : I 5 2 = nI L) (hK : KV G n kd R L) {N : Nat} (hN : I 8 1 = nI N) (hW : LV G n kd R N) (h52 : ∀ i, i < N → 52 ≤ rc G R 9 i) {m : Nat} (hm1 : 1 ≤ m) (hm2 : m ≤ 100) : EX G mX9_fade [.ref (gz G + 0), .int (nI m)] (n, sz, kd, I, R, J) (some (.int (nI (L - (cFS (cFq G I R N m) (R 7) L).2)))) (n, sz, kd, u2 I 5 2 (nI (cFS (cFq G I R N m) (R 7) L).2), va_up R 7 (cFS (cFq G I R N m) (R 7) L).1, J) := by
  refine mm_of rfl [(0, .ref (gz G + 0)), (1, .int (nI m))] rfl (Nat.le_of_ble_eq_true rfl) ?_
  have hL6 := hK.1
  refine aw_iload_n dX9_fade_0 rfl rfl ?_
  refine aw_iconst (v := nI 1) dX9_fade_1 (by decide) ?_
  refine aw_n_lt (tgt := 11) dX9_fade_2 (by decide) rfl rfl (by omega) (by omega) (fun h => ?_) (fun h => ?_)
  · exact absurd h (by omega)
  · refine aw_iload_n dX9_fade_5 rfl rfl ?_
    refine aw_bipush (v := nI 100) dX9_fade_6 (by decide) ?_
    refine aw_n_le (tgt := 13) dX9_fade_8 (by decide) rfl rfl (by omega) (by omega) (fun h2 => ?_) (fun h2 => ?_)
    · refine aw_iconst (v := nI 0) dX9_fade_13 (by decide) ?_
      refine aw_istore_n (lv' := [(0, _), (1, _), (2, _)]) dX9_fade_14 rfl (by decide) rfl ?_
      refine aw_iconst (v := nI 0) dX9_fade_15 (by decide) ?_
      refine aw_istore_n (lv' := [(0, _), (1, _), (2, _), (3, _)]) dX9_fade_16 rfl (by decide) rfl ?_
      have loop : ∀ d i, i + d = L → ∀ lx, AW G mX9_fade 17 ([(0, .ref (gz G + 0)), (1, .int (nI m)), (2, .int (nI (cFS (cFq G I R N m) (R 7) i).2)), (3, .int (nI i))] ++ lx) [] (n, sz, kd, I, va_up R 7 (cFS (cFq G I R N m) (R 7) i).1, J) (fun v' M' => v' = some (.int (nI (L - (cFS (cFq G I R N m) (R 7) L).2))) ∧ M' = (n, sz, kd, u2 I 5 2 (nI (cFS (cFq G I R N m) (R 7) L).2), va_up R 7 (cFS (cFq G I R N m) (R 7) L).1, J)) := by
        intro d
        induction d with
        | zero =>
          intro i hi lx
          refine aw_app ?_
          have eL : i = L := by omega
          subst eL
          have hle := cFS_le (cFq G I R N m) (R 7) i
          have hC := hC.row (a := 7) (cFS (cFq G I R N m) (R 7) i).1 (by decide)
          refine aw_iload_n dX9_fade_17 rfl rfl ?_
          refine aw_aload_n dX9_fade_18 rfl rfl (by first | exact isR_ref _ | exact isR_rf _ | exact isR_null) ?_
          refine aw_get dX9_fade_19 fl_X9_28 (sC_k0 hC) (sC_n0 hC) (sC_r_0_row hC _ _) ?_
          refine aw_get dX9_fade_22 fl_X9_137 (sC_k5 hC) (sC_n5 hC) (congrArg Value.int hL) ?_
          refine aw_n_ge (tgt := 69) dX9_fade_25 (by decide) rfl rfl (by omega) (by omega) (fun h3 => ?_) (fun h3 => ?_)
          · refine aw_aload_n dX9_fade_69 rfl rfl (by first | exact isR_ref _ | exact isR_rf _ | exact isR_null) ?_
            refine aw_get dX9_fade_70 fl_X9_28 (sC_k0 hC) (sC_n0 hC) (sC_r_0_row hC _ _) ?_
            refine aw_get dX9_fade_73 fl_X9_137 (sC_k5 hC) (sC_n5 hC) (congrArg Value.int hL) ?_
            refine aw_iload_n dX9_fade_76 rfl rfl ?_
            refine aw_isubN (by omega) dX9_fade_77 ?_
            refine aw_istore_n (lv' := [(0, _), (1, _), (2, _), (3, _)]) dX9_fade_78 rfl (by decide) rfl ?_
            refine aw_aload_n dX9_fade_79 rfl rfl (by first | exact isR_ref _ | exact isR_rf _ | exact isR_null) ?_
            refine aw_get dX9_fade_80 fl_X9_28 (sC_k0 hC) (sC_n0 hC) (sC_r_0_row hC _ _) ?_
            refine aw_iload_n dX9_fade_83 rfl rfl ?_
            refine aw_putI dX9_fade_84 fl_X9_137 (Or.inl rfl) rfl (sC_k5 hC) (sC_n5 hC) ?_
            refine aw_iload_n dX9_fade_87 rfl rfl ?_
            refine aw_iret dX9_fade_88 rfl rfl ?_
            exact ⟨rfl, rfl⟩
          · exact absurd h3 (by omega)
        | succ d ih =>
          intro i hi lx
          refine aw_app ?_
          have hle := cFS_le (cFq G I R N m) (R 7) i
          have hge := cFS_ge (cFq G I R N m) (R 7) i i (Nat.le_refl _)
          have hrc := hK.2 i (by omega)
          generalize hgg : (cFS (cFq G I R N m) (R 7) i).1 = g at hge ⊢
          have hC := hC.row (a := 7) g (by decide)
          have hW' : LV G n kd (va_up R 7 g) N := hW
          have hr := hrc.1.o
          have hv : va_up R 7 g 7 i = some (gz G + rc G R 7 i) := by rw [vz_up_same, hge]; exact hrc.1.1
          have hf := cFad_row (G := G) (I := I) (R := R) (N := N) (m := m) (r := rc G R 7 i) (g := g) h52
          refine aw_iload_n dX9_fade_17 rfl rfl ?_
          refine aw_aload_n dX9_fade_18 rfl rfl (by first | exact isR_ref _ | exact isR_rf _ | exact isR_null) ?_
          refine aw_get dX9_fade_19 fl_X9_28 (sC_k0 hC) (sC_n0 hC) (sC_r_0_row hC _ _) ?_
          refine aw_get dX9_fade_22 fl_X9_137 (sC_k5 hC) (sC_n5 hC) (congrArg Value.int hL) ?_
          refine aw_n_ge (tgt := 69) dX9_fade_25 (by decide) rfl rfl (by omega) (by omega) (fun h3 => ?_) (fun h3 => ?_)
          · exact absurd h3 (by omega)
          · refine aw_aload_n dX9_fade_28 rfl rfl (by first | exact isR_ref _ | exact isR_rf _ | exact isR_null) ?_
            refine aw_get dX9_fade_29 fl_X9_28 (sC_k0 hC) (sC_n0 hC) (sC_r_0_row hC _ _) ?_
            refine aw_get dX9_fade_32 fl_X9_159 (sC_k5 hC) (sC_n5 hC) (sC_r_5_learnt hC _ _) ?_
            refine aw_iload_n dX9_fade_35 rfl rfl ?_
            refine aw_aaS dX9_fade_36 (by decide) (sC_k7 hC) (sC_n7 hC) (ixm (by omega)) hv ?_
            refine aw_astore (lv' := [(0, _), (1, _), (2, _), (3, _), (4, _)]) dX9_fade_37 (by decide) rfl ?_
            refine aw_aload_n dX9_fade_39 rfl rfl (by first | exact isR_ref _ | exact isR_rf _ | exact isR_null) ?_
            refine aw_aload dX9_fade_40 rfl (by first | exact isR_ref _ | exact isR_rf _ | exact isR_null) ?_
            refine aw_iload_n dX9_fade_42 rfl rfl ?_
            refine aw_cVx (as := [_, _]) dX9_fade_43 lk_X9_162 cm_X9_isFading vi_X9_isFading (by unfold RO; decide) rfl (sC_k0 hC) (sC_n0 hC) rfl rfl rfl (Nat.le_of_ble_eq_true rfl) (c_isFading hC hN hW' hr hm2) ?_
            rw [hf]
            refine aw_b_ne (tgt := 63) dX9_fade_46 (by decide) rfl (fun h4 => ?_) (fun h4 => ?_)
            · have h4 : cFq G I R N m i = true := h4
              first | refine aw_iincN (c := 1) (lv' := [(0, _), (1, _), (2, _), (3, _), (4, _)]) dX9_fade_63 rfl (by decide) rfl rfl ?_ | refine aw_iinc (v := 1) (lv' := [(0, _), (1, _), (2, _), (3, _), (4, _)]) dX9_fade_63 rfl (by decide) (by decide) rfl ?_
              refine aw_goto (tgt := 17) dX9_fade_66 (by decide) ?_
              have k := ih (i + 1) (by omega) []
              rw [show cFS (cFq G I R N m) (R 7) (i + 1) = cFS (cFq G I R N m) (R 7) i by rw [cFS, if_pos h4], hgg] at k
              exact aw_app (lv := [_, _, _, _]) (ex := [_]) k
            · have h4 : ¬ cFq G I R N m i = true := by rw [show cFq G I R N m i = false from h4]; exact Bool.false_ne_true
              refine aw_aload_n dX9_fade_49 rfl rfl (by first | exact isR_ref _ | exact isR_rf _ | exact isR_null) ?_
              refine aw_get dX9_fade_50 fl_X9_28 (sC_k0 hC) (sC_n0 hC) (sC_r_0_row hC _ _) ?_
              refine aw_get dX9_fade_53 fl_X9_159 (sC_k5 hC) (sC_n5 hC) (sC_r_5_learnt hC _ _) ?_
              refine aw_iload_n dX9_fade_56 rfl rfl ?_
              refine aw_aload dX9_fade_57 rfl (by first | exact isR_ref _ | exact isR_rf _ | exact isR_null) ?_
              refine aw_aast dX9_fade_59 (by decide) rfl (sC_k7 hC) (sC_n7 hC) (ixm (by omega)) hr.1 hr.2 rfl (Or.inl rfl) ?_
              first | refine aw_iincN (c := 1) (lv' := [(0, _), (1, _), (2, _), (3, _), (4, _)]) dX9_fade_60 rfl (by decide) rfl rfl ?_ | refine aw_iinc (v := 1) (lv' := [(0, _), (1, _), (2, _), (3, _), (4, _)]) dX9_fade_60 rfl (by decide) (by decide) rfl ?_
              first | refine aw_iincN (c := 1) (lv' := [(0, _), (1, _), (2, _), (3, _), (4, _)]) dX9_fade_63 rfl (by decide) rfl rfl ?_ | refine aw_iinc (v := 1) (lv' := [(0, _), (1, _), (2, _), (3, _), (4, _)]) dX9_fade_63 rfl (by decide) (by decide) rfl ?_
              refine aw_goto (tgt := 17) dX9_fade_66 (by decide) ?_
              have k := ih (i + 1) (by omega) []
              rw [show cFS (cFq G I R N m) (R 7) (i + 1) = (va_up (cFS (cFq G I R N m) (R 7) i).1 (cFS (cFq G I R N m) (R 7) i).2 ((cFS (cFq G I R N m) (R 7) i).1 i), (cFS (cFq G I R N m) (R 7) i).2 + 1) by rw [cFS, if_neg h4], hgg, hge, hrc.1.1] at k
              rw [u2_up]
              exact aw_app (lv := [_, _, _, _]) (ex := [_]) k
      have l0 := loop L 0 (Nat.zero_add _) []
      rw [show (cFS (cFq G I R N m) (R 7) 0).1 = R 7 from rfl, up_own] at l0
      exact l0
    · exact absurd h2 (by omega)
end CLS9
