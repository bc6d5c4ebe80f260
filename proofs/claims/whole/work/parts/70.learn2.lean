section LEARN2
variable {G : GG} {n sz : Nat} {kd : KD} {I Z0 : II} {R : RR} {J : JJ} {em mi K cap hm : Nat} {u : Nat → Int32} {kn : Nat → Nat} {key : Nat → Key}
theorem qS_u (I : II) (T x : Int32) (bel stk : Nat → Int32) (t : Bst) {c : Nat} (hc : c < 12) : u2 (qS I T bel stk t) 16 c x = qS (u2 I 16 c x) T bel stk t := by
  funext a b
  unfold u2 qS
  by_cases h : a = 16
  · subst h
    by_cases h2 : b = c
    · subst h2
      simp [show b ≠ 12 by omega, show b ≠ 15 by omega, show b ≠ 16 by omega, show b ≠ 17 by omega, show b ≠ 18 by omega]
    · simp [h2]
  · simp [h]
def aI (I : II) (L : Nat) : II := u2 (u2 I 16 9 (nI L)) 5 2 (nI 0)
def aR (R : RR) (L : Nat) : RR := va_up R 18 (va_cpy (R 7) (R 18) 0 0 L)
def sZ (Z : II) : II := u2 (mI3 Z (mN Z)) 22 41 (pcs Z (mN Z))
theorem core_aside (h : Core G em n kd I R J Z0 u K cap hm kn key) : Core G em n kd (aI I (mL Z0)) (aR R (mL Z0)) J (mI2 Z0) u K cap hm kn key := by
  refine (core_zero h).scr (fun q _ _ h3 _ _ => ?_) (fun q h1 _ => vz_up_ne _ _ h1) (fun q h1 h2 h3 => ?_) (fun c hc => ?_)
  · by_cases h5 : q = 5
    · subst h5; rfl
    · rw [aI, u2_row _ _ _ h5, u2_row _ _ _ h3, u2_row _ _ _ h5]
  · rw [mI2, u2_row _ _ _ (by omega), u2_row _ _ _ (by omega), u2_row _ _ _ (by omega), u2_row _ _ _ (by omega)]
    funext c
    unfold wr
    rw [if_neg (by omega)]
  · unfold okCol at hc
    rw [mI2, u2_col _ _ _ (by omega), u2_col _ _ _ (by omega)]
    by_cases h16 : c = 16
    · subst h16; rfl
    · rw [u2_col _ _ _ h16, u2_col _ _ _ h16]; rfl
theorem fO_r {I : II} {h : Nat → Bool} {m q : Nat} (hq : q ≠ 49) : fO I h m q = I q := fO_row hq
theorem sZ_row {q : Nat} (h1 : 23 ≤ q) (h2 : q ≠ 49) : sZ Z0 q = mI2 Z0 q := by rw [sZ, u2_row _ _ _ (by omega), mI3, u2_row _ _ _ (by omega), u2_row _ _ _ (by omega), fO_row h2]
theorem sZ_col {c : Nat} (h1 : c ≠ 41) (h2 : c ≠ 43) (h3 : c ≠ 42) : sZ Z0 22 c = mI2 Z0 22 c := by rw [sZ, u2_col _ _ _ h1, mI3, u2_col _ _ _ h3, u2_col _ _ _ h2, fO_row (by decide)]
theorem sZ_open {k : Nat} (hk : k < mN Z0) : mOpen (sZ Z0) k = opn Z0 k := by
  have e : mOpen (sZ Z0) k = mOpen (fO (mI2 Z0) (opn Z0) (mN Z0)) k := rfl
  rw [e, bi_mOpen _ _ _ hk]
theorem sZ_N : mN (sZ Z0) = mN Z0 := rfl
theorem opC_eq (h : Core G em n kd I R J Z0 u K cap hm kn key) {k : Nat} (hk : k < mN Z0) : opC G kd (aI I (mL Z0)) (aR R (mL Z0)) J k = opn Z0 k := by
  have h1 := core_aside h
  have hl := (h1.le.2.1 k hk).2
  unfold opC opn
  rw [hand_eq h1.row hl.ps, hl.2.2.2.2.1]
  rfl
theorem l_learnAnew (hG : LsP G em mi) (h : Core G em n kd I R J Z0 u K cap hm kn key) (hn0 : n + 100 ≤ 600000) (hs0 : sz + 40000 ≤ 7302250) (hK0 : K ≤ 3100) (hhm : hm ≤ 4000) : MM G mX1_learnAnew [.ref (gz G + 16), .ref (gz G + 8), .ref (gz G + 5)] (n, sz, kd, I, R, J) (QLrn G em n sz I Z0 K cap hm) := by
  refine mm_of rfl [(0, .ref (gz G + 16)), (1, .ref (gz G + 8)), (2, .ref (gz G + 5))] rfl (Nat.le_of_ble_eq_true rfl) ?_
  have hC := h.shC
  have hn := hC.1
  have hN100 : mN Z0 ≤ 100 := h.mb.1.le
  have hL6 : mL Z0 ≤ 6 := h.mb.2.1.le
  refine aw_aload_n dX1_learnAnew_0 rfl rfl (by first | exact isR_ref _ | exact isR_rf _ | exact isR_null) ?_
  refine aw_aload_n dX1_learnAnew_1 rfl rfl (by first | exact isR_ref _ | exact isR_rf _ | exact isR_null) ?_
  refine aw_cVv (as := [_]) dX1_learnAnew_2 lk_X1_41 cm_X1_putAside vi_X1_putAside (by unfold RO; decide) rfl (sC_k16 hC) (sC_n16 hC) rfl rfl rfl (Nat.le_of_ble_eq_true rfl) (l_aside hC h.ln.1 h.kv) ?_
  have core1 := core_aside h
  refine aw_mem (M' := (n, sz, kd, aI I (mL Z0), aR R (mL Z0), J)) rfl ?_
  have hC := core1.shC
  refine aw_aload_n dX1_learnAnew_5 rfl rfl (by first | exact isR_ref _ | exact isR_rf _ | exact isR_null) ?_
  refine aw_aload_n dX1_learnAnew_6 rfl rfl (by first | exact isR_ref _ | exact isR_rf _ | exact isR_null) ?_
  refine aw_aload_n dX1_learnAnew_7 rfl rfl (by first | exact isR_ref _ | exact isR_rf _ | exact isR_null) ?_
  refine aw_callV (as := [_, _]) dX1_learnAnew_8 lk_X1_45 cm_X1_open vi_X1_open (by unfold RO; decide) rfl (sC_k16 hC) (sC_n16 hC) rfl rfl rfl (Nat.le_of_ble_eq_true rfl) (l_open hC core1.hv core1.le.1 core1.lv core1.l52) ?_
  intro v' M' hq
  obtain ⟨rfl, g, hg, rfl⟩ := hq
  rw [show mN (mI2 Z0) = mN Z0 from rfl] at hg
  rw [show mN (mI2 Z0) = mN Z0 from rfl]
  have hop : ∀ k, k ≤ mN Z0 → cnt (opC G kd (aI I (mL Z0)) (aR R (mL Z0)) J) k = cnt (mOpen (sZ Z0)) k := fun k hk => cnt_cong (fun q hq => by rw [opC_eq h (by omega), sZ_open (by omega)])
  have hopn : cnt (mOpen (sZ Z0)) (mN Z0) = cnt (opn Z0) (mN Z0) := cnt_cong (fun q hq => sZ_open hq)
  rw [hop _ (Nat.le_refl _)]
  generalize hme : cnt (mOpen (sZ Z0)) (mN Z0) = m at hopn ⊢
  have hC := hC.row (a := 19) g (by decide)
  have hI2 : u2 (aI I (mL Z0)) 16 11 (nI m) 16 11 = nI m := u2_same _ _ _ _
  have core3 : ∀ I', (∀ q, q ≠ 16 → q ≠ 20 → q ≠ 21 → I' q = aI I (mL Z0) q) → Core G em n kd I' (va_up (aR R (mL Z0)) 19 g) J (sZ Z0) u K cap hm kn key := fun I' hI' => core1.scr (fun q _ _ h3 h4 h5 => hI' q h3 h4 h5) (fun q h1 h2 => vz_up_ne _ _ h2) (fun q h1 h2 h3 => sZ_row h1 (by omega)) (fun c hc => by unfold okCol at hc; exact sZ_col (by omega) (by omega) (by omega))
  have h19 : ∀ k, k < mN Z0 → mOpen (sZ Z0) k = true → va_up (aR R (mL Z0)) 19 g 19 (cnt (mOpen (sZ Z0)) k) = va_up (aR R (mL Z0)) 19 g 9 k := fun k hk hq => by
    rw [vz_up_same, vz_up_ne _ _ (by decide), ← hop k (by omega)]
    exact hg k hk (by rw [opC_eq h hk, ← sZ_open hk]; exact hq)
  have hOp : okOpen (sZ Z0) := fun k hk hq => by
    have hk : k < mN Z0 := hk
    rw [sZ_open hk] at hq
    unfold opn at hq
    rw [Bool.and_eq_true, Bool.not_eq_true', decide_eq_false_iff_not] at hq
    rcases h.mb.2.2.2.2.2.2.2 k (by omega) with hb | hb
    · exact absurd hb hq.1
    · exact hb
  have hOR : ∀ I' : II, I' 16 11 = nI m → OpR I' (va_up (aR R (mL Z0)) 19 g) (sZ Z0) m := fun I' e => ⟨e, hme.symm, h19⟩
  have c2 := core3 (u2 (aI I (mL Z0)) 16 11 (nI m)) (fun q h1 _ _ => u2_row _ _ _ h1)
  have hV := OV_of c2 (hOR _ hI2) hOp
  refine aw_aload_n dX1_learnAnew_11 rfl rfl (by first | exact isR_ref _ | exact isR_rf _ | exact isR_null) ?_
  refine aw_lconst (v := 0) dX1_learnAnew_12 (by decide) ?_
  refine aw_I (qS_own (u2 (aI I (mL Z0)) 16 11 (nI m))).symm ?_
  refine aw_callV (as := [_]) dX1_learnAnew_13 lk_X1_48 cm_X1_tally vi_X1_tally (by unfold RO; decide) rfl (sC_k16 hC) (sC_n16 hC) rfl rfl rfl (Nat.le_of_ble_eq_true rfl) (l_tally hC hI2 hV 0 _ _ _ _) ?_
  intro v' M' hq
  obtain ⟨rfl, bel, hb, rfl⟩ := hq
  have eT : cnt (tlP G (va_up (aR R (mL Z0)) 19 g) J 0) m = m := by
    have : ∀ k, cnt (tlP G (va_up (aR R (mL Z0)) 19 g) J 0) k = k := fun k => by
      induction k with
      | zero => rfl
      | succ k ih => rw [cnt_yes (by unfold tlP; exact decide_eq_true Int64.and_zero), ih]
    exact this m
  rw [eT]
  generalize u2 (aI I (mL Z0)) 16 11 (nI m) 21 = stk
  generalize (u2 (aI I (mL Z0)) 16 11 (nI m) 16 15, u2 (aI I (mL Z0)) 16 11 (nI m) 16 16, u2 (aI I (mL Z0)) 16 11 (nI m) 16 17, u2 (aI I (mL Z0)) 16 11 (nI m) 16 18) = t
  have hos : qS (u2 (aI I (mL Z0)) 16 11 (nI m)) (nI m) bel stk t 16 11 = nI m := rfl
  refine aw_aload_n dX1_learnAnew_16 rfl rfl (by first | exact isR_ref _ | exact isR_rf _ | exact isR_null) ?_
  refine aw_aload_n dX1_learnAnew_17 rfl rfl (by first | exact isR_ref _ | exact isR_rf _ | exact isR_null) ?_
  refine aw_get dX1_learnAnew_18 fl_X1_52 (sC_k16 hC) (sC_n16 hC) (congrArg Value.int hos) ?_
  refine aw_putI dX1_learnAnew_21 fl_X1_56 (Or.inl rfl) rfl (sC_k16 hC) (sC_n16 hC) ?_
  rw [qS_u _ _ _ _ _ _ (by decide)]
  refine aw_aload_n dX1_learnAnew_24 rfl rfl (by first | exact isR_ref _ | exact isR_rf _ | exact isR_null) ?_
  refine aw_aload_n dX1_learnAnew_25 rfl rfl (by first | exact isR_ref _ | exact isR_rf _ | exact isR_null) ?_
  refine aw_iconst (v := nI 0) dX1_learnAnew_26 (by decide) ?_
  refine aw_cVx (as := [_]) dX1_learnAnew_27 lk_X1_59 cm_X1_talliedCost vi_X1_talliedCost (by unfold RO; decide) rfl (sC_k16 hC) (sC_n16 hC) rfl rfl rfl (Nat.le_of_ble_eq_true rfl) (l_tcost hC (f := 0) (by decide) _ bel stk t) ?_
  refine aw_putI dX1_learnAnew_30 fl_X1_63 (Or.inl rfl) rfl (sC_k16 hC) (sC_n16 hC) ?_
  rw [qS_u _ _ _ _ _ _ (by decide)]
  have ey : tcI (u2 (u2 (aI I (mL Z0)) 16 11 (nI m)) 16 5 (nI m)) (nI m) bel 0 = pcs Z0 (mN Z0) := by
    unfold tcI
    have e0 : u2 (u2 (aI I (mL Z0)) 16 11 (nI m)) 16 5 (nI m) 15 0 = I 15 0 := rfl
    have e1 : cnt (tlG G (u2 (aI I (mL Z0)) 16 11 (nI m)) (va_up (aR R (mL Z0)) 19 g) J 0 0) m = cnt (fun k => opn Z0 k && decide (Z0 31 k = nI 0)) (mN Z0) := by
      rw [← hme, cnt_sub (p := fun k => decide (Z0 31 k = nI 0)) (fun k hk hq => ?_)]
      · exact cnt_cong (fun k hk => by rw [sZ_open hk])
      · have er : rc G (va_up (aR R (mL Z0)) 19 g) 19 (cnt (mOpen (sZ Z0)) k) = rc G (va_up (aR R (mL Z0)) 19 g) 9 k := by unfold rc; rw [h19 k hk hq]
        have hbl := (c2.le.2.1 k hk).2.2.2.2.2.1
        unfold tlG tlP
        rw [hme] at *
        rw [er, decide_eq_true Int64.and_zero, Bool.true_and, hbl]
        rfl
    have e2 := cnt_split (opn Z0) (fun k => decide (Z0 31 k = nI 0)) (mN Z0)
    have hb0 : bel 0 = nI (cnt (tlG G (u2 (aI I (mL Z0)) 16 11 (nI m)) (va_up (aR R (mL Z0)) 19 g) J 0 0) m) := hb 0 (by decide)
    rw [e0, hb0, e1, pcs_eq h.mb _ hN100, h.co.2.2.1 0 (by decide), pk_sub (by omega), show m - cnt (fun k => opn Z0 k && decide (Z0 31 k = nI 0)) (mN Z0) = cnt (fun k => opn Z0 k && !decide (Z0 31 k = nI 0)) (mN Z0) by omega]
  rw [ey]
  refine aw_aload_n dX1_learnAnew_33 rfl rfl (by first | exact isR_ref _ | exact isR_rf _ | exact isR_null) ?_
  refine aw_aload_n dX1_learnAnew_34 rfl rfl (by first | exact isR_ref _ | exact isR_rf _ | exact isR_null) ?_
  refine aw_get dX1_learnAnew_35 fl_X1_63 (sC_k16 hC) (sC_n16 hC) (show _ = Value.int (pcs Z0 (mN Z0)) from rfl) ?_
  refine aw_putI dX1_learnAnew_38 fl_X1_66 (Or.inl rfl) rfl (sC_k16 hC) (sC_n16 hC) ?_
  rw [qS_u _ _ _ _ _ _ (by decide)]
  refine aw_iconst (v := nI 0) dX1_learnAnew_41 (by decide) ?_
  refine aw_istore_n (lv' := [(0, _), (1, _), (2, _), (3, _)]) dX1_learnAnew_42 rfl (by decide) rfl ?_
  refine l_loop hG hn0 hs0 hK0 hhm 6 0 rfl n sz kd _ _ J (sZ Z0) u K cap kn key m [] ⟨core3 _ (fun q h1 h2 h3 => ?_), ⟨rfl, hL6, fun j hj => ?_⟩, ⟨rfl, rfl, ?_⟩, fun q h1 h2 => ?_, by omega, by omega, by omega⟩ (hOR _ rfl) hOp rfl rfl
  · rw [qS_hi _ _ _ _ _ ⟨h2, h3, h1⟩, u2_row _ _ _ h1, u2_row _ _ _ h1, u2_row _ _ _ h1, u2_row _ _ _ h1]
  · obtain ⟨b1, b2, b3⟩ := h.ln.2 j hj
    have e18 : va_up (aR R (mL Z0)) 19 g 18 j = R 7 j := by
      rw [vz_up_ne _ _ (by decide), aR, vz_up_same, pk_cpy_in (Nat.zero_le _) (by omega), Nat.zero_add, Nat.sub_zero]
    have er : rc G (va_up (aR R (mL Z0)) 19 g) 18 j = rc G R 7 j := by unfold rc; rw [e18]
    have ew : sZ Z0 51 j = Z0 37 j := (if_pos hj : (if j < mL Z0 then Z0 37 j else Z0 51 j) = _)
    rw [er, ew]
    exact ⟨⟨by rw [er, e18]; exact b1.1, by rw [er]; exact b1.2.1, by rw [er]; exact b1.2.2⟩, b3⟩
  · show nI m = nI (cnt (opn Z0) (mN Z0))
    rw [hopn]
  · rw [qS_hi _ _ _ _ _ (by omega), u2_row _ _ _ (by omega), u2_row _ _ _ (by omega), u2_row _ _ _ (by omega), u2_row _ _ _ (by omega), aI, u2_row _ _ _ (by omega), u2_row _ _ _ (by omega)]
theorem c_learn (hG : LsP G em mi) (h : Core G em n kd I R J Z0 u K cap hm kn key) (hn0 : n + 100 ≤ 600000) (hs0 : sz + 40000 ≤ 7302250) (hK0 : K ≤ 3100) (hhm : hm ≤ 4000) : MM G mX9_learn [.ref (gz G + 0)] (n, sz, kd, I, R, J) (fun v' M' => v' = some (.int (nI (mL (mLearn Z0)))) ∧ QLrn G em n sz I Z0 K cap hm none M') := by
  refine mm_of rfl [(0, .ref (gz G + 0))] rfl (Nat.le_of_ble_eq_true rfl) ?_
  have hC := h.shC
  refine aw_aload_n dX9_learn_0 rfl rfl (by first | exact isR_ref _ | exact isR_rf _ | exact isR_null) ?_
  refine aw_get dX9_learn_1 fl_X9_58 (sC_k0 hC) (sC_n0 hC) (sC_r_0_learner hC _ _) ?_
  refine aw_aload_n dX9_learn_4 rfl rfl (by first | exact isR_ref _ | exact isR_rf _ | exact isR_null) ?_
  refine aw_get dX9_learn_5 fl_X9_35 (sC_k0 hC) (sC_n0 hC) (sC_r_0_mail hC _ _) ?_
  refine aw_aload_n dX9_learn_8 rfl rfl (by first | exact isR_ref _ | exact isR_rf _ | exact isR_null) ?_
  refine aw_get dX9_learn_9 fl_X9_28 (sC_k0 hC) (sC_n0 hC) (sC_r_0_row hC _ _) ?_
  refine aw_callV (as := [_, _]) dX9_learn_12 lk_X9_133 cm_X1_learnAnew vi_X1_learnAnew (by unfold RO; decide) rfl (sC_k16 hC) (sC_n16 hC) rfl rfl rfl (Nat.le_of_ble_eq_true rfl) (l_learnAnew hG h hn0 hs0 hK0 hhm) ?_
  intro v' M' hq
  have hq0 := hq
  obtain ⟨rfl, n', sz', kd', I', R', J', u', K', cap', kn', key', rfl, hc', -⟩ := hq
  have hC := hc'.shC
  have hL := hc'.ln.1
  refine aw_aload_n dX9_learn_15 rfl rfl (by first | exact isR_ref _ | exact isR_rf _ | exact isR_null) ?_
  refine aw_get dX9_learn_16 fl_X9_28 (sC_k0 hC) (sC_n0 hC) (sC_r_0_row hC _ _) ?_
  refine aw_get dX9_learn_19 fl_X9_137 (sC_k5 hC) (sC_n5 hC) (congrArg Value.int hL) ?_
  refine aw_iret dX9_learn_22 rfl rfl ?_
  exact ⟨rfl, hq0⟩
end LEARN2
