section LEARN
variable {G : GG} {n n' sz : Nat} {kd kd' : KD} {I I' Z Z' Zs : II} {R R' : RR} {J J' : JJ} {em mi K K' cap cap' hm : Nat} {u u' : Nat → Int32} {kn kn' : Nat → Nat} {key key' : Nat → Key}
def QLrn (G : GG) (em n0 sz0 : Nat) (I0 Z0 : II) (K0 cap0 hm : Nat) (v' : Option Value) (M' : Mem) : Prop := v' = none ∧ ∃ n' sz' kd' I' R' J' u' K' cap' kn' key', M' = (n', sz', kd', I', R', J') ∧ Core G em n' kd' I' R' J' (mLearn Z0) u' K' cap' hm kn' key' ∧ RsR I' (mLearn Z0) ∧ (∀ q, 22 ≤ q → q < 52 → I' q = I0 q) ∧ n' ≤ n0 + 18 ∧ sz' + 4 * cap0 ≤ sz0 + 30 + 4 * cap' ∧ K' ≤ K0 + 6
def LI (G : GG) (em n0 sz0 : Nat) (I0 : II) (K0 cap0 hm L0 i n sz : Nat) (kd : KD) (I : II) (R : RR) (J : JJ) (Z : II) (u : Nat → Int32) (K cap : Nat) (kn : Nat → Nat) (key : Nat → Key) : Prop := Core G em n kd I R J Z u K cap hm kn key ∧ ErR G n kd I R Z u L0 ∧ (I 16 3 = Z 22 41 ∧ I 16 4 = Z 22 42 ∧ I 16 5 = Z 22 43) ∧ (∀ q, 22 ≤ q → q < 52 → I q = I0 q) ∧ n ≤ n0 + 3 * i ∧ sz + 4 * cap0 ≤ sz0 + 5 * i + 4 * cap ∧ K ≤ K0 + i
theorem l_exit {n0 sz0 K0 cap0 i : Nat} {I0 Z0 : II} (hi : i ≤ 6) (H : LI G em n0 sz0 I0 K0 cap0 hm (mL Z0) i n sz kd I R J (mLrnB Z0) u K cap kn key) (x : Int32) : ∀ lx, AW G mX1_learnAnew 105 ([(0, .ref (gz G + 16)), (1, .ref (gz G + 8)), (2, .ref (gz G + 5)), (3, .int x)] ++ lx) [] (n, sz, kd, I, R, J) (QLrn G em n0 sz0 I0 Z0 K0 cap0 hm) := by
  intro lx
  refine aw_app ?_
  obtain ⟨h, hE, hco, href, hb1, hb2, hb3⟩ := H
  have hC := h.shC
  have hL := h.ln.1
  have hL6 : mL (mLrnB Z0) ≤ 6 := h.mb.2.1.le
  have hE9 := hE.1
  have hE6 := hE.2.1
  refine aw_aload_n dX1_learnAnew_105 rfl rfl (by first | exact isR_ref _ | exact isR_rf _ | exact isR_null) ?_
  refine aw_aload_n dX1_learnAnew_106 rfl rfl (by first | exact isR_ref _ | exact isR_rf _ | exact isR_null) ?_
  refine aw_get dX1_learnAnew_107 fl_X1_98 (sC_k5 hC) (sC_n5 hC) (sC_r_5_learnt hC _ _) ?_
  refine aw_aload_n dX1_learnAnew_110 rfl rfl (by first | exact isR_ref _ | exact isR_rf _ | exact isR_null) ?_
  refine aw_get dX1_learnAnew_111 fl_X1_101 (sC_k5 hC) (sC_n5 hC) (congrArg Value.int hL) ?_
  refine aw_aload_n dX1_learnAnew_114 rfl rfl (by first | exact isR_ref _ | exact isR_rf _ | exact isR_null) ?_
  refine aw_get dX1_learnAnew_115 fl_X1_20 (sC_k16 hC) (sC_n16 hC) (sC_r_16_earlier hC _ _) ?_
  refine aw_aload_n dX1_learnAnew_118 rfl rfl (by first | exact isR_ref _ | exact isR_rf _ | exact isR_null) ?_
  refine aw_get dX1_learnAnew_119 fl_X1_104 (sC_k16 hC) (sC_n16 hC) (congrArg Value.int hE9) ?_
  refine aw_cSx (as := [_, _, _, _]) dX1_learnAnew_122 lk_X1_107 cm_X1_missing sm_X1_missing (by unfold RO; decide) rfl rfl (Nat.le_of_ble_eq_true rfl) (l_missing (sC_k7 hC) (sC_n7 hC) (sC_k18 hC) (sC_n18 hC) hL6 hE6) ?_
  refine aw_putI dX1_learnAnew_125 fl_X1_111 (Or.inl rfl) rfl (sC_k16 hC) (sC_n16 hC) ?_
  refine aw_aload_n dX1_learnAnew_128 rfl rfl (by first | exact isR_ref _ | exact isR_rf _ | exact isR_null) ?_
  refine aw_aload_n dX1_learnAnew_129 rfl rfl (by first | exact isR_ref _ | exact isR_rf _ | exact isR_null) ?_
  refine aw_get dX1_learnAnew_130 fl_X1_20 (sC_k16 hC) (sC_n16 hC) (sC_r_16_earlier hC _ _) ?_
  refine aw_aload_n dX1_learnAnew_133 rfl rfl (by first | exact isR_ref _ | exact isR_rf _ | exact isR_null) ?_
  refine aw_get dX1_learnAnew_134 fl_X1_104 (sC_k16 hC) (sC_n16 hC) (congrArg Value.int hE9) ?_
  refine aw_aload_n dX1_learnAnew_137 rfl rfl (by first | exact isR_ref _ | exact isR_rf _ | exact isR_null) ?_
  refine aw_get dX1_learnAnew_138 fl_X1_98 (sC_k5 hC) (sC_n5 hC) (sC_r_5_learnt hC _ _) ?_
  refine aw_aload_n dX1_learnAnew_141 rfl rfl (by first | exact isR_ref _ | exact isR_rf _ | exact isR_null) ?_
  refine aw_get dX1_learnAnew_142 fl_X1_101 (sC_k5 hC) (sC_n5 hC) (congrArg Value.int hL) ?_
  refine aw_cSx (as := [_, _, _, _]) dX1_learnAnew_145 lk_X1_107 cm_X1_missing sm_X1_missing (by unfold RO; decide) rfl rfl (Nat.le_of_ble_eq_true rfl) (l_missing (sC_k18 hC) (sC_n18 hC) (sC_k7 hC) (sC_n7 hC) hE6 hL6) ?_
  refine aw_putI dX1_learnAnew_148 fl_X1_114 (Or.inl rfl) rfl (sC_k16 hC) (sC_n16 hC) ?_
  refine aw_aload_n dX1_learnAnew_151 rfl rfl (by first | exact isR_ref _ | exact isR_rf _ | exact isR_null) ?_
  refine aw_iconst (v := nI 1) dX1_learnAnew_152 (by decide) ?_
  refine aw_putZ (b := true) dX1_learnAnew_153 fl_X1_117 (Or.inl rfl) rfl (sC_k16 hC) (sC_n16 hC) ?_
  refine aw_vret dX1_learnAnew_156 rfl ?_
  rw [new_eq h hE, gone_eq h hE]
  refine ⟨rfl, n, sz, kd, _, R, J, u, K, cap, kn, key, rfl, h.scr (fun q h1 h2 h3 h4 h5 => ?_) (fun _ _ _ => rfl) (fun q h1 h2 h3 => ?_) (fun c hc => ?_), ⟨rfl, hco.1, hco.2.1, hco.2.2, rfl, rfl⟩, fun q h1 h2 => ?_, by omega, by omega, by omega⟩
  · rw [u2_row _ _ _ h3, u2_row _ _ _ h3, u2_row _ _ _ h3]
  · rw [mLearn, u2_row _ _ _ (by omega), u2_row _ _ _ (by omega), u2_row _ _ _ (by omega)]
  · unfold okCol at hc
    rw [mLearn, u2_col _ _ _ (by omega), u2_col _ _ _ (by omega), u2_col _ _ _ (by omega)]
  · rw [u2_row _ _ _ (by omega), u2_row _ _ _ (by omega), u2_row _ _ _ (by omega)]
    exact href q h1 h2
theorem OV.fr {m : Nat} (h : OV G n kd I R m) (F : Fr n kd I R J n' kd' I' R' J') (h19 : R' 19 = R 19) : OV G n' kd' I' R' m := ⟨h.1, fun j hj => by
  obtain ⟨a1, a2, a3⟩ := h.2 j hj
  obtain ⟨c1, c2⟩ := a1.fr F.1 F.2.1 (R' := R') (by rw [h19])
  refine ⟨c1, by rw [c2]; exact a2, ?_⟩
  rw [c2, (F.2.2 _ a2 a1.2.1 (fun c z => by rw [a1.2.2] at z; cases z)).1]
  exact a3⟩
theorem l_loop (hG : LsP G em mi) {n0 sz0 K0 cap0 : Nat} {I0 Z0 : II} (hn0 : n0 + 100 ≤ 600000) (hs0 : sz0 + 40000 ≤ 7302250) (hK0 : K0 ≤ 3100) (hhm : hm ≤ 4000) : ∀ d i, i + d = 6 → ∀ (n sz : Nat) (kd : KD) (I : II) (R : RR) (J : JJ) (Z : II) (u : Nat → Int32) (K cap : Nat) (kn : Nat → Nat) (key : Nat → Key) (m : Nat) lx, LI G em n0 sz0 I0 K0 cap0 hm (mL Z0) i n sz kd I R J Z u K cap kn key → OpR I R Z m → okOpen Z → mL Z = i → mLoop d Z = mLrnB Z0 → AW G mX1_learnAnew 43 ([(0, .ref (gz G + 16)), (1, .ref (gz G + 8)), (2, .ref (gz G + 5)), (3, .int (nI i))] ++ lx) [] (n, sz, kd, I, R, J) (QLrn G em n0 sz0 I0 Z0 K0 cap0 hm) := by
  intro d
  induction d with
  | zero =>
    intro i hi n sz kd I R J Z u K cap kn key m lx H hO hOp hmL hlp
    have e6 : i = 6 := by omega
    subst e6
    have hlp : Z = mLrnB Z0 := hlp
    subst hlp
    refine aw_app ?_
    refine aw_iload_n dX1_learnAnew_43 rfl rfl ?_
    refine aw_bipush (v := nI 6) dX1_learnAnew_44 (by decide) ?_
    refine aw_n_ge (tgt := 105) dX1_learnAnew_46 (by decide) rfl rfl (by omega) (by omega) (fun h => ?_) (fun h => ?_)
    · exact l_exit (Nat.le_refl 6) H _ []
    · exact absurd h (by omega)
  | succ d ih =>
    intro i hi n sz kd I R J Z u K cap kn key m lx H hO hOp hmL hlp
    refine aw_app ?_
    have H0 := H
    obtain ⟨h, hE, hco, href, hb1, hb2, hb3⟩ := H
    have hC := h.shC
    have hn := hC.1
    have hV := OV_of h hO hOp
    have hcap : cap ≤ 10 + 2 * K := h.kw.1.2.2.1
    refine aw_iload_n dX1_learnAnew_43 rfl rfl ?_
    refine aw_bipush (v := nI 6) dX1_learnAnew_44 (by decide) ?_
    refine aw_n_ge (tgt := 105) dX1_learnAnew_46 (by decide) rfl rfl (by omega) (by omega) (fun h46 => ?_) (fun h46 => ?_)
    · exact absurd h46 (by omega)
    · refine aw_aload_n dX1_learnAnew_49 rfl rfl (by first | exact isR_ref _ | exact isR_rf _ | exact isR_null) ?_
      refine aw_I (qS_own I).symm ?_
      refine aw_callV (as := []) dX1_learnAnew_50 lk_X1_69 cm_X1_findBest vi_X1_findBest (by unfold RO; decide) rfl (sC_k16 hC) (sC_n16 hC) rfl rfl rfl (Nat.le_of_ble_eq_true rfl) (l_find hC hO.1 hV _ _ _ _) ?_
      intro v' M' hq
      obtain ⟨rfl, T, bel, stk, rfl⟩ := hq
      have hE2 := find_eq h hO hOp (I 16 15, I 16 16, I 16 17, I 16 18)
      generalize cFB G I R J m (I 16 15, I 16 16, I 16 17, I 16 18) = t at hE2 ⊢
      have rq : ∀ q, q ≠ 16 → q ≠ 20 → q ≠ 21 → qS I T bel stk t q = I q := fun q h1 h2 h3 => qS_hi _ _ _ _ _ ⟨h2, h3, h1⟩
      have hc' : Core G em n kd (qS I T bel stk t) R J Z u K cap hm kn key := h.scr (fun q _ _ h3 h4 h5 => rq q h3 h4 h5) (fun _ _ _ => rfl) (fun _ _ _ _ => rfl) (fun _ _ => rfl)
      refine aw_b_eq (tgt := 105) dX1_learnAnew_53 (by decide) rfl (fun hb => ?_) (fun hb => ?_)
      · have hnl : ¬ 0 < (mLooks Z).1 := by rw [← hE2.1]; exact of_decide_eq_false hb
        rw [mLoop, if_neg hnl] at hlp
        have hcB : Core G em n kd (qS I T bel stk t) R J (mLrnB Z0) u K cap hm kn key := by
          rw [← hlp]
          exact hc'.scr (fun _ _ _ _ _ _ => rfl) (fun _ _ _ => rfl) (fun q h1 h2 h3 => wB_row (by omega)) (fun c hc => wB_col (by unfold okCol at hc; omega))
        refine l_exit (i := i) (by omega) ⟨hcB, ?_, ?_, fun q h1 h2 => ?_, by omega, by omega, by omega⟩ _ []
        · rw [← hlp]; exact hE
        · rw [← hlp]; exact hco
        · rw [rq q (by omega) (by omega) (by omega)]; exact href q h1 h2
      · have hlt : 0 < t.1 := of_decide_eq_true hb
        have et : t = mLooks Z := hE2.2.2 hlt
        have hlt2 : 0 < (mLooks Z).1 := by rw [← et]; exact hlt
        obtain ⟨a, o, f, ha, ho, hf, e1, e2, e3⟩ := okT_looks hlt2
        rw [← et] at e1 e2 e3
        rw [mLoop, if_pos hlt2, ← et] at hlp
        have hk6 : mL Z < 6 := by omega
        obtain ⟨sB, sO, sL, sN⟩ := mStep_ok h.mb hOp hk6 hlt2
        rw [← et] at sB sO sL sN
        have ho40 : ∀ b, o = some b → b < 40 := fun b hb => (ho b hb).2
        have S := mStep_f hk6 ha ho40 hf e1 e2 e3
        have vk : vK (a, o, f) := ⟨ha, ho, hf⟩
        have b1 : qS I T bel stk t 16 16 = nI a := e1
        have b2 : qS I T bel stk t 16 17 = oI o := e2
        have b3 : qS I T bel stk t 16 18 = nI f := e3
        refine aw_aload_n dX1_learnAnew_56 rfl rfl (by first | exact isR_ref _ | exact isR_rf _ | exact isR_null) ?_
        refine aw_aload_n dX1_learnAnew_57 rfl rfl (by first | exact isR_ref _ | exact isR_rf _ | exact isR_null) ?_
        refine aw_get dX1_learnAnew_58 fl_X1_73 (sC_k16 hC) (sC_n16 hC) (congrArg Value.int b1) ?_
        refine aw_aload_n dX1_learnAnew_61 rfl rfl (by first | exact isR_ref _ | exact isR_rf _ | exact isR_null) ?_
        refine aw_get dX1_learnAnew_62 fl_X1_76 (sC_k16 hC) (sC_n16 hC) (congrArg Value.int b2) ?_
        refine aw_aload_n dX1_learnAnew_65 rfl rfl (by first | exact isR_ref _ | exact isR_rf _ | exact isR_null) ?_
        refine aw_get dX1_learnAnew_66 fl_X1_79 (sC_k16 hC) (sC_n16 hC) (congrArg Value.int b3) ?_
        refine aw_callV (as := [_, _, _]) dX1_learnAnew_69 lk_X1_82 cm_X1_nameRule vi_X1_nameRule (by unfold RO; decide) rfl (sC_k16 hC) (sC_n16 hC) rfl rfl rfl (Nat.le_of_ble_eq_true rfl) (l_name hG hC hc'.kw.1 (fun i hi => (hc'.kw.2.2.1 i hi).2.2.1.2.2.1) (by omega) (fun b hb => by have := ho40 b hb; omega) (by omega) (by omega)) ?_
        intro v' M' hq
        obtain ⟨r, n1, sz1, kd1, I1, R1, J1, u1, K1, cap1, kn1, key1, rfl, rfl, N1, N2, N3, N4, N5, N6, N7, N8, N9, N10, N11⟩ := nm_fact hc' ⟨by omega, hhm⟩ S vk hq
        have hC1 : ShC G n1 kd1 R1 := ⟨by have := N1.1; omega, fun i hi => by rw [N1.2.1 i (by omega)]; exact hC.2.1 i hi, fun i hi => by have := cref_lt i hi; rw [(N2 _ (by omega) (by omega)).2]; exact hC.2.2 i hi⟩
        have hL1 : I1 5 2 = nI (mL Z) := by rw [(N2 5 (by decide) (by decide)).1]; exact h.ln.1
        have hr1 : iO n1 kd1 r 7 := N5.1.1
        have hC0 := hC
        have hC := hC1
        refine aw_astore (lv' := [(0, _), (1, _), (2, _), (3, _), (4, _)]) dX1_learnAnew_72 (by decide) rfl ?_
        refine aw_aload_n dX1_learnAnew_74 rfl rfl (by first | exact isR_ref _ | exact isR_rf _ | exact isR_null) ?_
        refine aw_aload dX1_learnAnew_75 rfl (by first | exact isR_ref _ | exact isR_rf _ | exact isR_null) ?_
        refine aw_cVv (as := [_]) dX1_learnAnew_77 lk_X1_86 cm_X5_addLearnt vi_X5_addLearnt (by unfold RO; decide) rfl (sC_k5 hC) (sC_n5 hC) rfl rfl rfl (Nat.le_of_ble_eq_true rfl) (c_addLearnt hC1 hL1 hk6 hr1) ?_
        have FR : FrR n1 kd1 I1 R1 n1 kd1 (u2 I1 5 2 (nI (mL Z + 1))) (u2 R1 7 (mL Z) (some (gz G + r))) := ⟨Nat.le_refl _, fun _ _ => rfl, fun q h1 _ _ => ⟨u2_row _ _ _ (by omega), u2_row _ _ _ (by omega)⟩⟩
        have F2 : Fr n kd (qS I T bel stk t) R J n1 kd1 (u2 I1 5 2 (nI (mL Z + 1))) (u2 R1 7 (mL Z) (some (gz G + r))) J1 := ⟨N1.1, N1.2.1, fun q h1 h2 h3 => by
          obtain ⟨w1, w2, w3⟩ := N1.2.2 q h1 h2 h3
          exact ⟨by rw [u2_row _ _ _ (by omega)]; exact w1, by rw [u2_row _ _ _ (by omega)]; exact w2, w3⟩⟩
        have hC2 : ShC G n1 kd1 (u2 R1 7 (mL Z) (some (gz G + r))) := hC1.put _ _ (by decide)
        have hr2 := N5.fr FR
        have core2 : Core G em n1 kd1 (u2 I1 5 2 (nI (mL Z + 1))) (u2 R1 7 (mL Z) (some (gz G + r))) J1 (mStep Z t) u1 K1 cap1 hm kn1 key1 := core_step hc' S sB sL F2 hC2 (h.shM.grow N1.1 (fun q hq => N1.2.1 q (by omega)) (by rw [u2_row _ _ _ (by decide)]; exact (N2 22 (by decide) (by decide)).2)) N3 (N4.fr FR (fun q h1 h2 => by omega) (fun _ _ => rfl)) (fun q h1 h2 => by rw [u2_row _ _ _ h2]; exact (N2 q (by omega) (by omega)).1) (u2_same _ _ _ _) (by rw [u2_row _ _ _ (by decide)]; exact (N2 6 (by decide) (by decide)).2) (by rw [u2_row _ _ _ (by decide)]; exact (N2 9 (by decide) (by decide)).2) (fun l hl => by rw [u2_col _ _ _ hl, (N2 7 (by decide) (by decide)).2]) (u2_same _ _ _ _) hr2 N6 (N7.fr FR (N7.1.grow2 (Nat.le_refl _) (fun _ _ => rfl) (u2_row _ _ _ (by decide)) (u2_row _ _ _ (by decide)) (fun q h1 h2 => u2_row _ _ _ (by omega))) rfl rfl (fun _ _ => rfl))
        have h19 : u2 R1 7 (mL Z) (some (gz G + r)) 19 = R 19 := by rw [u2_row _ _ _ (by decide)]; exact (N2 19 (by decide) (by decide)).2
        have h92 : u2 R1 7 (mL Z) (some (gz G + r)) 9 = R 9 := by rw [u2_row _ _ _ (by decide)]; exact (N2 9 (by decide) (by decide)).2
        have I16 : ∀ c, u2 I1 5 2 (nI (mL Z + 1)) 16 c = qS I T bel stk t 16 c := fun c => by rw [u2_row _ _ _ (by decide), (N2 16 (by decide) (by decide)).1]
        have hVq : OV G n kd (qS I T bel stk t) R m := ⟨hV.1, fun j hj => by
          obtain ⟨w1, w2, w3⟩ := hV.2 j hj
          exact ⟨w1, w2, by rw [rq _ (by omega) (by omega) (by omega)]; exact w3⟩⟩
        have hO2 : u2 I1 5 2 (nI (mL Z + 1)) 16 11 = nI m := by rw [I16]; exact hO.1
        have hC := hC2
        refine aw_aload_n dX1_learnAnew_80 rfl rfl (by first | exact isR_ref _ | exact isR_rf _ | exact isR_null) ?_
        refine aw_aload dX1_learnAnew_81 rfl (by first | exact isR_ref _ | exact isR_rf _ | exact isR_null) ?_
        refine aw_callV (as := [_]) dX1_learnAnew_83 lk_X1_92 cm_X1_closeFitted vi_X1_closeFitted (by unfold RO; decide) rfl (sC_k16 hC) (sC_n16 hC) rfl rfl rfl (Nat.le_of_ble_eq_true rfl) (l_close hC2 hO2 (hVq.fr F2 h19) hr2.1.1 hr2.1.2.2.1) ?_
        intro v' M' hq
        obtain ⟨rfl, g, hg, rfl⟩ := hq
        have erk : rc G (u2 R1 7 (mL Z) (some (gz G + r))) 7 (mL Z) = r := rc_some (u2_same _ _ _ _)
        obtain ⟨o1, o2⟩ := open_step (Z := Z) (r := r) core2 sN hO.2.1 (fun k hk hq => by rw [h19, h92]; exact hO.2.2 k hk hq) (by omega) erk S.2.2.2.2.2.2.2.2.2.2 hg
        have hC := hC2.row (a := 19) g (by decide)
        generalize hme : cnt (clP G kd1 (u2 I1 5 2 (nI (mL Z + 1))) (u2 R1 7 (mL Z) (some (gz G + r))) J1 r) m = m1 at o1 ⊢
        refine aw_aload_n dX1_learnAnew_86 rfl rfl (by first | exact isR_ref _ | exact isR_rf _ | exact isR_null) ?_
        refine aw_dup dX1_learnAnew_87 rfl ?_
        refine aw_get dX1_learnAnew_88 fl_X1_66 (sC_k16 hC) (sC_n16 hC) rfl ?_
        refine aw_aload_n dX1_learnAnew_91 rfl rfl (by first | exact isR_ref _ | exact isR_rf _ | exact isR_null) ?_
        refine aw_get dX1_learnAnew_92 fl_X1_95 (sC_k16 hC) (sC_n16 hC) rfl ?_
        refine aw_isub dX1_learnAnew_95 ?_
        refine aw_putI dX1_learnAnew_96 fl_X1_66 (Or.inl rfl) rfl (sC_k16 hC) (sC_n16 hC) ?_
        first | refine aw_iincN (c := 1) (lv' := [(0, _), (1, _), (2, _), (3, _), (4, _)]) dX1_learnAnew_99 rfl (by decide) rfl rfl ?_ | refine aw_iinc (v := 1) (lv' := [(0, _), (1, _), (2, _), (3, _), (4, _)]) dX1_learnAnew_99 rfl (by decide) (by decide) rfl ?_
        refine aw_goto (tgt := 43) dX1_learnAnew_102 (by decide) ?_
        refine aw_app (lv := [_, _, _, _]) (ex := [_]) ?_
        have I3 : ∀ c, c ≠ 11 → u2 (u2 I1 5 2 (nI (mL Z + 1))) 16 11 (nI m1) 16 c = qS I T bel stk t 16 c := fun c hc => by rw [u2_col _ _ _ hc]; exact I16 c
        have I3r : ∀ q, q ≠ 16 → q ≠ 5 → q < 52 → q ≠ 17 → u2 (u2 I1 5 2 (nI (mL Z + 1))) 16 11 (nI m1) q = qS I T bel stk t q := fun q h1 h2 h3 h4 => by rw [u2_row _ _ _ h1, u2_row _ _ _ h2]; exact (N2 q h3 h4).1
        refine ih (i + 1) (by omega) n1 sz1 kd1 _ _ J1 (mStep Z t) u1 K1 cap1 kn1 key1 m1 [] ⟨core2.scr (fun q _ _ h3 _ _ => by rw [u2_row _ _ _ h3, u2_row _ _ _ h3]) (fun q h1 h2 => vz_up_ne _ _ h2) (fun _ _ _ _ => rfl) (fun _ _ => rfl), ⟨?_, hE.2.1, fun j hj => ?_⟩, ⟨?_, ?_, ?_⟩, fun q h1 h2 => ?_, by omega, by omega, by omega⟩ ⟨?_, o1, fun k hk hq => ?_⟩ sO (by rw [sL, hmL]) hlp
        · rw [u2_col _ _ _ (by decide), I3 9 (by decide)]; exact hE.1
        · obtain ⟨w1, w2⟩ := hE.2.2 j hj
          have e18 : va_up (u2 R1 7 (mL Z) (some (gz G + r))) 19 g 18 j = R 18 j := by rw [vz_up_ne _ _ (by decide), u2_row _ _ _ (by decide), (N2 18 (by decide) (by decide)).2]
          obtain ⟨x1, x2⟩ := w1.fr N1.1 N1.2.1 e18
          rw [x2, N3 _ w1.2.1, S.2.2.2.2.2.2.2.2.2.1]
          exact ⟨x1, w2⟩
        · rw [u2_same, I3 3 (by decide), I3 15 (by decide), S.2.2.2.1]
          show I 16 3 - t.1 = _
          rw [hco.1]
        · rw [u2_col _ _ _ (by decide), I3 4 (by decide), S.2.2.1 _ (by decide) (by decide) (by decide) (by decide)]; exact hco.2.1
        · rw [u2_col _ _ _ (by decide), I3 5 (by decide), S.2.2.1 _ (by decide) (by decide) (by decide) (by decide)]; exact hco.2.2
        · rw [u2_row _ _ _ (by omega), I3r q (by omega) (by omega) h2 (by omega), rq q (by omega) (by omega) (by omega)]; exact href q h1 h2
        · rw [u2_col _ _ _ (by decide), u2_same]
        · rw [vz_up_same, vz_up_ne _ _ (by decide)]; exact o2 k hk hq
end LEARN
