section LRN2
variable {G : GG} {n sz : Nat} {kd : Nat → AKd} {I : Nat → Nat → Int32} {R : Nat → Nat → Option Nat} {J : Nat → Nat → Int64}
theorem gBs_cong {g h : Nat → Int32} {x y_ : Int32} {t : Bst} : ∀ {m : Nat}, (∀ f, f < m → g f = h f) → gBs g x y_ t m = gBs h x y_ t m
  | 0, _ => rfl
  | m + 1, e => by rw [gBs, gBs, gBs_cong (fun f hf => e f (by omega)), gUpd, gUpd, e m (by omega)]
def mkW (a : Nat) (o : Option Nat) : Int64 := match o with
  | none => sh1 (nI a)
  | some b => sh1 (nI a) ||| sh1 (nI b)
def prI (I : Nat → Nat → Int32) (o : Option Nat) : Int32 := match o with
  | none => I 14 0 + I 14 1
  | some _ => I 14 0 + nI 2 * I 14 1
def wBel (G : GG) (I : Nat → Nat → Int32) (R : Nat → Nat → Option Nat) (J : Nat → Nat → Int64) (m : Nat) (w : Int64) (g : Nat) : Int32 := nI (cnt (tlG G I R J w g) m)
def wTal (G : GG) (R : Nat → Nat → Option Nat) (J : Nat → Nat → Int64) (m : Nat) (w : Int64) : Int32 := nI (cnt (tlP G R J w) m)
def cG (G : GG) (I : Nat → Nat → Int32) (R : Nat → Nat → Option Nat) (J : Nat → Nat → Int64) (m a : Nat) (o : Option Nat) (f : Nat) : Int32 := svI I (wTal G R J m (mkW a o)) (wBel G I R J m (mkW a o)) (prI I o) f
def stkC (G : GG) (I : Nat → Nat → Int32) (R : Nat → Nat → Option Nat) (J : Nat → Nat → Int64) (m a : Nat) : Int32 := tcI I (wTal G R J m (mkW a none)) (wBel G I R J m (mkW a none)) 0
def cL1 (G : GG) (I : Nat → Nat → Int32) (R : Nat → Nat → Option Nat) (J : Nat → Nat → Int64) (m : Nat) (t : Bst) : Nat → Bst
  | 0 => t
  | a + 1 => gBs (cG G I R J m a none) (nI a) (oI none) (cL1 G I R J m t a) 8
def cPr (G : GG) (I : Nat → Nat → Int32) (R : Nat → Nat → Option Nat) (J : Nat → Nat → Int64) (m a b : Nat) : Int32 := (if stkC G I R J m b < stkC G I R J m a then stkC G I R J m b else stkC G I R J m a) - prI I (some b)
def cL2r (G : GG) (I : Nat → Nat → Int32) (R : Nat → Nat → Option Nat) (J : Nat → Nat → Int64) (m a : Nat) (t : Bst) : Nat → Bst
  | 0 => t
  | d + 1 => if (cL2r G I R J m a t d).1 < cPr G I R J m a (a + 1 + d) then gBs (cG G I R J m a (some (a + 1 + d))) (nI a) (oI (some (a + 1 + d))) (cL2r G I R J m a t d) 8 else cL2r G I R J m a t d
def cL2 (G : GG) (I : Nat → Nat → Int32) (R : Nat → Nat → Option Nat) (J : Nat → Nat → Int64) (m : Nat) (t : Bst) : Nat → Bst
  | 0 => t
  | a + 1 => cL2r G I R J m a (cL2 G I R J m t a) (39 - a)
def cFB (G : GG) (I : Nat → Nat → Int32) (R : Nat → Nat → Option Nat) (J : Nat → Nat → Int64) (m : Nat) (t : Bst) : Bst := cL2 G I R J m (cL1 G I R J m (nI 0, t.2) 40) 40
def QFB (n sz : Nat) (kd : Nat → AKd) (I : Nat → Nat → Int32) (R : Nat → Nat → Option Nat) (J : Nat → Nat → Int64) (t : Bst) (v' : Option Value) (M' : Mem) : Prop := v' = some (.int (bi (decide (0 < t.1)))) ∧ ∃ T bel stk, M' = (n, sz, kd, qS I T bel stk t, R, J)
theorem l_find (hC : ShC G n kd R) {m : Nat} (hO : I 16 11 = nI m) (hV : OV G n kd I R m) (T : Int32) (bel stk : Nat → Int32) (t : Bst) : MM G mX1_findBest [.ref (gz G + 16)] (n, sz, kd, qS I T bel stk t, R, J) (QFB n sz kd I R J (cFB G I R J m t)) := by
  refine mm_of rfl [(0, .ref (gz G + 16))] rfl (Nat.le_of_ble_eq_true rfl) ?_
  refine aw_aload_n dX1_findBest_0 rfl rfl (by first | exact isR_ref _ | exact isR_rf _ | exact isR_null) ?_
  refine aw_iconst (v := nI 0) dX1_findBest_1 (by decide) ?_
  refine aw_putI dX1_findBest_2 fl_X1_95 (Or.inl rfl) rfl (sC_k16 hC) (sC_n16 hC) ?_
  rw [qS_b1]
  refine aw_iconst (v := nI 0) dX1_findBest_5 (by decide) ?_
  refine aw_istore_n (lv' := [(0, _), (1, _)]) dX1_findBest_6 rfl (by decide) rfl ?_
  have loopB : ∀ d i, i + d = 40 → ∀ (T : Int32) (bel stk : Nat → Int32) lx, (∀ c, c < 40 → stk c = stkC G I R J m c) → AW G mX1_findBest 78 ([(0, .ref (gz G + 16)), (1, .int (prI I (some 0))), (2, .int (nI i))] ++ lx) [] (n, sz, kd, qS I T bel stk (cL2 G I R J m (cL1 G I R J m (nI 0, t.2) 40) i), R, J) (QFB n sz kd I R J (cFB G I R J m t)) := by
    intro d
    induction d with
    | zero =>
      intro i hi T bel stk lx hs
      refine aw_app ?_
      have e40 : i = 40 := by omega
      subst e40
      refine aw_iload_n dX1_findBest_78 rfl rfl ?_
      refine aw_bipush (v := nI 40) dX1_findBest_79 (by decide) ?_
      refine aw_n_ge (tgt := 148) dX1_findBest_81 (by decide) rfl rfl (by omega) (by omega) (fun h => ?_) (fun h => ?_)
      · refine aw_aload_n dX1_findBest_148 rfl rfl (by first | exact isR_ref _ | exact isR_rf _ | exact isR_null) ?_
        refine aw_get dX1_findBest_149 fl_X1_95 (sC_k16 hC) (sC_n16 hC) (show _ = Value.int ((cFB G I R J m t).1) from rfl) ?_
        refine aw_if_le (tgt := 159) dX1_findBest_152 (by decide) (fun h2 => ?_) (fun h2 => ?_)
        · refine aw_iconst (v := nI 0) dX1_findBest_159 (by decide) ?_
          refine aw_iret dX1_findBest_160 rfl rfl ?_
          exact ⟨by rw [decide_eq_false (Int32.not_lt.mpr h2)]; rfl, T, bel, stk, rfl⟩
        · refine aw_iconst (v := nI 1) dX1_findBest_155 (by decide) ?_
          refine aw_goto (tgt := 160) dX1_findBest_156 (by decide) ?_
          refine aw_iret dX1_findBest_160 rfl rfl ?_
          exact ⟨by rw [decide_eq_true (Int32.not_le.mp h2)]; rfl, T, bel, stk, rfl⟩
      · exact absurd h (by omega)
    | succ d ih =>
      intro i hi T bel stk lx hs
      refine aw_app ?_
      refine aw_iload_n dX1_findBest_78 rfl rfl ?_
      refine aw_bipush (v := nI 40) dX1_findBest_79 (by decide) ?_
      refine aw_n_ge (tgt := 148) dX1_findBest_81 (by decide) rfl rfl (by omega) (by omega) (fun h => ?_) (fun h => ?_)
      · exact absurd h (by omega)
      · refine aw_iload_n dX1_findBest_84 rfl rfl ?_
        refine aw_iconst (v := nI 1) dX1_findBest_85 (by decide) ?_
        first | refine aw_iaddN dX1_findBest_86 ?_ | refine aw_iadd dX1_findBest_86 ?_
        refine aw_istore_n (lv' := [(0, _), (1, _), (2, _), (3, _)]) dX1_findBest_87 rfl (by decide) rfl ?_
        have inner : ∀ e j, j + e = 39 - i → ∀ (T : Int32) (bel : Nat → Int32), AW G mX1_findBest 88 [(0, .ref (gz G + 16)), (1, .int (prI I (some 0))), (2, .int (nI i)), (3, .int (nI (i + 1 + j)))] [] (n, sz, kd, qS I T bel stk (cL2r G I R J m i (cL2 G I R J m (cL1 G I R J m (nI 0, t.2) 40) i) j), R, J) (QFB n sz kd I R J (cFB G I R J m t)) := by
          intro e
          induction e with
          | zero =>
            intro j hj T bel
            have ej : j = 39 - i := by omega
            subst ej
            refine aw_iload_n dX1_findBest_88 rfl rfl ?_
            refine aw_bipush (v := nI 40) dX1_findBest_89 (by decide) ?_
            refine aw_n_ge (tgt := 142) dX1_findBest_91 (by decide) rfl rfl (by omega) (by omega) (fun h3 => ?_) (fun h3 => ?_)
            · first | refine aw_iincN (c := 1) (lv' := [(0, _), (1, _), (2, _), (3, _)]) dX1_findBest_142 rfl (by decide) rfl rfl ?_ | refine aw_iinc (v := 1) (lv' := [(0, _), (1, _), (2, _), (3, _)]) dX1_findBest_142 rfl (by decide) (by decide) rfl ?_
              refine aw_goto (tgt := 78) dX1_findBest_145 (by decide) ?_
              exact aw_app (lv := [_, _, _]) (ex := [_]) (ih (i + 1) (by omega) T bel stk [] hs)
            · exact absurd h3 (by omega)
          | succ e ihe =>
            intro j hj T bel
            refine aw_iload_n dX1_findBest_88 rfl rfl ?_
            refine aw_bipush (v := nI 40) dX1_findBest_89 (by decide) ?_
            refine aw_n_ge (tgt := 142) dX1_findBest_91 (by decide) rfl rfl (by omega) (by omega) (fun h3 => ?_) (fun h3 => ?_)
            · exact absurd h3 (by omega)
            · refine aw_aload_n dX1_findBest_94 rfl rfl (by first | exact isR_ref _ | exact isR_rf _ | exact isR_null) ?_
              refine aw_get dX1_findBest_95 fl_X1_34 (sC_k16 hC) (sC_n16 hC) (sC_r_16_atStake hC _ _) ?_
              refine aw_iload_n dX1_findBest_98 rfl rfl ?_
              refine aw_iald dX1_findBest_99 (sC_k21 hC) (sC_n21 hC) (ixm (by omega)) ?_
              refine aw_aload_n dX1_findBest_100 rfl rfl (by first | exact isR_ref _ | exact isR_rf _ | exact isR_null) ?_
              refine aw_get dX1_findBest_101 fl_X1_34 (sC_k16 hC) (sC_n16 hC) (sC_r_16_atStake hC _ _) ?_
              refine aw_iload_n dX1_findBest_104 rfl rfl ?_
              refine aw_iald dX1_findBest_105 (sC_k21 hC) (sC_n21 hC) (ixm (by omega)) ?_
              refine aw_mmin dX1_findBest_106 mn_X1 (by decide) (Nat.le_of_ble_eq_true rfl) ?_
              refine aw_iload_n dX1_findBest_109 rfl rfl ?_
              refine aw_isub dX1_findBest_110 ?_
              refine aw_top (show _ = cPr G I R J m i (i + 1 + j) from by
                show (if stk (i + 1 + j) < stk i then stk (i + 1 + j) else stk i) - prI I (some 0) = _
                rw [hs i (by omega), hs (i + 1 + j) (by omega)]
                rfl) ?_
              refine aw_aload_n dX1_findBest_111 rfl rfl (by first | exact isR_ref _ | exact isR_rf _ | exact isR_null) ?_
              refine aw_get dX1_findBest_112 fl_X1_95 (sC_k16 hC) (sC_n16 hC) (show _ = Value.int ((cL2r G I R J m i (cL2 G I R J m (cL1 G I R J m (nI 0, t.2) 40) i) j).1) from rfl) ?_
              refine aw_icmp_le (tgt := 136) dX1_findBest_115 (by decide) (fun h4 => ?_) (fun h4 => ?_)
              · first | refine aw_iincN (c := 1) (lv' := [(0, _), (1, _), (2, _), (3, _)]) dX1_findBest_136 rfl (by decide) rfl rfl ?_ | refine aw_iinc (v := 1) (lv' := [(0, _), (1, _), (2, _), (3, _)]) dX1_findBest_136 rfl (by decide) (by decide) rfl ?_
                refine aw_goto (tgt := 88) dX1_findBest_139 (by decide) ?_
                have k := ihe (j + 1) (by omega) T bel
                rw [cL2r, if_neg (Int32.not_lt.mpr h4), show i + 1 + (j + 1) = i + 1 + j + 1 by omega] at k
                exact k
              · refine aw_aload_n dX1_findBest_118 rfl rfl (by first | exact isR_ref _ | exact isR_rf _ | exact isR_null) ?_
                refine aw_lconst (v := 1) dX1_findBest_119 (by decide) ?_
                refine aw_iload_n dX1_findBest_120 rfl rfl ?_
                refine aw_lshl dX1_findBest_121 ?_
                refine aw_lconst (v := 1) dX1_findBest_122 (by decide) ?_
                refine aw_iload_n dX1_findBest_123 rfl rfl ?_
                refine aw_lshl dX1_findBest_124 ?_
                refine aw_lor dX1_findBest_125 ?_
                refine aw_callV (as := [_]) dX1_findBest_126 lk_X1_48 cm_X1_tally vi_X1_tally (by unfold RO; decide) rfl (sC_k16 hC) (sC_n16 hC) rfl rfl rfl (Nat.le_of_ble_eq_true rfl) (l_tally hC hO hV (sh1 (nI i) ||| sh1 (nI (i + 1 + j))) T bel stk _) ?_
                intro v' M' hq
                obtain ⟨rfl, bel2, hb, rfl⟩ := hq
                refine aw_aload_n dX1_findBest_129 rfl rfl (by first | exact isR_ref _ | exact isR_rf _ | exact isR_null) ?_
                refine aw_iload_n dX1_findBest_130 rfl rfl ?_
                refine aw_iload_n dX1_findBest_131 rfl rfl ?_
                refine aw_iload_n dX1_findBest_132 rfl rfl ?_
                refine aw_cVv (as := [_, _, _]) dX1_findBest_133 lk_X1_147 cm_X1_tryFolders vi_X1_tryFolders (by unfold RO; decide) rfl (sC_k16 hC) (sC_n16 hC) rfl rfl rfl (Nat.le_of_ble_eq_true rfl) (l_try hC (nI i) (nI (i + 1 + j)) (prI I (some 0)) _ bel2 stk _) ?_
                first | refine aw_iincN (c := 1) (lv' := [(0, _), (1, _), (2, _), (3, _)]) dX1_findBest_136 rfl (by decide) rfl rfl ?_ | refine aw_iinc (v := 1) (lv' := [(0, _), (1, _), (2, _), (3, _)]) dX1_findBest_136 rfl (by decide) (by decide) rfl ?_
                refine aw_goto (tgt := 88) dX1_findBest_139 (by decide) ?_
                have k := ihe (j + 1) (by omega) (nI (cnt (tlP G R J (sh1 (nI i) ||| sh1 (nI (i + 1 + j)))) m)) bel2
                have ec : gBs (cG G I R J m i (some (i + 1 + j))) (nI i) (oI (some (i + 1 + j))) (cL2r G I R J m i (cL2 G I R J m (cL1 G I R J m (nI 0, t.2) 40) i) j) 8 = gBs (svI I (nI (cnt (tlP G R J (sh1 (nI i) ||| sh1 (nI (i + 1 + j)))) m)) bel2 (prI I (some 0))) (nI i) (nI (i + 1 + j)) (cL2r G I R J m i (cL2 G I R J m (cL1 G I R J m (nI 0, t.2) 40) i) j) 8 := gBs_cong (fun f hf => by
                  unfold cG svI tcI
                  rw [hb 0 (by omega), hb f hf]
                  rfl)
                rw [cL2r, if_pos (Int32.not_le.mp h4), show i + 1 + (j + 1) = i + 1 + j + 1 by omega, ec] at k
                exact k
        exact inner (39 - i) 0 (Nat.zero_add _) T bel
  have loopA : ∀ d i, i + d = 40 → ∀ (T : Int32) (bel stk : Nat → Int32), (∀ c, c < i → stk c = stkC G I R J m c) → AW G mX1_findBest 7 [(0, .ref (gz G + 16)), (1, .int (nI i))] [] (n, sz, kd, qS I T bel stk (cL1 G I R J m (nI 0, t.2) i), R, J) (QFB n sz kd I R J (cFB G I R J m t)) := by
    intro d
    induction d with
    | zero =>
      intro i hi T bel stk hs
      have e40 : i = 40 := by omega
      subst e40
      refine aw_iload_n dX1_findBest_7 rfl rfl ?_
      refine aw_bipush (v := nI 40) dX1_findBest_8 (by decide) ?_
      refine aw_n_ge (tgt := 58) dX1_findBest_10 (by decide) rfl rfl (by omega) (by omega) (fun h => ?_) (fun h => ?_)
      · refine aw_aload_n dX1_findBest_58 rfl rfl (by first | exact isR_ref _ | exact isR_rf _ | exact isR_null) ?_
        refine aw_get dX1_findBest_59 fl_X1_37 (sC_k16 hC) (sC_n16 hC) (sC_r_16_costs hC _ _) ?_
        refine aw_get dX1_findBest_62 fl_X1_139 (sC_k14 hC) (sC_n14 hC) rfl ?_
        refine aw_iconst (v := nI 2) dX1_findBest_65 (by decide) ?_
        refine aw_aload_n dX1_findBest_66 rfl rfl (by first | exact isR_ref _ | exact isR_rf _ | exact isR_null) ?_
        refine aw_get dX1_findBest_67 fl_X1_37 (sC_k16 hC) (sC_n16 hC) (sC_r_16_costs hC _ _) ?_
        refine aw_get dX1_findBest_70 fl_X1_144 (sC_k14 hC) (sC_n14 hC) rfl ?_
        refine aw_imul dX1_findBest_73 ?_
        refine aw_iadd dX1_findBest_74 ?_
        refine aw_top (show _ = prI I (some 0) from rfl) ?_
        refine aw_istore_n (lv' := [(0, _), (1, _)]) dX1_findBest_75 rfl (by decide) rfl ?_
        refine aw_iconst (v := nI 0) dX1_findBest_76 (by decide) ?_
        refine aw_istore_n (lv' := [(0, _), (1, _), (2, _)]) dX1_findBest_77 rfl (by decide) rfl ?_
        exact loopB 40 0 rfl T bel stk [] hs
      · exact absurd h (by omega)
    | succ d ih =>
      intro i hi T bel stk hs
      refine aw_iload_n dX1_findBest_7 rfl rfl ?_
      refine aw_bipush (v := nI 40) dX1_findBest_8 (by decide) ?_
      refine aw_n_ge (tgt := 58) dX1_findBest_10 (by decide) rfl rfl (by omega) (by omega) (fun h => ?_) (fun h => ?_)
      · exact absurd h (by omega)
      · refine aw_aload_n dX1_findBest_13 rfl rfl (by first | exact isR_ref _ | exact isR_rf _ | exact isR_null) ?_
        refine aw_lconst (v := 1) dX1_findBest_14 (by decide) ?_
        refine aw_iload_n dX1_findBest_15 rfl rfl ?_
        refine aw_lshl dX1_findBest_16 ?_
        refine aw_callV (as := [_]) dX1_findBest_17 lk_X1_48 cm_X1_tally vi_X1_tally (by unfold RO; decide) rfl (sC_k16 hC) (sC_n16 hC) rfl rfl rfl (Nat.le_of_ble_eq_true rfl) (l_tally hC hO hV (sh1 (nI i)) T bel stk _) ?_
        intro v' M' hq
        obtain ⟨rfl, bel2, hb, rfl⟩ := hq
        refine aw_aload_n dX1_findBest_20 rfl rfl (by first | exact isR_ref _ | exact isR_rf _ | exact isR_null) ?_
        refine aw_get dX1_findBest_21 fl_X1_34 (sC_k16 hC) (sC_n16 hC) (sC_r_16_atStake hC _ _) ?_
        refine aw_iload_n dX1_findBest_24 rfl rfl ?_
        refine aw_aload_n dX1_findBest_25 rfl rfl (by first | exact isR_ref _ | exact isR_rf _ | exact isR_null) ?_
        refine aw_iconst (v := nI 0) dX1_findBest_26 (by decide) ?_
        refine aw_cVx (as := [_]) dX1_findBest_27 lk_X1_59 cm_X1_talliedCost vi_X1_talliedCost (by unfold RO; decide) rfl (sC_k16 hC) (sC_n16 hC) rfl rfl rfl (Nat.le_of_ble_eq_true rfl) (l_tcost hC (f := 0) (by decide) _ bel2 stk _) ?_
        refine aw_iast dX1_findBest_30 (sC_k21 hC) (sC_n21 hC) (ixm (by omega)) ?_
        rw [qS_st]
        refine aw_aload_n dX1_findBest_31 rfl rfl (by first | exact isR_ref _ | exact isR_rf _ | exact isR_null) ?_
        refine aw_iload_n dX1_findBest_32 rfl rfl ?_
        refine aw_iconst (v := (-1)) dX1_findBest_33 (by decide) ?_
        refine aw_aload_n dX1_findBest_34 rfl rfl (by first | exact isR_ref _ | exact isR_rf _ | exact isR_null) ?_
        refine aw_get dX1_findBest_35 fl_X1_37 (sC_k16 hC) (sC_n16 hC) (sC_r_16_costs hC _ _) ?_
        refine aw_get dX1_findBest_38 fl_X1_139 (sC_k14 hC) (sC_n14 hC) rfl ?_
        refine aw_aload_n dX1_findBest_41 rfl rfl (by first | exact isR_ref _ | exact isR_rf _ | exact isR_null) ?_
        refine aw_get dX1_findBest_42 fl_X1_37 (sC_k16 hC) (sC_n16 hC) (sC_r_16_costs hC _ _) ?_
        refine aw_get dX1_findBest_45 fl_X1_144 (sC_k14 hC) (sC_n14 hC) rfl ?_
        refine aw_iadd dX1_findBest_48 ?_
        refine aw_top (show _ = prI I none from rfl) ?_
        refine aw_cVv (as := [_, _, _]) dX1_findBest_49 lk_X1_147 cm_X1_tryFolders vi_X1_tryFolders (by unfold RO; decide) rfl (sC_k16 hC) (sC_n16 hC) rfl rfl rfl (Nat.le_of_ble_eq_true rfl) (l_try hC (nI i) (-1) (prI I none) _ bel2 _ _) ?_
        first | refine aw_iincN (c := 1) (lv' := [(0, _), (1, _)]) dX1_findBest_52 rfl (by decide) rfl rfl ?_ | refine aw_iinc (v := 1) (lv' := [(0, _), (1, _)]) dX1_findBest_52 rfl (by decide) (by decide) rfl ?_
        refine aw_goto (tgt := 7) dX1_findBest_55 (by decide) ?_
        have es : tcI I (nI (cnt (tlP G R J (sh1 (nI i))) m)) bel2 0 = stkC G I R J m i := by
          unfold tcI stkC tcI
          rw [hb 0 (by omega)]
          rfl
        have ec : gBs (cG G I R J m i none) (nI i) (oI none) (cL1 G I R J m (nI 0, t.2) i) 8 = gBs (svI I (nI (cnt (tlP G R J (sh1 (nI i))) m)) bel2 (prI I none)) (nI i) (-1) (cL1 G I R J m (nI 0, t.2) i) 8 := gBs_cong (fun f hf => by
          unfold cG svI tcI
          rw [hb 0 (by omega), hb f hf]
          rfl)
        have k := ih (i + 1) (by omega) (nI (cnt (tlP G R J (sh1 (nI i))) m)) bel2 (fun c => if c = i then tcI I (nI (cnt (tlP G R J (sh1 (nI i))) m)) bel2 0 else stk c) (fun c hc => by
          by_cases hci : c = i
          · rw [hci]; exact (if_pos rfl).trans es
          · exact (if_neg hci).trans (hs c (by omega)))
        rw [cL1, ec] at k
        exact k
  exact loopA 40 0 rfl T bel stk (fun c hc => absurd hc (Nat.not_lt_zero c))
end LRN2
