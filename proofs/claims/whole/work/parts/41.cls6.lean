section CLS6
variable {G : GG} {n sz : Nat} {kd : Nat → AKd} {I : Nat → Nat → Int32} {R : Nat → Nat → Option Nat} {J : Nat → Nat → Int64}
def cUnN (G : GG) (I : Nat → Nat → Int32) (R : Nat → Nat → Option Nat) (J : Nat → Nat → Int64) (N c : Nat) : Nat := cnt (cUn G I R J (nI c)) N
/-- the fullest of the first c -/
def hpS (f : Nat → Nat) (m : Nat) : Nat → Option Nat × Nat
  | 0 => (none, m - 1)
  | c + 1 => if (hpS f m c).2 < f c then (some c, f c) else hpS f m c
theorem hpS_le {f : Nat → Nat} (hf : ∀ c, f c ≤ 100) {m : Nat} (hm : m ≤ 100) : ∀ c, (hpS f m c).2 ≤ 100
  | 0 => by show m - 1 ≤ 100; omega
  | c + 1 => by
    rw [hpS]
    split
    · exact hf _
    · exact hpS_le hf hm c
theorem c_heap0 (hC : ShC G n kd R) (x : Int32) (hx : rgl x 1 101 = none) : EX G mX9_heap [.ref (gz G + 0), .int x] (n, sz, kd, I, R, J) (some (.int (-1))) (n, sz, kd, I, R, J) := by
  refine mm_of rfl [(0, .ref (gz G + 0)), (1, .int x)] rfl (Nat.le_of_ble_eq_true rfl) ?_
  refine aw_iload_n dX9_heap_0 rfl rfl ?_
  refine aw_iconst (v := nI 1) dX9_heap_1 (by decide) ?_
  refine aw_icmp_lt (tgt := 11) dX9_heap_2 (by decide) (fun h => ?_) (fun h => ?_)
  · refine aw_iconst (v := (-1)) dX9_heap_11 (by decide) ?_
    refine aw_iret dX9_heap_12 rfl rfl ?_
    exact ⟨rfl, rfl⟩
  · refine aw_iload_n dX9_heap_5 rfl rfl ?_
    refine aw_bipush (v := nI 100) dX9_heap_6 (by decide) ?_
    refine aw_icmp_le (tgt := 13) dX9_heap_8 (by decide) (fun h2 => ?_) (fun h2 => ?_)
    · exfalso
      have h3 := (rgl_iff (x := x) (a := 1) (b := 100) (by decide) (by decide)).mp ⟨Int32.not_lt.mp h, h2⟩
      rw [hx] at h3
      cases h3
    · refine aw_iconst (v := (-1)) dX9_heap_11 (by decide) ?_
      refine aw_iret dX9_heap_12 rfl rfl ?_
      exact ⟨rfl, rfl⟩
theorem c_heap (hC : ShC G n kd R) {N : Nat} (hN : I 8 1 = nI N) (hW : LV G n kd R N) {m : Nat} (hm1 : 1 ≤ m) (hm2 : m ≤ 100) : EX G mX9_heap [.ref (gz G + 0), .int (nI m)] (n, sz, kd, I, R, J) (some (.int (oI (hpS (cUnN G I R J N) m 40).1))) (n, sz, kd, I, R, J) := by
  refine mm_of rfl [(0, .ref (gz G + 0)), (1, .int (nI m))] rfl (Nat.le_of_ble_eq_true rfl) ?_
  have hN1 := hW.1
  have hf : ∀ c, cUnN G I R J N c ≤ 100 := fun c => Nat.le_trans (cnt_le _ _) hN1
  refine aw_iload_n dX9_heap_0 rfl rfl ?_
  refine aw_iconst (v := nI 1) dX9_heap_1 (by decide) ?_
  refine aw_n_lt (tgt := 11) dX9_heap_2 (by decide) rfl rfl (by omega) (by omega) (fun h => ?_) (fun h => ?_)
  · exact absurd h (by omega)
  · refine aw_iload_n dX9_heap_5 rfl rfl ?_
    refine aw_bipush (v := nI 100) dX9_heap_6 (by decide) ?_
    refine aw_n_le (tgt := 13) dX9_heap_8 (by decide) rfl rfl (by omega) (by omega) (fun h2 => ?_) (fun h2 => ?_)
    · refine aw_iconst (v := (-1)) dX9_heap_13 (by decide) ?_
      refine aw_istore_n (lv' := [(0, _), (1, _), (2, _)]) dX9_heap_14 rfl (by decide) rfl ?_
      refine aw_iload_n dX9_heap_15 rfl rfl ?_
      refine aw_iconst (v := nI 1) dX9_heap_16 (by decide) ?_
      refine aw_isubN (by omega) dX9_heap_17 ?_
      refine aw_istore_n (lv' := [(0, _), (1, _), (2, _), (3, _)]) dX9_heap_18 rfl (by decide) rfl ?_
      refine aw_iconst (v := nI 0) dX9_heap_19 (by decide) ?_
      refine aw_istore (lv' := [(0, _), (1, _), (2, _), (3, _), (4, _)]) dX9_heap_20 (by decide) rfl ?_
      have loop : ∀ d i, i + d = 40 → ∀ lx, AW G mX9_heap 22 ([(0, .ref (gz G + 0)), (1, .int (nI m)), (2, .int (oI (hpS (cUnN G I R J N) m i).1)), (3, .int (nI (hpS (cUnN G I R J N) m i).2)), (4, .int (nI i))] ++ lx) [] (n, sz, kd, I, R, J) (fun v' M' => v' = some (.int (oI (hpS (cUnN G I R J N) m 40).1)) ∧ M' = (n, sz, kd, I, R, J)) := by
        intro d
        induction d with
        | zero =>
          intro i hi lx
          refine aw_app ?_
          refine aw_iload dX9_heap_22 rfl ?_
          refine aw_bipush (v := nI 40) dX9_heap_24 (by decide) ?_
          refine aw_n_ge (tgt := 58) dX9_heap_26 (by decide) rfl rfl (by omega) (by omega) (fun h3 => ?_) (fun h3 => ?_)
          · refine aw_iload_n dX9_heap_58 rfl rfl ?_
            refine aw_iret dX9_heap_59 rfl rfl ?_
            exact ⟨by rw [show i = 40 by omega], rfl⟩
          · exact absurd h3 (by omega)
        | succ d ih =>
          intro i hi lx
          refine aw_app ?_
          have ih' := ih (i + 1) (by omega) []
          have hb1 := hpS_le (m := m) hf (by omega) i
          have hb2 := hf i
          refine aw_iload dX9_heap_22 rfl ?_
          refine aw_bipush (v := nI 40) dX9_heap_24 (by decide) ?_
          refine aw_n_ge (tgt := 58) dX9_heap_26 (by decide) rfl rfl (by omega) (by omega) (fun h3 => ?_) (fun h3 => ?_)
          · exact absurd h3 (by omega)
          · refine aw_aload_n dX9_heap_29 rfl rfl (by first | exact isR_ref _ | exact isR_rf _ | exact isR_null) ?_
            refine aw_get dX9_heap_30 fl_X9_35 (sC_k0 hC) (sC_n0 hC) (sC_r_0_mail hC _ _) ?_
            refine aw_iload dX9_heap_33 rfl ?_
            refine aw_cVx (as := [_]) dX9_heap_35 lk_X9_215 cm_X3_unsortedPassing vi_X3_unsortedPassing (by unfold RO; decide) rfl (sC_k8 hC) (sC_n8 hC) rfl rfl rfl (Nat.le_of_ble_eq_true rfl) (c_unsortedPassing hC hN hW _) ?_
            refine aw_top (show _ = nI (cUnN G I R J N i) from rfl) ?_
            refine aw_istore (lv' := [(0, _), (1, _), (2, _), (3, _), (4, _), (5, _)]) dX9_heap_38 (by decide) rfl ?_
            refine aw_iload dX9_heap_40 rfl ?_
            refine aw_iload_n dX9_heap_42 rfl rfl ?_
            refine aw_n_le (tgt := 52) dX9_heap_43 (by decide) rfl rfl (by omega) (by omega) (fun h4 => ?_) (fun h4 => ?_)
            · first | refine aw_iincN (c := 1) (lv' := [(0, _), (1, _), (2, _), (3, _), (4, _), (5, _)]) dX9_heap_52 rfl (by decide) rfl rfl ?_ | refine aw_iinc (v := 1) (lv' := [(0, _), (1, _), (2, _), (3, _), (4, _), (5, _)]) dX9_heap_52 rfl (by decide) (by decide) rfl ?_
              refine aw_goto (tgt := 22) dX9_heap_55 (by decide) ?_
              rw [show hpS (cUnN G I R J N) m (i + 1) = hpS (cUnN G I R J N) m i by rw [hpS, if_neg (by omega)]] at ih'
              exact aw_app (lv := [_, _, _, _, _]) (ex := [_]) ih'
            · refine aw_iload dX9_heap_46 rfl ?_
              refine aw_istore_n (lv' := [(0, _), (1, _), (2, _), (3, _), (4, _), (5, _)]) dX9_heap_48 rfl (by decide) rfl ?_
              refine aw_iload dX9_heap_49 rfl ?_
              refine aw_istore_n (lv' := [(0, _), (1, _), (2, _), (3, _), (4, _), (5, _)]) dX9_heap_51 rfl (by decide) rfl ?_
              first | refine aw_iincN (c := 1) (lv' := [(0, _), (1, _), (2, _), (3, _), (4, _), (5, _)]) dX9_heap_52 rfl (by decide) rfl rfl ?_ | refine aw_iinc (v := 1) (lv' := [(0, _), (1, _), (2, _), (3, _), (4, _), (5, _)]) dX9_heap_52 rfl (by decide) (by decide) rfl ?_
              refine aw_goto (tgt := 22) dX9_heap_55 (by decide) ?_
              rw [show hpS (cUnN G I R J N) m (i + 1) = (some i, cUnN G I R J N i) by rw [hpS, if_pos (by omega)]] at ih'
              exact aw_app (lv := [_, _, _, _, _]) (ex := [_]) ih'
      exact loop 40 0 rfl []
    · exact absurd h2 (by omega)
theorem c_heaped (hC : ShC G n kd R) {N : Nat} (hN : I 8 1 = nI N) (hW : LV G n kd R N) (x : Int32) : EX G mX9_heaped [.ref (gz G + 0), .int x] (n, sz, kd, I, R, J) (some (.int (if (rgl x 0 40).isSome then nI (cnt (cUn G I R J x) N) else -1))) (n, sz, kd, I, R, J) := by
  refine mm_of rfl [(0, .ref (gz G + 0)), (1, .int x)] rfl (Nat.le_of_ble_eq_true rfl) ?_
  refine aw_iload_n dX9_heaped_0 rfl rfl ?_
  refine aw_bipush (v := nI 40) dX9_heaped_1 (by decide) ?_
  refine aw_cSx (as := [_, _]) dX9_heaped_3 lk_X9_85 cm_X9_isWithin sm_X9_isWithin (by unfold RO; decide) rfl rfl (Nat.le_of_ble_eq_true rfl) (c_isWithin _ (by decide) _) ?_
  refine aw_b_eq (tgt := 20) dX9_heaped_6 (by decide) rfl (fun h => ?_) (fun h => ?_)
  · refine aw_iconst (v := (-1)) dX9_heaped_20 (by decide) ?_
    refine aw_iret dX9_heaped_21 rfl rfl ?_
    rw [if_neg (by rw [h]; exact Bool.false_ne_true)]
    exact ⟨rfl, rfl⟩
  · refine aw_aload_n dX9_heaped_9 rfl rfl (by first | exact isR_ref _ | exact isR_rf _ | exact isR_null) ?_
    refine aw_get dX9_heaped_10 fl_X9_35 (sC_k0 hC) (sC_n0 hC) (sC_r_0_mail hC _ _) ?_
    refine aw_iload_n dX9_heaped_13 rfl rfl ?_
    refine aw_cVx (as := [_]) dX9_heaped_14 lk_X9_215 cm_X3_unsortedPassing vi_X3_unsortedPassing (by unfold RO; decide) rfl (sC_k8 hC) (sC_n8 hC) rfl rfl rfl (Nat.le_of_ble_eq_true rfl) (c_unsortedPassing hC hN hW _) ?_
    refine aw_goto (tgt := 21) dX9_heaped_17 (by decide) ?_
    refine aw_iret dX9_heaped_21 rfl rfl ?_
    rw [if_pos h]
    exact ⟨rfl, rfl⟩
def cFo (G : GG) (I : Nat → Nat → Int32) (o : Option Nat) : Int32 := match o with
  | none => nI 0
  | some a => I (a - gz G) 2
def cOt (G : GG) (kd : Nat → AKd) (I : Nat → Nat → Int32) (R : Nat → Nat → Option Nat) (J : Nat → Nat → Int64) (L i : Nat) : Bool := !decide (cFo G I (cFi G kd I R J L (rc G R 9 i)) = I (rc G R 9 i) 3)
theorem c_wouldGo (hC : ShC G n kd R) (hV : HV G n kd R) {L : Nat} (hL : I 5 2 = nI L) (hK : KV G n kd R L) {l : Nat} (hl : iO n kd l 3) : EX G mX9_wouldGoElsewhere [.ref (gz G + 0), .ref (gz G + l)] (n, sz, kd, I, R, J) (some (.int (bi (!decide (cFo G I (cFi G kd I R J L l) = I l 3))))) (n, sz, kd, I, R, J) := by
  refine mm_of rfl [(0, .ref (gz G + 0)), (1, .ref (gz G + l))] rfl (Nat.le_of_ble_eq_true rfl) ?_
  refine aw_aload_n dX9_wouldGoElsewhere_0 rfl rfl (by first | exact isR_ref _ | exact isR_rf _ | exact isR_null) ?_
  refine aw_get dX9_wouldGoElsewhere_1 fl_X9_28 (sC_k0 hC) (sC_n0 hC) (sC_r_0_row hC _ _) ?_
  refine aw_aload_n dX9_wouldGoElsewhere_4 rfl rfl (by first | exact isR_ref _ | exact isR_rf _ | exact isR_null) ?_
  refine aw_cVx (as := [_]) dX9_wouldGoElsewhere_5 lk_X9_98 cm_X5_firstThatFits vi_X5_firstThatFits (by unfold RO; decide) rfl (sC_k5 hC) (sC_n5 hC) rfl rfl rfl (Nat.le_of_ble_eq_true rfl) (c_firstThatFits hC hV hL hK hl) ?_
  have rest : ∀ (f : Int32) (ot : Value), f = cFo G I (cFi G kd I R J L l) → AW G mX9_wouldGoElsewhere 21 [(0, .ref (gz G + 0)), (1, .ref (gz G + l)), (2, va_rf (cFi G kd I R J L l))] [.int f] (n, sz, kd, I, R, J) (fun v' M' => v' = some (.int (bi (!decide (cFo G I (cFi G kd I R J L l) = I l 3)))) ∧ M' = (n, sz, kd, I, R, J)) := by
    intro f ot hf
    refine aw_lv (lv' := [(0, .ref (gz G + 0)), (1, .ref (gz G + l))]) (fun q hq => List.mem_append_left [(2, va_rf (cFi G kd I R J L l))] hq) ?_
    subst hf
    refine aw_istore_n (lv' := [(0, _), (1, _), (3, _)]) dX9_wouldGoElsewhere_21 rfl (by decide) rfl ?_
    refine aw_iload_n dX9_wouldGoElsewhere_22 rfl rfl ?_
    refine aw_aload_n dX9_wouldGoElsewhere_23 rfl rfl (by first | exact isR_ref _ | exact isR_rf _ | exact isR_null) ?_
    refine aw_get dX9_wouldGoElsewhere_24 fl_X9_209 hl.1 hl.2 rfl ?_
    refine aw_icmp_eq (tgt := 34) dX9_wouldGoElsewhere_27 (by decide) (fun h => ?_) (fun h => ?_)
    · refine aw_iconst (v := nI 0) dX9_wouldGoElsewhere_34 (by decide) ?_
      refine aw_iret dX9_wouldGoElsewhere_35 rfl rfl ?_
      rw [decide_eq_true h]
      exact ⟨rfl, rfl⟩
    · refine aw_iconst (v := nI 1) dX9_wouldGoElsewhere_30 (by decide) ?_
      refine aw_goto (tgt := 35) dX9_wouldGoElsewhere_31 (by decide) ?_
      refine aw_iret dX9_wouldGoElsewhere_35 rfl rfl ?_
      rw [decide_eq_false h]
      exact ⟨rfl, rfl⟩
  refine aw_astoreG_n (lv' := [(0, _), (1, _), (2, _)]) dX9_wouldGoElsewhere_8 rfl (by decide) rfl ?_
  refine aw_aload_n dX9_wouldGoElsewhere_9 rfl rfl (by first | exact isR_ref _ | exact isR_rf _ | exact isR_null) ?_
  refine aw_ifnonnull (tgt := 17) dX9_wouldGoElsewhere_10 (by decide) (fun a_h h => ?_) (fun h => ?_)
  · obtain ⟨r, rfl, hr, hs⟩ := cFi_ok hV hK h
    refine aw_aload_n dX9_wouldGoElsewhere_17 rfl rfl (by first | exact isR_ref _ | exact isR_rf _ | exact isR_null) ?_
    refine aw_st (st' := [.ref (gz G + r)]) (by rw [h]; rfl) ?_
    refine aw_get dX9_wouldGoElsewhere_18 fl_X9_173 hr.1 hr.2 rfl ?_
    exact rest _ .null (by rw [h]; unfold cFo; dsimp only; rw [gz_sub])
  · refine aw_iconst (v := nI 0) dX9_wouldGoElsewhere_13 (by decide) ?_
    refine aw_goto (tgt := 21) dX9_wouldGoElsewhere_14 (by decide) ?_
    exact rest _ .null (by rw [h]; rfl)
theorem c_again (hC : ShC G n kd R) (hV : HV G n kd R) {L : Nat} (hL : I 5 2 = nI L) (hK : KV G n kd R L) {N : Nat} (hN : I 8 1 = nI N) (hW : LV G n kd R N) : EX G mX9_again [.ref (gz G + 0)] (n, sz, kd, I, R, J) (some (.int (nI (cnt (cOt G kd I R J L) N)))) (n, sz, kd, I, R, J) := by
  refine mm_of rfl [(0, .ref (gz G + 0))] rfl (Nat.le_of_ble_eq_true rfl) ?_
  have hN1 := hW.1
  refine aw_iconst (v := nI 0) dX9_again_0 (by decide) ?_
  refine aw_istore_n (lv' := [(0, _), (1, _)]) dX9_again_1 rfl (by decide) rfl ?_
  refine aw_iconst (v := nI 0) dX9_again_2 (by decide) ?_
  refine aw_istore_n (lv' := [(0, _), (1, _), (2, _)]) dX9_again_3 rfl (by decide) rfl ?_
  have loop : ∀ d i, i + d = N → AW G mX9_again 4 [(0, .ref (gz G + 0)), (1, .int (nI (cnt (cOt G kd I R J L) i))), (2, .int (nI i))] [] (n, sz, kd, I, R, J) (fun v' M' => v' = some (.int (nI (cnt (cOt G kd I R J L) N))) ∧ M' = (n, sz, kd, I, R, J)) := by
    intro d
    induction d with
    | zero =>
      intro i hi
      refine aw_iload_n dX9_again_4 rfl rfl ?_
      refine aw_aload_n dX9_again_5 rfl rfl (by first | exact isR_ref _ | exact isR_rf _ | exact isR_null) ?_
      refine aw_get dX9_again_6 fl_X9_35 (sC_k0 hC) (sC_n0 hC) (sC_r_0_mail hC _ _) ?_
      refine aw_get dX9_again_9 fl_X9_90 (sC_k8 hC) (sC_n8 hC) (congrArg Value.int hN) ?_
      refine aw_n_ge (tgt := 40) dX9_again_12 (by decide) rfl rfl (by omega) (by omega) (fun h => ?_) (fun h => ?_)
      · refine aw_iload_n dX9_again_40 rfl rfl ?_
        refine aw_iret dX9_again_41 rfl rfl ?_
        exact ⟨by rw [show N = i by omega], rfl⟩
      · exact absurd h (by omega)
    | succ d ih =>
      intro i hi
      have hl := hW.2 i (by omega)
      refine aw_iload_n dX9_again_4 rfl rfl ?_
      refine aw_aload_n dX9_again_5 rfl rfl (by first | exact isR_ref _ | exact isR_rf _ | exact isR_null) ?_
      refine aw_get dX9_again_6 fl_X9_35 (sC_k0 hC) (sC_n0 hC) (sC_r_0_mail hC _ _) ?_
      refine aw_get dX9_again_9 fl_X9_90 (sC_k8 hC) (sC_n8 hC) (congrArg Value.int hN) ?_
      refine aw_n_ge (tgt := 40) dX9_again_12 (by decide) rfl rfl (by omega) (by omega) (fun h => ?_) (fun h => ?_)
      · exact absurd h (by omega)
      · refine aw_aload_n dX9_again_15 rfl rfl (by first | exact isR_ref _ | exact isR_rf _ | exact isR_null) ?_
        refine aw_aload_n dX9_again_16 rfl rfl (by first | exact isR_ref _ | exact isR_rf _ | exact isR_null) ?_
        refine aw_get dX9_again_17 fl_X9_35 (sC_k0 hC) (sC_n0 hC) (sC_r_0_mail hC _ _) ?_
        refine aw_get dX9_again_20 fl_X9_197 (sC_k8 hC) (sC_n8 hC) (sC_r_8_letters hC _ _) ?_
        refine aw_iload_n dX9_again_23 rfl rfl ?_
        refine aw_aaS dX9_again_24 (by decide) (sC_k9 hC) (sC_n9 hC) (ixm (by omega)) (hl).1 ?_
        refine aw_cVx (as := [_]) dX9_again_25 lk_X9_218 cm_X9_wouldGoElsewhere vi_X9_wouldGoElsewhere (by unfold RO; decide) rfl (sC_k0 hC) (sC_n0 hC) rfl rfl rfl (Nat.le_of_ble_eq_true rfl) (c_wouldGo hC hV hL hK hl.o) ?_
        refine aw_b_eq (tgt := 34) dX9_again_28 (by decide) rfl (fun h2 => ?_) (fun h2 => ?_)
        · first | refine aw_iincN (c := 1) (lv' := [(0, _), (1, _), (2, _)]) dX9_again_34 rfl (by decide) rfl rfl ?_ | refine aw_iinc (v := 1) (lv' := [(0, _), (1, _), (2, _)]) dX9_again_34 rfl (by decide) (by decide) rfl ?_
          refine aw_goto (tgt := 4) dX9_again_37 (by decide) ?_
          have k := ih (i + 1) (by omega)
          rw [cnt, show cOt G kd I R J L i = false from h2] at k
          exact k
        · first | refine aw_iincN (c := 1) (lv' := [(0, _), (1, _), (2, _)]) dX9_again_31 rfl (by decide) rfl rfl ?_ | refine aw_iinc (v := 1) (lv' := [(0, _), (1, _), (2, _)]) dX9_again_31 rfl (by decide) (by decide) rfl ?_
          first | refine aw_iincN (c := 1) (lv' := [(0, _), (1, _), (2, _)]) dX9_again_34 rfl (by decide) rfl rfl ?_ | refine aw_iinc (v := 1) (lv' := [(0, _), (1, _), (2, _)]) dX9_again_34 rfl (by decide) (by decide) rfl ?_
          refine aw_goto (tgt := 4) dX9_again_37 (by decide) ?_
          have k := ih (i + 1) (by omega)
          rw [cnt, show cOt G kd I R J L i = true from h2] at k
          exact k
  exact loop _ 0 (Nat.zero_add _)
def cDiffers (G : GG) (kd : Nat → AKd) (I : Nat → Nat → Int32) (R : Nat → Nat → Option Nat) (J : Nat → Nat → Int64) (L N : Nat) (x : Int32) : Int32 := match rgl x 0 (2 ^ 31) with
  | none => -1
  | some p => oI (kth (cOt G kd I R J L) p N)
theorem c_differs (hC : ShC G n kd R) (hV : HV G n kd R) {L : Nat} (hL : I 5 2 = nI L) (hK : KV G n kd R L) {N : Nat} (hN : I 8 1 = nI N) (hW : LV G n kd R N) (x : Int32) : EX G mX9_differs [.ref (gz G + 0), .int x] (n, sz, kd, I, R, J) (some (.int (cDiffers G kd I R J L N x))) (n, sz, kd, I, R, J) := by
  refine mm_of rfl [(0, .ref (gz G + 0)), (1, .int x)] rfl (Nat.le_of_ble_eq_true rfl) ?_
  have hN1 := hW.1
  refine aw_iconst (v := nI 0) dX9_differs_0 (by decide) ?_
  refine aw_istore_n (lv' := [(0, _), (1, _), (2, _)]) dX9_differs_1 rfl (by decide) rfl ?_
  refine aw_iconst (v := nI 0) dX9_differs_2 (by decide) ?_
  refine aw_istore_n (lv' := [(0, _), (1, _), (2, _), (3, _)]) dX9_differs_3 rfl (by decide) rfl ?_
  have loop : ∀ d i, i + d = N → (∀ p, x = nI p → p < 2 ^ 31 → kth (cOt G kd I R J L) p i = none) → AW G mX9_differs 4 [(0, .ref (gz G + 0)), (1, .int x), (2, .int (nI (cnt (cOt G kd I R J L) i))), (3, .int (nI i))] [] (n, sz, kd, I, R, J) (fun v' M' => v' = some (.int (cDiffers G kd I R J L N x)) ∧ M' = (n, sz, kd, I, R, J)) := by
    intro d
    induction d with
    | zero =>
      intro i hi hk
      refine aw_iload_n dX9_differs_4 rfl rfl ?_
      refine aw_aload_n dX9_differs_5 rfl rfl (by first | exact isR_ref _ | exact isR_rf _ | exact isR_null) ?_
      refine aw_get dX9_differs_6 fl_X9_35 (sC_k0 hC) (sC_n0 hC) (sC_r_0_mail hC _ _) ?_
      refine aw_get dX9_differs_9 fl_X9_90 (sC_k8 hC) (sC_n8 hC) (congrArg Value.int hN) ?_
      refine aw_n_ge (tgt := 47) dX9_differs_12 (by decide) rfl rfl (by omega) (by omega) (fun h => ?_) (fun h => ?_)
      · refine aw_iconst (v := (-1)) dX9_differs_47 (by decide) ?_
        refine aw_iret dX9_differs_48 rfl rfl ?_
        refine ⟨?_, rfl⟩
        unfold cDiffers
        cases e : rgl x 0 (2 ^ 31) with
        | none => rfl
        | some p =>
          obtain ⟨h1, -, h2⟩ := rgl_some e
          show _ = some (Value.int (oI (kth (cOt G kd I R J L) p N)))
          rw [show N = i by omega, hk p h1 h2]
          rfl
      · exact absurd h (by omega)
    | succ d ih =>
      intro i hi hk
      have hci := cnt_le (cOt G kd I R J L) i
      have hl := hW.2 i (by omega)
      refine aw_iload_n dX9_differs_4 rfl rfl ?_
      refine aw_aload_n dX9_differs_5 rfl rfl (by first | exact isR_ref _ | exact isR_rf _ | exact isR_null) ?_
      refine aw_get dX9_differs_6 fl_X9_35 (sC_k0 hC) (sC_n0 hC) (sC_r_0_mail hC _ _) ?_
      refine aw_get dX9_differs_9 fl_X9_90 (sC_k8 hC) (sC_n8 hC) (congrArg Value.int hN) ?_
      refine aw_n_ge (tgt := 47) dX9_differs_12 (by decide) rfl rfl (by omega) (by omega) (fun h => ?_) (fun h => ?_)
      · exact absurd h (by omega)
      · refine aw_aload_n dX9_differs_15 rfl rfl (by first | exact isR_ref _ | exact isR_rf _ | exact isR_null) ?_
        refine aw_aload_n dX9_differs_16 rfl rfl (by first | exact isR_ref _ | exact isR_rf _ | exact isR_null) ?_
        refine aw_get dX9_differs_17 fl_X9_35 (sC_k0 hC) (sC_n0 hC) (sC_r_0_mail hC _ _) ?_
        refine aw_get dX9_differs_20 fl_X9_197 (sC_k8 hC) (sC_n8 hC) (sC_r_8_letters hC _ _) ?_
        refine aw_iload_n dX9_differs_23 rfl rfl ?_
        refine aw_aaS dX9_differs_24 (by decide) (sC_k9 hC) (sC_n9 hC) (ixm (by omega)) (hl).1 ?_
        refine aw_cVx (as := [_]) dX9_differs_25 lk_X9_218 cm_X9_wouldGoElsewhere vi_X9_wouldGoElsewhere (by unfold RO; decide) rfl (sC_k0 hC) (sC_n0 hC) rfl rfl rfl (Nat.le_of_ble_eq_true rfl) (c_wouldGo hC hV hL hK hl.o) ?_
        refine aw_b_eq (tgt := 41) dX9_differs_28 (by decide) rfl (fun h2 => ?_) (fun h2 => ?_)
        · have h2 : cOt G kd I R J L i = false := h2
          first | refine aw_iincN (c := 1) (lv' := [(0, _), (1, _), (2, _), (3, _)]) dX9_differs_41 rfl (by decide) rfl rfl ?_ | refine aw_iinc (v := 1) (lv' := [(0, _), (1, _), (2, _), (3, _)]) dX9_differs_41 rfl (by decide) (by decide) rfl ?_
          refine aw_goto (tgt := 4) dX9_differs_44 (by decide) ?_
          have ih' := ih (i + 1) (by omega) (fun p hp hp2 => by rw [kth, hk p hp hp2]; simp [h2])
          rw [cnt, h2] at ih'
          exact ih'
        · have h2 : cOt G kd I R J L i = true := h2
          refine aw_iload_n dX9_differs_31 rfl rfl ?_
          refine aw_iload_n dX9_differs_32 rfl rfl ?_
          refine aw_icmp_ne (tgt := 38) dX9_differs_33 (by decide) (fun h3 => ?_) (fun h3 => ?_)
          · first | refine aw_iincN (c := 1) (lv' := [(0, _), (1, _), (2, _), (3, _)]) dX9_differs_38 rfl (by decide) rfl rfl ?_ | refine aw_iinc (v := 1) (lv' := [(0, _), (1, _), (2, _), (3, _)]) dX9_differs_38 rfl (by decide) (by decide) rfl ?_
            first | refine aw_iincN (c := 1) (lv' := [(0, _), (1, _), (2, _), (3, _)]) dX9_differs_41 rfl (by decide) rfl rfl ?_ | refine aw_iinc (v := 1) (lv' := [(0, _), (1, _), (2, _), (3, _)]) dX9_differs_41 rfl (by decide) (by decide) rfl ?_
            refine aw_goto (tgt := 4) dX9_differs_44 (by decide) ?_
            have ih' := ih (i + 1) (by omega) (fun p hp hp2 => by
              rw [kth, hk p hp hp2]
              have : cnt (cOt G kd I R J L) i ≠ p := fun z => h3 (by rw [z, hp])
              simp [this])
            rw [cnt, h2] at ih'
            exact ih'
          · refine aw_iload_n dX9_differs_36 rfl rfl ?_
            refine aw_iret dX9_differs_37 rfl rfl ?_
            refine ⟨?_, rfl⟩
            have e : kth (cOt G kd I R J L) (cnt (cOt G kd I R J L) i) (i + 1) = some i := by rw [kth, hk _ h3.symm (by omega)]; simp [h2]
            have e2 := kth_stay e d
            rw [show i + 1 + d = N by omega] at e2
            unfold cDiffers
            rw [← h3, rgl_nI (Nat.zero_le _) (by omega) (by omega)]
            show _ = some (Value.int (oI (kth (cOt G kd I R J L) (cnt (cOt G kd I R J L) i) N)))
            rw [e2]
            rfl
  exact loop _ 0 (Nat.zero_add _) (fun p _ _ => rfl)
def cCountJ (I : Nat → Nat → Int32) (R : Nat → Nat → Option Nat) (j : Nat) : Int32 := match j with
  | 0 => I 8 1
  | 1 => nI (cnt (thC R) 10)
  | 2 => I 5 2
  | 3 => I 10 3
  | 4 => I 1 1
  | _ => I 17 2
def cCount (G : GG) (I : Nat → Nat → Int32) (R : Nat → Nat → Option Nat) (N : Nat) (x : Int32) : Int32 := match rgl x 0 6 with
  | some j => cCountJ I R j
  | none => if (rgl (x - nI 20) 0 8).isSome then nI (cnt (cLy G I R (x - nI 20)) N) else -1
theorem c_count (hC : ShC G n kd R) {N : Nat} (hN : I 8 1 = nI N) (hW : LV G n kd R N) (x : Int32) : EX G mX9_count [.ref (gz G + 0), .int x] (n, sz, kd, I, R, J) (some (.int (cCount G I R N x))) (n, sz, kd, I, R, J) := by
  refine mm_of rfl [(0, .ref (gz G + 0)), (1, .int x)] rfl (Nat.le_of_ble_eq_true rfl) ?_
  refine aw_iload_n dX9_count_0 rfl rfl ?_
  refine aw_ts (N := 6) (tgd := 91) (tg := fun j => match j with | 0 => 40 | 1 => 48 | 2 => 56 | 3 => 64 | 4 => 72 | _ => 80) dX9_count_1 (by decide) (by decide) (by decide) (fun hs => ?_) (fun hsj hs => ?_)
  · have ea : cCount G I R N x = if (rgl (x - nI 20) 0 8).isSome then nI (cnt (cLy G I R (x - nI 20)) N) else -1 := by unfold cCount; rw [hs]
    rw [ea]
    refine aw_iload_n dX9_count_91 rfl rfl ?_
    refine aw_bipush (v := nI 20) dX9_count_92 (by decide) ?_
    refine aw_isub dX9_count_94 ?_
    refine aw_bipush (v := nI 8) dX9_count_95 (by decide) ?_
    refine aw_cSx (as := [_, _]) dX9_count_97 lk_X9_85 cm_X9_isWithin sm_X9_isWithin (by unfold RO; decide) rfl rfl (Nat.le_of_ble_eq_true rfl) (c_isWithin _ (by decide) _) ?_
    refine aw_b_eq (tgt := 117) dX9_count_100 (by decide) rfl (fun h => ?_) (fun h => ?_)
    · refine aw_iconst (v := (-1)) dX9_count_117 (by decide) ?_
      refine aw_iret dX9_count_118 rfl rfl ?_
      rw [if_neg (by rw [h]; exact Bool.false_ne_true)]
      exact ⟨rfl, rfl⟩
    · refine aw_aload_n dX9_count_103 rfl rfl (by first | exact isR_ref _ | exact isR_rf _ | exact isR_null) ?_
      refine aw_get dX9_count_104 fl_X9_35 (sC_k0 hC) (sC_n0 hC) (sC_r_0_mail hC _ _) ?_
      refine aw_iload_n dX9_count_107 rfl rfl ?_
      refine aw_bipush (v := nI 20) dX9_count_108 (by decide) ?_
      refine aw_isub dX9_count_110 ?_
      refine aw_cVx (as := [_]) dX9_count_111 lk_X9_232 cm_X3_lyingIn vi_X3_lyingIn (by unfold RO; decide) rfl (sC_k8 hC) (sC_n8 hC) rfl rfl rfl (Nat.le_of_ble_eq_true rfl) (c_lyingIn hC hN hW _) ?_
      refine aw_goto (tgt := 118) dX9_count_114 (by decide) ?_
      refine aw_iret dX9_count_118 rfl rfl ?_
      rw [if_pos h]
      exact ⟨rfl, rfl⟩
  · obtain ⟨-, -, hj⟩ := rgl_some hs
    have ea : cCount G I R N x = cCountJ I R hsj := by unfold cCount; rw [hs]
    rw [ea]
    match hsj, hj with
    | 0, _ =>
      refine aw_aload_n dX9_count_40 rfl rfl (by first | exact isR_ref _ | exact isR_rf _ | exact isR_null) ?_
      refine aw_get dX9_count_41 fl_X9_35 (sC_k0 hC) (sC_n0 hC) (sC_r_0_mail hC _ _) ?_
      refine aw_get dX9_count_44 fl_X9_90 (sC_k8 hC) (sC_n8 hC) rfl ?_
      refine aw_iret dX9_count_47 rfl rfl ?_
      exact ⟨rfl, rfl⟩
    | 1, _ =>
      refine aw_aload_n dX9_count_48 rfl rfl (by first | exact isR_ref _ | exact isR_rf _ | exact isR_null) ?_
      refine aw_get dX9_count_49 fl_X9_28 (sC_k0 hC) (sC_n0 hC) (sC_r_0_row hC _ _) ?_
      refine aw_cVx (as := []) dX9_count_52 lk_X9_221 cm_X5_handSize vi_X5_handSize (by unfold RO; decide) rfl (sC_k5 hC) (sC_n5 hC) rfl rfl rfl (Nat.le_of_ble_eq_true rfl) (c_handSize hC) ?_
      refine aw_iret dX9_count_55 rfl rfl ?_
      exact ⟨rfl, rfl⟩
    | 2, _ =>
      refine aw_aload_n dX9_count_56 rfl rfl (by first | exact isR_ref _ | exact isR_rf _ | exact isR_null) ?_
      refine aw_get dX9_count_57 fl_X9_28 (sC_k0 hC) (sC_n0 hC) (sC_r_0_row hC _ _) ?_
      refine aw_get dX9_count_60 fl_X9_137 (sC_k5 hC) (sC_n5 hC) rfl ?_
      refine aw_iret dX9_count_63 rfl rfl ?_
      exact ⟨rfl, rfl⟩
    | 3, _ =>
      refine aw_aload_n dX9_count_64 rfl rfl (by first | exact isR_ref _ | exact isR_rf _ | exact isR_null) ?_
      refine aw_get dX9_count_65 fl_X9_42 (sC_k0 hC) (sC_n0 hC) (sC_r_0_moves hC _ _) ?_
      refine aw_get dX9_count_68 fl_X9_114 (sC_k10 hC) (sC_n10 hC) rfl ?_
      refine aw_iret dX9_count_71 rfl rfl ?_
      exact ⟨rfl, rfl⟩
    | 4, _ =>
      refine aw_aload_n dX9_count_72 rfl rfl (by first | exact isR_ref _ | exact isR_rf _ | exact isR_null) ?_
      refine aw_get dX9_count_73 fl_X9_10 (sC_k0 hC) (sC_n0 hC) (sC_r_0_tape hC _ _) ?_
      refine aw_get dX9_count_76 fl_X9_62 (sC_k1 hC) (sC_n1 hC) rfl ?_
      refine aw_iret dX9_count_79 rfl rfl ?_
      exact ⟨rfl, rfl⟩
    | 5, _ =>
      refine aw_aload_n dX9_count_80 rfl rfl (by first | exact isR_ref _ | exact isR_rf _ | exact isR_null) ?_
      refine aw_get dX9_count_81 fl_X9_58 (sC_k0 hC) (sC_n0 hC) (sC_r_0_learner hC _ _) ?_
      refine aw_get dX9_count_84 fl_X9_224 (sC_k16 hC) (sC_n16 hC) (sC_r_16_known hC _ _) ?_
      refine aw_cVx (as := []) dX9_count_87 lk_X9_228 cm_Jx4a65c_size_8abf5 vi_Jx4a65c_size_8abf5 (by unfold RO; decide) rfl (sC_k17 hC) (sC_n17 hC) rfl rfl rfl (Nat.le_of_ble_eq_true rfl) (c_lsize hC) ?_
      refine aw_iret dX9_count_90 rfl rfl ?_
      exact ⟨rfl, rfl⟩
def cFad (G : GG) (I : Nat → Nat → Int32) (R : Nat → Nat → Option Nat) (N m r : Nat) : Bool := decide (oI (lstF (cSo G R (some (gz G + r))) N) < nI (N - m)) || decide (cnt (cRi G I R r) N < cnt (cWr G I R r) N)
theorem max0 {N m : Nat} (hN : N ≤ 100) (hm : m ≤ 100) : (if nI 0 < nI N - nI m then nI N - nI m else nI 0) = nI (N - m) := by
  by_cases h : m ≤ N
  · rw [pk_sub h]
    by_cases h0 : N - m = 0
    · rw [h0, if_neg (by decide)]
    · rw [if_pos (nI_lt (by omega) (by omega))]
  · have h1 := pk_sneg (a := N) (b := m) (by omega) (by omega)
    have h2 : ¬ nI 0 < nI N - nI m := by
      rw [nI_0]
      rw [Int32.lt_iff_toInt_lt] at h1 ⊢
      omega
    rw [if_neg h2, show N - m = 0 by omega]
theorem c_isFading (hC : ShC G n kd R) {N : Nat} (hN : I 8 1 = nI N) (hW : LV G n kd R N) {r : Nat} (hr : iO n kd r 7) {m : Nat} (hm : m ≤ 100) : EX G mX9_isFading [.ref (gz G + 0), .ref (gz G + r), .int (nI m)] (n, sz, kd, I, R, J) (some (.int (bi (cFad G I R N m r)))) (n, sz, kd, I, R, J) := by
  refine mm_of rfl [(0, .ref (gz G + 0)), (1, .ref (gz G + r)), (2, .int (nI m))] rfl (Nat.le_of_ble_eq_true rfl) ?_
  have hN1 := hW.1
  refine aw_iconst (v := nI 0) dX9_isFading_0 (by decide) ?_
  refine aw_aload_n dX9_isFading_1 rfl rfl (by first | exact isR_ref _ | exact isR_rf _ | exact isR_null) ?_
  refine aw_get dX9_isFading_2 fl_X9_35 (sC_k0 hC) (sC_n0 hC) (sC_r_0_mail hC _ _) ?_
  refine aw_get dX9_isFading_5 fl_X9_90 (sC_k8 hC) (sC_n8 hC) (congrArg Value.int hN) ?_
  refine aw_iload_n dX9_isFading_8 rfl rfl ?_
  refine aw_isub dX9_isFading_9 ?_
  refine aw_mmax dX9_isFading_10 mx_X9 (by decide) (by decide) ?_
  refine aw_top (max0 hN1 hm) ?_
  refine aw_istore_n (lv' := [(0, _), (1, _), (2, _), (3, _)]) dX9_isFading_13 rfl (by decide) rfl ?_
  refine aw_aload_n dX9_isFading_14 rfl rfl (by first | exact isR_ref _ | exact isR_rf _ | exact isR_null) ?_
  refine aw_get dX9_isFading_15 fl_X9_35 (sC_k0 hC) (sC_n0 hC) (sC_r_0_mail hC _ _) ?_
  refine aw_aload_n dX9_isFading_18 rfl rfl (by first | exact isR_ref _ | exact isR_rf _ | exact isR_null) ?_
  refine aw_cVx (as := [_]) dX9_isFading_19 lk_X9_194 cm_X3_lastBy vi_X3_lastBy (by unfold RO; decide) rfl (sC_k8 hC) (sC_n8 hC) rfl rfl rfl (Nat.le_of_ble_eq_true rfl) (c_lastBy hC hN hW hr) ?_
  refine aw_iload_n dX9_isFading_22 rfl rfl ?_
  refine aw_icmp_lt (tgt := 45) dX9_isFading_23 (by decide) (fun h => ?_) (fun h => ?_)
  · refine aw_iconst (v := nI 1) dX9_isFading_45 (by decide) ?_
    refine aw_goto (tgt := 50) dX9_isFading_46 (by decide) ?_
    refine aw_iret dX9_isFading_50 rfl rfl ?_
    unfold cFad
    rw [decide_eq_true h]
    exact ⟨rfl, rfl⟩
  · refine aw_aload_n dX9_isFading_26 rfl rfl (by first | exact isR_ref _ | exact isR_rf _ | exact isR_null) ?_
    refine aw_get dX9_isFading_27 fl_X9_35 (sC_k0 hC) (sC_n0 hC) (sC_r_0_mail hC _ _) ?_
    refine aw_aload_n dX9_isFading_30 rfl rfl (by first | exact isR_ref _ | exact isR_rf _ | exact isR_null) ?_
    refine aw_cVx (as := [_]) dX9_isFading_31 lk_X9_191 cm_X3_wrongBy vi_X3_wrongBy (by unfold RO; decide) rfl (sC_k8 hC) (sC_n8 hC) rfl rfl rfl (Nat.le_of_ble_eq_true rfl) (c_wrongBy hC hN hW hr) ?_
    refine aw_aload_n dX9_isFading_34 rfl rfl (by first | exact isR_ref _ | exact isR_rf _ | exact isR_null) ?_
    refine aw_get dX9_isFading_35 fl_X9_35 (sC_k0 hC) (sC_n0 hC) (sC_r_0_mail hC _ _) ?_
    refine aw_aload_n dX9_isFading_38 rfl rfl (by first | exact isR_ref _ | exact isR_rf _ | exact isR_null) ?_
    refine aw_cVx (as := [_]) dX9_isFading_39 lk_X9_188 cm_X3_rightBy vi_X3_rightBy (by unfold RO; decide) rfl (sC_k8 hC) (sC_n8 hC) rfl rfl rfl (Nat.le_of_ble_eq_true rfl) (c_rightBy hC hN hW hr) ?_
    have hw := cnt_le (cWr G I R r) N
    have hri := cnt_le (cRi G I R r) N
    refine aw_n_le (tgt := 49) dX9_isFading_42 (by decide) rfl rfl (by omega) (by omega) (fun h2 => ?_) (fun h2 => ?_)
    · refine aw_iconst (v := nI 0) dX9_isFading_49 (by decide) ?_
      refine aw_iret dX9_isFading_50 rfl rfl ?_
      unfold cFad
      rw [decide_eq_false h, decide_eq_false (by omega)]
      exact ⟨rfl, rfl⟩
    · refine aw_iconst (v := nI 1) dX9_isFading_45 (by decide) ?_
      refine aw_goto (tgt := 50) dX9_isFading_46 (by decide) ?_
      refine aw_iret dX9_isFading_50 rfl rfl ?_
      unfold cFad
      rw [decide_eq_false h, decide_eq_true (by omega)]
      exact ⟨rfl, rfl⟩
end CLS6
