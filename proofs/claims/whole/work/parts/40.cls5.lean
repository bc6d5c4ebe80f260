section CLS5
variable {G : GG} {n sz : Nat} {kd : Nat → AKd} {I : Nat → Nat → Int32} {R : Nat → Nat → Option Nat} {J : Nat → Nat → Int64}
theorem mx_co : Cond.code Lib.Math.max.name Lib.Math.max.code 2 (some .int) ∈ lw_tbl := List.mem_of_getElem? (i := 682) (by decide +kernel)
theorem mn_co : Cond.code Lib.Math.min.name Lib.Math.min.code 2 (some .int) ∈ lw_tbl := List.mem_of_getElem? (i := 446) (by decide +kernel)
theorem mx_st : Cond.static Lib.Math.max.name ∈ lw_tbl := List.mem_of_getElem? (i := 681) (by decide +kernel)
theorem mn_st : Cond.static Lib.Math.min.name ∈ lw_tbl := List.mem_of_getElem? (i := 445) (by decide +kernel)
theorem ma_in : Cond.initialized "java/lang/Math" ∈ lw_tbl := List.mem_of_getElem? (i := 69) (by decide +kernel)
theorem mx_X9 : Cond.methodLink RX9 235 Lib.Math.max.name ∈ lw_tbl := List.mem_of_getElem? (i := 740) (by decide +kernel)
theorem mx_L : Cond.methodLink RJx4a65c 79 Lib.Math.max.name ∈ lw_tbl := List.mem_of_getElem? (i := 714) (by decide +kernel)
theorem mx_J8 : Cond.methodLink RJ8 194 Lib.Math.max.name ∈ lw_tbl := List.mem_of_getElem? (i := 680) (by decide +kernel)
theorem mn_J7 : Cond.methodLink RJ7 304 Lib.Math.min.name ∈ lw_tbl := List.mem_of_getElem? (i := 712) (by decide +kernel)
theorem mn_X1 : Cond.methodLink RX1 151 Lib.Math.min.name ∈ lw_tbl := List.mem_of_getElem? (i := 630) (by decide +kernel)
theorem mn_X7 : Cond.methodLink RX7 114 Lib.Math.min.name ∈ lw_tbl := List.mem_of_getElem? (i := 444) (by decide +kernel)
theorem aw_mmax {y : MI} {pc : Nat} {lv : List (Nat × Value)} {st : List Value} {M : Mem} {Q : Option Value → Mem → Prop} {idx : Nat} {x z : Int32} (hd : decode y.2.1 pc = .ok (.invokestatic idx, 3)) (hlk : Cond.methodLink y.1.cls idx Lib.Math.max.name ∈ lw_tbl) (hfr : 1 ≤ y.2.2.2.2.1) (hlo : (st.map fun v => v.category).sum + 13 ≤ y.2.2.2.2.2) (K : AW G y (pc + 3) lv (.int (if x < z then z else x) :: st) M Q) : AW G y pc lv (.int z :: .int x :: st) M Q := by
  intro M0 p e s m args below meth c C H locs ls hR hS hl T hT X
  obtain ⟨hx, hb, hret, hml, hown, hlocks, hname, hK, h0⟩ := id C
  obtain ⟨hg1, hg2⟩ := zz_ge (G := G) X (by rw [hT]; exact hR) h0
  have hc := zz_fits hR h0 hg1 hg2
  exact va_mmax hx hb (by rw [hml]; exact hl.1.symm) hown (hK.2.2.1 _ hlk rfl args) (hK.2.2.1 _ mx_st rfl args) (hK.2.2.1 _ ma_in rfl args) (hK.2.2.1 _ mx_co rfl args) hfr hlo (Nat.le_trans (Nat.le_add_right _ _) hc.1) (Nat.le_trans (Nat.le_add_right _ _) hc.2) hd (K M0 p e s m args below meth c C H locs ls hR hS hl) T hT X
theorem aw_mmin {y : MI} {pc : Nat} {lv : List (Nat × Value)} {st : List Value} {M : Mem} {Q : Option Value → Mem → Prop} {idx : Nat} {x z : Int32} (hd : decode y.2.1 pc = .ok (.invokestatic idx, 3)) (hlk : Cond.methodLink y.1.cls idx Lib.Math.min.name ∈ lw_tbl) (hfr : 1 ≤ y.2.2.2.2.1) (hlo : (st.map fun v => v.category).sum + 13 ≤ y.2.2.2.2.2) (K : AW G y (pc + 3) lv (.int (if z < x then z else x) :: st) M Q) : AW G y pc lv (.int z :: .int x :: st) M Q := by
  intro M0 p e s m args below meth c C H locs ls hR hS hl T hT X
  obtain ⟨hx, hb, hret, hml, hown, hlocks, hname, hK, h0⟩ := id C
  obtain ⟨hg1, hg2⟩ := zz_ge (G := G) X (by rw [hT]; exact hR) h0
  have hc := zz_fits hR h0 hg1 hg2
  exact va_mmin hx hb (by rw [hml]; exact hl.1.symm) hown (hK.2.2.1 _ hlk rfl args) (hK.2.2.1 _ mn_st rfl args) (hK.2.2.1 _ ma_in rfl args) (hK.2.2.1 _ mn_co rfl args) hfr hlo (Nat.le_trans (Nat.le_add_right _ _) hc.1) (Nat.le_trans (Nat.le_add_right _ _) hc.2) hd (K M0 p e s m args below meth c C H locs ls hR hS hl) T hT X
theorem c_lsize (hC : ShC G n kd R) : EX G mJx4a65c_size_8abf5 [.ref (gz G + 17)] (n, sz, kd, I, R, J) (some (.int (I 17 2))) (n, sz, kd, I, R, J) := by
  refine mm_of rfl [(0, .ref (gz G + 17))] rfl (Nat.le_of_ble_eq_true rfl) ?_
  refine aw_aload_n dJx4a65c_size_8abf5_0 rfl rfl (by first | exact isR_ref _ | exact isR_rf _ | exact isR_null) ?_
  refine aw_get dJx4a65c_size_8abf5_1 fl_Jx4a65c_48 (sC_k17 hC) (sC_n17 hC) rfl ?_
  refine aw_iret dJx4a65c_size_8abf5_4 rfl rfl ?_
  exact ⟨rfl, rfl⟩
theorem gz_sub (r : Nat) : gz G + r - gz G = r := by omega
theorem isC_ex {a i b : Nat} (h : RuC G n kd R a i) (e : R a i = some b) : ∃ r, b = gz G + r ∧ iO n kd r 7 ∧ RuS G n kd R r := by
  have h1 := h.1.1
  rw [e] at h1
  exact ⟨_, Option.some.inj h1, h.1.o, h.2⟩
theorem cGet_ok (hV : HV G n kd R) {L : Nat} (hK : KV G n kd R L) {x : Int32} {a : Nat} (e : cGet R L x = some a) : ∃ r, a = gz G + r ∧ iO n kd r 7 ∧ RuS G n kd R r := by
  unfold cGet at e
  split at e
  · cases e
  · split at e
    · rename_i h hk
      exact isC_ex (hv_s hV (kth_some hk).1 e) e
    · split at e
      · rename_i hl
        exact isC_ex (hK.2 _ hl) e
      · cases e
theorem cFi_ok (hV : HV G n kd R) {L : Nat} (hK : KV G n kd R L) {l a : Nat} (e : cFi G kd I R J L l = some a) : ∃ r, a = gz G + r ∧ iO n kd r 7 ∧ RuS G n kd R r := by
  unfold cFi at e
  split at e
  · rename_i h hk
    exact isC_ex (hv_s hV (fstF_some hk).1 e) e
  · split at e
    · rename_i j hj
      exact isC_ex (hK.2 _ (fstF_some hj).1) e
    · cases e
def cRuleR (G : GG) (kd : Nat → AKd) (I : Nat → Nat → Int32) (R : Nat → Nat → Option Nat) (r : Nat) (w : Int32) : Int32 := match rgl w 0 3 with
  | some 0 => I r 0
  | some 1 => I r 2
  | some _ => nI (cM G kd R r)
  | none => cAt G kd I R r (w - nI 10)
def cRule (G : GG) (kd : Nat → AKd) (I : Nat → Nat → Int32) (R : Nat → Nat → Option Nat) (L : Nat) (x w : Int32) : Int32 := match cGet R L x with
  | none => -1
  | some a => cRuleR G kd I R (a - gz G) w
theorem c_rule (hC : ShC G n kd R) (hV : HV G n kd R) {L : Nat} (hL : I 5 2 = nI L) (hK : KV G n kd R L) (x w : Int32) : EX G mX9_rule [.ref (gz G + 0), .int x, .int w] (n, sz, kd, I, R, J) (some (.int (cRule G kd I R L x w))) (n, sz, kd, I, R, J) := by
  refine mm_of rfl [(0, .ref (gz G + 0)), (1, .int x), (2, .int w)] rfl (Nat.le_of_ble_eq_true rfl) ?_
  refine aw_aload_n dX9_rule_0 rfl rfl (by first | exact isR_ref _ | exact isR_rf _ | exact isR_null) ?_
  refine aw_get dX9_rule_1 fl_X9_28 (sC_k0 hC) (sC_n0 hC) (sC_r_0_row hC _ _) ?_
  refine aw_iload_n dX9_rule_4 rfl rfl ?_
  refine aw_cVx (as := [_]) dX9_rule_5 lk_X9_166 cm_X5_get vi_X5_get (by unfold RO; decide) rfl (sC_k5 hC) (sC_n5 hC) rfl rfl rfl (Nat.le_of_ble_eq_true rfl) (c_get hC hL hK.1 _) ?_
  unfold cRule
  cases hg : cGet R L x with
  | none =>
    refine aw_st (st' := [.null]) rfl ?_
    refine aw_astoreN_n (lv' := [(0, _), (1, _), (2, _), (3, _)]) dX9_rule_8 rfl (by decide) rfl ?_
    refine aw_aload_n dX9_rule_9 rfl rfl (by first | exact isR_ref _ | exact isR_rf _ | exact isR_null) ?_
    refine aw_st (st' := [va_rf none]) rfl ?_
    refine aw_ifnonnull (tgt := 15) dX9_rule_10 (by decide) (fun a_h h => ?_) (fun h => ?_)
    · cases h
    · refine aw_iconst (v := (-1)) dX9_rule_13 (by decide) ?_
      refine aw_iret dX9_rule_14 rfl rfl ?_
      exact ⟨rfl, rfl⟩
  | some a =>
    obtain ⟨r, rfl, hr, hs⟩ := cGet_ok hV hK hg
    dsimp only
    rw [gz_sub]
    refine aw_st (st' := [.ref (gz G + r)]) rfl ?_
    refine aw_astore_n (lv' := [(0, _), (1, _), (2, _), (3, _)]) dX9_rule_8 rfl (by decide) rfl ?_
    refine aw_aload_n dX9_rule_9 rfl rfl (by first | exact isR_ref _ | exact isR_rf _ | exact isR_null) ?_
    refine aw_st (st' := [va_rf (some (gz G + r))]) rfl ?_
    refine aw_ifnonnull (tgt := 15) dX9_rule_10 (by decide) (fun a_h h => ?_) (fun h => ?_)
    · refine aw_iload_n dX9_rule_15 rfl rfl ?_
      refine aw_ts (N := 3) (tgd := 60) (tg := fun j => match j with | 0 => 44 | 1 => 49 | _ => 54) dX9_rule_16 (by decide) (by decide) (by decide) (fun hw => ?_) (fun hwj hw => ?_)
      · refine aw_aload_n dX9_rule_60 rfl rfl (by first | exact isR_ref _ | exact isR_rf _ | exact isR_null) ?_
        refine aw_iload_n dX9_rule_61 rfl rfl ?_
        refine aw_bipush (v := nI 10) dX9_rule_62 (by decide) ?_
        refine aw_isub dX9_rule_64 ?_
        refine aw_cVx (as := [_]) dX9_rule_65 lk_X9_180 cm_X6_codeAt vi_X6_codeAt (by unfold RO; decide) rfl hr.1 hr.2 rfl rfl rfl (Nat.le_of_ble_eq_true rfl) (c_codeAt hr hs _) ?_
        refine aw_iret dX9_rule_68 rfl rfl ?_
        exact ⟨by unfold cRuleR; rw [hw], rfl⟩
      · obtain ⟨-, -, hj⟩ := rgl_some hw
        unfold cRuleR
        rw [hw]
        match hwj, hj with
        | 0, _ =>
          refine aw_aload_n dX9_rule_44 rfl rfl (by first | exact isR_ref _ | exact isR_rf _ | exact isR_null) ?_
          refine aw_get dX9_rule_45 fl_X9_168 hr.1 hr.2 rfl ?_
          refine aw_iret dX9_rule_48 rfl rfl ?_
          exact ⟨rfl, rfl⟩
        | 1, _ =>
          refine aw_aload_n dX9_rule_49 rfl rfl (by first | exact isR_ref _ | exact isR_rf _ | exact isR_null) ?_
          refine aw_get dX9_rule_50 fl_X9_173 hr.1 hr.2 rfl ?_
          refine aw_iret dX9_rule_53 rfl rfl ?_
          exact ⟨rfl, rfl⟩
        | 2, _ =>
          refine aw_aload_n dX9_rule_54 rfl rfl (by first | exact isR_ref _ | exact isR_rf _ | exact isR_null) ?_
          refine aw_get dX9_rule_55 fl_X9_176 hr.1 hr.2 (rs_r hs _ _) ?_
          refine aw_alen dX9_rule_58 hs.2.2.1 hs.2.1 ?_
          refine aw_iret dX9_rule_59 rfl rfl ?_
          exact ⟨rfl, rfl⟩
    · cases h
def cRecR (G : GG) (I : Nat → Nat → Int32) (R : Nat → Nat → Option Nat) (N r j : Nat) : Int32 := match j with
  | 0 => nI (cnt (cSo G R (some (gz G + r))) N)
  | 1 => nI (cnt (cRi G I R r) N)
  | 2 => nI (cnt (cWr G I R r) N)
  | _ => oI (lstF (cSo G R (some (gz G + r))) N)
def cRec (G : GG) (I : Nat → Nat → Int32) (R : Nat → Nat → Option Nat) (N L : Nat) (x w : Int32) : Int32 := match cGet R L x with
  | none => -1
  | some a => match rgl w 0 4 with
    | none => -1
    | some j => cRecR G I R N (a - gz G) j
theorem c_record (hC : ShC G n kd R) (hV : HV G n kd R) {L : Nat} (hL : I 5 2 = nI L) (hK : KV G n kd R L) {N : Nat} (hN : I 8 1 = nI N) (hW : LV G n kd R N) (x w : Int32) : EX G mX9_record [.ref (gz G + 0), .int x, .int w] (n, sz, kd, I, R, J) (some (.int (cRec G I R N L x w))) (n, sz, kd, I, R, J) := by
  refine mm_of rfl [(0, .ref (gz G + 0)), (1, .int x), (2, .int w)] rfl (Nat.le_of_ble_eq_true rfl) ?_
  refine aw_aload_n dX9_record_0 rfl rfl (by first | exact isR_ref _ | exact isR_rf _ | exact isR_null) ?_
  refine aw_get dX9_record_1 fl_X9_28 (sC_k0 hC) (sC_n0 hC) (sC_r_0_row hC _ _) ?_
  refine aw_iload_n dX9_record_4 rfl rfl ?_
  refine aw_cVx (as := [_]) dX9_record_5 lk_X9_166 cm_X5_get vi_X5_get (by unfold RO; decide) rfl (sC_k5 hC) (sC_n5 hC) rfl rfl rfl (Nat.le_of_ble_eq_true rfl) (c_get hC hL hK.1 _) ?_
  unfold cRec
  cases hg : cGet R L x with
  | none =>
    refine aw_st (st' := [.null]) rfl ?_
    refine aw_astoreN_n (lv' := [(0, _), (1, _), (2, _), (3, _)]) dX9_record_8 rfl (by decide) rfl ?_
    refine aw_aload_n dX9_record_9 rfl rfl (by first | exact isR_ref _ | exact isR_rf _ | exact isR_null) ?_
    refine aw_st (st' := [va_rf none]) rfl ?_
    refine aw_ifnonnull (tgt := 15) dX9_record_10 (by decide) (fun a_h h => ?_) (fun h => ?_)
    · cases h
    · refine aw_iconst (v := (-1)) dX9_record_13 (by decide) ?_
      refine aw_iret dX9_record_14 rfl rfl ?_
      exact ⟨rfl, rfl⟩
  | some a =>
    obtain ⟨r, rfl, hr, hs⟩ := cGet_ok hV hK hg
    dsimp only
    rw [gz_sub]
    refine aw_st (st' := [.ref (gz G + r)]) rfl ?_
    refine aw_astore_n (lv' := [(0, _), (1, _), (2, _), (3, _)]) dX9_record_8 rfl (by decide) rfl ?_
    refine aw_aload_n dX9_record_9 rfl rfl (by first | exact isR_ref _ | exact isR_rf _ | exact isR_null) ?_
    refine aw_st (st' := [va_rf (some (gz G + r))]) rfl ?_
    refine aw_ifnonnull (tgt := 15) dX9_record_10 (by decide) (fun a_h h => ?_) (fun h => ?_)
    · refine aw_iload_n dX9_record_15 rfl rfl ?_
      refine aw_ts (N := 4) (tgd := 84) (tg := fun j => match j with | 0 => 48 | 1 => 57 | 2 => 66 | _ => 75) dX9_record_16 (by decide) (by decide) (by decide) (fun hw => ?_) (fun hwj hw => ?_)
      · refine aw_iconst (v := (-1)) dX9_record_84 (by decide) ?_
        refine aw_iret dX9_record_85 rfl rfl ?_
        rw [hw]
        exact ⟨rfl, rfl⟩
      · obtain ⟨-, -, hj⟩ := rgl_some hw
        rw [hw]
        match hwj, hj with
        | 0, _ =>
          refine aw_aload_n dX9_record_48 rfl rfl (by first | exact isR_ref _ | exact isR_rf _ | exact isR_null) ?_
          refine aw_get dX9_record_49 fl_X9_35 (sC_k0 hC) (sC_n0 hC) (sC_r_0_mail hC _ _) ?_
          refine aw_aload_n dX9_record_52 rfl rfl (by first | exact isR_ref _ | exact isR_rf _ | exact isR_null) ?_
          refine aw_cVx (as := [_]) dX9_record_53 lk_X9_184 cm_X3_sortedBy vi_X3_sortedBy (by unfold RO; decide) rfl (sC_k8 hC) (sC_n8 hC) rfl rfl rfl (Nat.le_of_ble_eq_true rfl) (c_sortedBy hC hN hW hr) ?_
          refine aw_iret dX9_record_56 rfl rfl ?_
          exact ⟨rfl, rfl⟩
        | 1, _ =>
          refine aw_aload_n dX9_record_57 rfl rfl (by first | exact isR_ref _ | exact isR_rf _ | exact isR_null) ?_
          refine aw_get dX9_record_58 fl_X9_35 (sC_k0 hC) (sC_n0 hC) (sC_r_0_mail hC _ _) ?_
          refine aw_aload_n dX9_record_61 rfl rfl (by first | exact isR_ref _ | exact isR_rf _ | exact isR_null) ?_
          refine aw_cVx (as := [_]) dX9_record_62 lk_X9_188 cm_X3_rightBy vi_X3_rightBy (by unfold RO; decide) rfl (sC_k8 hC) (sC_n8 hC) rfl rfl rfl (Nat.le_of_ble_eq_true rfl) (c_rightBy hC hN hW hr) ?_
          refine aw_iret dX9_record_65 rfl rfl ?_
          exact ⟨rfl, rfl⟩
        | 2, _ =>
          refine aw_aload_n dX9_record_66 rfl rfl (by first | exact isR_ref _ | exact isR_rf _ | exact isR_null) ?_
          refine aw_get dX9_record_67 fl_X9_35 (sC_k0 hC) (sC_n0 hC) (sC_r_0_mail hC _ _) ?_
          refine aw_aload_n dX9_record_70 rfl rfl (by first | exact isR_ref _ | exact isR_rf _ | exact isR_null) ?_
          refine aw_cVx (as := [_]) dX9_record_71 lk_X9_191 cm_X3_wrongBy vi_X3_wrongBy (by unfold RO; decide) rfl (sC_k8 hC) (sC_n8 hC) rfl rfl rfl (Nat.le_of_ble_eq_true rfl) (c_wrongBy hC hN hW hr) ?_
          refine aw_iret dX9_record_74 rfl rfl ?_
          exact ⟨rfl, rfl⟩
        | 3, _ =>
          refine aw_aload_n dX9_record_75 rfl rfl (by first | exact isR_ref _ | exact isR_rf _ | exact isR_null) ?_
          refine aw_get dX9_record_76 fl_X9_35 (sC_k0 hC) (sC_n0 hC) (sC_r_0_mail hC _ _) ?_
          refine aw_aload_n dX9_record_79 rfl rfl (by first | exact isR_ref _ | exact isR_rf _ | exact isR_null) ?_
          refine aw_cVx (as := [_]) dX9_record_80 lk_X9_194 cm_X3_lastBy vi_X3_lastBy (by unfold RO; decide) rfl (sC_k8 hC) (sC_n8 hC) rfl rfl rfl (Nat.le_of_ble_eq_true rfl) (c_lastBy hC hN hW hr) ?_
          refine aw_iret dX9_record_83 rfl rfl ?_
          exact ⟨rfl, rfl⟩
    · cases h
def cBoth (G : GG) (kd : Nat → AKd) (I : Nat → Nat → Int32) (R : Nat → Nat → Option Nat) (J : Nat → Nat → Int64) (r q i : Nat) : Bool := cFt G kd I R J r (rc G R 9 i) && cFt G kd I R J q (rc G R 9 i)
def cBothA (G : GG) (kd : Nat → AKd) (I : Nat → Nat → Int32) (R : Nat → Nat → Option Nat) (J : Nat → Nat → Int64) (N L : Nat) (x w : Int32) : Int32 := match cGet R L x with
  | none => -1
  | some a => match cGet R L w with
    | none => -1
    | some b => oI (fstF (cBoth G kd I R J (a - gz G) (b - gz G)) N)
theorem c_both (hC : ShC G n kd R) (hV : HV G n kd R) {L : Nat} (hL : I 5 2 = nI L) (hK : KV G n kd R L) {N : Nat} (hN : I 8 1 = nI N) (hW : LV G n kd R N) (x w : Int32) : EX G mX9_both [.ref (gz G + 0), .int x, .int w] (n, sz, kd, I, R, J) (some (.int (cBothA G kd I R J N L x w))) (n, sz, kd, I, R, J) := by
  refine mm_of rfl [(0, .ref (gz G + 0)), (1, .int x), (2, .int w)] rfl (Nat.le_of_ble_eq_true rfl) ?_
  have hN1 := hW.1
  refine aw_aload_n dX9_both_0 rfl rfl (by first | exact isR_ref _ | exact isR_rf _ | exact isR_null) ?_
  refine aw_get dX9_both_1 fl_X9_28 (sC_k0 hC) (sC_n0 hC) (sC_r_0_row hC _ _) ?_
  refine aw_iload_n dX9_both_4 rfl rfl ?_
  refine aw_cVx (as := [_]) dX9_both_5 lk_X9_166 cm_X5_get vi_X5_get (by unfold RO; decide) rfl (sC_k5 hC) (sC_n5 hC) rfl rfl rfl (Nat.le_of_ble_eq_true rfl) (c_get hC hL hK.1 _) ?_
  unfold cBothA
  cases hg : cGet R L x with
  | none =>
    refine aw_st (st' := [.null]) rfl ?_
    refine aw_astoreN_n (lv' := [(0, _), (1, _), (2, _), (3, _)]) dX9_both_8 rfl (by decide) rfl ?_
    refine aw_aload_n dX9_both_9 rfl rfl (by first | exact isR_ref _ | exact isR_rf _ | exact isR_null) ?_
    refine aw_get dX9_both_10 fl_X9_28 (sC_k0 hC) (sC_n0 hC) (sC_r_0_row hC _ _) ?_
    refine aw_iload_n dX9_both_13 rfl rfl ?_
    refine aw_cVx (as := [_]) dX9_both_14 lk_X9_166 cm_X5_get vi_X5_get (by unfold RO; decide) rfl (sC_k5 hC) (sC_n5 hC) rfl rfl rfl (Nat.le_of_ble_eq_true rfl) (c_get hC hL hK.1 _) ?_
    refine aw_astoreG (lv' := [(0, _), (1, _), (2, _), (3, _), (4, _)]) dX9_both_17 (by decide) rfl ?_
    refine aw_aload_n dX9_both_19 rfl rfl (by first | exact isR_ref _ | exact isR_rf _ | exact isR_null) ?_
    refine aw_st (st' := [va_rf none]) rfl ?_
    refine aw_ifnull (tgt := 28) dX9_both_20 (by decide) (fun h => ?_) (fun a_h h => ?_)
    · refine aw_iconst (v := (-1)) dX9_both_28 (by decide) ?_
      refine aw_iret dX9_both_29 rfl rfl ?_
      exact ⟨rfl, rfl⟩
    · cases h
  | some a =>
    obtain ⟨r, rfl, hr, hs⟩ := cGet_ok hV hK hg
    refine aw_st (st' := [.ref (gz G + r)]) rfl ?_
    dsimp only
    refine aw_astore_n (lv' := [(0, _), (1, _), (2, _), (3, _)]) dX9_both_8 rfl (by decide) rfl ?_
    refine aw_aload_n dX9_both_9 rfl rfl (by first | exact isR_ref _ | exact isR_rf _ | exact isR_null) ?_
    refine aw_get dX9_both_10 fl_X9_28 (sC_k0 hC) (sC_n0 hC) (sC_r_0_row hC _ _) ?_
    refine aw_iload_n dX9_both_13 rfl rfl ?_
    refine aw_cVx (as := [_]) dX9_both_14 lk_X9_166 cm_X5_get vi_X5_get (by unfold RO; decide) rfl (sC_k5 hC) (sC_n5 hC) rfl rfl rfl (Nat.le_of_ble_eq_true rfl) (c_get hC hL hK.1 _) ?_
    refine aw_astoreG (lv' := [(0, _), (1, _), (2, _), (3, _), (4, _)]) dX9_both_17 (by decide) rfl ?_
    refine aw_aload_n dX9_both_19 rfl rfl (by first | exact isR_ref _ | exact isR_rf _ | exact isR_null) ?_
    refine aw_st (st' := [va_rf (some (gz G + r))]) rfl ?_
    refine aw_ifnull (tgt := 28) dX9_both_20 (by decide) (fun h => ?_) (fun a_h h => ?_)
    · cases h
    · refine aw_aload dX9_both_23 rfl (by first | exact isR_ref _ | exact isR_rf _ | exact isR_null) ?_
      refine aw_ifnonnull (tgt := 30) dX9_both_25 (by decide) (fun a_h2 h2 => ?_) (fun h2 => ?_)
      · obtain ⟨q, rfl, hq, ht⟩ := cGet_ok hV hK h2
        rw [h2]
        dsimp only
        rw [gz_sub, gz_sub]
        refine aw_lve (lv' := [(0, .ref (gz G + 0)), (1, .int x), (2, .int w), (3, .ref (gz G + r)), (4, .ref (gz G + q))]) rfl ?_
        refine aw_iconst (v := nI 0) dX9_both_30 (by decide) ?_
        refine aw_istore (lv' := [(0, _), (1, _), (2, _), (3, _), (4, _), (5, _)]) dX9_both_31 (by decide) rfl ?_
        have loop : ∀ d i, i + d = N → fstF (cBoth G kd I R J r q) i = none → AW G mX9_both 33 [(0, .ref (gz G + 0)), (1, .int x), (2, .int w), (3, .ref (gz G + r)), (4, .ref (gz G + q)), (5, .int (nI i))] [] (n, sz, kd, I, R, J) (fun v' M' => v' = some (.int (oI (fstF (cBoth G kd I R J r q) N))) ∧ M' = (n, sz, kd, I, R, J)) := by
          intro d
          induction d with
          | zero =>
            intro i hi ha
            refine aw_iload dX9_both_33 rfl ?_
            refine aw_aload_n dX9_both_35 rfl rfl (by first | exact isR_ref _ | exact isR_rf _ | exact isR_null) ?_
            refine aw_get dX9_both_36 fl_X9_35 (sC_k0 hC) (sC_n0 hC) (sC_r_0_mail hC _ _) ?_
            refine aw_get dX9_both_39 fl_X9_90 (sC_k8 hC) (sC_n8 hC) (congrArg Value.int hN) ?_
            refine aw_n_ge (tgt := 89) dX9_both_42 (by decide) rfl rfl (by omega) (by omega) (fun h3 => ?_) (fun h3 => ?_)
            · refine aw_iconst (v := (-1)) dX9_both_89 (by decide) ?_
              refine aw_iret dX9_both_90 rfl rfl ?_
              exact ⟨by rw [show N = i by omega, ha]; rfl, rfl⟩
            · exact absurd h3 (by omega)
          | succ d ih =>
            intro i hi ha
            have hl := hW.2 i (by omega)
            refine aw_iload dX9_both_33 rfl ?_
            refine aw_aload_n dX9_both_35 rfl rfl (by first | exact isR_ref _ | exact isR_rf _ | exact isR_null) ?_
            refine aw_get dX9_both_36 fl_X9_35 (sC_k0 hC) (sC_n0 hC) (sC_r_0_mail hC _ _) ?_
            refine aw_get dX9_both_39 fl_X9_90 (sC_k8 hC) (sC_n8 hC) (congrArg Value.int hN) ?_
            refine aw_n_ge (tgt := 89) dX9_both_42 (by decide) rfl rfl (by omega) (by omega) (fun h3 => ?_) (fun h3 => ?_)
            · exact absurd h3 (by omega)
            · refine aw_aload_n dX9_both_45 rfl rfl (by first | exact isR_ref _ | exact isR_rf _ | exact isR_null) ?_
              refine aw_aload_n dX9_both_46 rfl rfl (by first | exact isR_ref _ | exact isR_rf _ | exact isR_null) ?_
              refine aw_get dX9_both_47 fl_X9_35 (sC_k0 hC) (sC_n0 hC) (sC_r_0_mail hC _ _) ?_
              refine aw_get dX9_both_50 fl_X9_197 (sC_k8 hC) (sC_n8 hC) (sC_r_8_letters hC _ _) ?_
              refine aw_iload dX9_both_53 rfl ?_
              refine aw_aaS dX9_both_55 (by decide) (sC_k9 hC) (sC_n9 hC) (ixm (by omega)) (hl).1 ?_
              refine aw_cVx (as := [_]) dX9_both_56 lk_X9_201 cm_X6_fits vi_X6_fits (by unfold RO; decide) rfl hr.1 hr.2 rfl rfl rfl (Nat.le_of_ble_eq_true rfl) (c_fits hr hs hl.o) ?_
              refine aw_b_eq (tgt := 83) dX9_both_59 (by decide) rfl (fun h4 => ?_) (fun h4 => ?_)
              · first | refine aw_iincN (c := 1) (lv' := [(0, _), (1, _), (2, _), (3, _), (4, _), (5, _)]) dX9_both_83 rfl (by decide) rfl rfl ?_ | refine aw_iinc (v := 1) (lv' := [(0, _), (1, _), (2, _), (3, _), (4, _), (5, _)]) dX9_both_83 rfl (by decide) (by decide) rfl ?_
                refine aw_goto (tgt := 33) dX9_both_86 (by decide) ?_
                exact ih (i + 1) (by omega) (by rw [fstF, ha]; simp [cBoth, h4])
              · refine aw_aload dX9_both_62 rfl (by first | exact isR_ref _ | exact isR_rf _ | exact isR_null) ?_
                refine aw_aload_n dX9_both_64 rfl rfl (by first | exact isR_ref _ | exact isR_rf _ | exact isR_null) ?_
                refine aw_get dX9_both_65 fl_X9_35 (sC_k0 hC) (sC_n0 hC) (sC_r_0_mail hC _ _) ?_
                refine aw_get dX9_both_68 fl_X9_197 (sC_k8 hC) (sC_n8 hC) (sC_r_8_letters hC _ _) ?_
                refine aw_iload dX9_both_71 rfl ?_
                refine aw_aaS dX9_both_73 (by decide) (sC_k9 hC) (sC_n9 hC) (ixm (by omega)) (hl).1 ?_
                refine aw_cVx (as := [_]) dX9_both_74 lk_X9_201 cm_X6_fits vi_X6_fits (by unfold RO; decide) rfl hq.1 hq.2 rfl rfl rfl (Nat.le_of_ble_eq_true rfl) (c_fits hq ht hl.o) ?_
                refine aw_b_eq (tgt := 83) dX9_both_77 (by decide) rfl (fun h5 => ?_) (fun h5 => ?_)
                · first | refine aw_iincN (c := 1) (lv' := [(0, _), (1, _), (2, _), (3, _), (4, _), (5, _)]) dX9_both_83 rfl (by decide) rfl rfl ?_ | refine aw_iinc (v := 1) (lv' := [(0, _), (1, _), (2, _), (3, _), (4, _), (5, _)]) dX9_both_83 rfl (by decide) (by decide) rfl ?_
                  refine aw_goto (tgt := 33) dX9_both_86 (by decide) ?_
                  exact ih (i + 1) (by omega) (by rw [fstF, ha]; simp [cBoth, h5])
                · refine aw_iload dX9_both_80 rfl ?_
                  refine aw_iret dX9_both_82 rfl rfl ?_
                  have e : fstF (cBoth G kd I R J r q) (i + 1) = some i := by rw [fstF, ha]; simp [cBoth, h4, h5]
                  have e2 := fstF_stay e d
                  rw [show i + 1 + d = N by omega] at e2
                  exact ⟨by rw [e2]; rfl, rfl⟩
        exact loop _ 0 (Nat.zero_add _) rfl
      · rw [h2]
        refine aw_iconst (v := (-1)) dX9_both_28 (by decide) ?_
        refine aw_iret dX9_both_29 rfl rfl ?_
        exact ⟨rfl, rfl⟩
def cAboutJ (G : GG) (kd : Nat → AKd) (I : Nat → Nat → Int32) (R : Nat → Nat → Option Nat) (J : Nat → Nat → Int64) (L l j : Nat) : Int32 := match j with
  | 0 => I l 4
  | 1 => match R l 2 with
    | none => -1
    | some a => I (a - gz G) 0
  | 2 => I l 3
  | 3 => I l 5
  | _ => oI (cPl G kd I R J L l)
def cAbout (G : GG) (kd : Nat → AKd) (I : Nat → Nat → Int32) (R : Nat → Nat → Option Nat) (J : Nat → Nat → Int64) (N L : Nat) (x w : Int32) : Int32 := askR x w N 5 (fun k j => cAboutJ G kd I R J L (rc G R 9 k) j)
theorem c_about (hC : ShC G n kd R) (hV : HV G n kd R) {L : Nat} (hL : I 5 2 = nI L) (hK : KV G n kd R L) {N : Nat} (hN : I 8 1 = nI N) (hW : LV G n kd R N) (hSo : ∀ k, k < N → ¬ R (rc G R 9 k) 2 = none → isC G n kd R (rc G R 9 k) 2 7) (x w : Int32) : EX G mX9_about [.ref (gz G + 0), .int x, .int w] (n, sz, kd, I, R, J) (some (.int (cAbout G kd I R J N L x w))) (n, sz, kd, I, R, J) := by
  refine mm_of rfl [(0, .ref (gz G + 0)), (1, .int x), (2, .int w)] rfl (Nat.le_of_ble_eq_true rfl) ?_
  have hN1 := hW.1
  refine aw_aload_n dX9_about_0 rfl rfl (by first | exact isR_ref _ | exact isR_rf _ | exact isR_null) ?_
  refine aw_get dX9_about_1 fl_X9_35 (sC_k0 hC) (sC_n0 hC) (sC_r_0_mail hC _ _) ?_
  refine aw_iload_n dX9_about_4 rfl rfl ?_
  refine aw_cVx (as := [_]) dX9_about_5 lk_X9_110 cm_X3_get vi_X3_get (by unfold RO; decide) rfl (sC_k8 hC) (sC_n8 hC) rfl rfl rfl (Nat.le_of_ble_eq_true rfl) (c_mget hC hN hN1 _) ?_
  unfold cAbout askR
  cases hx : rgl x 0 N with
  | none =>
    refine aw_st (st' := [.null]) rfl ?_
    refine aw_astoreN_n (lv' := [(0, _), (1, _), (2, _), (3, _)]) dX9_about_8 rfl (by decide) rfl ?_
    refine aw_aload_n dX9_about_9 rfl rfl (by first | exact isR_ref _ | exact isR_rf _ | exact isR_null) ?_
    refine aw_st (st' := [va_rf none]) rfl ?_
    refine aw_ifnonnull (tgt := 15) dX9_about_10 (by decide) (fun a_h h => ?_) (fun h => ?_)
    · cases h
    · refine aw_iconst (v := (-1)) dX9_about_13 (by decide) ?_
      refine aw_iret dX9_about_14 rfl rfl ?_
      exact ⟨rfl, rfl⟩
  | some k =>
    obtain ⟨-, -, hk⟩ := rgl_some hx
    have hl := hW.2 k hk
    dsimp only
    rw [hl.1]
    refine aw_st (st' := [.ref (gz G + rc G R 9 k)]) rfl ?_
    generalize hlq : rc G R 9 k = l at hl
    have hlo : iO n kd l 3 := by rw [← hlq]; exact hl.o
    have hso : ¬ R l 2 = none → isC G n kd R l 2 7 := by rw [← hlq]; exact hSo k hk
    refine aw_astore_n (lv' := [(0, _), (1, _), (2, _), (3, _)]) dX9_about_8 rfl (by decide) rfl ?_
    refine aw_aload_n dX9_about_9 rfl rfl (by first | exact isR_ref _ | exact isR_rf _ | exact isR_null) ?_
    refine aw_st (st' := [va_rf (some (gz G + l))]) rfl ?_
    refine aw_ifnonnull (tgt := 15) dX9_about_10 (by decide) (fun a_h h => ?_) (fun h => ?_)
    · refine aw_iload_n dX9_about_15 rfl rfl ?_
      refine aw_ts (N := 5) (tgd := 95) (tg := fun j => match j with | 0 => 52 | 1 => 57 | 2 => 76 | 3 => 81 | _ => 86) dX9_about_16 (by decide) (by decide) (by decide) (fun hw => ?_) (fun hwj hw => ?_)
      · refine aw_iconst (v := (-1)) dX9_about_95 (by decide) ?_
        refine aw_iret dX9_about_96 rfl rfl ?_
        rw [hw]
        exact ⟨rfl, rfl⟩
      · obtain ⟨-, -, hj⟩ := rgl_some hw
        rw [hw]
        match hwj, hj with
        | 0, _ =>
          refine aw_aload_n dX9_about_52 rfl rfl (by first | exact isR_ref _ | exact isR_rf _ | exact isR_null) ?_
          refine aw_get dX9_about_53 fl_X9_119 hlo.1 hlo.2 rfl ?_
          refine aw_iret dX9_about_56 rfl rfl ?_
          exact ⟨rfl, rfl⟩
        | 1, _ =>
          refine aw_aload_n dX9_about_57 rfl rfl (by first | exact isR_ref _ | exact isR_rf _ | exact isR_null) ?_
          refine aw_get (v := va_rf (R _ _)) dX9_about_58 fl_X9_205 hlo.1 hlo.2 rfl ?_
          refine aw_ifnonnull (tgt := 68) dX9_about_61 (by decide) (fun a_h3 h3 => ?_) (fun h3 => ?_)
          · have hc := hso (by rw [h3]; exact fun z => by cases z)
            have e3 : a_h3 = gz G + rc G R l 2 := Option.some.inj (h3.symm.trans hc.1)
            refine aw_aload_n dX9_about_68 rfl rfl (by first | exact isR_ref _ | exact isR_rf _ | exact isR_null) ?_
            refine aw_get (v := va_rf (R _ _)) dX9_about_69 fl_X9_205 hlo.1 hlo.2 rfl ?_
            refine aw_st (st' := [.ref (gz G + rc G R l 2)]) (by rw [hc.1]; rfl) ?_
            refine aw_get dX9_about_72 fl_X9_168 hc.o.1 hc.o.2 rfl ?_
            refine aw_iret dX9_about_75 rfl rfl ?_
            refine ⟨?_, rfl⟩
            show _ = some (Value.int (match R l 2 with | none => -1 | some a => I (a - gz G) 0))
            rw [h3, e3]
            dsimp only
            rw [gz_sub]
          · refine aw_iconst (v := (-1)) dX9_about_64 (by decide) ?_
            refine aw_goto (tgt := 75) dX9_about_65 (by decide) ?_
            refine aw_iret dX9_about_75 rfl rfl ?_
            refine ⟨?_, rfl⟩
            show _ = some (Value.int (match R l 2 with | none => -1 | some a => I (a - gz G) 0))
            rw [h3]
        | 2, _ =>
          refine aw_aload_n dX9_about_76 rfl rfl (by first | exact isR_ref _ | exact isR_rf _ | exact isR_null) ?_
          refine aw_get dX9_about_77 fl_X9_209 hlo.1 hlo.2 rfl ?_
          refine aw_iret dX9_about_80 rfl rfl ?_
          exact ⟨rfl, rfl⟩
        | 3, _ =>
          refine aw_aload_n dX9_about_81 rfl rfl (by first | exact isR_ref _ | exact isR_rf _ | exact isR_null) ?_
          refine aw_get dX9_about_82 fl_X9_122 hlo.1 hlo.2 rfl ?_
          refine aw_iret dX9_about_85 rfl rfl ?_
          exact ⟨rfl, rfl⟩
        | 4, _ =>
          refine aw_aload_n dX9_about_86 rfl rfl (by first | exact isR_ref _ | exact isR_rf _ | exact isR_null) ?_
          refine aw_get dX9_about_87 fl_X9_28 (sC_k0 hC) (sC_n0 hC) (sC_r_0_row hC _ _) ?_
          refine aw_aload_n dX9_about_90 rfl rfl (by first | exact isR_ref _ | exact isR_rf _ | exact isR_null) ?_
          refine aw_cVx (as := [_]) dX9_about_91 lk_X9_212 cm_X5_placeThatFits vi_X5_placeThatFits (by unfold RO; decide) rfl (sC_k5 hC) (sC_n5 hC) rfl rfl rfl (Nat.le_of_ble_eq_true rfl) (c_placeThatFits hC hV hL hK hlo) ?_
          refine aw_iret dX9_about_94 rfl rfl ?_
          exact ⟨rfl, rfl⟩
    · cases h
def cLearntJ (I : Nat → Nat → Int32) (j : Nat) : Int32 := match j with
  | 0 => I 16 3
  | 1 => I 16 4
  | 2 => I 16 5
  | 3 => I 16 6
  | _ => I 16 7
def cLearnt (I : Nat → Nat → Int32) (x : Int32) : Int32 := if I 16 2 = 0 then -1 else match rgl x 0 5 with
  | none => -1
  | some j => cLearntJ I j
theorem c_learnt (hC : ShC G n kd R) (x : Int32) : EX G mX9_learnt [.ref (gz G + 0), .int x] (n, sz, kd, I, R, J) (some (.int (cLearnt I x))) (n, sz, kd, I, R, J) := by
  refine mm_of rfl [(0, .ref (gz G + 0)), (1, .int x)] rfl (Nat.le_of_ble_eq_true rfl) ?_
  refine aw_aload_n dX9_learnt_0 rfl rfl (by first | exact isR_ref _ | exact isR_rf _ | exact isR_null) ?_
  refine aw_get dX9_learnt_1 fl_X9_58 (sC_k0 hC) (sC_n0 hC) (sC_r_0_learner hC _ _) ?_
  refine aw_get dX9_learnt_4 fl_X9_140 (sC_k16 hC) (sC_n16 hC) rfl ?_
  refine aw_if_ne (tgt := 12) dX9_learnt_7 (by decide) (fun h1 => ?_) (fun h1 => ?_)
  · refine aw_iload_n dX9_learnt_12 rfl rfl ?_
    refine aw_ts (N := 5) (tgd := 88) (tg := fun j => match j with | 0 => 48 | 1 => 56 | 2 => 64 | 3 => 72 | _ => 80) dX9_learnt_13 (by decide) (by decide) (by decide) (fun hs => ?_) (fun hsj hs => ?_)
    · refine aw_iconst (v := (-1)) dX9_learnt_88 (by decide) ?_
      refine aw_iret dX9_learnt_89 rfl rfl ?_
      exact ⟨by unfold cLearnt; rw [if_neg h1, hs], rfl⟩
    · obtain ⟨-, -, hj⟩ := rgl_some hs
      have ea : cLearnt I x = cLearntJ I hsj := by unfold cLearnt; rw [if_neg h1, hs]
      rw [ea]
      match hsj, hj with
      | 0, _ =>
        refine aw_aload_n dX9_learnt_48 rfl rfl (by first | exact isR_ref _ | exact isR_rf _ | exact isR_null) ?_
        refine aw_get dX9_learnt_49 fl_X9_58 (sC_k0 hC) (sC_n0 hC) (sC_r_0_learner hC _ _) ?_
        refine aw_get dX9_learnt_52 fl_X9_144 (sC_k16 hC) (sC_n16 hC) rfl ?_
        refine aw_iret dX9_learnt_55 rfl rfl ?_
        exact ⟨rfl, rfl⟩
      | 1, _ =>
        refine aw_aload_n dX9_learnt_56 rfl rfl (by first | exact isR_ref _ | exact isR_rf _ | exact isR_null) ?_
        refine aw_get dX9_learnt_57 fl_X9_58 (sC_k0 hC) (sC_n0 hC) (sC_r_0_learner hC _ _) ?_
        refine aw_get dX9_learnt_60 fl_X9_147 (sC_k16 hC) (sC_n16 hC) rfl ?_
        refine aw_iret dX9_learnt_63 rfl rfl ?_
        exact ⟨rfl, rfl⟩
      | 2, _ =>
        refine aw_aload_n dX9_learnt_64 rfl rfl (by first | exact isR_ref _ | exact isR_rf _ | exact isR_null) ?_
        refine aw_get dX9_learnt_65 fl_X9_58 (sC_k0 hC) (sC_n0 hC) (sC_r_0_learner hC _ _) ?_
        refine aw_get dX9_learnt_68 fl_X9_150 (sC_k16 hC) (sC_n16 hC) rfl ?_
        refine aw_iret dX9_learnt_71 rfl rfl ?_
        exact ⟨rfl, rfl⟩
      | 3, _ =>
        refine aw_aload_n dX9_learnt_72 rfl rfl (by first | exact isR_ref _ | exact isR_rf _ | exact isR_null) ?_
        refine aw_get dX9_learnt_73 fl_X9_58 (sC_k0 hC) (sC_n0 hC) (sC_r_0_learner hC _ _) ?_
        refine aw_get dX9_learnt_76 fl_X9_153 (sC_k16 hC) (sC_n16 hC) rfl ?_
        refine aw_iret dX9_learnt_79 rfl rfl ?_
        exact ⟨rfl, rfl⟩
      | 4, _ =>
        refine aw_aload_n dX9_learnt_80 rfl rfl (by first | exact isR_ref _ | exact isR_rf _ | exact isR_null) ?_
        refine aw_get dX9_learnt_81 fl_X9_58 (sC_k0 hC) (sC_n0 hC) (sC_r_0_learner hC _ _) ?_
        refine aw_get dX9_learnt_84 fl_X9_156 (sC_k16 hC) (sC_n16 hC) rfl ?_
        refine aw_iret dX9_learnt_87 rfl rfl ?_
        exact ⟨rfl, rfl⟩
  · refine aw_iconst (v := (-1)) dX9_learnt_10 (by decide) ?_
    refine aw_iret dX9_learnt_11 rfl rfl ?_
    exact ⟨by unfold cLearnt; rw [if_pos h1], rfl⟩
end CLS5
