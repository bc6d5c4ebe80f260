section MOD2
variable {G : GG} {n sz : Nat} {kd : Nat → AKd} {I : Nat → Nat → Int32} {R : Nat → Nat → Option Nat} {J : Nat → Nat → Int64}
def tn (x : Int32) : Nat := x.toNatClampNeg
/-- a number from 0 to b -/
def bN (x : Int32) (b : Nat) : Prop := ∃ j, j ≤ b ∧ x = nI j
theorem tn_nI {j : Nat} (h : j < 2 ^ 31) : tn (nI j) = j := nI_clamp h
theorem bN.eq {x : Int32} {b : Nat} (h : bN x b) (hb : b < 2 ^ 31 := by decide) : x = nI (tn x) := by
  obtain ⟨j, h1, rfl⟩ := h
  rw [tn_nI (by omega)]
theorem bN.le {x : Int32} {b : Nat} (h : bN x b) (hb : b < 2 ^ 31 := by decide) : tn x ≤ b := by
  obtain ⟨j, h1, rfl⟩ := h
  rw [tn_nI (by omega)]
  exact h1
theorem bN_nI {j b : Nat} (h : j ≤ b) : bN (nI j) b := ⟨j, h, rfl⟩
def oI (o : Option Nat) : Int32 := match o with
  | none => -1
  | some h => nI h
/-- the p-th (from 0) of the first n that hold -/
def kth (q : Nat → Bool) (p : Nat) : Nat → Option Nat
  | 0 => none
  | n + 1 => match kth q p n with
    | some h => some h
    | none => if q n = true ∧ cnt q n = p then some n else none
theorem kth_stay {q : Nat → Bool} {p h m : Nat} (hm : kth q p m = some h) : ∀ d, kth q p (m + d) = some h
  | 0 => hm
  | d + 1 => by rw [← Nat.add_assoc, kth, kth_stay hm d]
theorem kth_some {q : Nat → Bool} {p : Nat} : ∀ {n h : Nat}, kth q p n = some h → h < n ∧ q h = true ∧ cnt q h = p
  | 0, h, e => by cases e
  | n + 1, h, e => by
    rw [kth] at e
    split at e
    · rename_i h' e'
      cases e
      have := kth_some e'
      exact ⟨by omega, this.2⟩
    · split at e
      · rename_i hh
        cases e
        exact ⟨by omega, hh⟩
      · cases e
theorem kth_none {q : Nat → Bool} {p : Nat} : ∀ {n : Nat}, kth q p n = none → cnt q n ≤ p
  | 0, _ => Nat.zero_le _
  | n + 1, e => by
    rw [kth] at e
    split at e
    · cases e
    · rename_i e'
      have h1 := kth_none e'
      split at e
      · cases e
      · rename_i hh
        rw [cnt]
        split
        · rename_i hq
          have : cnt q n ≠ p := fun z => hh ⟨hq, z⟩
          omega
        · omega
theorem kth_lt {q : Nat → Bool} {p n : Nat} (h : p < cnt q n) : ∃ k, kth q p n = some k := by
  cases e : kth q p n with
  | some k => exact ⟨k, rfl⟩
  | none => have := kth_none e; omega
theorem kth_ge {q : Nat → Bool} {p n : Nat} (h : cnt q n ≤ p) : kth q p n = none := by
  cases e : kth q p n with
  | none => rfl
  | some k =>
    obtain ⟨h1, h2, h3⟩ := kth_some e
    obtain ⟨d, hd⟩ : ∃ d, n = (k + 1) + d := ⟨n - (k + 1), by omega⟩
    have h4 := cnt_mono q (k + 1) d
    rw [← hd, cnt, h2] at h4
    simp at h4
    omega
/-- bounds of what the reference holds -/
def MB (I : Nat → Nat → Int32) : Prop := bN (I 22 0) 100 ∧ bN (I 22 16) 6 ∧ (∀ h, h < 10 → bN (I 34 h) 4) ∧ (∀ l, l < 6 → bN (I 38 l) 2) ∧ bN (I 22 31) 100 ∧ bN (I 22 26) 200 ∧ (∀ i, i < 200 → bN (I 43 i) 99) ∧ (∀ k, k < 100 → I 31 k = -1 ∨ bN (I 31 k) 7)
def mN (I : Nat → Nat → Int32) : Nat := tn (I 22 0)
def mL (I : Nat → Nat → Int32) : Nat := tn (I 22 16)
def mH (I : Nat → Nat → Int32) : Nat := cnt (mth I) 10
theorem mH_le : mH I ≤ 10 := cnt_le _ _
theorem m_handAt (hM : ShM G n kd R) {p : Nat} (hp : p < 2 ^ 31) : EX G mX10_handAt [.ref (gz G + 22), .int (nI p)] (n, sz, kd, I, R, J) (some (.int (oI (kth (mth I) p 10)))) (n, sz, kd, I, R, J) := by
  refine mm_of rfl [(0, .ref (gz G + 22)), (1, .int (nI p))] rfl (Nat.le_of_ble_eq_true rfl) ?_
  refine aw_iconst (v := nI 0) dX10_handAt_0 (by decide) ?_
  refine aw_istore_n (lv' := [(0, _), (1, _), (2, _)]) dX10_handAt_1 rfl (by decide) rfl ?_
  refine aw_iconst (v := nI 0) dX10_handAt_2 (by decide) ?_
  refine aw_istore_n (lv' := [(0, _), (1, _), (2, _), (3, _)]) dX10_handAt_3 rfl (by decide) rfl ?_
  have loop : ∀ d i, i + d = 10 → kth (mth I) p i = none → AW G mX10_handAt 4 [(0, .ref (gz G + 22)), (1, .int (nI p)), (2, .int (nI (cnt (mth I) i))), (3, .int (nI i))] [] (n, sz, kd, I, R, J) (fun v' M' => v' = some (.int (oI (kth (mth I) p 10))) ∧ M' = (n, sz, kd, I, R, J)) := by
    intro d
    induction d with
    | zero =>
      intro i hi hk
      refine aw_iload_n dX10_handAt_4 rfl rfl ?_
      refine aw_bipush (v := nI 10) dX10_handAt_5 (by decide) ?_
      refine aw_n_ge (tgt := 38) dX10_handAt_7 (by decide) rfl rfl (by omega) (by omega) (fun h => ?_) (fun h => ?_)
      · refine aw_iconst (v := (-1)) dX10_handAt_38 (by decide) ?_
        refine aw_iret dX10_handAt_39 rfl rfl ?_
        exact ⟨by rw [show 10 = i by omega, hk]; rfl, rfl⟩
      · exact absurd h (by omega)
    | succ d ih =>
      intro i hi hk
      have hci := cnt_le (mth I) i
      refine aw_iload_n dX10_handAt_4 rfl rfl ?_
      refine aw_bipush (v := nI 10) dX10_handAt_5 (by decide) ?_
      refine aw_n_ge (tgt := 38) dX10_handAt_7 (by decide) rfl rfl (by omega) (by omega) (fun h => ?_) (fun h => ?_)
      · exact absurd h (by omega)
      · refine aw_aload_n dX10_handAt_10 rfl rfl (by first | exact isR_ref _ | exact isR_rf _ | exact isR_null) ?_
        refine aw_get dX10_handAt_11 fl_X10_37 (sM_kd hM) (sM_n hM) (sM_r_isThere hM _ _) ?_
        refine aw_iload_n dX10_handAt_14 rfl rfl ?_
        refine aw_zald dX10_handAt_15 (sM_k_isThere hM) (sM_l_isThere hM) (ixm (by omega)) ?_
        refine aw_if_ne (tgt := 22) dX10_handAt_16 (by decide) (fun h2 => ?_) (fun h2 => ?_)
        · refine aw_iload_n dX10_handAt_22 rfl rfl ?_
          refine aw_iload_n dX10_handAt_23 rfl rfl ?_
          have hq : mth I i = true := decide_eq_true h2
          refine aw_n_ne (tgt := 29) dX10_handAt_24 (by decide) rfl rfl (by omega) (by omega) (fun h3 => ?_) (fun h3 => ?_)
          · first | refine aw_iincN (c := 1) (lv' := [(0, _), (1, _), (2, _), (3, _)]) dX10_handAt_29 rfl (by decide) rfl rfl ?_ | refine aw_iinc (v := 1) (lv' := [(0, _), (1, _), (2, _), (3, _)]) dX10_handAt_29 rfl (by decide) (by decide) rfl ?_
            first | refine aw_iincN (c := 1) (lv' := [(0, _), (1, _), (2, _), (3, _)]) dX10_handAt_32 rfl (by decide) rfl rfl ?_ | refine aw_iinc (v := 1) (lv' := [(0, _), (1, _), (2, _), (3, _)]) dX10_handAt_32 rfl (by decide) (by decide) rfl ?_
            refine aw_goto (tgt := 4) dX10_handAt_35 (by decide) ?_
            have ih' := ih (i + 1) (by omega) (by simp [kth, hk, h3])
            rw [show cnt (mth I) (i + 1) = cnt (mth I) i + 1 by simp [cnt, hq]] at ih'
            exact ih'
          · refine aw_iload_n dX10_handAt_27 rfl rfl ?_
            refine aw_iret dX10_handAt_28 rfl rfl ?_
            have e : kth (mth I) p (i + 1) = some i := by simp [kth, hk, hq, h3]
            have e2 := kth_stay e d
            rw [show i + 1 + d = 10 by omega] at e2
            exact ⟨by rw [e2]; rfl, rfl⟩
        · refine aw_goto (tgt := 32) dX10_handAt_19 (by decide) ?_
          first | refine aw_iincN (c := 1) (lv' := [(0, _), (1, _), (2, _), (3, _)]) dX10_handAt_32 rfl (by decide) rfl rfl ?_ | refine aw_iinc (v := 1) (lv' := [(0, _), (1, _), (2, _), (3, _)]) dX10_handAt_32 rfl (by decide) (by decide) rfl ?_
          refine aw_goto (tgt := 4) dX10_handAt_35 (by decide) ?_
          have hq : mth I i = false := decide_eq_false (fun z => z h2)
          have ih' := ih (i + 1) (by omega) (by simp [kth, hk, hq])
          rw [show cnt (mth I) (i + 1) = cnt (mth I) i by simp [cnt, hq]] at ih'
          exact ih'
  exact loop 10 0 rfl rfl
theorem m_isPlace (hM : ShM G n kd R) (hB : MB I) (x : Int32) : EX G mX10_isPlace [.ref (gz G + 22), .int x] (n, sz, kd, I, R, J) (some (.int (bi (decide (nI 0 ≤ x ∧ x ≤ nI (mH I + mL I) - nI 1))))) (n, sz, kd, I, R, J) := by
  refine mm_of rfl [(0, .ref (gz G + 22)), (1, .int x)] rfl (Nat.le_of_ble_eq_true rfl) ?_
  have hL : I 22 16 = nI (mL I) := hB.2.1.eq
  refine aw_iload_n dX10_isPlace_0 rfl rfl ?_
  refine aw_iconst (v := nI 0) dX10_isPlace_1 (by decide) ?_
  refine aw_aload_n dX10_isPlace_2 rfl rfl (by first | exact isR_ref _ | exact isR_rf _ | exact isR_null) ?_
  refine aw_cVx (as := []) dX10_isPlace_3 lk_X10_160 cm_X10_handsThere vi_X10_handsThere (by unfold RO; decide) rfl (sM_kd hM) (sM_n hM) rfl rfl rfl (Nat.le_of_ble_eq_true rfl) (m_handsThere hM) ?_
  refine aw_aload_n dX10_isPlace_6 rfl rfl (by first | exact isR_ref _ | exact isR_rf _ | exact isR_null) ?_
  refine aw_get dX10_isPlace_7 fl_X10_163 (sM_kd hM) (sM_n hM) (congrArg Value.int hL) ?_
  first | refine aw_iaddN dX10_isPlace_10 ?_ | refine aw_iadd dX10_isPlace_10 ?_
  refine aw_iconst (v := nI 1) dX10_isPlace_11 (by decide) ?_
  refine aw_isub dX10_isPlace_12 ?_
  refine aw_cSx (as := [_, _, _]) dX10_isPlace_13 lk_X10_156 cm_X10_in sm_X10_in (by unfold RO; decide) rfl rfl (Nat.le_of_ble_eq_true rfl) (m_in _ _ _ _) ?_
  refine aw_iret dX10_isPlace_16 rfl (bi_nar _) ?_
  exact ⟨rfl, rfl⟩
def mHandFits (I : Nat → Nat → Int32) (h k : Nat) : Bool := allT (fun t => mPass I k (I 35 (4 * h + t))) (tn (I 34 h))
def mLearntFits (I : Nat → Nat → Int32) (l k : Nat) : Bool := allT (fun t => mPass I k (I 39 (2 * l + t))) (tn (I 38 l))
theorem m_handFits (hM : ShM G n kd R) (hB : MB I) {h k : Nat} (hh : h < 10) (hk : k < 100) : EX G mX10_handFits [.ref (gz G + 22), .int (nI h), .int (nI k)] (n, sz, kd, I, R, J) (some (.int (bi (mHandFits I h k)))) (n, sz, kd, I, R, J) := by
  refine mm_of rfl [(0, .ref (gz G + 22)), (1, .int (nI h)), (2, .int (nI k))] rfl (Nat.le_of_ble_eq_true rfl) ?_
  have hm : I 34 h = nI (tn (I 34 h)) := (hB.2.2.1 h hh).eq
  have hm4 := (hB.2.2.1 h hh).le
  refine aw_iconst (v := nI 0) dX10_handFits_0 (by decide) ?_
  refine aw_istore_n (lv' := [(0, _), (1, _), (2, _), (3, _)]) dX10_handFits_1 rfl (by decide) rfl ?_
  have loop : ∀ d i, i + d = tn (I 34 h) → allT (fun t => mPass I k (I 35 (4 * h + t))) i = true → AW G mX10_handFits 2 [(0, .ref (gz G + 22)), (1, .int (nI h)), (2, .int (nI k)), (3, .int (nI i))] [] (n, sz, kd, I, R, J) (fun v' M' => v' = some (.int (bi (mHandFits I h k))) ∧ M' = (n, sz, kd, I, R, J)) := by
    intro d
    induction d with
    | zero =>
      intro i hi ha
      refine aw_iload_n dX10_handFits_2 rfl rfl ?_
      refine aw_aload_n dX10_handFits_3 rfl rfl (by first | exact isR_ref _ | exact isR_rf _ | exact isR_null) ?_
      refine aw_get dX10_handFits_4 fl_X10_44 (sM_kd hM) (sM_n hM) (sM_r_handMany hM _ _) ?_
      refine aw_iload_n dX10_handFits_7 rfl rfl ?_
      refine aw_iald dX10_handFits_8 (sM_k_handMany hM) (sM_l_handMany hM) (ixm (by omega)) ?_
      refine aw_top (hm) ?_
      refine aw_n_ge (tgt := 38) dX10_handFits_9 (by decide) rfl rfl (by omega) (by omega) (fun h2 => ?_) (fun h2 => ?_)
      · refine aw_iconst (v := nI 1) dX10_handFits_38 (by decide) ?_
        refine aw_iret dX10_handFits_39 rfl rfl ?_
        exact ⟨by unfold mHandFits; rw [show tn (I 34 h) = i by omega, ha]; rfl, rfl⟩
      · exact absurd h2 (by omega)
    | succ d ih =>
      intro i hi ha
      refine aw_iload_n dX10_handFits_2 rfl rfl ?_
      refine aw_aload_n dX10_handFits_3 rfl rfl (by first | exact isR_ref _ | exact isR_rf _ | exact isR_null) ?_
      refine aw_get dX10_handFits_4 fl_X10_44 (sM_kd hM) (sM_n hM) (sM_r_handMany hM _ _) ?_
      refine aw_iload_n dX10_handFits_7 rfl rfl ?_
      refine aw_iald dX10_handFits_8 (sM_k_handMany hM) (sM_l_handMany hM) (ixm (by omega)) ?_
      refine aw_top (hm) ?_
      refine aw_n_ge (tgt := 38) dX10_handFits_9 (by decide) rfl rfl (by omega) (by omega) (fun h2 => ?_) (fun h2 => ?_)
      · exact absurd h2 (by omega)
      · refine aw_aload_n dX10_handFits_12 rfl rfl (by first | exact isR_ref _ | exact isR_rf _ | exact isR_null) ?_
        refine aw_iload_n dX10_handFits_13 rfl rfl ?_
        refine aw_aload_n dX10_handFits_14 rfl rfl (by first | exact isR_ref _ | exact isR_rf _ | exact isR_null) ?_
        refine aw_get dX10_handFits_15 fl_X10_47 (sM_kd hM) (sM_n hM) (sM_r_handCode hM _ _) ?_
        refine aw_iconst (v := nI 4) dX10_handFits_18 (by decide) ?_
        refine aw_iload_n dX10_handFits_19 rfl rfl ?_
        first | refine aw_imulN dX10_handFits_20 ?_ | refine aw_imul dX10_handFits_20 ?_
        refine aw_iload_n dX10_handFits_21 rfl rfl ?_
        first | refine aw_iaddN dX10_handFits_22 ?_ | refine aw_iadd dX10_handFits_22 ?_
        refine aw_iald dX10_handFits_23 (sM_k_handCode hM) (sM_l_handCode hM) (ixm (by omega)) ?_
        refine aw_cVx (as := [_, _]) dX10_handFits_24 lk_X10_166 cm_X10_passes vi_X10_passes (by unfold RO; decide) rfl (sM_kd hM) (sM_n hM) rfl rfl rfl (Nat.le_of_ble_eq_true rfl) (m_passes hM hk _) ?_
        refine aw_b_ne (tgt := 32) dX10_handFits_27 (by decide) rfl (fun h3 => ?_) (fun h3 => ?_)
        · first | refine aw_iincN (c := 1) (lv' := [(0, _), (1, _), (2, _), (3, _)]) dX10_handFits_32 rfl (by decide) rfl rfl ?_ | refine aw_iinc (v := 1) (lv' := [(0, _), (1, _), (2, _), (3, _)]) dX10_handFits_32 rfl (by decide) (by decide) rfl ?_
          refine aw_goto (tgt := 2) dX10_handFits_35 (by decide) ?_
          exact ih (i + 1) (by omega) (by rw [allT, ha, h3]; rfl)
        · refine aw_iconst (v := nI 0) dX10_handFits_30 (by decide) ?_
          refine aw_iret dX10_handFits_31 rfl rfl ?_
          exact ⟨by unfold mHandFits; rw [allT_false (k := i) (by omega) h3]; rfl, rfl⟩
  exact loop _ 0 (Nat.zero_add _) rfl
theorem m_learntFits (hM : ShM G n kd R) (hB : MB I) {h k : Nat} (hh : h < 6) (hk : k < 100) : EX G mX10_learntFits [.ref (gz G + 22), .int (nI h), .int (nI k)] (n, sz, kd, I, R, J) (some (.int (bi (mLearntFits I h k)))) (n, sz, kd, I, R, J) := by
  refine mm_of rfl [(0, .ref (gz G + 22)), (1, .int (nI h)), (2, .int (nI k))] rfl (Nat.le_of_ble_eq_true rfl) ?_
  have hm : I 38 h = nI (tn (I 38 h)) := (hB.2.2.2.1 h hh).eq
  have hm4 := (hB.2.2.2.1 h hh).le
  refine aw_iconst (v := nI 0) dX10_learntFits_0 (by decide) ?_
  refine aw_istore_n (lv' := [(0, _), (1, _), (2, _), (3, _)]) dX10_learntFits_1 rfl (by decide) rfl ?_
  have loop : ∀ d i, i + d = tn (I 38 h) → allT (fun t => mPass I k (I 39 (2 * h + t))) i = true → AW G mX10_learntFits 2 [(0, .ref (gz G + 22)), (1, .int (nI h)), (2, .int (nI k)), (3, .int (nI i))] [] (n, sz, kd, I, R, J) (fun v' M' => v' = some (.int (bi (mLearntFits I h k))) ∧ M' = (n, sz, kd, I, R, J)) := by
    intro d
    induction d with
    | zero =>
      intro i hi ha
      refine aw_iload_n dX10_learntFits_2 rfl rfl ?_
      refine aw_aload_n dX10_learntFits_3 rfl rfl (by first | exact isR_ref _ | exact isR_rf _ | exact isR_null) ?_
      refine aw_get dX10_learntFits_4 fl_X10_56 (sM_kd hM) (sM_n hM) (sM_r_learntTests hM _ _) ?_
      refine aw_iload_n dX10_learntFits_7 rfl rfl ?_
      refine aw_iald dX10_learntFits_8 (sM_k_learntTests hM) (sM_l_learntTests hM) (ixm (by omega)) ?_
      refine aw_top (hm) ?_
      refine aw_n_ge (tgt := 38) dX10_learntFits_9 (by decide) rfl rfl (by omega) (by omega) (fun h2 => ?_) (fun h2 => ?_)
      · refine aw_iconst (v := nI 1) dX10_learntFits_38 (by decide) ?_
        refine aw_iret dX10_learntFits_39 rfl rfl ?_
        exact ⟨by unfold mLearntFits; rw [show tn (I 38 h) = i by omega, ha]; rfl, rfl⟩
      · exact absurd h2 (by omega)
    | succ d ih =>
      intro i hi ha
      refine aw_iload_n dX10_learntFits_2 rfl rfl ?_
      refine aw_aload_n dX10_learntFits_3 rfl rfl (by first | exact isR_ref _ | exact isR_rf _ | exact isR_null) ?_
      refine aw_get dX10_learntFits_4 fl_X10_56 (sM_kd hM) (sM_n hM) (sM_r_learntTests hM _ _) ?_
      refine aw_iload_n dX10_learntFits_7 rfl rfl ?_
      refine aw_iald dX10_learntFits_8 (sM_k_learntTests hM) (sM_l_learntTests hM) (ixm (by omega)) ?_
      refine aw_top (hm) ?_
      refine aw_n_ge (tgt := 38) dX10_learntFits_9 (by decide) rfl rfl (by omega) (by omega) (fun h2 => ?_) (fun h2 => ?_)
      · exact absurd h2 (by omega)
      · refine aw_aload_n dX10_learntFits_12 rfl rfl (by first | exact isR_ref _ | exact isR_rf _ | exact isR_null) ?_
        refine aw_iload_n dX10_learntFits_13 rfl rfl ?_
        refine aw_aload_n dX10_learntFits_14 rfl rfl (by first | exact isR_ref _ | exact isR_rf _ | exact isR_null) ?_
        refine aw_get dX10_learntFits_15 fl_X10_59 (sM_kd hM) (sM_n hM) (sM_r_learntCode hM _ _) ?_
        refine aw_iconst (v := nI 2) dX10_learntFits_18 (by decide) ?_
        refine aw_iload_n dX10_learntFits_19 rfl rfl ?_
        first | refine aw_imulN dX10_learntFits_20 ?_ | refine aw_imul dX10_learntFits_20 ?_
        refine aw_iload_n dX10_learntFits_21 rfl rfl ?_
        first | refine aw_iaddN dX10_learntFits_22 ?_ | refine aw_iadd dX10_learntFits_22 ?_
        refine aw_iald dX10_learntFits_23 (sM_k_learntCode hM) (sM_l_learntCode hM) (ixm (by omega)) ?_
        refine aw_cVx (as := [_, _]) dX10_learntFits_24 lk_X10_166 cm_X10_passes vi_X10_passes (by unfold RO; decide) rfl (sM_kd hM) (sM_n hM) rfl rfl rfl (Nat.le_of_ble_eq_true rfl) (m_passes hM hk _) ?_
        refine aw_b_ne (tgt := 32) dX10_learntFits_27 (by decide) rfl (fun h3 => ?_) (fun h3 => ?_)
        · first | refine aw_iincN (c := 1) (lv' := [(0, _), (1, _), (2, _), (3, _)]) dX10_learntFits_32 rfl (by decide) rfl rfl ?_ | refine aw_iinc (v := 1) (lv' := [(0, _), (1, _), (2, _), (3, _)]) dX10_learntFits_32 rfl (by decide) (by decide) rfl ?_
          refine aw_goto (tgt := 2) dX10_learntFits_35 (by decide) ?_
          exact ih (i + 1) (by omega) (by rw [allT, ha, h3]; rfl)
        · refine aw_iconst (v := nI 0) dX10_learntFits_30 (by decide) ?_
          refine aw_iret dX10_learntFits_31 rfl rfl ?_
          exact ⟨by unfold mLearntFits; rw [allT_false (k := i) (by omega) h3]; rfl, rfl⟩
  exact loop _ 0 (Nat.zero_add _) rfl
/-- RULE p of the ROW: a HAND RULE h as inl, a LEARNT one l as inr -/
def mRow (I : Nat → Nat → Int32) (p : Nat) : Nat ⊕ Nat := match kth (mth I) p 10 with
  | some h => .inl h
  | none => .inr (p - mH I)
def mFitsR (I : Nat → Nat → Int32) (r : Nat ⊕ Nat) (k : Nat) : Bool := match r with
  | .inl h => mHandFits I h k
  | .inr l => mLearntFits I l k
def mFolderR (I : Nat → Nat → Int32) (r : Nat ⊕ Nat) : Int32 := match r with
  | .inl h => I 36 h
  | .inr l => I 40 l
def mNameR (I : Nat → Nat → Int32) (r : Nat ⊕ Nat) : Int32 := match r with
  | .inl h => nI h
  | .inr l => I 37 l
def mByR (I : Nat → Nat → Int32) (r : Nat ⊕ Nat) : Int32 := match r with
  | .inl h => I 33 h
  | .inr l => I 37 l
theorem m_fits (hM : ShM G n kd R) (hB : MB I) {p k : Nat} (hp : p < mH I + mL I) (hk : k < 100) : EX G mX10_fits [.ref (gz G + 22), .int (nI p), .int (nI k)] (n, sz, kd, I, R, J) (some (.int (bi (mFitsR I (mRow I p) k)))) (n, sz, kd, I, R, J) := by
  have hH := mH_le (I := I)
  have hL6 : mL I ≤ 6 := hB.2.1.le
  refine mm_of rfl [(0, .ref (gz G + 22)), (1, .int (nI p)), (2, .int (nI k))] rfl (Nat.le_of_ble_eq_true rfl) ?_
  refine aw_aload_n dX10_fits_0 rfl rfl (by first | exact isR_ref _ | exact isR_rf _ | exact isR_null) ?_
  refine aw_iload_n dX10_fits_1 rfl rfl ?_
  refine aw_cVx (as := [_]) dX10_fits_2 lk_X10_169 cm_X10_handAt vi_X10_handAt (by unfold RO; decide) rfl (sM_kd hM) (sM_n hM) rfl rfl rfl (Nat.le_of_ble_eq_true rfl) (m_handAt hM (by omega)) ?_
  refine aw_istore_n (lv' := [(0, _), (1, _), (2, _), (3, _)]) dX10_fits_5 rfl (by decide) rfl ?_
  refine aw_iload_n dX10_fits_6 rfl rfl ?_
  cases e : kth (mth I) p 10 with
  | some h =>
    have hh := kth_some e
    refine aw_z_lt (tgt := 19) dX10_fits_7 (by decide) rfl (by omega) ?_
    refine aw_aload_n dX10_fits_10 rfl rfl (by first | exact isR_ref _ | exact isR_rf _ | exact isR_null) ?_
    refine aw_iload_n dX10_fits_11 rfl rfl ?_
    refine aw_iload_n dX10_fits_12 rfl rfl ?_
    refine aw_cVx (as := [_, _]) dX10_fits_13 lk_X10_173 cm_X10_handFits vi_X10_handFits (by unfold RO; decide) rfl (sM_kd hM) (sM_n hM) rfl rfl rfl (Nat.le_of_ble_eq_true rfl) (m_handFits hM hB hh.1 hk) ?_
    refine aw_goto (tgt := 30) dX10_fits_16 (by decide) ?_
    refine aw_iret dX10_fits_30 rfl (bi_nar _) ?_
    exact ⟨by rw [mRow, e]; rfl, rfl⟩
  | none =>
    have hh := kth_none e
    refine aw_if_lt (tgt := 19) dX10_fits_7 (by decide) (fun h2 => ?_) (fun h2 => ?_)
    · refine aw_aload_n dX10_fits_19 rfl rfl (by first | exact isR_ref _ | exact isR_rf _ | exact isR_null) ?_
      refine aw_iload_n dX10_fits_20 rfl rfl ?_
      refine aw_aload_n dX10_fits_21 rfl rfl (by first | exact isR_ref _ | exact isR_rf _ | exact isR_null) ?_
      refine aw_cVx (as := []) dX10_fits_22 lk_X10_160 cm_X10_handsThere vi_X10_handsThere (by unfold RO; decide) rfl (sM_kd hM) (sM_n hM) rfl rfl rfl (Nat.le_of_ble_eq_true rfl) (m_handsThere hM) ?_
      refine aw_isubN (by omega) dX10_fits_25 ?_
      refine aw_iload_n dX10_fits_26 rfl rfl ?_
      refine aw_cVx (as := [_, _]) dX10_fits_27 lk_X10_176 cm_X10_learntFits vi_X10_learntFits (by unfold RO; decide) rfl (sM_kd hM) (sM_n hM) rfl rfl rfl (Nat.le_of_ble_eq_true rfl) (m_learntFits hM hB (by unfold mH at *; omega) hk) ?_
      refine aw_iret dX10_fits_30 rfl (bi_nar _) ?_
      exact ⟨by rw [mRow, e]; rfl, rfl⟩
    · exact absurd (by decide : (-1 : Int32) < 0) h2
/-- the first place of the ROW whose RULE FITS, ahead of place m -/
def fstF (q : Nat → Bool) : Nat → Option Nat
  | 0 => none
  | m + 1 => match fstF q m with
    | some h => some h
    | none => if q m then some m else none
theorem fstF_stay {q : Nat → Bool} {h m : Nat} (hm : fstF q m = some h) : ∀ d, fstF q (m + d) = some h
  | 0 => hm
  | d + 1 => by rw [← Nat.add_assoc, fstF, fstF_stay hm d]
theorem fstF_some {q : Nat → Bool} : ∀ {n h : Nat}, fstF q n = some h → h < n ∧ q h = true ∧ ∀ j, j < h → q j = false
  | 0, h, e => by cases e
  | n + 1, h, e => by
    rw [fstF] at e
    split at e
    · rename_i h' e'
      cases e
      have := fstF_some e'
      exact ⟨by omega, this.2⟩
    · rename_i e'
      split at e
      · rename_i hh
        cases e
        exact ⟨by omega, hh, fun j hj => by
          cases hq : q j with
          | false => rfl
          | true =>
            exfalso
            have : ∀ m, j < m → fstF q m ≠ none := by
              intro m
              induction m with
              | zero => intro h; omega
              | succ m ih =>
                intro h
                rw [fstF]
                split
                · exact fun z => by cases z
                · rename_i e2
                  by_cases hj2 : j < m
                  · exact absurd e2 (ih hj2)
                  · rw [show m = j by omega, hq]
                    exact fun z => by cases z
            exact this n hj e'⟩
      · cases e
theorem fstF_none {q : Nat → Bool} : ∀ {n : Nat}, fstF q n = none → ∀ j, j < n → q j = false
  | 0, _, j, h => absurd h (Nat.not_lt_zero j)
  | n + 1, e, j, h => by
    rw [fstF] at e
    split at e
    · cases e
    · rename_i e'
      split at e
      · cases e
      · rename_i hh
        by_cases hj : j < n
        · exact fstF_none e' j hj
        · rw [show j = n by omega]
          cases hq : q n with
          | false => rfl
          | true => exact absurd hq hh
def mFirst (I : Nat → Nat → Int32) (k : Nat) : Option Nat := fstF (fun p => mFitsR I (mRow I p) k) (mH I + mL I)
theorem m_firstThatFits (hM : ShM G n kd R) (hB : MB I) {k : Nat} (hk : k < 100) : EX G mX10_firstThatFits [.ref (gz G + 22), .int (nI k)] (n, sz, kd, I, R, J) (some (.int (oI (mFirst I k)))) (n, sz, kd, I, R, J) := by
  have hH := mH_le (I := I)
  have hL6 : mL I ≤ 6 := hB.2.1.le
  have hL : I 22 16 = nI (mL I) := hB.2.1.eq
  refine mm_of rfl [(0, .ref (gz G + 22)), (1, .int (nI k))] rfl (Nat.le_of_ble_eq_true rfl) ?_
  refine aw_aload_n dX10_firstThatFits_0 rfl rfl (by first | exact isR_ref _ | exact isR_rf _ | exact isR_null) ?_
  refine aw_cVx (as := []) dX10_firstThatFits_1 lk_X10_160 cm_X10_handsThere vi_X10_handsThere (by unfold RO; decide) rfl (sM_kd hM) (sM_n hM) rfl rfl rfl (Nat.le_of_ble_eq_true rfl) (m_handsThere hM) ?_
  refine aw_aload_n dX10_firstThatFits_4 rfl rfl (by first | exact isR_ref _ | exact isR_rf _ | exact isR_null) ?_
  refine aw_get dX10_firstThatFits_5 fl_X10_163 (sM_kd hM) (sM_n hM) (congrArg Value.int hL) ?_
  first | refine aw_iaddN dX10_firstThatFits_8 ?_ | refine aw_iadd dX10_firstThatFits_8 ?_
  refine aw_istore_n (lv' := [(0, _), (1, _), (2, _)]) dX10_firstThatFits_9 rfl (by decide) rfl ?_
  refine aw_iconst (v := nI 0) dX10_firstThatFits_10 (by decide) ?_
  refine aw_istore_n (lv' := [(0, _), (1, _), (2, _), (3, _)]) dX10_firstThatFits_11 rfl (by decide) rfl ?_
  have loop : ∀ d i, i + d = mH I + mL I → fstF (fun p => mFitsR I (mRow I p) k) i = none → AW G mX10_firstThatFits 12 [(0, .ref (gz G + 22)), (1, .int (nI k)), (2, .int (nI (mH I + mL I))), (3, .int (nI i))] [] (n, sz, kd, I, R, J) (fun v' M' => v' = some (.int (oI (mFirst I k))) ∧ M' = (n, sz, kd, I, R, J)) := by
    intro d
    induction d with
    | zero =>
      intro i hi ha
      refine aw_iload_n dX10_firstThatFits_12 rfl rfl ?_
      refine aw_iload_n dX10_firstThatFits_13 rfl rfl ?_
      refine aw_n_ge (tgt := 34) dX10_firstThatFits_14 (by decide) rfl rfl (by omega) (by omega) (fun h2 => ?_) (fun h2 => ?_)
      · refine aw_iconst (v := (-1)) dX10_firstThatFits_34 (by decide) ?_
        refine aw_iret dX10_firstThatFits_35 rfl rfl ?_
        exact ⟨by unfold mFirst; rw [show mH I + mL I = i by omega, ha]; rfl, rfl⟩
      · exact absurd h2 (by omega)
    | succ d ih =>
      intro i hi ha
      refine aw_iload_n dX10_firstThatFits_12 rfl rfl ?_
      refine aw_iload_n dX10_firstThatFits_13 rfl rfl ?_
      refine aw_n_ge (tgt := 34) dX10_firstThatFits_14 (by decide) rfl rfl (by omega) (by omega) (fun h2 => ?_) (fun h2 => ?_)
      · exact absurd h2 (by omega)
      · refine aw_aload_n dX10_firstThatFits_17 rfl rfl (by first | exact isR_ref _ | exact isR_rf _ | exact isR_null) ?_
        refine aw_iload_n dX10_firstThatFits_18 rfl rfl ?_
        refine aw_iload_n dX10_firstThatFits_19 rfl rfl ?_
        refine aw_cVx (as := [_, _]) dX10_firstThatFits_20 lk_X10_179 cm_X10_fits vi_X10_fits (by unfold RO; decide) rfl (sM_kd hM) (sM_n hM) rfl rfl rfl (Nat.le_of_ble_eq_true rfl) (m_fits hM hB (by omega) hk) ?_
        refine aw_b_eq (tgt := 28) dX10_firstThatFits_23 (by decide) rfl (fun h3 => ?_) (fun h3 => ?_)
        · first | refine aw_iincN (c := 1) (lv' := [(0, _), (1, _), (2, _), (3, _)]) dX10_firstThatFits_28 rfl (by decide) rfl rfl ?_ | refine aw_iinc (v := 1) (lv' := [(0, _), (1, _), (2, _), (3, _)]) dX10_firstThatFits_28 rfl (by decide) (by decide) rfl ?_
          refine aw_goto (tgt := 12) dX10_firstThatFits_31 (by decide) ?_
          exact ih (i + 1) (by omega) (by rw [fstF, ha]; simp [h3])
        · refine aw_iload_n dX10_firstThatFits_26 rfl rfl ?_
          refine aw_iret dX10_firstThatFits_27 rfl rfl ?_
          have e : fstF (fun p => mFitsR I (mRow I p) k) (i + 1) = some i := by rw [fstF, ha]; simp [h3]
          have e2 := fstF_stay e d
          rw [show i + 1 + d = mH I + mL I by omega] at e2
          exact ⟨by unfold mFirst; rw [e2]; rfl, rfl⟩
  exact loop _ 0 (Nat.zero_add _) rfl
theorem m_folderAt (hM : ShM G n kd R) (hB : MB I) {p : Nat} (hp : p < mH I + mL I) : EX G mX10_folderAt [.ref (gz G + 22), .int (nI p)] (n, sz, kd, I, R, J) (some (.int (mFolderR I (mRow I p)))) (n, sz, kd, I, R, J) := by
  have hH := mH_le (I := I)
  have hL6 : mL I ≤ 6 := hB.2.1.le
  refine mm_of rfl [(0, .ref (gz G + 22)), (1, .int (nI p))] rfl (Nat.le_of_ble_eq_true rfl) ?_
  refine aw_aload_n dX10_folderAt_0 rfl rfl (by first | exact isR_ref _ | exact isR_rf _ | exact isR_null) ?_
  refine aw_iload_n dX10_folderAt_1 rfl rfl ?_
  refine aw_cVx (as := [_]) dX10_folderAt_2 lk_X10_169 cm_X10_handAt vi_X10_handAt (by unfold RO; decide) rfl (sM_kd hM) (sM_n hM) rfl rfl rfl (Nat.le_of_ble_eq_true rfl) (m_handAt hM (by omega)) ?_
  refine aw_istore_n (lv' := [(0, _), (1, _), (2, _)]) dX10_folderAt_5 rfl (by decide) rfl ?_
  refine aw_iload_n dX10_folderAt_6 rfl rfl ?_
  cases e : kth (mth I) p 10 with
  | some h =>
    have hh := kth_some e
    refine aw_z_lt (tgt := 19) dX10_folderAt_7 (by decide) rfl (by omega) ?_
    refine aw_aload_n dX10_folderAt_10 rfl rfl (by first | exact isR_ref _ | exact isR_rf _ | exact isR_null) ?_
    refine aw_get dX10_folderAt_11 fl_X10_50 (sM_kd hM) (sM_n hM) (sM_r_handFolder hM _ _) ?_
    refine aw_iload_n dX10_folderAt_14 rfl rfl ?_
    refine aw_iald dX10_folderAt_15 (sM_k_handFolder hM) (sM_l_handFolder hM) (ixm (by omega)) ?_
    refine aw_goto (tgt := 30) dX10_folderAt_16 (by decide) ?_
    refine aw_iret dX10_folderAt_30 rfl rfl ?_
    exact ⟨by rw [mRow, e]; rfl, rfl⟩
  | none =>
    have hh := kth_none e
    refine aw_if_lt (tgt := 19) dX10_folderAt_7 (by decide) (fun h2 => ?_) (fun h2 => ?_)
    · refine aw_aload_n dX10_folderAt_19 rfl rfl (by first | exact isR_ref _ | exact isR_rf _ | exact isR_null) ?_
      refine aw_get dX10_folderAt_20 fl_X10_62 (sM_kd hM) (sM_n hM) (sM_r_learntFolder hM _ _) ?_
      refine aw_iload_n dX10_folderAt_23 rfl rfl ?_
      refine aw_aload_n dX10_folderAt_24 rfl rfl (by first | exact isR_ref _ | exact isR_rf _ | exact isR_null) ?_
      refine aw_cVx (as := []) dX10_folderAt_25 lk_X10_160 cm_X10_handsThere vi_X10_handsThere (by unfold RO; decide) rfl (sM_kd hM) (sM_n hM) rfl rfl rfl (Nat.le_of_ble_eq_true rfl) (m_handsThere hM) ?_
      refine aw_isubN (by omega) dX10_folderAt_28 ?_
      refine aw_iald dX10_folderAt_29 (sM_k_learntFolder hM) (sM_l_learntFolder hM) (ixm (by unfold mH at *; omega)) ?_
      refine aw_iret dX10_folderAt_30 rfl rfl ?_
      exact ⟨by rw [mRow, e]; rfl, rfl⟩
    · exact absurd (by decide : (-1 : Int32) < 0) h2
theorem m_nameAt (hM : ShM G n kd R) (hB : MB I) {p : Nat} (hp : p < mH I + mL I) : EX G mX10_nameAt [.ref (gz G + 22), .int (nI p)] (n, sz, kd, I, R, J) (some (.int (mNameR I (mRow I p)))) (n, sz, kd, I, R, J) := by
  have hH := mH_le (I := I)
  have hL6 : mL I ≤ 6 := hB.2.1.le
  refine mm_of rfl [(0, .ref (gz G + 22)), (1, .int (nI p))] rfl (Nat.le_of_ble_eq_true rfl) ?_
  refine aw_aload_n dX10_nameAt_0 rfl rfl (by first | exact isR_ref _ | exact isR_rf _ | exact isR_null) ?_
  refine aw_iload_n dX10_nameAt_1 rfl rfl ?_
  refine aw_cVx (as := [_]) dX10_nameAt_2 lk_X10_169 cm_X10_handAt vi_X10_handAt (by unfold RO; decide) rfl (sM_kd hM) (sM_n hM) rfl rfl rfl (Nat.le_of_ble_eq_true rfl) (m_handAt hM (by omega)) ?_
  refine aw_istore_n (lv' := [(0, _), (1, _), (2, _)]) dX10_nameAt_5 rfl (by decide) rfl ?_
  refine aw_iload_n dX10_nameAt_6 rfl rfl ?_
  cases e : kth (mth I) p 10 with
  | some h =>
    have hh := kth_some e
    refine aw_z_lt (tgt := 14) dX10_nameAt_7 (by decide) rfl (by omega) ?_
    refine aw_iload_n dX10_nameAt_10 rfl rfl ?_
    refine aw_goto (tgt := 25) dX10_nameAt_11 (by decide) ?_
    refine aw_iret dX10_nameAt_25 rfl rfl ?_
    exact ⟨by rw [mRow, e]; rfl, rfl⟩
  | none =>
    have hh := kth_none e
    refine aw_if_lt (tgt := 14) dX10_nameAt_7 (by decide) (fun h2 => ?_) (fun h2 => ?_)
    · refine aw_aload_n dX10_nameAt_14 rfl rfl (by first | exact isR_ref _ | exact isR_rf _ | exact isR_null) ?_
      refine aw_get dX10_nameAt_15 fl_X10_53 (sM_kd hM) (sM_n hM) (sM_r_learntName hM _ _) ?_
      refine aw_iload_n dX10_nameAt_18 rfl rfl ?_
      refine aw_aload_n dX10_nameAt_19 rfl rfl (by first | exact isR_ref _ | exact isR_rf _ | exact isR_null) ?_
      refine aw_cVx (as := []) dX10_nameAt_20 lk_X10_160 cm_X10_handsThere vi_X10_handsThere (by unfold RO; decide) rfl (sM_kd hM) (sM_n hM) rfl rfl rfl (Nat.le_of_ble_eq_true rfl) (m_handsThere hM) ?_
      refine aw_isubN (by omega) dX10_nameAt_23 ?_
      refine aw_iald dX10_nameAt_24 (sM_k_learntName hM) (sM_l_learntName hM) (ixm (by unfold mH at *; omega)) ?_
      refine aw_iret dX10_nameAt_25 rfl rfl ?_
      exact ⟨by rw [mRow, e]; rfl, rfl⟩
    · exact absurd (by decide : (-1 : Int32) < 0) h2
theorem m_byAt (hM : ShM G n kd R) (hB : MB I) {p : Nat} (hp : p < mH I + mL I) : EX G mX10_byAt [.ref (gz G + 22), .int (nI p)] (n, sz, kd, I, R, J) (some (.int (mByR I (mRow I p)))) (n, sz, kd, I, R, J) := by
  have hH := mH_le (I := I)
  have hL6 : mL I ≤ 6 := hB.2.1.le
  refine mm_of rfl [(0, .ref (gz G + 22)), (1, .int (nI p))] rfl (Nat.le_of_ble_eq_true rfl) ?_
  refine aw_aload_n dX10_byAt_0 rfl rfl (by first | exact isR_ref _ | exact isR_rf _ | exact isR_null) ?_
  refine aw_iload_n dX10_byAt_1 rfl rfl ?_
  refine aw_cVx (as := [_]) dX10_byAt_2 lk_X10_169 cm_X10_handAt vi_X10_handAt (by unfold RO; decide) rfl (sM_kd hM) (sM_n hM) rfl rfl rfl (Nat.le_of_ble_eq_true rfl) (m_handAt hM (by omega)) ?_
  refine aw_istore_n (lv' := [(0, _), (1, _), (2, _)]) dX10_byAt_5 rfl (by decide) rfl ?_
  refine aw_iload_n dX10_byAt_6 rfl rfl ?_
  cases e : kth (mth I) p 10 with
  | some h =>
    have hh := kth_some e
    refine aw_z_lt (tgt := 19) dX10_byAt_7 (by decide) rfl (by omega) ?_
    refine aw_aload_n dX10_byAt_10 rfl rfl (by first | exact isR_ref _ | exact isR_rf _ | exact isR_null) ?_
    refine aw_get dX10_byAt_11 fl_X10_41 (sM_kd hM) (sM_n hM) (sM_r_handBy hM _ _) ?_
    refine aw_iload_n dX10_byAt_14 rfl rfl ?_
    refine aw_iald dX10_byAt_15 (sM_k_handBy hM) (sM_l_handBy hM) (ixm (by omega)) ?_
    refine aw_goto (tgt := 30) dX10_byAt_16 (by decide) ?_
    refine aw_iret dX10_byAt_30 rfl rfl ?_
    exact ⟨by rw [mRow, e]; rfl, rfl⟩
  | none =>
    have hh := kth_none e
    refine aw_if_lt (tgt := 19) dX10_byAt_7 (by decide) (fun h2 => ?_) (fun h2 => ?_)
    · refine aw_aload_n dX10_byAt_19 rfl rfl (by first | exact isR_ref _ | exact isR_rf _ | exact isR_null) ?_
      refine aw_get dX10_byAt_20 fl_X10_53 (sM_kd hM) (sM_n hM) (sM_r_learntName hM _ _) ?_
      refine aw_iload_n dX10_byAt_23 rfl rfl ?_
      refine aw_aload_n dX10_byAt_24 rfl rfl (by first | exact isR_ref _ | exact isR_rf _ | exact isR_null) ?_
      refine aw_cVx (as := []) dX10_byAt_25 lk_X10_160 cm_X10_handsThere vi_X10_handsThere (by unfold RO; decide) rfl (sM_kd hM) (sM_n hM) rfl rfl rfl (Nat.le_of_ble_eq_true rfl) (m_handsThere hM) ?_
      refine aw_isubN (by omega) dX10_byAt_28 ?_
      refine aw_iald dX10_byAt_29 (sM_k_learntName hM) (sM_l_learntName hM) (ixm (by unfold mH at *; omega)) ?_
      refine aw_iret dX10_byAt_30 rfl rfl ?_
      exact ⟨by rw [mRow, e]; rfl, rfl⟩
    · exact absurd (by decide : (-1 : Int32) < 0) h2
end MOD2
