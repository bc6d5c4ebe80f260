section MOD7
variable {G : GG} {y : MI} {pc : Nat} {lv : List (Nat × Value)} {st : List Value} {M : Mem} {Q : Option Value → Mem → Prop}
variable {n sz : Nat} {kd : Nat → AKd} {I : Nat → Nat → Int32} {R : Nat → Nat → Option Nat} {J : Nat → Nat → Int64}
theorem aw_app {ex : List (Nat × Value)} (K : AW G y pc lv st M Q) : AW G y pc (lv ++ ex) st M Q := aw_lv (fun q hq => List.mem_append_left _ hq) K
theorem aw_dup2 {v w : Value} (hd : decode y.2.1 pc = .ok (.dup2, 1)) (hc : v.category = 1) (hw : w.category = 1) (K : AW G y (pc + 1) lv (v :: w :: v :: w :: st) M Q) : AW G y pc lv (v :: w :: st) M Q := fun M0 p e s m args below meth c C H locs ls hR hS hl => lv_dup2_11 C.1 C.2.1 hd hc hw (K M0 p e s m args below meth c C H locs ls hR hS hl)
def mCountJ (I : Nat → Nat → Int32) (j : Nat) : Int32 := match j with
  | 0 => I 22 0
  | 1 => nI (mH I)
  | 2 => I 22 16
  | 3 => I 22 26
  | 4 => I 22 31
  | _ => I 22 21
def mLying (I : Nat → Nat → Int32) (j k : Nat) : Bool := decide (I 27 k = nI j)
def mCount (I : Nat → Nat → Int32) (x : Int32) : Int32 := match rgl x 0 6 with
  | some j => mCountJ I j
  | none => match rgl x 20 28 with
    | none => -1
    | some j => nI (cnt (mLying I (j - 20)) (mN I))
theorem m_count (hM : ShM G n kd R) (hB : MB I) (x : Int32) : EX G mX10_count [.ref (gz G + 22), .int x] (n, sz, kd, I, R, J) (some (.int (mCount I x))) (n, sz, kd, I, R, J) := by
  refine mm_of rfl [(0, .ref (gz G + 22)), (1, .int x)] rfl (Nat.le_of_ble_eq_true rfl) ?_
  have hN : I 22 0 = nI (mN I) := hB.1.eq
  have hN1 : mN I ≤ 100 := hB.1.le
  refine aw_iconst (v := nI 0) dX10_count_0 (by decide) ?_
  refine aw_istore_n (lv' := [(0, _), (1, _), (2, _)]) dX10_count_1 rfl (by decide) rfl ?_
  refine aw_iload_n dX10_count_2 rfl rfl ?_
  refine aw_ts (N := 6) (tgd := 70) (tg := fun j => match j with | 0 => 40 | 1 => 45 | 2 => 50 | 3 => 55 | 4 => 60 | _ => 65) dX10_count_3 (by decide) (by decide) (by decide) (fun hs => ?_) (fun hsj hs => ?_)
  · refine aw_iload_n dX10_count_70 rfl rfl ?_
    refine aw_bipush (v := nI 20) dX10_count_71 (by decide) ?_
    refine aw_bipush (v := nI 27) dX10_count_73 (by decide) ?_
    refine aw_cSx (as := [_, _, _]) dX10_count_75 lk_X10_156 cm_X10_in sm_X10_in (by unfold RO; decide) rfl rfl (Nat.le_of_ble_eq_true rfl) (m_inN _) ?_
    refine aw_b_ne (tgt := 83) dX10_count_78 (by decide) rfl (fun h1 => ?_) (fun h1 => ?_)
    · obtain ⟨j, hj⟩ := Option.isSome_iff_exists.mp h1
      obtain ⟨rfl, hj1, hj2⟩ := rgl_some hj
      have ea : mCount I (nI j) = nI (cnt (mLying I (j - 20)) (mN I)) := by
        unfold mCount
        rw [hs, show rgl (nI j) 20 28 = some j from hj]
      rw [ea]
      refine aw_iconst (v := nI 0) dX10_count_83 (by decide) ?_
      refine aw_istore_n (lv' := [(0, _), (1, _), (2, _), (3, _)]) dX10_count_84 rfl (by decide) rfl ?_
      have loop : ∀ d i, i + d = mN I → AW G mX10_count 85 [(0, .ref (gz G + 22)), (1, .int (nI j)), (2, .int (nI (cnt (mLying I (j - 20)) i))), (3, .int (nI i))] [] (n, sz, kd, I, R, J) (fun v' M' => v' = some (.int (nI (cnt (mLying I (j - 20)) (mN I)))) ∧ M' = (n, sz, kd, I, R, J)) := by
        intro d
        induction d with
        | zero =>
          intro i hi
          refine aw_iload_n dX10_count_85 rfl rfl ?_
          refine aw_aload_n dX10_count_86 rfl rfl (by first | exact isR_ref _ | exact isR_rf _ | exact isR_null) ?_
          refine aw_get dX10_count_87 fl_X10_182 (sM_kd hM) (sM_n hM) (congrArg Value.int hN) ?_
          refine aw_n_ge (tgt := 120) dX10_count_90 (by decide) rfl rfl (by omega) (by omega) (fun h => ?_) (fun h => ?_)
          · refine aw_iload_n dX10_count_120 rfl rfl ?_
            refine aw_iret dX10_count_121 rfl rfl ?_
            exact ⟨by rw [show i = mN I by omega], rfl⟩
          · exact absurd h (by omega)
        | succ d ih =>
          intro i hi
          have ih' := ih (i + 1) (by omega)
          refine aw_iload_n dX10_count_85 rfl rfl ?_
          refine aw_aload_n dX10_count_86 rfl rfl (by first | exact isR_ref _ | exact isR_rf _ | exact isR_null) ?_
          refine aw_get dX10_count_87 fl_X10_182 (sM_kd hM) (sM_n hM) (congrArg Value.int hN) ?_
          refine aw_n_ge (tgt := 120) dX10_count_90 (by decide) rfl rfl (by omega) (by omega) (fun h => ?_) (fun h => ?_)
          · exact absurd h (by omega)
          · refine aw_iload_n dX10_count_93 rfl rfl ?_
            refine aw_aload_n dX10_count_94 rfl rfl (by first | exact isR_ref _ | exact isR_rf _ | exact isR_null) ?_
            refine aw_get dX10_count_95 fl_X10_22 (sM_kd hM) (sM_n hM) (sM_r_lies hM _ _) ?_
            refine aw_iload_n dX10_count_98 rfl rfl ?_
            refine aw_iald dX10_count_99 (sM_k_lies hM) (sM_l_lies hM) (ixm (by omega)) ?_
            refine aw_iload_n dX10_count_100 rfl rfl ?_
            refine aw_bipush (v := nI 20) dX10_count_101 (by decide) ?_
            refine aw_isubN (by omega) dX10_count_103 ?_
            refine aw_icmp_ne (tgt := 111) dX10_count_104 (by decide) (fun h2 => ?_) (fun h2 => ?_)
            · refine aw_iconst (v := nI 0) dX10_count_111 (by decide) ?_
              first | refine aw_iaddN dX10_count_112 ?_ | refine aw_iadd dX10_count_112 ?_
              refine aw_istore_n (lv' := [(0, _), (1, _), (2, _), (3, _)]) dX10_count_113 rfl (by decide) rfl ?_
              first | refine aw_iincN (c := 1) (lv' := [(0, _), (1, _), (2, _), (3, _)]) dX10_count_114 rfl (by decide) rfl rfl ?_ | refine aw_iinc (v := 1) (lv' := [(0, _), (1, _), (2, _), (3, _)]) dX10_count_114 rfl (by decide) (by decide) rfl ?_
              refine aw_goto (tgt := 85) dX10_count_117 (by decide) ?_
              rw [cnt_no (show mLying I (j - 20) i = false from decide_eq_false h2)] at ih'
              exact ih'
            · refine aw_iconst (v := nI 1) dX10_count_107 (by decide) ?_
              refine aw_goto (tgt := 112) dX10_count_108 (by decide) ?_
              first | refine aw_iaddN dX10_count_112 ?_ | refine aw_iadd dX10_count_112 ?_
              refine aw_istore_n (lv' := [(0, _), (1, _), (2, _), (3, _)]) dX10_count_113 rfl (by decide) rfl ?_
              first | refine aw_iincN (c := 1) (lv' := [(0, _), (1, _), (2, _), (3, _)]) dX10_count_114 rfl (by decide) rfl rfl ?_ | refine aw_iinc (v := 1) (lv' := [(0, _), (1, _), (2, _), (3, _)]) dX10_count_114 rfl (by decide) (by decide) rfl ?_
              refine aw_goto (tgt := 85) dX10_count_117 (by decide) ?_
              rw [cnt_yes (show mLying I (j - 20) i = true from decide_eq_true h2)] at ih'
              exact ih'
      exact loop _ 0 (Nat.zero_add _)
    · refine aw_iconst (v := (-1)) dX10_count_81 (by decide) ?_
      refine aw_iret dX10_count_82 rfl rfl ?_
      exact ⟨by unfold mCount; rw [hs, show rgl x 20 28 = none from isSome_f h1], rfl⟩
  · obtain ⟨-, -, hj⟩ := rgl_some hs
    have ea : mCount I x = mCountJ I hsj := by unfold mCount; rw [hs]
    rw [ea]
    match hsj, hj with
    | 0, _ =>
      refine aw_aload_n dX10_count_40 rfl rfl (by first | exact isR_ref _ | exact isR_rf _ | exact isR_null) ?_
      refine aw_get dX10_count_41 fl_X10_182 (sM_kd hM) (sM_n hM) rfl ?_
      refine aw_iret dX10_count_44 rfl rfl ?_
      exact ⟨rfl, rfl⟩
    | 1, _ =>
      refine aw_aload_n dX10_count_45 rfl rfl (by first | exact isR_ref _ | exact isR_rf _ | exact isR_null) ?_
      refine aw_cVx (as := []) dX10_count_46 lk_X10_160 cm_X10_handsThere vi_X10_handsThere (by unfold RO; decide) rfl (sM_kd hM) (sM_n hM) rfl rfl rfl (Nat.le_of_ble_eq_true rfl) (m_handsThere hM) ?_
      refine aw_iret dX10_count_49 rfl rfl ?_
      exact ⟨rfl, rfl⟩
    | 2, _ =>
      refine aw_aload_n dX10_count_50 rfl rfl (by first | exact isR_ref _ | exact isR_rf _ | exact isR_null) ?_
      refine aw_get dX10_count_51 fl_X10_163 (sM_kd hM) (sM_n hM) rfl ?_
      refine aw_iret dX10_count_54 rfl rfl ?_
      exact ⟨rfl, rfl⟩
    | 3, _ =>
      refine aw_aload_n dX10_count_55 rfl rfl (by first | exact isR_ref _ | exact isR_rf _ | exact isR_null) ?_
      refine aw_get dX10_count_56 fl_X10_201 (sM_kd hM) (sM_n hM) rfl ?_
      refine aw_iret dX10_count_59 rfl rfl ?_
      exact ⟨rfl, rfl⟩
    | 4, _ =>
      refine aw_aload_n dX10_count_60 rfl rfl (by first | exact isR_ref _ | exact isR_rf _ | exact isR_null) ?_
      refine aw_get dX10_count_61 fl_X10_106 (sM_kd hM) (sM_n hM) rfl ?_
      refine aw_iret dX10_count_64 rfl rfl ?_
      exact ⟨rfl, rfl⟩
    | 5, _ =>
      refine aw_aload_n dX10_count_65 rfl rfl (by first | exact isR_ref _ | exact isR_rf _ | exact isR_null) ?_
      refine aw_get dX10_count_66 fl_X10_228 (sM_kd hM) (sM_n hM) rfl ?_
      refine aw_iret dX10_count_69 rfl rfl ?_
      exact ⟨rfl, rfl⟩
def mLearntJ (I : Nat → Nat → Int32) (j : Nat) : Int32 := match j with
  | 0 => I 22 41
  | 1 => I 22 42
  | 2 => I 22 43
  | 3 => I 22 44
  | _ => I 22 45
def mLearnt (I : Nat → Nat → Int32) (x : Int32) : Int32 := if I 22 40 = 0 then -1 else match rgl x 0 5 with
  | none => -1
  | some j => mLearntJ I j
theorem m_learnt (hM : ShM G n kd R) (x : Int32) : EX G mX10_learnt [.ref (gz G + 22), .int x] (n, sz, kd, I, R, J) (some (.int (mLearnt I x))) (n, sz, kd, I, R, J) := by
  refine mm_of rfl [(0, .ref (gz G + 22)), (1, .int x)] rfl (Nat.le_of_ble_eq_true rfl) ?_
  refine aw_aload_n dX10_learnt_0 rfl rfl (by first | exact isR_ref _ | exact isR_rf _ | exact isR_null) ?_
  refine aw_get dX10_learnt_1 fl_X10_261 (sM_kd hM) (sM_n hM) rfl ?_
  refine aw_if_ne (tgt := 9) dX10_learnt_4 (by decide) (fun h1 => ?_) (fun h1 => ?_)
  · refine aw_iload_n dX10_learnt_9 rfl rfl ?_
    refine aw_ts (N := 5) (tgd := 69) (tg := fun j => match j with | 0 => 44 | 1 => 49 | 2 => 54 | 3 => 59 | _ => 64) dX10_learnt_10 (by decide) (by decide) (by decide) (fun hs => ?_) (fun hsj hs => ?_)
    · refine aw_iconst (v := (-1)) dX10_learnt_69 (by decide) ?_
      refine aw_iret dX10_learnt_70 rfl rfl ?_
      exact ⟨by unfold mLearnt; rw [if_neg h1, hs], rfl⟩
    · obtain ⟨-, -, hj⟩ := rgl_some hs
      have ea : mLearnt I x = mLearntJ I hsj := by unfold mLearnt; rw [if_neg h1, hs]
      rw [ea]
      match hsj, hj with
      | 0, _ =>
        refine aw_aload_n dX10_learnt_44 rfl rfl (by first | exact isR_ref _ | exact isR_rf _ | exact isR_null) ?_
        refine aw_get dX10_learnt_45 fl_X10_240 (sM_kd hM) (sM_n hM) rfl ?_
        refine aw_iret dX10_learnt_48 rfl rfl ?_
        exact ⟨rfl, rfl⟩
      | 1, _ =>
        refine aw_aload_n dX10_learnt_49 rfl rfl (by first | exact isR_ref _ | exact isR_rf _ | exact isR_null) ?_
        refine aw_get dX10_learnt_50 fl_X10_234 (sM_kd hM) (sM_n hM) rfl ?_
        refine aw_iret dX10_learnt_53 rfl rfl ?_
        exact ⟨rfl, rfl⟩
      | 2, _ =>
        refine aw_aload_n dX10_learnt_54 rfl rfl (by first | exact isR_ref _ | exact isR_rf _ | exact isR_null) ?_
        refine aw_get dX10_learnt_55 fl_X10_231 (sM_kd hM) (sM_n hM) rfl ?_
        refine aw_iret dX10_learnt_58 rfl rfl ?_
        exact ⟨rfl, rfl⟩
      | 3, _ =>
        refine aw_aload_n dX10_learnt_59 rfl rfl (by first | exact isR_ref _ | exact isR_rf _ | exact isR_null) ?_
        refine aw_get dX10_learnt_60 fl_X10_249 (sM_kd hM) (sM_n hM) rfl ?_
        refine aw_iret dX10_learnt_63 rfl rfl ?_
        exact ⟨rfl, rfl⟩
      | 4, _ =>
        refine aw_aload_n dX10_learnt_64 rfl rfl (by first | exact isR_ref _ | exact isR_rf _ | exact isR_null) ?_
        refine aw_get dX10_learnt_65 fl_X10_252 (sM_kd hM) (sM_n hM) rfl ?_
        refine aw_iret dX10_learnt_68 rfl rfl ?_
        exact ⟨rfl, rfl⟩
  · refine aw_iconst (v := (-1)) dX10_learnt_7 (by decide) ?_
    refine aw_iret dX10_learnt_8 rfl rfl ?_
    exact ⟨by unfold mLearnt; rw [if_pos h1], rfl⟩
def mManyR (I : Nat → Nat → Int32) (r : Nat ⊕ Nat) : Nat := match r with
  | .inl h => tn (I 34 h)
  | .inr l => tn (I 38 l)
def mCodeR (I : Nat → Nat → Int32) (r : Nat ⊕ Nat) (t : Nat) : Int32 := match r with
  | .inl h => I 35 (4 * h + t)
  | .inr l => I 39 (2 * l + t)
def mRuleR (I : Nat → Nat → Int32) (r : Nat ⊕ Nat) (w : Int32) : Int32 :=
  if w = nI 0 then mNameR I r else if w = nI 1 then mFolderR I r else if w = nI 2 then nI (mManyR I r) else match rgl w 10 (10 + mManyR I r) with
    | none => -1
    | some j => mCodeR I r (j - 10)
def mRule (I : Nat → Nat → Int32) (x w : Int32) : Int32 := match rgl x 0 (mH I + mL I) with
  | none => -1
  | some p => mRuleR I (mRow I p) w
theorem m_rule (hM : ShM G n kd R) (hB : MB I) (x w : Int32) : EX G mX10_rule [.ref (gz G + 22), .int x, .int w] (n, sz, kd, I, R, J) (some (.int (mRule I x w))) (n, sz, kd, I, R, J) := by
  refine mm_of rfl [(0, .ref (gz G + 22)), (1, .int x), (2, .int w)] rfl (Nat.le_of_ble_eq_true rfl) ?_
  have hH := mH_le (I := I)
  have hL6 : mL I ≤ 6 := hB.2.1.le
  refine aw_aload_n dX10_rule_0 rfl rfl (by first | exact isR_ref _ | exact isR_rf _ | exact isR_null) ?_
  refine aw_iload_n dX10_rule_1 rfl rfl ?_
  refine aw_cVx (as := [_]) dX10_rule_2 lk_X10_272 cm_X10_isPlace vi_X10_isPlace (by unfold RO; decide) rfl (sM_kd hM) (sM_n hM) rfl rfl rfl (Nat.le_of_ble_eq_true rfl) (m_isPlaceN hM hB _) ?_
  refine aw_b_ne (tgt := 10) dX10_rule_5 (by decide) rfl (fun h1 => ?_) (fun h1 => ?_)
  · obtain ⟨p, hp⟩ := Option.isSome_iff_exists.mp h1
    obtain ⟨rfl, -, hp2⟩ := rgl_some hp
    have ea : mRule I (nI p) w = mRuleR I (mRow I p) w := by unfold mRule; rw [hp]
    rw [ea]
    refine aw_aload_n dX10_rule_10 rfl rfl (by first | exact isR_ref _ | exact isR_rf _ | exact isR_null) ?_
    refine aw_iload_n dX10_rule_11 rfl rfl ?_
    refine aw_cVx (as := [_]) dX10_rule_12 lk_X10_169 cm_X10_handAt vi_X10_handAt (by unfold RO; decide) rfl (sM_kd hM) (sM_n hM) rfl rfl rfl (Nat.le_of_ble_eq_true rfl) (m_handAt hM (by omega)) ?_
    refine aw_istore_n (lv' := [(0, _), (1, _), (2, _), (3, _)]) dX10_rule_15 rfl (by decide) rfl ?_
    refine aw_iload_n dX10_rule_16 rfl rfl ?_
    refine aw_aload_n dX10_rule_17 rfl rfl (by first | exact isR_ref _ | exact isR_rf _ | exact isR_null) ?_
    refine aw_cVx (as := []) dX10_rule_18 lk_X10_160 cm_X10_handsThere vi_X10_handsThere (by unfold RO; decide) rfl (sM_kd hM) (sM_n hM) rfl rfl rfl (Nat.le_of_ble_eq_true rfl) (m_handsThere hM) ?_
    cases e : kth (mth I) p 10 with
    | some h =>
      have hh := kth_some e
      have er : mRow I p = .inl h := by rw [mRow, e]
      have hm : I 34 h = nI (tn (I 34 h)) := (hB.2.2.1 h hh.1).eq
      have hm4 := (hB.2.2.1 h hh.1).le
      rw [er]
      refine aw_isub dX10_rule_21 ?_
      refine aw_istore (lv' := [(0, _), (1, _), (2, _), (3, _), (4, _)]) dX10_rule_22 (by decide) rfl ?_
      refine aw_iload_n dX10_rule_24 rfl rfl ?_
      refine aw_z_lt (tgt := 37) dX10_rule_25 (by decide) rfl (by omega) ?_
      refine aw_aload_n dX10_rule_28 rfl rfl (by first | exact isR_ref _ | exact isR_rf _ | exact isR_null) ?_
      refine aw_get dX10_rule_29 fl_X10_44 (sM_kd hM) (sM_n hM) (sM_r_handMany hM _ _) ?_
      refine aw_iload_n dX10_rule_32 rfl rfl ?_
      refine aw_iald dX10_rule_33 (sM_k_handMany hM) (sM_l_handMany hM) (ixm (by omega)) ?_
      refine aw_top (hm) ?_
      refine aw_goto (tgt := 44) dX10_rule_34 (by decide) ?_
      refine aw_istore (lv' := [(0, _), (1, _), (2, _), (3, _), (4, _), (5, _)]) dX10_rule_44 (by decide) rfl ?_
      refine aw_iload_n dX10_rule_46 rfl rfl ?_
      by_cases c0 : w = nI 0
      · subst c0
        refine aw_z_ne (tgt := 56) dX10_rule_47 (by decide) rfl (by omega) (fun h3 => ?_) (fun h3 => ?_)
        · exact absurd rfl h3
        · refine aw_aload_n dX10_rule_50 rfl rfl (by first | exact isR_ref _ | exact isR_rf _ | exact isR_null) ?_
          refine aw_iload_n dX10_rule_51 rfl rfl ?_
          refine aw_cVx (as := [_]) dX10_rule_52 lk_X10_192 cm_X10_nameAt vi_X10_nameAt (by unfold RO; decide) rfl (sM_kd hM) (sM_n hM) rfl rfl rfl (Nat.le_of_ble_eq_true rfl) (m_nameAt hM hB hp2) ?_
          refine aw_iret dX10_rule_55 rfl rfl ?_
          exact ⟨by rw [er]; rfl, rfl⟩
      · refine aw_if_ne (tgt := 56) dX10_rule_47 (by decide) (fun h3 => ?_) (fun h3 => ?_)
        · refine aw_iload_n dX10_rule_56 rfl rfl ?_
          refine aw_iconst (v := nI 1) dX10_rule_57 (by decide) ?_
          refine aw_icmp_ne (tgt := 67) dX10_rule_58 (by decide) (fun h4 => ?_) (fun h4 => ?_)
          · refine aw_iload_n dX10_rule_67 rfl rfl ?_
            refine aw_iconst (v := nI 2) dX10_rule_68 (by decide) ?_
            refine aw_icmp_ne (tgt := 75) dX10_rule_69 (by decide) (fun h5 => ?_) (fun h5 => ?_)
            · refine aw_iload_n dX10_rule_75 rfl rfl ?_
              refine aw_bipush (v := nI 10) dX10_rule_76 (by decide) ?_
              refine aw_bipush (v := nI 9) dX10_rule_78 (by decide) ?_
              refine aw_iload dX10_rule_80 rfl ?_
              first | refine aw_iaddN dX10_rule_82 ?_ | refine aw_iadd dX10_rule_82 ?_
              refine aw_cSx (as := [_, _, _]) dX10_rule_83 lk_X10_156 cm_X10_in sm_X10_in (by unfold RO; decide) rfl rfl (Nat.le_of_ble_eq_true rfl) (m_inN _ (by decide) (by omega)) ?_
              have em : rgl w 10 (9 + tn (I 34 h) + 1) = rgl w 10 (10 + tn (I 34 h)) := by rw [show 9 + tn (I 34 h) + 1 = 10 + tn (I 34 h) by omega]
              rw [em]
              have er2 : mRuleR I (.inl h) w = match rgl w 10 (10 + tn (I 34 h)) with | none => -1 | some j => I 35 (4 * h + (j - 10)) := by simp only [mRuleR, mManyR, mCodeR]; rw [if_neg c0, if_neg h4, if_neg h5]
              rw [er2]
              refine aw_b_ne (tgt := 91) dX10_rule_86 (by decide) rfl (fun h6 => ?_) (fun h6 => ?_)
              · obtain ⟨j, hj⟩ := Option.isSome_iff_exists.mp h6
                obtain ⟨rfl, hj1, hj2⟩ := rgl_some hj
                refine aw_iload_n dX10_rule_91 rfl rfl ?_
                refine aw_z_lt (tgt := 111) dX10_rule_92 (by decide) rfl (by omega) ?_
                refine aw_aload_n dX10_rule_95 rfl rfl (by first | exact isR_ref _ | exact isR_rf _ | exact isR_null) ?_
                refine aw_get dX10_rule_96 fl_X10_47 (sM_kd hM) (sM_n hM) (sM_r_handCode hM _ _) ?_
                refine aw_iconst (v := nI 4) dX10_rule_99 (by decide) ?_
                refine aw_iload_n dX10_rule_100 rfl rfl ?_
                first | refine aw_imulN dX10_rule_101 ?_ | refine aw_imul dX10_rule_101 ?_
                refine aw_iload_n dX10_rule_102 rfl rfl ?_
                first | refine aw_iaddN dX10_rule_103 ?_ | refine aw_iadd dX10_rule_103 ?_
                refine aw_bipush (v := nI 10) dX10_rule_104 (by decide) ?_
                refine aw_isubN (by omega) dX10_rule_106 ?_
                refine aw_iald dX10_rule_107 (sM_k_handCode hM) (sM_l_handCode hM) (ixm (by omega)) ?_
                refine aw_goto (tgt := 125) dX10_rule_108 (by decide) ?_
                refine aw_iret dX10_rule_125 rfl rfl ?_
                rw [hj]
                exact ⟨by rw [show 4 * h + j - 10 = 4 * h + (j - 10) by omega], rfl⟩
              · refine aw_iconst (v := (-1)) dX10_rule_89 (by decide) ?_
                refine aw_iret dX10_rule_90 rfl rfl ?_
                rw [isSome_f h6]
                exact ⟨rfl, rfl⟩
            · refine aw_iload dX10_rule_72 rfl ?_
              refine aw_iret dX10_rule_74 rfl rfl ?_
              exact ⟨by simp only [mRuleR, mManyR]; rw [if_neg c0, if_neg h4, if_pos h5], rfl⟩
          · refine aw_aload_n dX10_rule_61 rfl rfl (by first | exact isR_ref _ | exact isR_rf _ | exact isR_null) ?_
            refine aw_iload_n dX10_rule_62 rfl rfl ?_
            refine aw_cVx (as := [_]) dX10_rule_63 lk_X10_195 cm_X10_folderAt vi_X10_folderAt (by unfold RO; decide) rfl (sM_kd hM) (sM_n hM) rfl rfl rfl (Nat.le_of_ble_eq_true rfl) (m_folderAt hM hB hp2) ?_
            refine aw_iret dX10_rule_66 rfl rfl ?_
            exact ⟨by simp only [mRuleR]; rw [if_neg c0, if_pos h4, er], rfl⟩
        · exact absurd h3 c0
    | none =>
      have hh := kth_none e
      have er : mRow I p = .inr (p - mH I) := by rw [mRow, e]
      have hl : p - mH I < 6 := by unfold mH at *; omega
      have hpH : cnt (mth I) 10 ≤ p := hh
      have hm : I 38 (p - mH I) = nI (tn (I 38 (p - mH I))) := (hB.2.2.2.1 _ hl).eq
      have hm4 := (hB.2.2.2.1 _ hl).le
      rw [er]
      refine aw_isubN (by omega) dX10_rule_21 ?_
      refine aw_top (show nI (p - cnt (mth I) 10) = nI (p - mH I) from rfl) ?_
      refine aw_istore (lv' := [(0, _), (1, _), (2, _), (3, _), (4, _)]) dX10_rule_22 (by decide) rfl ?_
      refine aw_iload_n dX10_rule_24 rfl rfl ?_
      refine aw_if_lt (tgt := 37) dX10_rule_25 (by decide) (fun h2 => ?_) (fun h2 => ?_)
      · refine aw_aload_n dX10_rule_37 rfl rfl (by first | exact isR_ref _ | exact isR_rf _ | exact isR_null) ?_
        refine aw_get dX10_rule_38 fl_X10_56 (sM_kd hM) (sM_n hM) (sM_r_learntTests hM _ _) ?_
        refine aw_iload dX10_rule_41 rfl ?_
        refine aw_iald dX10_rule_43 (sM_k_learntTests hM) (sM_l_learntTests hM) (ixm (by omega)) ?_
        refine aw_top (hm) ?_
        refine aw_istore (lv' := [(0, _), (1, _), (2, _), (3, _), (4, _), (5, _)]) dX10_rule_44 (by decide) rfl ?_
        refine aw_iload_n dX10_rule_46 rfl rfl ?_
        by_cases c0 : w = nI 0
        · subst c0
          refine aw_z_ne (tgt := 56) dX10_rule_47 (by decide) rfl (by omega) (fun h3 => ?_) (fun h3 => ?_)
          · exact absurd rfl h3
          · refine aw_aload_n dX10_rule_50 rfl rfl (by first | exact isR_ref _ | exact isR_rf _ | exact isR_null) ?_
            refine aw_iload_n dX10_rule_51 rfl rfl ?_
            refine aw_cVx (as := [_]) dX10_rule_52 lk_X10_192 cm_X10_nameAt vi_X10_nameAt (by unfold RO; decide) rfl (sM_kd hM) (sM_n hM) rfl rfl rfl (Nat.le_of_ble_eq_true rfl) (m_nameAt hM hB hp2) ?_
            refine aw_iret dX10_rule_55 rfl rfl ?_
            exact ⟨by rw [er]; rfl, rfl⟩
        · refine aw_if_ne (tgt := 56) dX10_rule_47 (by decide) (fun h3 => ?_) (fun h3 => ?_)
          · refine aw_iload_n dX10_rule_56 rfl rfl ?_
            refine aw_iconst (v := nI 1) dX10_rule_57 (by decide) ?_
            refine aw_icmp_ne (tgt := 67) dX10_rule_58 (by decide) (fun h4 => ?_) (fun h4 => ?_)
            · refine aw_iload_n dX10_rule_67 rfl rfl ?_
              refine aw_iconst (v := nI 2) dX10_rule_68 (by decide) ?_
              refine aw_icmp_ne (tgt := 75) dX10_rule_69 (by decide) (fun h5 => ?_) (fun h5 => ?_)
              · refine aw_iload_n dX10_rule_75 rfl rfl ?_
                refine aw_bipush (v := nI 10) dX10_rule_76 (by decide) ?_
                refine aw_bipush (v := nI 9) dX10_rule_78 (by decide) ?_
                refine aw_iload dX10_rule_80 rfl ?_
                first | refine aw_iaddN dX10_rule_82 ?_ | refine aw_iadd dX10_rule_82 ?_
                refine aw_cSx (as := [_, _, _]) dX10_rule_83 lk_X10_156 cm_X10_in sm_X10_in (by unfold RO; decide) rfl rfl (Nat.le_of_ble_eq_true rfl) (m_inN _ (by decide) (by omega)) ?_
                have em : rgl w 10 (9 + tn (I 38 (p - mH I)) + 1) = rgl w 10 (10 + tn (I 38 (p - mH I))) := by rw [show 9 + tn (I 38 (p - mH I)) + 1 = 10 + tn (I 38 (p - mH I)) by omega]
                rw [em]
                have er2 : mRuleR I (.inr (p - mH I)) w = match rgl w 10 (10 + tn (I 38 (p - mH I))) with | none => -1 | some j => I 39 (2 * (p - mH I) + (j - 10)) := by simp only [mRuleR, mManyR, mCodeR]; rw [if_neg c0, if_neg h4, if_neg h5]
                rw [er2]
                refine aw_b_ne (tgt := 91) dX10_rule_86 (by decide) rfl (fun h6 => ?_) (fun h6 => ?_)
                · obtain ⟨j, hj⟩ := Option.isSome_iff_exists.mp h6
                  obtain ⟨rfl, hj1, hj2⟩ := rgl_some hj
                  refine aw_iload_n dX10_rule_91 rfl rfl ?_
                  refine aw_if_lt (tgt := 111) dX10_rule_92 (by decide) (fun h7 => ?_) (fun h7 => ?_)
                  · refine aw_aload_n dX10_rule_111 rfl rfl (by first | exact isR_ref _ | exact isR_rf _ | exact isR_null) ?_
                    refine aw_get dX10_rule_112 fl_X10_59 (sM_kd hM) (sM_n hM) (sM_r_learntCode hM _ _) ?_
                    refine aw_iconst (v := nI 2) dX10_rule_115 (by decide) ?_
                    refine aw_iload dX10_rule_116 rfl ?_
                    first | refine aw_imulN dX10_rule_118 ?_ | refine aw_imul dX10_rule_118 ?_
                    refine aw_iload_n dX10_rule_119 rfl rfl ?_
                    first | refine aw_iaddN dX10_rule_120 ?_ | refine aw_iadd dX10_rule_120 ?_
                    refine aw_bipush (v := nI 10) dX10_rule_121 (by decide) ?_
                    refine aw_isubN (by omega) dX10_rule_123 ?_
                    refine aw_iald dX10_rule_124 (sM_k_learntCode hM) (sM_l_learntCode hM) (ixm (by omega)) ?_
                    refine aw_iret dX10_rule_125 rfl rfl ?_
                    rw [hj]
                    exact ⟨by rw [show 2 * (p - mH I) + j - 10 = 2 * (p - mH I) + (j - 10) by omega], rfl⟩
                  · exact absurd (by decide : (-1 : Int32) < 0) h7
                · refine aw_iconst (v := (-1)) dX10_rule_89 (by decide) ?_
                  refine aw_iret dX10_rule_90 rfl rfl ?_
                  rw [isSome_f h6]
                  exact ⟨rfl, rfl⟩
              · refine aw_iload dX10_rule_72 rfl ?_
                refine aw_iret dX10_rule_74 rfl rfl ?_
                exact ⟨by simp only [mRuleR, mManyR]; rw [if_neg c0, if_neg h4, if_pos h5], rfl⟩
            · refine aw_aload_n dX10_rule_61 rfl rfl (by first | exact isR_ref _ | exact isR_rf _ | exact isR_null) ?_
              refine aw_iload_n dX10_rule_62 rfl rfl ?_
              refine aw_cVx (as := [_]) dX10_rule_63 lk_X10_195 cm_X10_folderAt vi_X10_folderAt (by unfold RO; decide) rfl (sM_kd hM) (sM_n hM) rfl rfl rfl (Nat.le_of_ble_eq_true rfl) (m_folderAt hM hB hp2) ?_
              refine aw_iret dX10_rule_66 rfl rfl ?_
              exact ⟨by simp only [mRuleR]; rw [if_neg c0, if_pos h4, er], rfl⟩
          · exact absurd h3 c0
      · exact absurd (by decide : (-1 : Int32) < 0) h2
  · refine aw_iconst (v := (-1)) dX10_rule_8 (by decide) ?_
    refine aw_iret dX10_rule_9 rfl rfl ?_
    exact ⟨by unfold mRule; rw [isSome_f h1], rfl⟩
end MOD7
