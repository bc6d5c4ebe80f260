section MOD9
variable {G : GG} {n sz : Nat} {kd : Nat → AKd} {I : Nat → Nat → Int32} {R : Nat → Nat → Option Nat} {J : Nat → Nat → Int64}
/-- the memory but for the reference's scratch row of counts -/
def mT (I : Nat → Nat → Int32) (row : Nat → Int32) : Nat → Nat → Int32 := fun r c => if r = 50 then row c else I r c
/-- a best one so far: what it saves, its first test, its second, its folder -/
abbrev Bst : Type := Int32 × Int32 × Int32 × Int32
def wB (I : Nat → Nat → Int32) (t : Bst) : Nat → Nat → Int32 := u2 (u2 (u2 (u2 I 22 49 t.1) 22 50 t.2.1) 22 51 t.2.2.1) 22 52 t.2.2.2
def rB (I : Nat → Nat → Int32) : Bst := (I 22 49, I 22 50, I 22 51, I 22 52)
theorem u2_id (f : Nat → Nat → Int32) (k j : Nat) : u2 f k j (f k j) = f := by
  funext a b
  unfold u2
  split
  · split
    · rename_i h1 h2; rw [h1, h2]
    · rfl
  · rfl
theorem wB_rB (I : Nat → Nat → Int32) : wB I (rB I) = I := by
  show u2 (u2 (u2 (u2 I 22 49 (I 22 49)) 22 50 (I 22 50)) 22 51 (I 22 51)) 22 52 (I 22 52) = I
  rw [u2_id, u2_id, u2_id, u2_id]
theorem wB_wB (I : Nat → Nat → Int32) (t u : Bst) : wB (wB I t) u = wB I u := by
  funext a b
  unfold wB u2
  repeat' split
  all_goals rfl
theorem mT_mT (I : Nat → Nat → Int32) (r q : Nat → Int32) : mT (mT I r) q = mT I q := by
  funext a b
  unfold mT
  split <;> rfl
theorem mT_u2 (I : Nat → Nat → Int32) (r : Nat → Int32) (j : Nat) (x : Int32) : u2 (mT I r) 50 j x = mT I (fun c => if c = j then x else r c) := by
  funext a b
  unfold u2 mT
  by_cases h : a = 50
  · subst h; simp
  · simp [h]
theorem wB_mT (I : Nat → Nat → Int32) (r : Nat → Int32) (t : Bst) : wB (mT I r) t = mT (wB I t) r := by
  funext a b
  by_cases h : a = 50
  · subst h; rfl
  · unfold wB mT u2
    simp [h]
def mOpen (I : Nat → Nat → Int32) (k : Nat) : Bool := decide (¬ I 49 k = 0)
def mPassO (I : Nat → Nat → Int32) (k a : Nat) (o : Option Nat) : Bool := mPass I k (nI a) && (match o with | none => true | some b => mPass I k (nI b))
def mTP (I : Nat → Nat → Int32) (a : Nat) (o : Option Nat) (g k : Nat) : Bool := mOpen I k && (mPassO I k a o && decide (I 31 k = nI g))
def mThere (I : Nat → Nat → Int32) (a : Nat) (o : Option Nat) (g : Nat) : Nat := cnt (mTP I a o g) (mN I)
def oC (o : Option Nat) : Nat := match o with
  | none => 1
  | some _ => 2
def mGs (I : Nat → Nat → Int32) (a : Nat) (o : Option Nat) (f : Nat) : Nat → Int32
  | 0 => -(I 22 23) - nI (oC o) * I 22 24
  | g + 1 => mGs I a o f g + nI (mThere I a o g) * (mWrong I 0 g - mWrong I f g)
def mUpd (I : Nat → Nat → Int32) (a : Nat) (o : Option Nat) (f : Nat) (t : Bst) : Bst := if t.1 < mGs I a o f 8 then (mGs I a o f 8, nI a, oI o, nI f) else t
def mBs (I : Nat → Nat → Int32) (a : Nat) (o : Option Nat) (t : Bst) : Nat → Bst
  | 0 => t
  | f + 1 => mUpd I a o f (mBs I a o t f)
/-- an open LETTER BELONGS somewhere -/
def okOpen (I : Nat → Nat → Int32) : Prop := ∀ k, k < mN I → mOpen I k = true → bN (I 31 k) 7
def MS (G : GG) (y : MI) (as : List Value) (n sz : Nat) (kd : Nat → AKd) (I : Nat → Nat → Int32) (R : Nat → Nat → Option Nat) (J : Nat → Nat → Int64) (v : Option Value) (I' : Nat → Nat → Int32) : Prop := MM G y as (n, sz, kd, I, R, J) (fun v' M' => v' = v ∧ ∃ row, M' = (n, sz, kd, mT I' row, R, J))
theorem m_weighs (hM : ShM G n kd R) (hB : MB I) (hO : okOpen I) {a : Nat} {o : Option Nat} (row : Nat → Int32) (t : Bst) (ho : ∀ b, o = some b → b < 2 ^ 31) : MS G mX10_weighs [.ref (gz G + 22), .int (nI a), .int (oI o)] n sz kd (mT (wB I t) row) R J none (wB I (mBs I a o t 8)) := by
  refine mm_of rfl [(0, .ref (gz G + 22)), (1, .int (nI a)), (2, .int (oI o))] rfl (Nat.le_of_ble_eq_true rfl) ?_
  have hN : I 22 0 = nI (mN I) := hB.1.eq
  have hN1 : mN I ≤ 100 := hB.1.le
  refine aw_iconst (v := nI 0) dX10_weighs_0 (by decide) ?_
  refine aw_istore_n (lv' := [(0, _), (1, _), (2, _), (3, _)]) dX10_weighs_1 rfl (by decide) rfl ?_
  have l1 : ∀ d i (row : Nat → Int32), i + d = 8 → (∀ g, g < i → row g = nI 0) → (∀ row : Nat → Int32, (∀ g, g < 8 → row g = nI 0) → AW G mX10_weighs 21 [(0, .ref (gz G + 22)), (1, .int (nI a)), (2, .int (oI o)), (3, .int (nI 8))] [] (n, sz, kd, mT (wB I t) row, R, J) (fun v' M' => v' = none ∧ ∃ row, M' = (n, sz, kd, mT (wB I (mBs I a o t 8)) row, R, J))) → AW G mX10_weighs 2 [(0, .ref (gz G + 22)), (1, .int (nI a)), (2, .int (oI o)), (3, .int (nI i))] [] (n, sz, kd, mT (wB I t) row, R, J) (fun v' M' => v' = none ∧ ∃ row, M' = (n, sz, kd, mT (wB I (mBs I a o t 8)) row, R, J)) := by
    intro d
    induction d with
    | zero =>
      intro i row hi hr K
      refine aw_iload_n dX10_weighs_2 rfl rfl ?_
      refine aw_bipush (v := nI 8) dX10_weighs_3 (by decide) ?_
      refine aw_n_ge (tgt := 21) dX10_weighs_5 (by decide) rfl rfl (by omega) (by omega) (fun h => ?_) (fun h => ?_)
      · rw [show i = 8 by omega]
        exact K row (fun g hg => hr g (by omega))
      · exact absurd h (by omega)
    | succ d ih =>
      intro i row hi hr K
      refine aw_iload_n dX10_weighs_2 rfl rfl ?_
      refine aw_bipush (v := nI 8) dX10_weighs_3 (by decide) ?_
      refine aw_n_ge (tgt := 21) dX10_weighs_5 (by decide) rfl rfl (by omega) (by omega) (fun h => ?_) (fun h => ?_)
      · exact absurd h (by omega)
      · refine aw_aload_n dX10_weighs_8 rfl rfl (by first | exact isR_ref _ | exact isR_rf _ | exact isR_null) ?_
        refine aw_get dX10_weighs_9 fl_X10_100 (sM_kd hM) (sM_n hM) (sM_r_there hM _ _) ?_
        refine aw_iload_n dX10_weighs_12 rfl rfl ?_
        refine aw_iconst (v := nI 0) dX10_weighs_13 (by decide) ?_
        refine aw_iast dX10_weighs_14 (sM_k_there hM) (sM_l_there hM) (ixm (by omega)) ?_
        rw [mT_u2]
        first | refine aw_iincN (c := 1) (lv' := [(0, _), (1, _), (2, _), (3, _)]) dX10_weighs_15 rfl (by decide) rfl rfl ?_ | refine aw_iinc (v := 1) (lv' := [(0, _), (1, _), (2, _), (3, _)]) dX10_weighs_15 rfl (by decide) (by decide) rfl ?_
        refine aw_goto (tgt := 2) dX10_weighs_18 (by decide) ?_
        refine ih (i + 1) _ (by omega) (fun g hg => ?_) K
        by_cases hgi : g = i
        · simp [hgi]
        · simp [hgi]; exact hr g (by omega)
  refine l1 8 0 row rfl (fun g hg => by omega) (fun row hr => ?_)
  have l2 : ∀ d i (row : Nat → Int32), i + d = mN I → (∀ g, g < 8 → row g = nI (cnt (mTP I a o g) i)) → (∀ row : Nat → Int32, (∀ g, g < 8 → row g = nI (mThere I a o g)) → AW G mX10_weighs 83 [(0, .ref (gz G + 22)), (1, .int (nI a)), (2, .int (oI o)), (3, .int (nI (mN I)))] [] (n, sz, kd, mT (wB I t) row, R, J) (fun v' M' => v' = none ∧ ∃ row, M' = (n, sz, kd, mT (wB I (mBs I a o t 8)) row, R, J))) → AW G mX10_weighs 23 [(0, .ref (gz G + 22)), (1, .int (nI a)), (2, .int (oI o)), (3, .int (nI i))] [] (n, sz, kd, mT (wB I t) row, R, J) (fun v' M' => v' = none ∧ ∃ row, M' = (n, sz, kd, mT (wB I (mBs I a o t 8)) row, R, J)) := by
    intro d
    induction d with
    | zero =>
      intro i row hi hr K
      refine aw_iload_n dX10_weighs_23 rfl rfl ?_
      refine aw_aload_n dX10_weighs_24 rfl rfl (by first | exact isR_ref _ | exact isR_rf _ | exact isR_null) ?_
      refine aw_get dX10_weighs_25 fl_X10_182 (sM_kd hM) (sM_n hM) (congrArg Value.int hN) ?_
      refine aw_n_ge (tgt := 83) dX10_weighs_28 (by decide) rfl rfl (by omega) (by omega) (fun h => ?_) (fun h => ?_)
      · have hi2 : i = mN I := by omega
        subst hi2
        exact K row hr
      · exact absurd h (by omega)
    | succ d ih =>
      intro i row hi hr K
      have no : (∀ g, mTP I a o g i = false) → AW G mX10_weighs 77 [(0, .ref (gz G + 22)), (1, .int (nI a)), (2, .int (oI o)), (3, .int (nI i))] [] (n, sz, kd, mT (wB I t) row, R, J) (fun v' M' => v' = none ∧ ∃ row, M' = (n, sz, kd, mT (wB I (mBs I a o t 8)) row, R, J)) := by
        intro hq
        first | refine aw_iincN (c := 1) (lv' := [(0, _), (1, _), (2, _), (3, _)]) dX10_weighs_77 rfl (by decide) rfl rfl ?_ | refine aw_iinc (v := 1) (lv' := [(0, _), (1, _), (2, _), (3, _)]) dX10_weighs_77 rfl (by decide) (by decide) rfl ?_
        refine aw_goto (tgt := 23) dX10_weighs_80 (by decide) ?_
        exact ih (i + 1) row (by omega) (fun g hg => by rw [hr g hg, cnt_no (hq g)]; rfl) K
      refine aw_iload_n dX10_weighs_23 rfl rfl ?_
      refine aw_aload_n dX10_weighs_24 rfl rfl (by first | exact isR_ref _ | exact isR_rf _ | exact isR_null) ?_
      refine aw_get dX10_weighs_25 fl_X10_182 (sM_kd hM) (sM_n hM) (congrArg Value.int hN) ?_
      refine aw_n_ge (tgt := 83) dX10_weighs_28 (by decide) rfl rfl (by omega) (by omega) (fun h => ?_) (fun h => ?_)
      · exact absurd h (by omega)
      · refine aw_aload_n dX10_weighs_31 rfl rfl (by first | exact isR_ref _ | exact isR_rf _ | exact isR_null) ?_
        refine aw_get dX10_weighs_32 fl_X10_97 (sM_kd hM) (sM_n hM) (sM_r_isOpen hM _ _) ?_
        refine aw_iload_n dX10_weighs_35 rfl rfl ?_
        refine aw_zald dX10_weighs_36 (sM_k_isOpen hM) (sM_l_isOpen hM) (ixm (by omega)) ?_
        refine aw_if_eq (tgt := 77) dX10_weighs_37 (by decide) (fun h2 => ?_) (fun h2 => ?_)
        · exact no (fun g => by simp [mTP, mOpen]; intro h3; exact absurd h2 h3)
        · have hop : mOpen I i = true := decide_eq_true h2
          have hb := hO i (by omega) hop
          have hb1 := hb.eq
          have hb2 := hb.le
          refine aw_aload_n dX10_weighs_40 rfl rfl (by first | exact isR_ref _ | exact isR_rf _ | exact isR_null) ?_
          refine aw_iload_n dX10_weighs_41 rfl rfl ?_
          refine aw_iload_n dX10_weighs_42 rfl rfl ?_
          refine aw_cVx (as := [_, _]) dX10_weighs_43 lk_X10_166 cm_X10_passes vi_X10_passes (by unfold RO; decide) rfl (sM_kd hM) (sM_n hM) rfl rfl rfl (Nat.le_of_ble_eq_true rfl) (m_passes (I := mT (wB I t) row) hM (by omega) _) ?_
          refine aw_top (show bi (mPass (mT (wB I t) row) i (nI a)) = bi (mPass I i (nI a)) from rfl) ?_
          refine aw_b_eq (tgt := 77) dX10_weighs_46 (by decide) rfl (fun h3 => ?_) (fun h3 => ?_)
          · exact no (fun g => by simp [mTP, mPassO, h3])
          · have yes : mPassO I i a o = true → AW G mX10_weighs 62 [(0, .ref (gz G + 22)), (1, .int (nI a)), (2, .int (oI o)), (3, .int (nI i))] [] (n, sz, kd, mT (wB I t) row, R, J) (fun v' M' => v' = none ∧ ∃ row, M' = (n, sz, kd, mT (wB I (mBs I a o t 8)) row, R, J)) := by
              intro hp
              refine aw_aload_n dX10_weighs_62 rfl rfl (by first | exact isR_ref _ | exact isR_rf _ | exact isR_null) ?_
              refine aw_get dX10_weighs_63 fl_X10_100 (sM_kd hM) (sM_n hM) (sM_r_there hM _ _) ?_
              refine aw_aload_n dX10_weighs_66 rfl rfl (by first | exact isR_ref _ | exact isR_rf _ | exact isR_null) ?_
              refine aw_get dX10_weighs_67 fl_X10_34 (sM_kd hM) (sM_n hM) (sM_r_belongs hM _ _) ?_
              refine aw_iload_n dX10_weighs_70 rfl rfl ?_
              refine aw_iald dX10_weighs_71 (sM_k_belongs hM) (sM_l_belongs hM) (ixm (by omega)) ?_
              refine aw_top (show mT (wB I t) row 31 i = nI (tn (I 31 i)) from hb1) ?_
              refine aw_dup2 dX10_weighs_72 rfl rfl ?_
              refine aw_iald dX10_weighs_73 (sM_k_there hM) (sM_l_there hM) (ixm (by omega)) ?_
              refine aw_top (show mT (wB I t) row 50 (tn (I 31 i)) = nI (cnt (mTP I a o (tn (I 31 i))) i) from hr _ (by omega)) ?_
              refine aw_iconst (v := nI 1) dX10_weighs_74 (by decide) ?_
              first | refine aw_iaddN dX10_weighs_75 ?_ | refine aw_iadd dX10_weighs_75 ?_
              refine aw_iast dX10_weighs_76 (sM_k_there hM) (sM_l_there hM) (ixm (by omega)) ?_
              rw [mT_u2]
              first | refine aw_iincN (c := 1) (lv' := [(0, _), (1, _), (2, _), (3, _)]) dX10_weighs_77 rfl (by decide) rfl rfl ?_ | refine aw_iinc (v := 1) (lv' := [(0, _), (1, _), (2, _), (3, _)]) dX10_weighs_77 rfl (by decide) (by decide) rfl ?_
              refine aw_goto (tgt := 23) dX10_weighs_80 (by decide) ?_
              refine ih (i + 1) _ (by omega) (fun g hg => ?_) K
              by_cases hgi : g = tn (I 31 i)
              · subst hgi
                rw [cnt_yes (show mTP I a o (tn (I 31 i)) i = true by simp only [mTP, hop, hp, Bool.true_and]; exact decide_eq_true hb1)]
                simp
              · rw [cnt_no (show mTP I a o g i = false by
                  simp only [mTP, hop, hp, Bool.true_and]
                  exact decide_eq_false (fun z => hgi (by rw [z, tn_nI (by omega)])))]
                simp [hgi]
                exact hr g hg
            refine aw_iload_n dX10_weighs_49 rfl rfl ?_
            cases o with
            | none =>
              refine aw_if_lt (tgt := 62) dX10_weighs_50 (by decide) (fun h4 => ?_) (fun h4 => ?_)
              · exact yes (by simp [mPassO, h3])
              · exact absurd (by decide : (-1 : Int32) < 0) h4
            | some b =>
              have hbb := ho b rfl
              refine aw_z_lt (tgt := 62) dX10_weighs_50 (by decide) rfl hbb ?_
              refine aw_aload_n dX10_weighs_53 rfl rfl (by first | exact isR_ref _ | exact isR_rf _ | exact isR_null) ?_
              refine aw_iload_n dX10_weighs_54 rfl rfl ?_
              refine aw_iload_n dX10_weighs_55 rfl rfl ?_
              refine aw_cVx (as := [_, _]) dX10_weighs_56 lk_X10_166 cm_X10_passes vi_X10_passes (by unfold RO; decide) rfl (sM_kd hM) (sM_n hM) rfl rfl rfl (Nat.le_of_ble_eq_true rfl) (m_passes (I := mT (wB I t) row) hM (by omega) _) ?_
              refine aw_top (show bi (mPass (mT (wB I t) row) i (nI b)) = bi (mPass I i (nI b)) from rfl) ?_
              refine aw_b_eq (tgt := 77) dX10_weighs_59 (by decide) rfl (fun h5 => ?_) (fun h5 => ?_)
              · exact no (fun g => by simp [mTP, mPassO, h5])
              · exact yes (by simp [mPassO, h3, h5])
  refine aw_iconst (v := nI 0) dX10_weighs_21 (by decide) ?_
  refine aw_istore_n (lv' := [(0, _), (1, _), (2, _), (3, _)]) dX10_weighs_22 rfl (by decide) rfl ?_
  refine l2 (mN I) 0 row (by omega) (fun g hg => hr g hg) (fun row hr => ?_)
  have l3 : ∀ d i, i + d = 8 → AW G mX10_weighs 85 [(0, .ref (gz G + 22)), (1, .int (nI a)), (2, .int (oI o)), (3, .int (nI i))] [] (n, sz, kd, mT (wB I (mBs I a o t i)) row, R, J) (fun v' M' => v' = none ∧ ∃ row, M' = (n, sz, kd, mT (wB I (mBs I a o t 8)) row, R, J)) := by
    intro d
    induction d with
    | zero =>
      intro i hi
      refine aw_iload_n dX10_weighs_85 rfl rfl ?_
      refine aw_bipush (v := nI 8) dX10_weighs_86 (by decide) ?_
      refine aw_n_ge (tgt := 196) dX10_weighs_88 (by decide) rfl rfl (by omega) (by omega) (fun h => ?_) (fun h => ?_)
      · refine aw_vret dX10_weighs_196 rfl ?_
        exact ⟨rfl, row, by rw [show i = 8 by omega]⟩
      · exact absurd h (by omega)
    | succ d ih =>
      intro i hi
      have ih' := ih (i + 1) (by omega)
      generalize hu : mBs I a o t i = u
      have eu : mBs I a o t (i + 1) = mUpd I a o i u := by rw [mBs, hu]
      rw [eu] at ih'
      have inner : ∀ d g, g + d = 8 → AW G mX10_weighs 116 [(0, .ref (gz G + 22)), (1, .int (nI a)), (2, .int (oI o)), (3, .int (nI i)), (4, .int (mGs I a o i g)), (5, .int (nI g))] [] (n, sz, kd, mT (wB I u) row, R, J) (fun v' M' => v' = none ∧ ∃ row, M' = (n, sz, kd, mT (wB I (mBs I a o t 8)) row, R, J)) := by
        intro d
        induction d with
        | zero =>
          intro g hg
          refine aw_iload dX10_weighs_116 rfl ?_
          refine aw_bipush (v := nI 8) dX10_weighs_118 (by decide) ?_
          refine aw_n_ge (tgt := 157) dX10_weighs_120 (by decide) rfl rfl (by omega) (by omega) (fun h => ?_) (fun h => ?_)
          · rw [show g = 8 by omega]
            refine aw_iload dX10_weighs_157 rfl ?_
            refine aw_aload_n dX10_weighs_159 rfl rfl (by first | exact isR_ref _ | exact isR_rf _ | exact isR_null) ?_
            refine aw_get dX10_weighs_160 fl_X10_208 (sM_kd hM) (sM_n hM) rfl ?_
            refine aw_top (show mT (wB I u) row 22 49 = u.1 from rfl) ?_
            refine aw_icmp_gt (tgt := 169) dX10_weighs_163 (by decide) (fun h2 => ?_) (fun h2 => ?_)
            · rw [show mUpd I a o i u = (mGs I a o i 8, nI a, oI o, nI i) from if_pos h2] at ih'
              refine aw_aload_n dX10_weighs_169 rfl rfl (by first | exact isR_ref _ | exact isR_rf _ | exact isR_null) ?_
              refine aw_iload dX10_weighs_170 rfl ?_
              refine aw_putI dX10_weighs_172 fl_X10_208 (Or.inl rfl) rfl (sM_kd hM) (sM_n hM) ?_
              refine aw_aload_n dX10_weighs_175 rfl rfl (by first | exact isR_ref _ | exact isR_rf _ | exact isR_null) ?_
              refine aw_iload_n dX10_weighs_176 rfl rfl ?_
              refine aw_putI dX10_weighs_177 fl_X10_211 (Or.inl rfl) rfl (sM_kd hM) (sM_n hM) ?_
              refine aw_aload_n dX10_weighs_180 rfl rfl (by first | exact isR_ref _ | exact isR_rf _ | exact isR_null) ?_
              refine aw_iload_n dX10_weighs_181 rfl rfl ?_
              refine aw_putI dX10_weighs_182 fl_X10_214 (Or.inl rfl) rfl (sM_kd hM) (sM_n hM) ?_
              refine aw_aload_n dX10_weighs_185 rfl rfl (by first | exact isR_ref _ | exact isR_rf _ | exact isR_null) ?_
              refine aw_iload_n dX10_weighs_186 rfl rfl ?_
              refine aw_putI dX10_weighs_187 fl_X10_217 (Or.inl rfl) rfl (sM_kd hM) (sM_n hM) ?_
              have em : u2 (u2 (u2 (u2 (mT (wB I u) row) 22 49 (mGs I a o i 8)) 22 50 (nI a)) 22 51 (oI o)) 22 52 (nI i) = mT (wB I (mGs I a o i 8, nI a, oI o, nI i)) row := by
                show wB (mT (wB I u) row) (mGs I a o i 8, nI a, oI o, nI i) = _
                rw [wB_mT, wB_wB]
              rw [em]
              first | refine aw_iincN (c := 1) (lv' := [(0, _), (1, _), (2, _), (3, _), (4, _), (5, _)]) dX10_weighs_190 rfl (by decide) rfl rfl ?_ | refine aw_iinc (v := 1) (lv' := [(0, _), (1, _), (2, _), (3, _), (4, _), (5, _)]) dX10_weighs_190 rfl (by decide) (by decide) rfl ?_
              refine aw_goto (tgt := 85) dX10_weighs_193 (by decide) ?_
              exact aw_app (ex := [_, _]) ih'
            · rw [show mUpd I a o i u = u from if_neg h2] at ih'
              refine aw_goto (tgt := 190) dX10_weighs_166 (by decide) ?_
              first | refine aw_iincN (c := 1) (lv' := [(0, _), (1, _), (2, _), (3, _), (4, _), (5, _)]) dX10_weighs_190 rfl (by decide) rfl rfl ?_ | refine aw_iinc (v := 1) (lv' := [(0, _), (1, _), (2, _), (3, _), (4, _), (5, _)]) dX10_weighs_190 rfl (by decide) (by decide) rfl ?_
              refine aw_goto (tgt := 85) dX10_weighs_193 (by decide) ?_
              exact aw_app (ex := [_, _]) ih'
          · exact absurd h (by omega)
        | succ d ih2 =>
          intro g hg
          refine aw_iload dX10_weighs_116 rfl ?_
          refine aw_bipush (v := nI 8) dX10_weighs_118 (by decide) ?_
          refine aw_n_ge (tgt := 157) dX10_weighs_120 (by decide) rfl rfl (by omega) (by omega) (fun h => ?_) (fun h => ?_)
          · exact absurd h (by omega)
          · refine aw_iload dX10_weighs_123 rfl ?_
            refine aw_aload_n dX10_weighs_125 rfl rfl (by first | exact isR_ref _ | exact isR_rf _ | exact isR_null) ?_
            refine aw_get dX10_weighs_126 fl_X10_100 (sM_kd hM) (sM_n hM) (sM_r_there hM _ _) ?_
            refine aw_iload dX10_weighs_129 rfl ?_
            refine aw_iald dX10_weighs_131 (sM_k_there hM) (sM_l_there hM) (ixm (by omega)) ?_
            refine aw_top (show mT (wB I u) row 50 g = nI (mThere I a o g) from hr g (by omega)) ?_
            refine aw_aload_n dX10_weighs_132 rfl rfl (by first | exact isR_ref _ | exact isR_rf _ | exact isR_null) ?_
            refine aw_iconst (v := nI 0) dX10_weighs_133 (by decide) ?_
            refine aw_iload dX10_weighs_134 rfl ?_
            refine aw_cVx (as := [_, _]) dX10_weighs_136 lk_X10_204 cm_X10_wrong vi_X10_wrong (by unfold RO; decide) rfl (sM_kd hM) (sM_n hM) rfl rfl rfl (Nat.le_of_ble_eq_true rfl) (m_wrong (I := mT (wB I u) row) hM (f := 0) (by decide) (by omega)) ?_
            refine aw_aload_n dX10_weighs_139 rfl rfl (by first | exact isR_ref _ | exact isR_rf _ | exact isR_null) ?_
            refine aw_iload_n dX10_weighs_140 rfl rfl ?_
            refine aw_iload dX10_weighs_141 rfl ?_
            refine aw_cVx (as := [_, _]) dX10_weighs_143 lk_X10_204 cm_X10_wrong vi_X10_wrong (by unfold RO; decide) rfl (sM_kd hM) (sM_n hM) rfl rfl rfl (Nat.le_of_ble_eq_true rfl) (m_wrong (I := mT (wB I u) row) hM (by omega) (by omega)) ?_
            refine aw_isub dX10_weighs_146 ?_
            refine aw_imul dX10_weighs_147 ?_
            refine aw_iadd dX10_weighs_148 ?_
            refine aw_istore (lv' := [(0, _), (1, _), (2, _), (3, _), (4, _), (5, _)]) dX10_weighs_149 (by decide) rfl ?_
            first | refine aw_iincN (c := 1) (lv' := [(0, _), (1, _), (2, _), (3, _), (4, _), (5, _)]) dX10_weighs_151 rfl (by decide) rfl rfl ?_ | refine aw_iinc (v := 1) (lv' := [(0, _), (1, _), (2, _), (3, _), (4, _), (5, _)]) dX10_weighs_151 rfl (by decide) (by decide) rfl ?_
            refine aw_goto (tgt := 116) dX10_weighs_154 (by decide) ?_
            exact ih2 (g + 1) (by omega)
      refine aw_iload_n dX10_weighs_85 rfl rfl ?_
      refine aw_bipush (v := nI 8) dX10_weighs_86 (by decide) ?_
      refine aw_n_ge (tgt := 196) dX10_weighs_88 (by decide) rfl rfl (by omega) (by omega) (fun h => ?_) (fun h => ?_)
      · exact absurd h (by omega)
      · have st0 : ∀ x, x = nI (oC o) → AW G mX10_weighs 105 [(0, .ref (gz G + 22)), (1, .int (nI a)), (2, .int (oI o)), (3, .int (nI i))] [.int x, .int (-(I 22 23))] (n, sz, kd, mT (wB I u) row, R, J) (fun v' M' => v' = none ∧ ∃ row, M' = (n, sz, kd, mT (wB I (mBs I a o t 8)) row, R, J)) := by
          intro x hx
          subst hx
          refine aw_aload_n dX10_weighs_105 rfl rfl (by first | exact isR_ref _ | exact isR_rf _ | exact isR_null) ?_
          refine aw_get dX10_weighs_106 fl_X10_72 (sM_kd hM) (sM_n hM) rfl ?_
          refine aw_imul dX10_weighs_109 ?_
          refine aw_isub dX10_weighs_110 ?_
          refine aw_istore (lv' := [(0, _), (1, _), (2, _), (3, _), (4, _)]) dX10_weighs_111 (by decide) rfl ?_
          refine aw_iconst (v := nI 0) dX10_weighs_113 (by decide) ?_
          refine aw_istore (lv' := [(0, _), (1, _), (2, _), (3, _), (4, _), (5, _)]) dX10_weighs_114 (by decide) rfl ?_
          exact inner 8 0 rfl
        refine aw_aload_n dX10_weighs_91 rfl rfl (by first | exact isR_ref _ | exact isR_rf _ | exact isR_null) ?_
        refine aw_get dX10_weighs_92 fl_X10_68 (sM_kd hM) (sM_n hM) rfl ?_
        refine aw_ineg dX10_weighs_95 ?_
        refine aw_iload_n dX10_weighs_96 rfl rfl ?_
        cases o with
        | none =>
          refine aw_if_ge (tgt := 104) dX10_weighs_97 (by decide) (fun h4 => ?_) (fun h4 => ?_)
          · exact absurd h4 (by decide)
          · refine aw_iconst (v := nI 1) dX10_weighs_100 (by decide) ?_
            refine aw_goto (tgt := 105) dX10_weighs_101 (by decide) ?_
            exact st0 _ rfl
        | some b =>
          refine aw_if_ge (tgt := 104) dX10_weighs_97 (by decide) (fun h4 => ?_) (fun h4 => ?_)
          · refine aw_iconst (v := nI 2) dX10_weighs_104 (by decide) ?_
            exact st0 _ rfl
          · exact absurd (nI_pos' (ho b rfl)) h4
  refine aw_iconst (v := nI 0) dX10_weighs_83 (by decide) ?_
  refine aw_istore_n (lv' := [(0, _), (1, _), (2, _), (3, _)]) dX10_weighs_84 rfl (by decide) rfl ?_
  exact l3 8 0 rfl
def mL1 (I : Nat → Nat → Int32) (t : Bst) : Nat → Bst
  | 0 => t
  | a + 1 => mBs I a none (mL1 I t a) 8
def mL2r (I : Nat → Nat → Int32) (a : Nat) (t : Bst) : Nat → Bst
  | 0 => t
  | d + 1 => mBs I a (some (a + 1 + d)) (mL2r I a t d) 8
def mL2 (I : Nat → Nat → Int32) (t : Bst) : Nat → Bst
  | 0 => t
  | a + 1 => mL2r I a (mL2 I t a) (39 - a)
def mLooks (I : Nat → Nat → Int32) : Bst := mL2 I (mL1 I (nI 0, (rB I).2) 40) 40
theorem m_looks (hM : ShM G n kd R) (hB : MB I) (hO : okOpen I) (row : Nat → Int32) : MS G mX10_looks [.ref (gz G + 22)] n sz kd (mT I row) R J none (wB I (mLooks I)) := by
  refine mm_of rfl [(0, .ref (gz G + 22))] rfl (Nat.le_of_ble_eq_true rfl) ?_
  refine aw_aload_n dX10_looks_0 rfl rfl (by first | exact isR_ref _ | exact isR_rf _ | exact isR_null) ?_
  refine aw_iconst (v := nI 0) dX10_looks_1 (by decide) ?_
  refine aw_putI dX10_looks_2 fl_X10_208 (Or.inl rfl) rfl (sM_kd hM) (sM_n hM) ?_
  have e0 : u2 (mT I row) 22 49 (nI 0) = mT (wB I (nI 0, (rB I).2)) row := by
    rw [← wB_mT]
    generalize hx : u2 (mT I row) 22 49 (nI 0) = X1
    have hw : wB (mT I row) (nI 0, (rB I).2) = u2 (u2 (u2 X1 22 50 (X1 22 50)) 22 51 (X1 22 51)) 22 52 (X1 22 52) := by
      subst hx
      rfl
    rw [hw, u2_id, u2_id, u2_id]
  rw [e0]
  refine aw_iconst (v := nI 0) dX10_looks_5 (by decide) ?_
  refine aw_istore_n (lv' := [(0, _), (1, _)]) dX10_looks_6 rfl (by decide) rfl ?_
  have l1 : ∀ d i (row : Nat → Int32), i + d = 40 → (∀ row, AW G mX10_looks 25 [(0, .ref (gz G + 22)), (1, .int (nI 40))] [] (n, sz, kd, mT (wB I (mL1 I (nI 0, (rB I).2) 40)) row, R, J) (fun v' M' => v' = none ∧ ∃ row, M' = (n, sz, kd, mT (wB I (mLooks I)) row, R, J))) → AW G mX10_looks 7 [(0, .ref (gz G + 22)), (1, .int (nI i))] [] (n, sz, kd, mT (wB I (mL1 I (nI 0, (rB I).2) i)) row, R, J) (fun v' M' => v' = none ∧ ∃ row, M' = (n, sz, kd, mT (wB I (mLooks I)) row, R, J)) := by
    intro d
    induction d with
    | zero =>
      intro i row hi K
      refine aw_iload_n dX10_looks_7 rfl rfl ?_
      refine aw_bipush (v := nI 40) dX10_looks_8 (by decide) ?_
      refine aw_n_ge (tgt := 25) dX10_looks_10 (by decide) rfl rfl (by omega) (by omega) (fun h => ?_) (fun h => ?_)
      · have hi2 : i = 40 := by omega
        subst hi2
        exact K row
      · exact absurd h (by omega)
    | succ d ih =>
      intro i row hi K
      refine aw_iload_n dX10_looks_7 rfl rfl ?_
      refine aw_bipush (v := nI 40) dX10_looks_8 (by decide) ?_
      refine aw_n_ge (tgt := 25) dX10_looks_10 (by decide) rfl rfl (by omega) (by omega) (fun h => ?_) (fun h => ?_)
      · exact absurd h (by omega)
      · refine aw_aload_n dX10_looks_13 rfl rfl (by first | exact isR_ref _ | exact isR_rf _ | exact isR_null) ?_
        refine aw_iload_n dX10_looks_14 rfl rfl ?_
        refine aw_iconst (v := (-1)) dX10_looks_15 (by decide) ?_
        refine aw_callV (as := [_, _]) dX10_looks_16 lk_X10_220 cm_X10_weighs vi_X10_weighs (by unfold RO; decide) rfl (sM_kd hM) (sM_n hM) rfl rfl rfl (Nat.le_of_ble_eq_true rfl) (m_weighs hM hB hO (o := none) row _ (fun b hb => by cases hb)) ?_
        rintro _ _ ⟨rfl, row', rfl⟩
        show AW G mX10_looks (16 + 3) [(0, .ref (gz G + 22)), (1, .int (nI i))] [] _ _
        first | refine aw_iincN (c := 1) (lv' := [(0, _), (1, _)]) dX10_looks_19 rfl (by decide) rfl rfl ?_ | refine aw_iinc (v := 1) (lv' := [(0, _), (1, _)]) dX10_looks_19 rfl (by decide) (by decide) rfl ?_
        refine aw_goto (tgt := 7) dX10_looks_22 (by decide) ?_
        exact ih (i + 1) row' (by omega) K
  refine l1 40 0 row rfl (fun row => ?_)
  refine aw_iconst (v := nI 0) dX10_looks_25 (by decide) ?_
  refine aw_istore_n (lv' := [(0, _), (1, _)]) dX10_looks_26 rfl (by decide) rfl ?_
  have l2 : ∀ d i (row : Nat → Int32), i + d = 40 → ∀ ex, AW G mX10_looks 27 ([(0, .ref (gz G + 22)), (1, .int (nI i))] ++ ex) [] (n, sz, kd, mT (wB I (mL2 I (mL1 I (nI 0, (rB I).2) 40) i)) row, R, J) (fun v' M' => v' = none ∧ ∃ row, M' = (n, sz, kd, mT (wB I (mLooks I)) row, R, J)) := by
    intro d
    induction d with
    | zero =>
      intro i row hi ex
      refine aw_app ?_
      refine aw_iload_n dX10_looks_27 rfl rfl ?_
      refine aw_bipush (v := nI 40) dX10_looks_28 (by decide) ?_
      refine aw_n_ge (tgt := 61) dX10_looks_30 (by decide) rfl rfl (by omega) (by omega) (fun h => ?_) (fun h => ?_)
      · refine aw_vret dX10_looks_61 rfl ?_
        exact ⟨rfl, row, by rw [mLooks, show i = 40 by omega]⟩
      · exact absurd h (by omega)
    | succ d ih =>
      intro i row hi ex
      refine aw_app ?_
      refine aw_iload_n dX10_looks_27 rfl rfl ?_
      refine aw_bipush (v := nI 40) dX10_looks_28 (by decide) ?_
      refine aw_n_ge (tgt := 61) dX10_looks_30 (by decide) rfl rfl (by omega) (by omega) (fun h => ?_) (fun h => ?_)
      · exact absurd h (by omega)
      · refine aw_iload_n dX10_looks_33 rfl rfl ?_
        refine aw_iconst (v := nI 1) dX10_looks_34 (by decide) ?_
        first | refine aw_iaddN dX10_looks_35 ?_ | refine aw_iadd dX10_looks_35 ?_
        refine aw_istore_n (lv' := [(0, _), (1, _), (2, _)]) dX10_looks_36 rfl (by decide) rfl ?_
        generalize hu : mL2 I (mL1 I (nI 0, (rB I).2) 40) i = u
        have eu : mL2 I (mL1 I (nI 0, (rB I).2) 40) (i + 1) = mL2r I i u (39 - i) := by rw [mL2, hu]
        have inner : ∀ d2 j (row : Nat → Int32), j + d2 = 39 - i → AW G mX10_looks 37 [(0, .ref (gz G + 22)), (1, .int (nI i)), (2, .int (nI (i + 1 + j)))] [] (n, sz, kd, mT (wB I (mL2r I i u j)) row, R, J) (fun v' M' => v' = none ∧ ∃ row, M' = (n, sz, kd, mT (wB I (mLooks I)) row, R, J)) := by
          intro d2
          induction d2 with
          | zero =>
            intro j row hj
            refine aw_iload_n dX10_looks_37 rfl rfl ?_
            refine aw_bipush (v := nI 40) dX10_looks_38 (by decide) ?_
            refine aw_n_ge (tgt := 55) dX10_looks_40 (by decide) rfl rfl (by omega) (by omega) (fun h2 => ?_) (fun h2 => ?_)
            · first | refine aw_iincN (c := 1) (lv' := [(0, _), (1, _), (2, _)]) dX10_looks_55 rfl (by decide) rfl rfl ?_ | refine aw_iinc (v := 1) (lv' := [(0, _), (1, _), (2, _)]) dX10_looks_55 rfl (by decide) (by decide) rfl ?_
              refine aw_goto (tgt := 27) dX10_looks_58 (by decide) ?_
              have key := ih (i + 1) row (by omega) [(2, .int (nI (i + 1 + j)))]
              rw [eu, show 39 - i = j by omega] at key
              exact key
            · exact absurd h2 (by omega)
          | succ d2 ih2 =>
            intro j row hj
            refine aw_iload_n dX10_looks_37 rfl rfl ?_
            refine aw_bipush (v := nI 40) dX10_looks_38 (by decide) ?_
            refine aw_n_ge (tgt := 55) dX10_looks_40 (by decide) rfl rfl (by omega) (by omega) (fun h2 => ?_) (fun h2 => ?_)
            · exact absurd h2 (by omega)
            · refine aw_aload_n dX10_looks_43 rfl rfl (by first | exact isR_ref _ | exact isR_rf _ | exact isR_null) ?_
              refine aw_iload_n dX10_looks_44 rfl rfl ?_
              refine aw_iload_n dX10_looks_45 rfl rfl ?_
              refine aw_callV (as := [_, _]) dX10_looks_46 lk_X10_220 cm_X10_weighs vi_X10_weighs (by unfold RO; decide) rfl (sM_kd hM) (sM_n hM) rfl rfl rfl (Nat.le_of_ble_eq_true rfl) (m_weighs hM hB hO (o := some (i + 1 + j)) row _ (fun b hb => by cases hb; omega)) ?_
              rintro _ _ ⟨rfl, row', rfl⟩
              show AW G mX10_looks (46 + 3) [(0, .ref (gz G + 22)), (1, .int (nI i)), (2, .int (nI (i + 1 + j)))] [] _ _
              first | refine aw_iincN (c := 1) (lv' := [(0, _), (1, _), (2, _)]) dX10_looks_49 rfl (by decide) rfl rfl ?_ | refine aw_iinc (v := 1) (lv' := [(0, _), (1, _), (2, _)]) dX10_looks_49 rfl (by decide) (by decide) rfl ?_
              refine aw_goto (tgt := 37) dX10_looks_52 (by decide) ?_
              exact ih2 (j + 1) row' (by omega)
        exact inner (39 - i) 0 row (by omega)
  exact l2 40 0 row rfl []
end MOD9
