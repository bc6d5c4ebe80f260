section CLS2
variable {G : GG} {n sz : Nat} {kd : Nat → AKd} {I : Nat → Nat → Int32} {R : Nat → Nat → Option Nat} {J : Nat → Nat → Int64}
/-- the RULE at a place -/
def cGet (R : Nat → Nat → Option Nat) (L : Nat) (x : Int32) : Option Nat := match rgl x 0 (2 ^ 31) with
  | none => none
  | some p => match kth (thC R) p 10 with
    | some h => R 6 h
    | none => if p - cnt (thC R) 10 < L then R 7 (p - cnt (thC R) 10) else none
theorem c_get (hC : ShC G n kd R) {L : Nat} (hL : I 5 2 = nI L) (hL6 : L ≤ 6) (x : Int32) : EX G mX5_get [.ref (gz G + 5), .int x] (n, sz, kd, I, R, J) (some (va_rf (cGet R L x))) (n, sz, kd, I, R, J) := by
  refine mm_of rfl [(0, .ref (gz G + 5)), (1, .int x)] rfl (Nat.le_of_ble_eq_true rfl) ?_
  refine aw_iconst (v := nI 0) dX5_get_0 (by decide) ?_
  refine aw_istore_n (lv' := [(0, _), (1, _), (2, _)]) dX5_get_1 rfl (by decide) rfl ?_
  refine aw_iconst (v := nI 0) dX5_get_2 (by decide) ?_
  refine aw_istore_n (lv' := [(0, _), (1, _), (2, _), (3, _)]) dX5_get_3 rfl (by decide) rfl ?_
  have hH := cnt_le (thC R) 10
  have loop : ∀ d i, i + d = 10 → (∀ j, j < i → thC R j = true → x ≠ nI (cnt (thC R) j)) → AW G mX5_get 4 [(0, .ref (gz G + 5)), (1, .int x), (2, .int (nI (cnt (thC R) i))), (3, .int (nI i))] [] (n, sz, kd, I, R, J) (fun v' M' => v' = some (va_rf (cGet R L x)) ∧ M' = (n, sz, kd, I, R, J)) := by
    intro d
    induction d with
    | zero =>
      intro i hi ha
      have e10 : i = 10 := by omega
      subst e10
      refine aw_iload_n dX5_get_4 rfl rfl ?_
      refine aw_bipush (v := nI 10) dX5_get_5 (by decide) ?_
      refine aw_n_ge (tgt := 40) dX5_get_7 (by decide) rfl rfl (by omega) (by omega) (fun h => ?_) (fun h => ?_)
      · refine aw_iload_n dX5_get_40 rfl rfl ?_
        refine aw_iload_n dX5_get_41 rfl rfl ?_
        have nk : ∀ p, p < cnt (thC R) 10 → x ≠ nI p := fun p hp => by
          obtain ⟨k, hk⟩ := kth_lt hp
          obtain ⟨k1, k2, k3⟩ := kth_some hk
          rw [← k3]
          exact ha k k1 k2
        refine aw_icmp_lt (tgt := 66) dX5_get_42 (by decide) (fun h2 => ?_) (fun h2 => ?_)
        · refine aw_null dX5_get_66 ?_
          refine aw_aret dX5_get_67 rfl (Or.inl ⟨_, rfl⟩) (by first | exact isR_ref _ | exact isR_rf _ | exact isR_null) ?_
          have e : cGet R L x = none := by
            unfold cGet
            cases hx : rgl x 0 (2 ^ 31) with
            | none => rfl
            | some p =>
              exfalso
              obtain ⟨rfl, -, hp⟩ := rgl_some hx
              exact nk p ((nI_ltI hp (by omega)).mp h2) rfl
          rw [e]
          exact ⟨rfl, rfl⟩
        · cases hx : rgl x 0 (2 ^ 31) with
          | none =>
            exfalso
            apply h2
            rw [Int32.lt_iff_toInt_lt, nI_toInt (by omega)]
            unfold rgl at hx
            split at hx
            · cases hx
            · rename_i q
              have := Int32.toInt_lt x
              omega
          | some p =>
            obtain ⟨rfl, -, hp⟩ := rgl_some hx
            have hge : cnt (thC R) 10 ≤ p := by
              have : ¬ p < cnt (thC R) 10 := fun z => h2 ((nI_ltI hp (by omega)).mpr z)
              omega
            have ek := kth_ge hge
            refine aw_iload_n dX5_get_45 rfl rfl ?_
            refine aw_iload_n dX5_get_46 rfl rfl ?_
            refine aw_isubN (by omega) dX5_get_47 ?_
            refine aw_aload_n dX5_get_48 rfl rfl (by first | exact isR_ref _ | exact isR_rf _ | exact isR_null) ?_
            refine aw_get dX5_get_49 fl_X5_20 (sC_k5 hC) (sC_n5 hC) (congrArg Value.int hL) ?_
            refine aw_n_ge (tgt := 66) dX5_get_52 (by decide) rfl rfl (by omega) (by omega) (fun h3 => ?_) (fun h3 => ?_)
            · refine aw_null dX5_get_66 ?_
              refine aw_aret dX5_get_67 rfl (Or.inl ⟨_, rfl⟩) (by first | exact isR_ref _ | exact isR_rf _ | exact isR_null) ?_
              have e : cGet R L (nI p) = none := by
                unfold cGet
                rw [hx]
                dsimp only
                rw [ek]
                dsimp only
                rw [if_neg (by omega)]
              rw [e]
              exact ⟨rfl, rfl⟩
            · refine aw_aload_n dX5_get_55 rfl rfl (by first | exact isR_ref _ | exact isR_rf _ | exact isR_null) ?_
              refine aw_get dX5_get_56 fl_X5_17 (sC_k5 hC) (sC_n5 hC) (sC_r_5_learnt hC _ _) ?_
              refine aw_iload_n dX5_get_59 rfl rfl ?_
              refine aw_iload_n dX5_get_60 rfl rfl ?_
              refine aw_isubN (by omega) dX5_get_61 ?_
              refine aw_aald dX5_get_62 (by decide) (sC_k7 hC) (sC_n7 hC) (ixm (by omega)) ?_
              refine aw_goto (tgt := 67) dX5_get_63 (by decide) ?_
              refine aw_aret dX5_get_67 rfl (Or.inl ⟨_, rfl⟩) (by first | exact isR_ref _ | exact isR_rf _ | exact isR_null) ?_
              have e : cGet R L (nI p) = R 7 (p - cnt (thC R) 10) := by
                unfold cGet
                rw [hx]
                dsimp only
                rw [ek]
                dsimp only
                rw [if_pos (by omega)]
              rw [e]
              exact ⟨rfl, rfl⟩
      · exact absurd h (by omega)
    | succ d ih =>
      intro i hi ha
      have hci := cnt_le (thC R) i
      refine aw_iload_n dX5_get_4 rfl rfl ?_
      refine aw_bipush (v := nI 10) dX5_get_5 (by decide) ?_
      refine aw_n_ge (tgt := 40) dX5_get_7 (by decide) rfl rfl (by omega) (by omega) (fun h => ?_) (fun h => ?_)
      · exact absurd h (by omega)
      · refine aw_aload_n dX5_get_10 rfl rfl (by first | exact isR_ref _ | exact isR_rf _ | exact isR_null) ?_
        refine aw_get dX5_get_11 fl_X5_11 (sC_k5 hC) (sC_n5 hC) (sC_r_5_hands hC _ _) ?_
        refine aw_iload_n dX5_get_14 rfl rfl ?_
        refine aw_aald dX5_get_15 (by decide) (sC_k6 hC) (sC_n6 hC) (ixm (by omega)) ?_
        refine aw_ifnull (tgt := 34) dX5_get_16 (by decide) (fun h2 => ?_) (fun a_h2 h2 => ?_)
        · first | refine aw_iincN (c := 1) (lv' := [(0, _), (1, _), (2, _), (3, _)]) dX5_get_34 rfl (by decide) rfl rfl ?_ | refine aw_iinc (v := 1) (lv' := [(0, _), (1, _), (2, _), (3, _)]) dX5_get_34 rfl (by decide) (by decide) rfl ?_
          refine aw_goto (tgt := 4) dX5_get_37 (by decide) ?_
          have ih' := ih (i + 1) (by omega) (fun j hj hq => by
            by_cases e : j = i
            · subst e; rw [thC_n h2] at hq; cases hq
            · exact ha j (by omega) hq)
          rw [show cnt (thC R) (i + 1) = cnt (thC R) i by simp [cnt, thC_n h2]] at ih'
          exact ih'
        · refine aw_iload_n dX5_get_19 rfl rfl ?_
          refine aw_iload_n dX5_get_20 rfl rfl ?_
          have hq := thC_s h2
          refine aw_icmp_ne (tgt := 31) dX5_get_21 (by decide) (fun h3 => ?_) (fun h3 => ?_)
          · first | refine aw_iincN (c := 1) (lv' := [(0, _), (1, _), (2, _), (3, _)]) dX5_get_31 rfl (by decide) rfl rfl ?_ | refine aw_iinc (v := 1) (lv' := [(0, _), (1, _), (2, _), (3, _)]) dX5_get_31 rfl (by decide) (by decide) rfl ?_
            first | refine aw_iincN (c := 1) (lv' := [(0, _), (1, _), (2, _), (3, _)]) dX5_get_34 rfl (by decide) rfl rfl ?_ | refine aw_iinc (v := 1) (lv' := [(0, _), (1, _), (2, _), (3, _)]) dX5_get_34 rfl (by decide) (by decide) rfl ?_
            refine aw_goto (tgt := 4) dX5_get_37 (by decide) ?_
            have ih' := ih (i + 1) (by omega) (fun j hj hq => by
              by_cases e : j = i
              · subst e; exact fun z => h3 z.symm
              · exact ha j (by omega) hq)
            rw [show cnt (thC R) (i + 1) = cnt (thC R) i + 1 by simp [cnt, hq]] at ih'
            exact ih'
          · subst h3
            refine aw_aload_n dX5_get_24 rfl rfl (by first | exact isR_ref _ | exact isR_rf _ | exact isR_null) ?_
            refine aw_get dX5_get_25 fl_X5_11 (sC_k5 hC) (sC_n5 hC) (sC_r_5_hands hC _ _) ?_
            refine aw_iload_n dX5_get_28 rfl rfl ?_
            refine aw_aald dX5_get_29 (by decide) (sC_k6 hC) (sC_n6 hC) (ixm (by omega)) ?_
            refine aw_aret dX5_get_30 rfl (Or.inl ⟨_, rfl⟩) (by first | exact isR_ref _ | exact isR_rf _ | exact isR_null) ?_
            have e : kth (thC R) (cnt (thC R) i) (i + 1) = some i := by simp [kth, kth_ge (Nat.le_refl _), hq]
            have e2 := kth_stay e d
            rw [show i + 1 + d = 10 by omega] at e2
            have e3 : cGet R L (nI (cnt (thC R) i)) = R 6 i := by
              unfold cGet
              rw [rgl_nI (Nat.zero_le _) (by omega) (by omega)]
              dsimp only
              rw [e2]
            rw [e3]
            exact ⟨rfl, rfl⟩
  exact loop 10 0 rfl (fun j hj => absurd hj (Nat.not_lt_zero j))
def cHf (G : GG) (kd : Nat → AKd) (I : Nat → Nat → Int32) (R : Nat → Nat → Option Nat) (J : Nat → Nat → Int64) (l h : Nat) : Bool := thC R h && cFt G kd I R J (rc G R 6 h) l
def cLf (G : GG) (kd : Nat → AKd) (I : Nat → Nat → Int32) (R : Nat → Nat → Option Nat) (J : Nat → Nat → Int64) (l j : Nat) : Bool := cFt G kd I R J (rc G R 7 j) l
def cPl (G : GG) (kd : Nat → AKd) (I : Nat → Nat → Int32) (R : Nat → Nat → Option Nat) (J : Nat → Nat → Int64) (L l : Nat) : Option Nat := match fstF (cHf G kd I R J l) 10 with
  | some h => some (cnt (thC R) h)
  | none => match fstF (cLf G kd I R J l) L with
    | some j => some (cnt (thC R) 10 + j)
    | none => none
theorem hv_s (hV : HV G n kd R) {h a : Nat} (hh : h < 10) (e : R 6 h = some a) : RuC G n kd R 6 h := hV h hh (by rw [e]; exact fun z => by cases z)
theorem c_placeThatFits (hC : ShC G n kd R) (hV : HV G n kd R) {L : Nat} (hL : I 5 2 = nI L) (hK : KV G n kd R L) {l : Nat} (hl : iO n kd l 3) : EX G mX5_placeThatFits [.ref (gz G + 5), .ref (gz G + l)] (n, sz, kd, I, R, J) (some (.int (oI (cPl G kd I R J L l)))) (n, sz, kd, I, R, J) := by
  refine mm_of rfl [(0, .ref (gz G + 5)), (1, .ref (gz G + l))] rfl (Nat.le_of_ble_eq_true rfl) ?_
  have hL6 := hK.1
  refine aw_iconst (v := nI 0) dX5_placeThatFits_0 (by decide) ?_
  refine aw_istore_n (lv' := [(0, _), (1, _), (2, _)]) dX5_placeThatFits_1 rfl (by decide) rfl ?_
  refine aw_iconst (v := nI 0) dX5_placeThatFits_2 (by decide) ?_
  refine aw_istore_n (lv' := [(0, _), (1, _), (2, _), (3, _)]) dX5_placeThatFits_3 rfl (by decide) rfl ?_
  have hH := cnt_le (thC R) 10
  have two : ∀ d i, i + d = L → fstF (cHf G kd I R J l) 10 = none → fstF (cLf G kd I R J l) i = none → AW G mX5_placeThatFits 45 [(0, .ref (gz G + 5)), (1, .ref (gz G + l)), (2, .int (nI (cnt (thC R) 10))), (3, .int (nI i))] [] (n, sz, kd, I, R, J) (fun v' M' => v' = some (.int (oI (cPl G kd I R J L l))) ∧ M' = (n, sz, kd, I, R, J)) := by
    intro d
    induction d with
    | zero =>
      intro i hi hn ha
      refine aw_iload_n dX5_placeThatFits_45 rfl rfl ?_
      refine aw_aload_n dX5_placeThatFits_46 rfl rfl (by first | exact isR_ref _ | exact isR_rf _ | exact isR_null) ?_
      refine aw_get dX5_placeThatFits_47 fl_X5_20 (sC_k5 hC) (sC_n5 hC) (congrArg Value.int hL) ?_
      refine aw_n_ge (tgt := 76) dX5_placeThatFits_50 (by decide) rfl rfl (by omega) (by omega) (fun h => ?_) (fun h => ?_)
      · refine aw_iconst (v := (-1)) dX5_placeThatFits_76 (by decide) ?_
        refine aw_iret dX5_placeThatFits_77 rfl rfl ?_
        exact ⟨by unfold cPl; rw [hn]; dsimp only; rw [show L = i by omega, ha]; rfl, rfl⟩
      · exact absurd h (by omega)
    | succ d ih =>
      intro i hi hn ha
      refine aw_iload_n dX5_placeThatFits_45 rfl rfl ?_
      refine aw_aload_n dX5_placeThatFits_46 rfl rfl (by first | exact isR_ref _ | exact isR_rf _ | exact isR_null) ?_
      refine aw_get dX5_placeThatFits_47 fl_X5_20 (sC_k5 hC) (sC_n5 hC) (congrArg Value.int hL) ?_
      refine aw_n_ge (tgt := 76) dX5_placeThatFits_50 (by decide) rfl rfl (by omega) (by omega) (fun h => ?_) (fun h => ?_)
      · exact absurd h (by omega)
      · have hr := hK.2 i (by omega)
        refine aw_aload_n dX5_placeThatFits_53 rfl rfl (by first | exact isR_ref _ | exact isR_rf _ | exact isR_null) ?_
        refine aw_get dX5_placeThatFits_54 fl_X5_17 (sC_k5 hC) (sC_n5 hC) (sC_r_5_learnt hC _ _) ?_
        refine aw_iload_n dX5_placeThatFits_57 rfl rfl ?_
        refine aw_aaS dX5_placeThatFits_58 (by decide) (sC_k7 hC) (sC_n7 hC) (ixm (by omega)) (hr).1.1 ?_
        refine aw_aload_n dX5_placeThatFits_59 rfl rfl (by first | exact isR_ref _ | exact isR_rf _ | exact isR_null) ?_
        refine aw_cVx (as := [_]) dX5_placeThatFits_60 lk_X5_24 cm_X6_fits vi_X6_fits (by unfold RO; decide) rfl (hr).1.2.2 (hr).1.2.1 rfl rfl rfl (Nat.le_of_ble_eq_true rfl) (c_fits hr.1.o hr.2 hl) ?_
        refine aw_b_eq (tgt := 70) dX5_placeThatFits_63 (by decide) rfl (fun h2 => ?_) (fun h2 => ?_)
        · first | refine aw_iincN (c := 1) (lv' := [(0, _), (1, _), (2, _), (3, _)]) dX5_placeThatFits_70 rfl (by decide) rfl rfl ?_ | refine aw_iinc (v := 1) (lv' := [(0, _), (1, _), (2, _), (3, _)]) dX5_placeThatFits_70 rfl (by decide) (by decide) rfl ?_
          refine aw_goto (tgt := 45) dX5_placeThatFits_73 (by decide) ?_
          exact ih (i + 1) (by omega) hn (by rw [fstF, ha]; dsimp only; rw [show cLf G kd I R J l i = false from h2]; rfl)
        · refine aw_iload_n dX5_placeThatFits_66 rfl rfl ?_
          refine aw_iload_n dX5_placeThatFits_67 rfl rfl ?_
          first | refine aw_iaddN dX5_placeThatFits_68 ?_ | refine aw_iadd dX5_placeThatFits_68 ?_
          refine aw_iret dX5_placeThatFits_69 rfl rfl ?_
          have e : fstF (cLf G kd I R J l) (i + 1) = some i := by rw [fstF, ha]; dsimp only; rw [show cLf G kd I R J l i = true from h2]; rfl
          have e2 := fstF_stay e d
          rw [show i + 1 + d = L by omega] at e2
          exact ⟨by unfold cPl; rw [hn]; dsimp only; rw [e2]; rfl, rfl⟩
  have loop : ∀ d i, i + d = 10 → fstF (cHf G kd I R J l) i = none → AW G mX5_placeThatFits 4 [(0, .ref (gz G + 5)), (1, .ref (gz G + l)), (2, .int (nI (cnt (thC R) i))), (3, .int (nI i))] [] (n, sz, kd, I, R, J) (fun v' M' => v' = some (.int (oI (cPl G kd I R J L l))) ∧ M' = (n, sz, kd, I, R, J)) := by
    intro d
    induction d with
    | zero =>
      intro i hi ha
      have e10 : i = 10 := by omega
      subst e10
      refine aw_iload_n dX5_placeThatFits_4 rfl rfl ?_
      refine aw_bipush (v := nI 10) dX5_placeThatFits_5 (by decide) ?_
      refine aw_n_ge (tgt := 43) dX5_placeThatFits_7 (by decide) rfl rfl (by omega) (by omega) (fun h => ?_) (fun h => ?_)
      · refine aw_iconst (v := nI 0) dX5_placeThatFits_43 (by decide) ?_
        refine aw_istore_n (lv' := [(0, _), (1, _), (2, _), (3, _)]) dX5_placeThatFits_44 rfl (by decide) rfl ?_
        exact two L 0 (by omega) ha rfl
      · exact absurd h (by omega)
    | succ d ih =>
      intro i hi ha
      refine aw_iload_n dX5_placeThatFits_4 rfl rfl ?_
      refine aw_bipush (v := nI 10) dX5_placeThatFits_5 (by decide) ?_
      refine aw_n_ge (tgt := 43) dX5_placeThatFits_7 (by decide) rfl rfl (by omega) (by omega) (fun h => ?_) (fun h => ?_)
      · exact absurd h (by omega)
      · refine aw_aload_n dX5_placeThatFits_10 rfl rfl (by first | exact isR_ref _ | exact isR_rf _ | exact isR_null) ?_
        refine aw_get dX5_placeThatFits_11 fl_X5_11 (sC_k5 hC) (sC_n5 hC) (sC_r_5_hands hC _ _) ?_
        refine aw_iload_n dX5_placeThatFits_14 rfl rfl ?_
        refine aw_aald dX5_placeThatFits_15 (by decide) (sC_k6 hC) (sC_n6 hC) (ixm (by omega)) ?_
        refine aw_ifnull (tgt := 37) dX5_placeThatFits_16 (by decide) (fun h2 => ?_) (fun a_h2 h2 => ?_)
        · first | refine aw_iincN (c := 1) (lv' := [(0, _), (1, _), (2, _), (3, _)]) dX5_placeThatFits_37 rfl (by decide) rfl rfl ?_ | refine aw_iinc (v := 1) (lv' := [(0, _), (1, _), (2, _), (3, _)]) dX5_placeThatFits_37 rfl (by decide) (by decide) rfl ?_
          refine aw_goto (tgt := 4) dX5_placeThatFits_40 (by decide) ?_
          have ih' := ih (i + 1) (by omega) (by rw [fstF, ha]; simp [cHf, thC_n h2])
          rw [show cnt (thC R) (i + 1) = cnt (thC R) i by simp [cnt, thC_n h2]] at ih'
          exact ih'
        · have hr := hv_s hV (by omega) h2
          have hq := thC_s h2
          refine aw_aload_n dX5_placeThatFits_19 rfl rfl (by first | exact isR_ref _ | exact isR_rf _ | exact isR_null) ?_
          refine aw_get dX5_placeThatFits_20 fl_X5_11 (sC_k5 hC) (sC_n5 hC) (sC_r_5_hands hC _ _) ?_
          refine aw_iload_n dX5_placeThatFits_23 rfl rfl ?_
          refine aw_aaS dX5_placeThatFits_24 (by decide) (sC_k6 hC) (sC_n6 hC) (ixm (by omega)) (hr).1.1 ?_
          refine aw_aload_n dX5_placeThatFits_25 rfl rfl (by first | exact isR_ref _ | exact isR_rf _ | exact isR_null) ?_
          refine aw_cVx (as := [_]) dX5_placeThatFits_26 lk_X5_24 cm_X6_fits vi_X6_fits (by unfold RO; decide) rfl (hr).1.2.2 (hr).1.2.1 rfl rfl rfl (Nat.le_of_ble_eq_true rfl) (c_fits hr.1.o hr.2 hl) ?_
          refine aw_b_eq (tgt := 34) dX5_placeThatFits_29 (by decide) rfl (fun h3 => ?_) (fun h3 => ?_)
          · first | refine aw_iincN (c := 1) (lv' := [(0, _), (1, _), (2, _), (3, _)]) dX5_placeThatFits_34 rfl (by decide) rfl rfl ?_ | refine aw_iinc (v := 1) (lv' := [(0, _), (1, _), (2, _), (3, _)]) dX5_placeThatFits_34 rfl (by decide) (by decide) rfl ?_
            first | refine aw_iincN (c := 1) (lv' := [(0, _), (1, _), (2, _), (3, _)]) dX5_placeThatFits_37 rfl (by decide) rfl rfl ?_ | refine aw_iinc (v := 1) (lv' := [(0, _), (1, _), (2, _), (3, _)]) dX5_placeThatFits_37 rfl (by decide) (by decide) rfl ?_
            refine aw_goto (tgt := 4) dX5_placeThatFits_40 (by decide) ?_
            have ih' := ih (i + 1) (by omega) (by rw [fstF, ha]; simp [cHf, h3])
            rw [show cnt (thC R) (i + 1) = cnt (thC R) i + 1 by simp [cnt, hq]] at ih'
            exact ih'
          · refine aw_iload_n dX5_placeThatFits_32 rfl rfl ?_
            refine aw_iret dX5_placeThatFits_33 rfl rfl ?_
            have e : fstF (cHf G kd I R J l) (i + 1) = some i := by rw [fstF, ha]; simp [cHf, h3, hq]
            have e2 := fstF_stay e d
            rw [show i + 1 + d = 10 by omega] at e2
            exact ⟨by unfold cPl; rw [e2]; rfl, rfl⟩
  exact loop 10 0 rfl rfl
/-- the first RULE that FITS -/
def cFi (G : GG) (kd : Nat → AKd) (I : Nat → Nat → Int32) (R : Nat → Nat → Option Nat) (J : Nat → Nat → Int64) (L l : Nat) : Option Nat := match fstF (cHf G kd I R J l) 10 with
  | some h => R 6 h
  | none => match fstF (cLf G kd I R J l) L with
    | some j => R 7 j
    | none => none
theorem cGet_cPl {L l : Nat} (hL6 : L ≤ 6) : cGet R L (oI (cPl G kd I R J L l)) = cFi G kd I R J L l := by
  have hH := cnt_le (thC R) 10
  unfold cPl cFi
  cases h1 : fstF (cHf G kd I R J l) 10 with
  | some h =>
    obtain ⟨k1, k2, -⟩ := fstF_some h1
    have hq : thC R h = true := by
      unfold cHf at k2
      cases hh : thC R h with
      | true => rfl
      | false => rw [hh] at k2; cases k2
    have hch := cnt_le (thC R) h
    have e : kth (thC R) (cnt (thC R) h) (h + 1) = some h := by simp [kth, kth_ge (Nat.le_refl _), hq]
    have e2 := kth_stay e (10 - (h + 1))
    rw [show h + 1 + (10 - (h + 1)) = 10 by omega] at e2
    show cGet R L (nI (cnt (thC R) h)) = R 6 h
    unfold cGet
    rw [rgl_nI (Nat.zero_le _) (by omega) (by omega)]
    dsimp only
    rw [e2]
  | none =>
    dsimp only
    cases h2 : fstF (cLf G kd I R J l) L with
    | some j =>
      obtain ⟨k1, -, -⟩ := fstF_some h2
      show cGet R L (nI (cnt (thC R) 10 + j)) = R 7 j
      unfold cGet
      rw [rgl_nI (Nat.zero_le _) (by omega) (by omega)]
      dsimp only
      rw [kth_ge (Nat.le_add_right _ _)]
      dsimp only
      rw [Nat.add_sub_cancel_left, if_pos k1]
    | none => rfl
theorem c_firstThatFits (hC : ShC G n kd R) (hV : HV G n kd R) {L : Nat} (hL : I 5 2 = nI L) (hK : KV G n kd R L) {l : Nat} (hl : iO n kd l 3) : EX G mX5_firstThatFits [.ref (gz G + 5), .ref (gz G + l)] (n, sz, kd, I, R, J) (some (va_rf (cFi G kd I R J L l))) (n, sz, kd, I, R, J) := by
  refine mm_of rfl [(0, .ref (gz G + 5)), (1, .ref (gz G + l))] rfl (Nat.le_of_ble_eq_true rfl) ?_
  refine aw_aload_n dX5_firstThatFits_0 rfl rfl (by first | exact isR_ref _ | exact isR_rf _ | exact isR_null) ?_
  refine aw_aload_n dX5_firstThatFits_1 rfl rfl (by first | exact isR_ref _ | exact isR_rf _ | exact isR_null) ?_
  refine aw_aload_n dX5_firstThatFits_2 rfl rfl (by first | exact isR_ref _ | exact isR_rf _ | exact isR_null) ?_
  refine aw_cVx (as := [_]) dX5_firstThatFits_3 lk_X5_28 cm_X5_placeThatFits vi_X5_placeThatFits (by unfold RO; decide) rfl (sC_k5 hC) (sC_n5 hC) rfl rfl rfl (Nat.le_of_ble_eq_true rfl) (c_placeThatFits hC hV hL hK hl) ?_
  refine aw_cVx (as := [_]) dX5_firstThatFits_6 lk_X5_32 cm_X5_get vi_X5_get (by unfold RO; decide) rfl (sC_k5 hC) (sC_n5 hC) rfl rfl rfl (Nat.le_of_ble_eq_true rfl) (c_get hC hL hK.1 _) ?_
  refine aw_aret dX5_firstThatFits_9 rfl (Or.inl ⟨_, rfl⟩) (by first | exact isR_ref _ | exact isR_rf _ | exact isR_null) ?_
  rw [cGet_cPl hK.1]
  exact ⟨rfl, rfl⟩
theorem c_anyHandFits (hC : ShC G n kd R) (hV : HV G n kd R) {l : Nat} (hl : iO n kd l 3) : EX G mX5_anyHandFits [.ref (gz G + 5), .ref (gz G + l)] (n, sz, kd, I, R, J) (some (.int (bi (fstF (cHf G kd I R J l) 10).isSome))) (n, sz, kd, I, R, J) := by
  refine mm_of rfl [(0, .ref (gz G + 5)), (1, .ref (gz G + l))] rfl (Nat.le_of_ble_eq_true rfl) ?_
  refine aw_iconst (v := nI 0) dX5_anyHandFits_0 (by decide) ?_
  refine aw_istore_n (lv' := [(0, _), (1, _), (2, _)]) dX5_anyHandFits_1 rfl (by decide) rfl ?_
  have loop : ∀ d i, i + d = 10 → fstF (cHf G kd I R J l) i = none → AW G mX5_anyHandFits 2 [(0, .ref (gz G + 5)), (1, .ref (gz G + l)), (2, .int (nI i))] [] (n, sz, kd, I, R, J) (fun v' M' => v' = some (.int (bi (fstF (cHf G kd I R J l) 10).isSome)) ∧ M' = (n, sz, kd, I, R, J)) := by
    intro d
    induction d with
    | zero =>
      intro i hi ha
      have e10 : i = 10 := by omega
      subst e10
      refine aw_iload_n dX5_anyHandFits_2 rfl rfl ?_
      refine aw_bipush (v := nI 10) dX5_anyHandFits_3 (by decide) ?_
      refine aw_n_ge (tgt := 38) dX5_anyHandFits_5 (by decide) rfl rfl (by omega) (by omega) (fun h => ?_) (fun h => ?_)
      · refine aw_iconst (v := nI 0) dX5_anyHandFits_38 (by decide) ?_
        refine aw_iret dX5_anyHandFits_39 rfl rfl ?_
        exact ⟨by rw [ha]; rfl, rfl⟩
      · exact absurd h (by omega)
    | succ d ih =>
      intro i hi ha
      refine aw_iload_n dX5_anyHandFits_2 rfl rfl ?_
      refine aw_bipush (v := nI 10) dX5_anyHandFits_3 (by decide) ?_
      refine aw_n_ge (tgt := 38) dX5_anyHandFits_5 (by decide) rfl rfl (by omega) (by omega) (fun h => ?_) (fun h => ?_)
      · exact absurd h (by omega)
      · refine aw_aload_n dX5_anyHandFits_8 rfl rfl (by first | exact isR_ref _ | exact isR_rf _ | exact isR_null) ?_
        refine aw_get dX5_anyHandFits_9 fl_X5_11 (sC_k5 hC) (sC_n5 hC) (sC_r_5_hands hC _ _) ?_
        refine aw_iload_n dX5_anyHandFits_12 rfl rfl ?_
        refine aw_aald dX5_anyHandFits_13 (by decide) (sC_k6 hC) (sC_n6 hC) (ixm (by omega)) ?_
        refine aw_ifnull (tgt := 32) dX5_anyHandFits_14 (by decide) (fun h2 => ?_) (fun a_h2 h2 => ?_)
        · first | refine aw_iincN (c := 1) (lv' := [(0, _), (1, _), (2, _)]) dX5_anyHandFits_32 rfl (by decide) rfl rfl ?_ | refine aw_iinc (v := 1) (lv' := [(0, _), (1, _), (2, _)]) dX5_anyHandFits_32 rfl (by decide) (by decide) rfl ?_
          refine aw_goto (tgt := 2) dX5_anyHandFits_35 (by decide) ?_
          exact ih (i + 1) (by omega) (by rw [fstF, ha]; simp [cHf, thC_n h2])
        · have hr := hv_s hV (by omega) h2
          have hq := thC_s h2
          refine aw_aload_n dX5_anyHandFits_17 rfl rfl (by first | exact isR_ref _ | exact isR_rf _ | exact isR_null) ?_
          refine aw_get dX5_anyHandFits_18 fl_X5_11 (sC_k5 hC) (sC_n5 hC) (sC_r_5_hands hC _ _) ?_
          refine aw_iload_n dX5_anyHandFits_21 rfl rfl ?_
          refine aw_aaS dX5_anyHandFits_22 (by decide) (sC_k6 hC) (sC_n6 hC) (ixm (by omega)) (hr).1.1 ?_
          refine aw_aload_n dX5_anyHandFits_23 rfl rfl (by first | exact isR_ref _ | exact isR_rf _ | exact isR_null) ?_
          refine aw_cVx (as := [_]) dX5_anyHandFits_24 lk_X5_24 cm_X6_fits vi_X6_fits (by unfold RO; decide) rfl (hr).1.2.2 (hr).1.2.1 rfl rfl rfl (Nat.le_of_ble_eq_true rfl) (c_fits hr.1.o hr.2 hl) ?_
          refine aw_b_eq (tgt := 32) dX5_anyHandFits_27 (by decide) rfl (fun h3 => ?_) (fun h3 => ?_)
          · first | refine aw_iincN (c := 1) (lv' := [(0, _), (1, _), (2, _)]) dX5_anyHandFits_32 rfl (by decide) rfl rfl ?_ | refine aw_iinc (v := 1) (lv' := [(0, _), (1, _), (2, _)]) dX5_anyHandFits_32 rfl (by decide) (by decide) rfl ?_
            refine aw_goto (tgt := 2) dX5_anyHandFits_35 (by decide) ?_
            exact ih (i + 1) (by omega) (by rw [fstF, ha]; simp [cHf, h3])
          · refine aw_iconst (v := nI 1) dX5_anyHandFits_30 (by decide) ?_
            refine aw_iret dX5_anyHandFits_31 rfl rfl ?_
            have e : fstF (cHf G kd I R J l) (i + 1) = some i := by rw [fstF, ha]; simp [cHf, h3, hq]
            have e2 := fstF_stay e d
            rw [show i + 1 + d = 10 by omega] at e2
            exact ⟨by rw [e2]; rfl, rfl⟩
  exact loop 10 0 rfl rfl
theorem c_addLearnt (hC : ShC G n kd R) {L : Nat} (hL : I 5 2 = nI L) (hL6 : L < 6) {r : Nat} (hr : iO n kd r 7) : EX G mX5_addLearnt [.ref (gz G + 5), .ref (gz G + r)] (n, sz, kd, I, R, J) none (n, sz, kd, u2 I 5 2 (nI (L + 1)), u2 R 7 L (some (gz G + r)), J) := by
  refine mm_of rfl [(0, .ref (gz G + 5)), (1, .ref (gz G + r))] rfl (Nat.le_of_ble_eq_true rfl) ?_
  refine aw_aload_n dX5_addLearnt_0 rfl rfl (by first | exact isR_ref _ | exact isR_rf _ | exact isR_null) ?_
  refine aw_get dX5_addLearnt_1 fl_X5_20 (sC_k5 hC) (sC_n5 hC) (congrArg Value.int hL) ?_
  refine aw_bipush (v := nI 6) dX5_addLearnt_4 (by decide) ?_
  refine aw_n_ge (tgt := 29) dX5_addLearnt_6 (by decide) rfl rfl (by omega) (by omega) (fun h => ?_) (fun h => ?_)
  · exact absurd h (by omega)
  · refine aw_aload_n dX5_addLearnt_9 rfl rfl (by first | exact isR_ref _ | exact isR_rf _ | exact isR_null) ?_
    refine aw_get dX5_addLearnt_10 fl_X5_17 (sC_k5 hC) (sC_n5 hC) (sC_r_5_learnt hC _ _) ?_
    refine aw_aload_n dX5_addLearnt_13 rfl rfl (by first | exact isR_ref _ | exact isR_rf _ | exact isR_null) ?_
    refine aw_get dX5_addLearnt_14 fl_X5_20 (sC_k5 hC) (sC_n5 hC) (congrArg Value.int hL) ?_
    refine aw_aload_n dX5_addLearnt_17 rfl rfl (by first | exact isR_ref _ | exact isR_rf _ | exact isR_null) ?_
    refine aw_aast dX5_addLearnt_18 (by decide) rfl (sC_k7 hC) (sC_n7 hC) (ixm (by omega)) hr.1 hr.2 rfl (Or.inl rfl) ?_
    have hC := hC.put (a := 7) L (some (gz G + r)) (by decide)
    refine aw_aload_n dX5_addLearnt_19 rfl rfl (by first | exact isR_ref _ | exact isR_rf _ | exact isR_null) ?_
    refine aw_dup dX5_addLearnt_20 rfl ?_
    refine aw_get dX5_addLearnt_21 fl_X5_20 (sC_k5 hC) (sC_n5 hC) (congrArg Value.int hL) ?_
    refine aw_iconst (v := nI 1) dX5_addLearnt_24 (by decide) ?_
    first | refine aw_iaddN dX5_addLearnt_25 ?_ | refine aw_iadd dX5_addLearnt_25 ?_
    refine aw_putI dX5_addLearnt_26 fl_X5_20 (Or.inl rfl) rfl (sC_k5 hC) (sC_n5 hC) ?_
    refine aw_vret dX5_addLearnt_29 rfl ?_
    exact ⟨rfl, rfl⟩
end CLS2
