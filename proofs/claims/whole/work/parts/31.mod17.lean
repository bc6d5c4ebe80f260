section MOD17
variable {G : GG} {n sz : Nat} {kd : Nat → AKd} {I : Nat → Nat → Int32} {R : Nat → Nat → Option Nat} {J : Nat → Nat → Int64}
def mostK (k : Nat) : Nat := match k with
  | 0 => 15
  | 1 => 7
  | 2 => 15
  | _ => 999
def baseK (k : Nat) : Nat := match k with
  | 0 => 0
  | 1 => 16
  | 2 => 24
  | 3 => 100
  | _ => 1100
/-- a TEST: its place behind, its CODE; or the FAULT -/
def pTest (b : Nat → Nat) (P i t : Nat) : Nat ⊕ (Nat × Nat) := match wcode b (run (isBl b) P i) (run (isLt b) P (run (isBl b) P i)) with
  | none => .inl (1 + 8 * run (isBl b) P i)
  | some w => if w < 4 then .inl (1 + 8 * run (isBl b) P i) else if t = 4 then .inl (1 + 8 * run (isBl b) P i + 2) else match pNum b P (run (isLt b) P (run (isBl b) P i)) (mostK (w - 4)) with
    | .inl f => .inl f
    | .inr (v, q) => .inr (q, v + baseK (w - 4))
def QTest (n sz : Nat) (kd : Nat → AKd) (I : Nat → Nat → Int32) (R : Nat → Nat → Option Nat) (J : Nat → Nat → Int64) (t : Nat) (rf : Int32) (rd : Nat → Int32) (o : Nat ⊕ (Nat × Nat)) (v' : Option Value) (M' : Mem) : Prop := match o with
  | .inl f => v' = some (.int (bi false)) ∧ ∃ nx ws sd, M' = (n, sz, kd, pS I (nx, ws, nI f, sd, nI t, rf, rd), R, J)
  | .inr (q, c) => v' = some (.int (bi true)) ∧ ∃ ws sd, M' = (n, sz, kd, pS I (nI q, ws, nI 0, sd, nI (t + 1), rf, fun j => if j = t then nI c else rd j), R, J)
theorem wcode_lt {b : Nat → Nat} {s e w : Nat} (h : wcode b s e = some w) : w < 9 := (fstF_some h).1
theorem pNum_le {b : Nat → Nat} {P i m v q : Nat} (hi : i ≤ P) (h : pNum b P i m = .inr (v, q)) : q ≤ P ∧ v ≤ m := by
  have hs := run_le (q := isBl b) hi
  have he := run_le (q := isDg b) hs.2
  unfold pNum at h
  dsimp only at h
  split at h
  · cases h
  · split at h
    · rename_i h2
      cases h
      exact ⟨he.2, h2.2⟩
    · cases h
theorem m_test (hM : ShM G n kd R) {b : Nat → Nat} (hT : TB I b) (hK : KN I) {P i t : Nat} (ht : t ≤ 4) (hP : I 22 31 = nI P) (hP1 : P ≤ 100) (hi : i ≤ P) (ws sd rf : Int32) (rd : Nat → Int32) : MM G mX10_test [.ref (gz G + 22)] (n, sz, kd, pS I (nI i, ws, nI 0, sd, nI t, rf, rd), R, J) (QTest n sz kd I R J t rf rd (pTest b P i t)) := by
  refine mm_of rfl [(0, .ref (gz G + 22))] rfl (Nat.le_of_ble_eq_true rfl) ?_
  refine aw_aload_n dX10_test_0 rfl rfl (by first | exact isR_ref _ | exact isR_rf _ | exact isR_null) ?_
  refine aw_cVx (as := []) dX10_test_1 lk_X10_133 cm_X10_wordHere vi_X10_wordHere (by unfold RO; decide) rfl (sM_kd hM) (sM_n hM) rfl rfl rfl (Nat.le_of_ble_eq_true rfl) (m_wordHere hM hT hK hP hP1 hi _ _ _ _ _ _) ?_
  have hpt : pTest b P i t = match wcode b (run (isBl b) P i) (run (isLt b) P (run (isBl b) P i)) with
    | none => .inl (1 + 8 * run (isBl b) P i)
    | some w => if w < 4 then .inl (1 + 8 * run (isBl b) P i) else if t = 4 then .inl (1 + 8 * run (isBl b) P i + 2) else match pNum b P (run (isLt b) P (run (isBl b) P i)) (mostK (w - 4)) with
      | .inl f => .inl f
      | .inr (v, q) => .inr (q, v + baseK (w - 4)) := rfl
  have hs := run_le (q := isBl b) hi
  generalize run (isBl b) P i = s at hs hpt ⊢
  have he := run_le (q := isLt b) hs.2
  generalize run (isLt b) P s = e at he hpt ⊢
  refine aw_istore_n (lv' := [(0, _), (1, _)]) dX10_test_4 rfl (by decide) rfl ?_
  refine aw_iload_n dX10_test_5 rfl rfl ?_
  refine aw_iconst (v := nI 4) dX10_test_6 (by decide) ?_
  have bad : ∀ x, (∀ w, wcode b s e = some w → w < 4) → AW G mX10_test 10 [(0, .ref (gz G + 22)), (1, .int x)] [] (n, sz, kd, pS I (nI s, nI (e - s), nI 0, sd, nI t, rf, rd), R, J) (QTest n sz kd I R J t rf rd (pTest b P i t)) := by
    intro x hw
    refine aw_aload_n dX10_test_10 rfl rfl (by first | exact isR_ref _ | exact isR_rf _ | exact isR_null) ?_
    refine aw_iconst (v := nI 0) dX10_test_11 (by decide) ?_
    refine aw_aload_n dX10_test_12 rfl rfl (by first | exact isR_ref _ | exact isR_rf _ | exact isR_null) ?_
    refine aw_get dX10_test_13 fl_X10_116 (sM_kd hM) (sM_n hM) (show _ = Value.int (nI s) from rfl) ?_
    refine aw_cVx (as := [_, _]) dX10_test_16 lk_X10_126 cm_X10_fails vi_X10_fails (by unfold RO; decide) rfl (sM_kd hM) (sM_n hM) rfl rfl rfl (Nat.le_of_ble_eq_true rfl) (m_failsP hM _ _ _ _ _ _) ?_
    refine aw_iret dX10_test_19 rfl rfl ?_
    rw [hpt]
    cases hc : wcode b s e with
    | none => exact ⟨rfl, _, _, _, rfl⟩
    | some w =>
      dsimp only
      rw [if_pos (hw w hc)]
      exact ⟨rfl, _, _, _, rfl⟩
  cases hc : wcode b s e with
  | none =>
    rw [hc] at bad
    refine aw_icmp_ge (tgt := 20) dX10_test_7 (by decide) (fun h1 => ?_) (fun h1 => ?_)
    · exact absurd h1 (by decide)
    · exact bad _ (fun w h => by cases h)
  | some w =>
    rw [hc] at bad hpt
    have hw9 := wcode_lt hc
    refine aw_n_ge (tgt := 20) dX10_test_7 (by decide) rfl rfl (by omega) (by omega) (fun h1 => ?_) (fun h1 => ?_)
    · dsimp only at hpt
      rw [if_neg (by omega)] at hpt
      refine aw_aload_n dX10_test_20 rfl rfl (by first | exact isR_ref _ | exact isR_rf _ | exact isR_null) ?_
      refine aw_get dX10_test_21 fl_X10_136 (sM_kd hM) (sM_n hM) (show _ = Value.int (nI t) from rfl) ?_
      refine aw_iconst (v := nI 4) dX10_test_24 (by decide) ?_
      refine aw_n_ne (tgt := 38) dX10_test_25 (by decide) rfl rfl (by omega) (by omega) (fun h2 => ?_) (fun h2 => ?_)
      · rw [if_neg h2] at hpt
        refine aw_aload_n dX10_test_38 rfl rfl (by first | exact isR_ref _ | exact isR_rf _ | exact isR_null) ?_
        refine aw_dup dX10_test_39 rfl ?_
        refine aw_get dX10_test_40 fl_X10_116 (sM_kd hM) (sM_n hM) (show _ = Value.int (nI s) from rfl) ?_
        refine aw_aload_n dX10_test_43 rfl rfl (by first | exact isR_ref _ | exact isR_rf _ | exact isR_null) ?_
        refine aw_get dX10_test_44 fl_X10_123 (sM_kd hM) (sM_n hM) (show _ = Value.int (nI (e - s)) from rfl) ?_
        first | refine aw_iaddN dX10_test_47 ?_ | refine aw_iadd dX10_test_47 ?_
        refine aw_putI dX10_test_48 fl_X10_116 (Or.inl rfl) rfl (sM_kd hM) (sM_n hM) ?_
        rw [pS_nx, show s + (e - s) = e by omega]
        refine aw_iload_n dX10_test_51 rfl rfl ?_
        refine aw_iconst (v := nI 4) dX10_test_52 (by decide) ?_
        refine aw_isubN (by omega) dX10_test_53 ?_
        generalize hk : w - 4 = k at hpt ⊢
        have hk5 : k < 5 := by omega
        have hmk : mostK k < 2 ^ 31 := by
          match k, hk5 with
          | 0, _ => exact (by decide)
          | 1, _ => exact (by decide)
          | 2, _ => exact (by decide)
          | 3, _ => exact (by decide)
          | 4, _ => exact (by decide)
        refine aw_istore_n (lv' := [(0, _), (1, _), (2, _)]) dX10_test_54 rfl (by decide) rfl ?_
        refine aw_aload_n dX10_test_55 rfl rfl (by first | exact isR_ref _ | exact isR_rf _ | exact isR_null) ?_
        refine aw_iload_n dX10_test_56 rfl rfl ?_
        have num : AW G mX10_test 83 [(0, .ref (gz G + 22)), (1, .int (nI w)), (2, .int (nI k))] [.int (nI (mostK k)), .ref (gz G + 22)] (n, sz, kd, pS I (nI e, nI (e - s), nI 0, sd, nI t, rf, rd), R, J) (QTest n sz kd I R J t rf rd (pTest b P i t)) := by
          refine aw_callV (as := [_]) dX10_test_83 lk_X10_139 cm_X10_number vi_X10_number (by unfold RO; decide) rfl (sM_kd hM) (sM_n hM) rfl rfl rfl (Nat.le_of_ble_eq_true rfl) (m_number hM hT hmk hP hP1 he.2 _ _ _ _ _) ?_
          intro v' M' hq
          cases hpn : pNum b P e (mostK k) with
          | inl f =>
            rw [hpn] at hpt hq
            obtain ⟨rfl, nx, sd', rfl⟩ := hq
            show AW G mX10_test (83 + 3) [(0, .ref (gz G + 22)), (1, .int (nI w)), (2, .int (nI k))] [.int (bi false)] _ _
            refine aw_b_ne (tgt := 91) dX10_test_86 (by decide) rfl (fun h3 => ?_) (fun h3 => ?_)
            · cases h3
            · refine aw_iconst (v := nI 0) dX10_test_89 (by decide) ?_
              refine aw_iret dX10_test_90 rfl rfl ?_
              rw [hpt]
              exact ⟨rfl, _, _, _, rfl⟩
          | inr vq =>
            obtain ⟨v, q⟩ := vq
            rw [hpn] at hpt hq
            obtain ⟨rfl, rfl⟩ := hq
            show AW G mX10_test (83 + 3) [(0, .ref (gz G + 22)), (1, .int (nI w)), (2, .int (nI k))] [.int (bi true)] _ _
            refine aw_b_ne (tgt := 91) dX10_test_86 (by decide) rfl (fun h3 => ?_) (fun h3 => ?_)
            · refine aw_aload_n dX10_test_91 rfl rfl (by first | exact isR_ref _ | exact isR_rf _ | exact isR_null) ?_
              refine aw_get dX10_test_92 fl_X10_91 (sM_kd hM) (sM_n hM) (sM_r_read hM _ _) ?_
              refine aw_aload_n dX10_test_95 rfl rfl (by first | exact isR_ref _ | exact isR_rf _ | exact isR_null) ?_
              refine aw_get dX10_test_96 fl_X10_136 (sM_kd hM) (sM_n hM) (show _ = Value.int (nI t) from rfl) ?_
              refine aw_aload_n dX10_test_99 rfl rfl (by first | exact isR_ref _ | exact isR_rf _ | exact isR_null) ?_
              refine aw_get dX10_test_100 fl_X10_130 (sM_kd hM) (sM_n hM) (show _ = Value.int (nI v) from rfl) ?_
              refine aw_iload_n dX10_test_103 rfl rfl ?_
              have fin : AW G mX10_test 144 [(0, .ref (gz G + 22)), (1, .int (nI w)), (2, .int (nI k))] [.int (nI (baseK k)), .int (nI v), .int (nI t), .ref (gz G + 47)] (n, sz, kd, pS I (nI q, nI (e - s), nI 0, nI v, nI t, rf, rd), R, J) (QTest n sz kd I R J t rf rd (pTest b P i t)) := by
                first | refine aw_iaddN dX10_test_144 ?_ | refine aw_iadd dX10_test_144 ?_
                refine aw_iast dX10_test_145 (sM_k_read hM) (sM_l_read hM) (ixm (by omega)) ?_
                rw [pS_rd]
                refine aw_aload_n dX10_test_146 rfl rfl (by first | exact isR_ref _ | exact isR_rf _ | exact isR_null) ?_
                refine aw_dup dX10_test_147 rfl ?_
                refine aw_get dX10_test_148 fl_X10_136 (sM_kd hM) (sM_n hM) (show _ = Value.int (nI t) from rfl) ?_
                refine aw_iconst (v := nI 1) dX10_test_151 (by decide) ?_
                first | refine aw_iaddN dX10_test_152 ?_ | refine aw_iadd dX10_test_152 ?_
                refine aw_putI dX10_test_153 fl_X10_136 (Or.inl rfl) rfl (sM_kd hM) (sM_n hM) ?_
                rw [pS_ts]
                refine aw_iconst (v := nI 1) dX10_test_156 (by decide) ?_
                refine aw_iret dX10_test_157 rfl rfl ?_
                rw [hpt]
                exact ⟨rfl, _, _, rfl⟩
              match k, hk5, fin with
              | 0, _, fin =>
                refine aw_z_ne (tgt := 111) dX10_test_104 (by decide) rfl (by omega) (fun h5 => ?_) (fun h5 => ?_)
                · exact absurd rfl h5
                · refine aw_iconst (v := nI 0) dX10_test_107 (by decide) ?_
                  refine aw_goto (tgt := 144) dX10_test_108 (by decide) ?_
                  exact fin
              | 1, _, fin =>
                refine aw_z_ne (tgt := 111) dX10_test_104 (by decide) rfl (by omega) (fun h5 => ?_) (fun h5 => ?_)
                · refine aw_iload_n dX10_test_111 rfl rfl ?_
                  refine aw_iconst (v := nI 1) dX10_test_112 (by decide) ?_
                  refine aw_n_ne (tgt := 121) dX10_test_113 (by decide) rfl rfl (by omega) (by omega) (fun h6 => ?_) (fun h6 => ?_)
                  · exact absurd rfl h6
                  · refine aw_bipush (v := nI 16) dX10_test_116 (by decide) ?_
                    refine aw_goto (tgt := 144) dX10_test_118 (by decide) ?_
                    exact fin
                · exact absurd h5 (by decide)
              | 2, _, fin =>
                refine aw_z_ne (tgt := 111) dX10_test_104 (by decide) rfl (by omega) (fun h5 => ?_) (fun h5 => ?_)
                · refine aw_iload_n dX10_test_111 rfl rfl ?_
                  refine aw_iconst (v := nI 1) dX10_test_112 (by decide) ?_
                  refine aw_n_ne (tgt := 121) dX10_test_113 (by decide) rfl rfl (by omega) (by omega) (fun h6 => ?_) (fun h6 => ?_)
                  · refine aw_iload_n dX10_test_121 rfl rfl ?_
                    refine aw_iconst (v := nI 2) dX10_test_122 (by decide) ?_
                    refine aw_n_ne (tgt := 131) dX10_test_123 (by decide) rfl rfl (by omega) (by omega) (fun h7 => ?_) (fun h7 => ?_)
                    · exact absurd rfl h7
                    · refine aw_bipush (v := nI 24) dX10_test_126 (by decide) ?_
                      refine aw_goto (tgt := 144) dX10_test_128 (by decide) ?_
                      exact fin
                  · exact absurd h6 (by decide)
                · exact absurd h5 (by decide)
              | 3, _, fin =>
                refine aw_z_ne (tgt := 111) dX10_test_104 (by decide) rfl (by omega) (fun h5 => ?_) (fun h5 => ?_)
                · refine aw_iload_n dX10_test_111 rfl rfl ?_
                  refine aw_iconst (v := nI 1) dX10_test_112 (by decide) ?_
                  refine aw_n_ne (tgt := 121) dX10_test_113 (by decide) rfl rfl (by omega) (by omega) (fun h6 => ?_) (fun h6 => ?_)
                  · refine aw_iload_n dX10_test_121 rfl rfl ?_
                    refine aw_iconst (v := nI 2) dX10_test_122 (by decide) ?_
                    refine aw_n_ne (tgt := 131) dX10_test_123 (by decide) rfl rfl (by omega) (by omega) (fun h7 => ?_) (fun h7 => ?_)
                    · refine aw_iload_n dX10_test_131 rfl rfl ?_
                      refine aw_iconst (v := nI 3) dX10_test_132 (by decide) ?_
                      refine aw_n_ne (tgt := 141) dX10_test_133 (by decide) rfl rfl (by omega) (by omega) (fun h8 => ?_) (fun h8 => ?_)
                      · exact absurd rfl h8
                      · refine aw_bipush (v := nI 100) dX10_test_136 (by decide) ?_
                        refine aw_goto (tgt := 144) dX10_test_138 (by decide) ?_
                        exact fin
                    · exact absurd h7 (by decide)
                  · exact absurd h6 (by decide)
                · exact absurd h5 (by decide)
              | 4, _, fin =>
                refine aw_z_ne (tgt := 111) dX10_test_104 (by decide) rfl (by omega) (fun h5 => ?_) (fun h5 => ?_)
                · refine aw_iload_n dX10_test_111 rfl rfl ?_
                  refine aw_iconst (v := nI 1) dX10_test_112 (by decide) ?_
                  refine aw_n_ne (tgt := 121) dX10_test_113 (by decide) rfl rfl (by omega) (by omega) (fun h6 => ?_) (fun h6 => ?_)
                  · refine aw_iload_n dX10_test_121 rfl rfl ?_
                    refine aw_iconst (v := nI 2) dX10_test_122 (by decide) ?_
                    refine aw_n_ne (tgt := 131) dX10_test_123 (by decide) rfl rfl (by omega) (by omega) (fun h7 => ?_) (fun h7 => ?_)
                    · refine aw_iload_n dX10_test_131 rfl rfl ?_
                      refine aw_iconst (v := nI 3) dX10_test_132 (by decide) ?_
                      refine aw_n_ne (tgt := 141) dX10_test_133 (by decide) rfl rfl (by omega) (by omega) (fun h8 => ?_) (fun h8 => ?_)
                      · refine aw_sipush (v := nI 1100) dX10_test_141 (by decide) ?_
                        exact fin
                      · exact absurd h8 (by decide)
                    · exact absurd h7 (by decide)
                  · exact absurd h6 (by decide)
                · exact absurd h5 (by decide)
            · cases h3
        clear hmk hpt bad
        match k, hk5, num with
        | 0, _, num =>
          refine aw_z_eq (tgt := 65) dX10_test_57 (by decide) rfl (by omega) (fun h5 => ?_) (fun h5 => ?_)
          · refine aw_bipush (v := nI 15) dX10_test_65 (by decide) ?_
            refine aw_goto (tgt := 83) dX10_test_67 (by decide) ?_
            exact num
          · exact absurd rfl h5
        | 1, _, num =>
          refine aw_z_eq (tgt := 65) dX10_test_57 (by decide) rfl (by omega) (fun h5 => ?_) (fun h5 => ?_)
          · exact absurd h5 (by decide)
          · refine aw_iload_n dX10_test_60 rfl rfl ?_
            refine aw_iconst (v := nI 2) dX10_test_61 (by decide) ?_
            refine aw_n_ne (tgt := 70) dX10_test_62 (by decide) rfl rfl (by omega) (by omega) (fun h6 => ?_) (fun h6 => ?_)
            · refine aw_iload_n dX10_test_70 rfl rfl ?_
              refine aw_iconst (v := nI 1) dX10_test_71 (by decide) ?_
              refine aw_n_ne (tgt := 80) dX10_test_72 (by decide) rfl rfl (by omega) (by omega) (fun h7 => ?_) (fun h7 => ?_)
              · exact absurd rfl h7
              · refine aw_bipush (v := nI 7) dX10_test_75 (by decide) ?_
                refine aw_goto (tgt := 83) dX10_test_77 (by decide) ?_
                exact num
            · exact absurd h6 (by decide)
        | 2, _, num =>
          refine aw_z_eq (tgt := 65) dX10_test_57 (by decide) rfl (by omega) (fun h5 => ?_) (fun h5 => ?_)
          · exact absurd h5 (by decide)
          · refine aw_iload_n dX10_test_60 rfl rfl ?_
            refine aw_iconst (v := nI 2) dX10_test_61 (by decide) ?_
            refine aw_n_ne (tgt := 70) dX10_test_62 (by decide) rfl rfl (by omega) (by omega) (fun h6 => ?_) (fun h6 => ?_)
            · exact absurd rfl h6
            · refine aw_bipush (v := nI 15) dX10_test_65 (by decide) ?_
              refine aw_goto (tgt := 83) dX10_test_67 (by decide) ?_
              exact num
        | 3, _, num =>
          refine aw_z_eq (tgt := 65) dX10_test_57 (by decide) rfl (by omega) (fun h5 => ?_) (fun h5 => ?_)
          · exact absurd h5 (by decide)
          · refine aw_iload_n dX10_test_60 rfl rfl ?_
            refine aw_iconst (v := nI 2) dX10_test_61 (by decide) ?_
            refine aw_n_ne (tgt := 70) dX10_test_62 (by decide) rfl rfl (by omega) (by omega) (fun h6 => ?_) (fun h6 => ?_)
            · refine aw_iload_n dX10_test_70 rfl rfl ?_
              refine aw_iconst (v := nI 1) dX10_test_71 (by decide) ?_
              refine aw_n_ne (tgt := 80) dX10_test_72 (by decide) rfl rfl (by omega) (by omega) (fun h7 => ?_) (fun h7 => ?_)
              · refine aw_sipush (v := nI 999) dX10_test_80 (by decide) ?_
                exact num
              · exact absurd h7 (by decide)
            · exact absurd h6 (by decide)
        | 4, _, num =>
          refine aw_z_eq (tgt := 65) dX10_test_57 (by decide) rfl (by omega) (fun h5 => ?_) (fun h5 => ?_)
          · exact absurd h5 (by decide)
          · refine aw_iload_n dX10_test_60 rfl rfl ?_
            refine aw_iconst (v := nI 2) dX10_test_61 (by decide) ?_
            refine aw_n_ne (tgt := 70) dX10_test_62 (by decide) rfl rfl (by omega) (by omega) (fun h6 => ?_) (fun h6 => ?_)
            · refine aw_iload_n dX10_test_70 rfl rfl ?_
              refine aw_iconst (v := nI 1) dX10_test_71 (by decide) ?_
              refine aw_n_ne (tgt := 80) dX10_test_72 (by decide) rfl rfl (by omega) (by omega) (fun h7 => ?_) (fun h7 => ?_)
              · refine aw_sipush (v := nI 999) dX10_test_80 (by decide) ?_
                exact num
              · exact absurd h7 (by decide)
            · exact absurd h6 (by decide)
      · rw [if_pos h2] at hpt
        refine aw_aload_n dX10_test_28 rfl rfl (by first | exact isR_ref _ | exact isR_rf _ | exact isR_null) ?_
        refine aw_iconst (v := nI 2) dX10_test_29 (by decide) ?_
        refine aw_aload_n dX10_test_30 rfl rfl (by first | exact isR_ref _ | exact isR_rf _ | exact isR_null) ?_
        refine aw_get dX10_test_31 fl_X10_116 (sM_kd hM) (sM_n hM) (show _ = Value.int (nI s) from rfl) ?_
        refine aw_cVx (as := [_, _]) dX10_test_34 lk_X10_126 cm_X10_fails vi_X10_fails (by unfold RO; decide) rfl (sM_kd hM) (sM_n hM) rfl rfl rfl (Nat.le_of_ble_eq_true rfl) (m_failsP hM _ _ _ _ _ _) ?_
        refine aw_iret dX10_test_37 rfl rfl ?_
        rw [hpt]
        exact ⟨rfl, _, _, _, rfl⟩
    · exact bad _ (fun w' h => by cases h; omega)
end MOD17
