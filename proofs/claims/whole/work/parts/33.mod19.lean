section MOD19
variable {G : GG} {n sz : Nat} {kd : Nat → AKd} {I : Nat → Nat → Int32} {R : Nat → Nat → Option Nat} {J : Nat → Nat → Int64}
theorem pS_u2 (I : Nat → Nat → Int32) (p : PSt) {r c : Nat} (x : Int32) (h : r ≠ 22 ∨ (c ≠ 32 ∧ c ≠ 39 ∧ c ≠ 33 ∧ c ≠ 34 ∧ c ≠ 35 ∧ c ≠ 37)) (h2 : r ≠ 47) : u2 (pS I p) r c x = pS (u2 I r c x) p := by
  funext a b
  unfold u2 pS
  by_cases ha : a = r
  · subst ha
    by_cases hb : b = c
    · subst hb
      rcases h with h | ⟨h1, h3, h4, h5, h6, h7⟩
      · simp [h, h2]
      · simp [h1, h3, h4, h5, h6, h7, h2]
    · simp [hb]
  · simp [ha]
/-- the CODES of HAND RULE k -/
def hcW (I : Nat → Nat → Int32) (k : Nat) (f : Nat → Int32) (m : Nat) : Nat → Nat → Int32 := fun r c => if r = 35 then (if 4 * k ≤ c ∧ c < 4 * k + m then f (c - 4 * k) else I r c) else I r c
theorem hcW_0 (I : Nat → Nat → Int32) (k : Nat) (f : Nat → Int32) : hcW I k f 0 = I := by
  funext a b
  unfold hcW
  by_cases ha : a = 35
  · rw [if_pos ha, if_neg (by omega)]
  · rw [if_neg ha]
theorem hcW_u2 (I : Nat → Nat → Int32) (k : Nat) (f : Nat → Int32) (t : Nat) : u2 (hcW I k f t) 35 (4 * k + t) (f t) = hcW I k f (t + 1) := by
  funext a b
  unfold u2 hcW
  by_cases ha : a = 35
  · rw [if_pos ha, if_pos ha, if_pos ha]
    by_cases hb : b = 4 * k + t
    · subst hb
      rw [if_pos rfl, if_pos (by omega), show 4 * k + t - 4 * k = t by omega]
    · rw [if_neg hb]
      by_cases hc : 4 * k ≤ b ∧ b < 4 * k + t
      · rw [if_pos hc, if_pos (by omega)]
      · rw [if_neg hc, if_neg (by omega)]
  · rw [if_neg ha, if_neg ha, if_neg ha]
theorem hcW_cong (I : Nat → Nat → Int32) (k : Nat) {f g : Nat → Int32} {m : Nat} (h : ∀ t, t < m → f t = g t) : hcW I k f m = hcW I k g m := by
  funext a b
  unfold hcW
  by_cases ha : a = 35
  · rw [if_pos ha, if_pos ha]
    by_cases hc : 4 * k ≤ b ∧ b < 4 * k + m
    · rw [if_pos hc, if_pos hc, h _ (by omega)]
    · rw [if_neg hc, if_neg hc]
  · rw [if_neg ha, if_neg ha]
def mHd4 (I : Nat → Nat → Int32) (k m : Nat) : Nat → Nat → Int32 := u2 (u2 (u2 (u2 (u2 I 22 31 (nI 0)) 32 k (bi true)) 33 k (nI 10000 + I 22 15)) 22 15 (I 22 15 + nI 1)) 34 k (nI m)
/-- HAND RULE k told -/
def mHand (I : Nat → Nat → Int32) (k : Nat) (cs : List Nat) (v : Nat) : Nat → Nat → Int32 := u2 (hcW (mHd4 I k cs.length) k (fun t => nI (cs.getD t 0)) cs.length) 36 k (nI v)
def QHand (n sz : Nat) (kd : Nat → AKd) (I : Nat → Nat → Int32) (R : Nat → Nat → Option Nat) (J : Nat → Nat → Int64) (o : Nat ⊕ (List Nat × Nat)) (f : Option Nat) (v' : Option Value) (M' : Mem) : Prop := match f with
  | none => v' = some (.int (-1)) ∧ M' = (n, sz, kd, I, R, J)
  | some k => match o with
    | .inl f => v' = some (.int (-2 - nI f)) ∧ ∃ p, M' = (n, sz, kd, pS (u2 I 22 31 (nI 0)) p, R, J)
    | .inr (cs, v) => v' = some (.int (nI k)) ∧ ∃ p, M' = (n, sz, kd, pS (mHand I k cs v) p, R, J)
def mFree (I : Nat → Nat → Int32) : Option Nat := fstF (fun k => !mth I k) 10
theorem pTs_len {b : Nat → Nat} {P : Nat} : ∀ {f i : Nat} {cs : List Nat} {q : Nat} {ds : List Nat}, cs.length ≤ 4 → pTs b P f i cs = .inr (q, ds) → ds.length ≤ 4
  | 0, i, cs, q, ds, _, h => by cases h
  | f + 1, i, cs, q, ds, hc, h => by
    rw [pTs] at h
    split at h
    · cases h
    · rename_i q' c e
      have h4 : cs.length < 4 := by
        unfold pTest at e
        split at e
        · cases e
        · split at e
          · cases e
          · split at e
            · cases e
            · omega
      have h5 : (cs ++ [c]).length ≤ 4 := by rw [List.length_append, List.length_singleton]; omega
      split at h
      · exact pTs_len h5 h
      · cases h
        exact h5
theorem pEnd_len {b : Nat → Nat} {P i : Nat} {cs ds : List Nat} {v : Nat} (h : pEnd b P i cs = .inr (ds, v)) : ds = cs := by
  unfold pEnd at h
  split at h
  · split at h
    · cases h
    · split at h
      · cases h
      · cases h
        rfl
  · cases h
theorem pText_len {b : Nat → Nat} {P : Nat} {cs : List Nat} {v : Nat} (h : pText b P = .inr (cs, v)) : cs.length ≤ 4 := by
  unfold pText at h
  split at h
  · rw [pEnd_len h]; exact Nat.zero_le _
  · split at h
    · cases h
    · rename_i e
      rw [pEnd_len h]
      exact pTs_len (Nat.zero_le _) e
  · cases h
theorem m_hand (hM : ShM G n kd R) {b : Nat → Nat} (hT : TB I b) (hK : KN I) {P : Nat} (hP : I 22 31 = nI P) (hP1 : P ≤ 100) : MM G mX10_hand [.ref (gz G + 22)] (n, sz, kd, I, R, J) (QHand n sz kd I R J (pText b P) (mFree I)) := by
  refine mm_of rfl [(0, .ref (gz G + 22))] rfl (Nat.le_of_ble_eq_true rfl) ?_
  refine aw_iconst (v := nI 0) dX10_hand_0 (by decide) ?_
  refine aw_istore_n (lv' := [(0, _), (1, _)]) dX10_hand_1 rfl (by decide) rfl ?_
  have rest : ∀ k, k < 10 → mFree I = some k → AW G mX10_hand 23 [(0, .ref (gz G + 22)), (1, .int (nI k))] [] (n, sz, kd, I, R, J) (QHand n sz kd I R J (pText b P) (mFree I)) := by
    intro k hk hf
    rw [hf]
    refine aw_iload_n dX10_hand_23 rfl rfl ?_
    refine aw_bipush (v := nI 10) dX10_hand_24 (by decide) ?_
    refine aw_n_ne (tgt := 31) dX10_hand_26 (by decide) rfl rfl (by omega) (by omega) (fun h1 => ?_) (fun h1 => ?_)
    · refine aw_I (I' := pS I (I 22 32, I 22 39, I 22 33, I 22 34, I 22 35, I 22 37, I 47)) (pS_own I).symm ?_
      refine aw_aload_n dX10_hand_31 rfl rfl (by first | exact isR_ref _ | exact isR_rf _ | exact isR_null) ?_
      refine aw_iconst (v := nI 0) dX10_hand_32 (by decide) ?_
      refine aw_putI dX10_hand_33 fl_X10_116 (Or.inl rfl) rfl (sM_kd hM) (sM_n hM) ?_
      refine aw_aload_n dX10_hand_36 rfl rfl (by first | exact isR_ref _ | exact isR_rf _ | exact isR_null) ?_
      refine aw_iconst (v := nI 0) dX10_hand_37 (by decide) ?_
      refine aw_putI dX10_hand_38 fl_X10_113 (Or.inl rfl) rfl (sM_kd hM) (sM_n hM) ?_
      refine aw_aload_n dX10_hand_41 rfl rfl (by first | exact isR_ref _ | exact isR_rf _ | exact isR_null) ?_
      refine aw_iconst (v := nI 0) dX10_hand_42 (by decide) ?_
      refine aw_putI dX10_hand_43 fl_X10_136 (Or.inl rfl) rfl (sM_kd hM) (sM_n hM) ?_
      rw [pS_nx, pS_ft, pS_ts]
      refine aw_aload_n dX10_hand_46 rfl rfl (by first | exact isR_ref _ | exact isR_rf _ | exact isR_null) ?_
      refine aw_callV (as := []) dX10_hand_47 lk_X10_150 cm_X10_text vi_X10_text (by unfold RO; decide) rfl (sM_kd hM) (sM_n hM) rfl rfl rfl (Nat.le_of_ble_eq_true rfl) (m_text hM hT hK hP hP1 _ _ _ _) ?_
      intro v' M' hq
      cases hpt : pText b P with
      | inl f =>
        rw [hpt] at hq
        obtain ⟨rfl, nx, ws, sd, ts, rf, rd, rfl⟩ := hq
        show AW G mX10_hand (47 + 3) [(0, .ref (gz G + 22)), (1, .int (nI k))] [.int (bi false)] _ _
        refine aw_istore_n (lv' := [(0, _), (1, _), (2, _)]) dX10_hand_50 rfl (by decide) rfl ?_
        refine aw_aload_n dX10_hand_51 rfl rfl (by first | exact isR_ref _ | exact isR_rf _ | exact isR_null) ?_
        refine aw_iconst (v := nI 0) dX10_hand_52 (by decide) ?_
        refine aw_putI dX10_hand_53 fl_X10_106 (Or.inl rfl) rfl (sM_kd hM) (sM_n hM) ?_
        rw [pS_u2 _ _ _ (Or.inr (by decide)) (by decide)]
        refine aw_iload_n dX10_hand_56 rfl rfl ?_
        refine aw_b_ne (tgt := 68) dX10_hand_57 (by decide) rfl (fun h3 => ?_) (fun h3 => ?_)
        · cases h3
        · refine aw_bipush (v := (-2)) dX10_hand_60 (by decide) ?_
          refine aw_aload_n dX10_hand_62 rfl rfl (by first | exact isR_ref _ | exact isR_rf _ | exact isR_null) ?_
          refine aw_get dX10_hand_63 fl_X10_113 (sM_kd hM) (sM_n hM) (show _ = Value.int (nI f) from rfl) ?_
          refine aw_isub dX10_hand_66 ?_
          refine aw_iret dX10_hand_67 rfl rfl ?_
          exact ⟨rfl, _, rfl⟩
      | inr cv =>
        obtain ⟨cs, v⟩ := cv
        rw [hpt] at hq
        obtain ⟨rfl, nx, ws, ft, sd, rd, hrd, rfl⟩ := hq
        have hl4 := pText_len hpt
        show AW G mX10_hand (47 + 3) [(0, .ref (gz G + 22)), (1, .int (nI k))] [.int (bi true)] _ _
        refine aw_istore_n (lv' := [(0, _), (1, _), (2, _)]) dX10_hand_50 rfl (by decide) rfl ?_
        refine aw_aload_n dX10_hand_51 rfl rfl (by first | exact isR_ref _ | exact isR_rf _ | exact isR_null) ?_
        refine aw_iconst (v := nI 0) dX10_hand_52 (by decide) ?_
        refine aw_putI dX10_hand_53 fl_X10_106 (Or.inl rfl) rfl (sM_kd hM) (sM_n hM) ?_
        rw [pS_u2 _ _ _ (Or.inr (by decide)) (by decide)]
        refine aw_iload_n dX10_hand_56 rfl rfl ?_
        refine aw_b_ne (tgt := 68) dX10_hand_57 (by decide) rfl (fun h3 => ?_) (fun h3 => ?_)
        · refine aw_aload_n dX10_hand_68 rfl rfl (by first | exact isR_ref _ | exact isR_rf _ | exact isR_null) ?_
          refine aw_get dX10_hand_69 fl_X10_37 (sM_kd hM) (sM_n hM) (sM_r_isThere hM _ _) ?_
          refine aw_iload_n dX10_hand_72 rfl rfl ?_
          refine aw_iconst (v := nI 1) dX10_hand_73 (by decide) ?_
          refine aw_zast (b0 := true) dX10_hand_74 (sM_k_isThere hM) (sM_l_isThere hM) (ixm (by omega)) ?_
          refine aw_aload_n dX10_hand_75 rfl rfl (by first | exact isR_ref _ | exact isR_rf _ | exact isR_null) ?_
          refine aw_get dX10_hand_76 fl_X10_41 (sM_kd hM) (sM_n hM) (sM_r_handBy hM _ _) ?_
          refine aw_iload_n dX10_hand_79 rfl rfl ?_
          refine aw_sipush (v := nI 10000) dX10_hand_80 (by decide) ?_
          refine aw_aload_n dX10_hand_83 rfl rfl (by first | exact isR_ref _ | exact isR_rf _ | exact isR_null) ?_
          refine aw_get dX10_hand_84 fl_X10_153 (sM_kd hM) (sM_n hM) (show _ = Value.int (I 22 15) from rfl) ?_
          refine aw_iadd dX10_hand_87 ?_
          refine aw_iast dX10_hand_88 (sM_k_handBy hM) (sM_l_handBy hM) (ixm (by omega)) ?_
          refine aw_aload_n dX10_hand_89 rfl rfl (by first | exact isR_ref _ | exact isR_rf _ | exact isR_null) ?_
          refine aw_dup dX10_hand_90 rfl ?_
          refine aw_get dX10_hand_91 fl_X10_153 (sM_kd hM) (sM_n hM) (show _ = Value.int (I 22 15) from rfl) ?_
          refine aw_iconst (v := nI 1) dX10_hand_94 (by decide) ?_
          refine aw_iadd dX10_hand_95 ?_
          refine aw_putI dX10_hand_96 fl_X10_153 (Or.inl rfl) rfl (sM_kd hM) (sM_n hM) ?_
          refine aw_aload_n dX10_hand_99 rfl rfl (by first | exact isR_ref _ | exact isR_rf _ | exact isR_null) ?_
          refine aw_get dX10_hand_100 fl_X10_44 (sM_kd hM) (sM_n hM) (sM_r_handMany hM _ _) ?_
          refine aw_iload_n dX10_hand_103 rfl rfl ?_
          refine aw_aload_n dX10_hand_104 rfl rfl (by first | exact isR_ref _ | exact isR_rf _ | exact isR_null) ?_
          refine aw_get dX10_hand_105 fl_X10_136 (sM_kd hM) (sM_n hM) (show _ = Value.int (nI cs.length) from rfl) ?_
          refine aw_iast dX10_hand_108 (sM_k_handMany hM) (sM_l_handMany hM) (ixm (by omega)) ?_
          rw [pS_u2 _ _ _ (Or.inl (by decide)) (by decide), pS_u2 _ _ _ (Or.inl (by decide)) (by decide), pS_u2 _ _ _ (Or.inr (by decide)) (by decide), pS_u2 _ _ _ (Or.inl (by decide)) (by decide)]
          refine aw_I (I' := pS (hcW (mHd4 I k cs.length) k rd 0) (nx, ws, ft, sd, nI cs.length, nI v, rd)) (by rw [hcW_0]; rfl) ?_
          refine aw_iconst (v := nI 0) dX10_hand_109 (by decide) ?_
          refine aw_istore_n (lv' := [(0, _), (1, _), (2, _), (3, _)]) dX10_hand_110 rfl (by decide) rfl ?_
          have loop : ∀ d t, t + d = cs.length → AW G mX10_hand 111 [(0, .ref (gz G + 22)), (1, .int (nI k)), (2, .int (bi true)), (3, .int (nI t))] [] (n, sz, kd, pS (hcW (mHd4 I k cs.length) k rd t) (nx, ws, ft, sd, nI cs.length, nI v, rd), R, J) (QHand n sz kd I R J (.inr (cs, v)) (some k)) := by
            intro d
            induction d with
            | zero =>
              intro t ht
              refine aw_iload_n dX10_hand_111 rfl rfl ?_
              refine aw_aload_n dX10_hand_112 rfl rfl (by first | exact isR_ref _ | exact isR_rf _ | exact isR_null) ?_
              refine aw_get dX10_hand_113 fl_X10_136 (sM_kd hM) (sM_n hM) (show _ = Value.int (nI cs.length) from rfl) ?_
              refine aw_n_ge (tgt := 141) dX10_hand_116 (by decide) rfl rfl (by omega) (by omega) (fun h4 => ?_) (fun h4 => ?_)
              · refine aw_aload_n dX10_hand_141 rfl rfl (by first | exact isR_ref _ | exact isR_rf _ | exact isR_null) ?_
                refine aw_get dX10_hand_142 fl_X10_50 (sM_kd hM) (sM_n hM) (sM_r_handFolder hM _ _) ?_
                refine aw_iload_n dX10_hand_145 rfl rfl ?_
                refine aw_aload_n dX10_hand_146 rfl rfl (by first | exact isR_ref _ | exact isR_rf _ | exact isR_null) ?_
                refine aw_get dX10_hand_147 fl_X10_147 (sM_kd hM) (sM_n hM) (show _ = Value.int (nI v) from rfl) ?_
                refine aw_iast dX10_hand_150 (sM_k_handFolder hM) (sM_l_handFolder hM) (ixm (by omega)) ?_
                refine aw_iload_n dX10_hand_151 rfl rfl ?_
                refine aw_iret dX10_hand_152 rfl rfl ?_
                refine ⟨rfl, (nx, ws, ft, sd, nI cs.length, nI v, rd), ?_⟩
                rw [pS_u2 _ _ _ (Or.inl (by decide)) (by decide), show t = cs.length by omega, hcW_cong _ k hrd]
                rfl
              · exact absurd h4 (by omega)
            | succ d ih =>
              intro t ht
              refine aw_iload_n dX10_hand_111 rfl rfl ?_
              refine aw_aload_n dX10_hand_112 rfl rfl (by first | exact isR_ref _ | exact isR_rf _ | exact isR_null) ?_
              refine aw_get dX10_hand_113 fl_X10_136 (sM_kd hM) (sM_n hM) (show _ = Value.int (nI cs.length) from rfl) ?_
              refine aw_n_ge (tgt := 141) dX10_hand_116 (by decide) rfl rfl (by omega) (by omega) (fun h4 => ?_) (fun h4 => ?_)
              · exact absurd h4 (by omega)
              · refine aw_aload_n dX10_hand_119 rfl rfl (by first | exact isR_ref _ | exact isR_rf _ | exact isR_null) ?_
                refine aw_get dX10_hand_120 fl_X10_47 (sM_kd hM) (sM_n hM) (sM_r_handCode hM _ _) ?_
                refine aw_iconst (v := nI 4) dX10_hand_123 (by decide) ?_
                refine aw_iload_n dX10_hand_124 rfl rfl ?_
                first | refine aw_imulN dX10_hand_125 ?_ | refine aw_imul dX10_hand_125 ?_
                refine aw_iload_n dX10_hand_126 rfl rfl ?_
                first | refine aw_iaddN dX10_hand_127 ?_ | refine aw_iadd dX10_hand_127 ?_
                refine aw_aload_n dX10_hand_128 rfl rfl (by first | exact isR_ref _ | exact isR_rf _ | exact isR_null) ?_
                refine aw_get dX10_hand_129 fl_X10_91 (sM_kd hM) (sM_n hM) (sM_r_read hM _ _) ?_
                refine aw_iload_n dX10_hand_132 rfl rfl ?_
                refine aw_iald dX10_hand_133 (sM_k_read hM) (sM_l_read hM) (ixm (by omega)) ?_
                refine aw_iast dX10_hand_134 (sM_k_handCode hM) (sM_l_handCode hM) (ixm (by omega)) ?_
                first | refine aw_iincN (c := 1) (lv' := [(0, _), (1, _), (2, _), (3, _)]) dX10_hand_135 rfl (by decide) rfl rfl ?_ | refine aw_iinc (v := 1) (lv' := [(0, _), (1, _), (2, _), (3, _)]) dX10_hand_135 rfl (by decide) (by decide) rfl ?_
                refine aw_goto (tgt := 111) dX10_hand_138 (by decide) ?_
                refine aw_I (I' := pS (hcW (mHd4 I k cs.length) k rd (t + 1)) (nx, ws, ft, sd, nI cs.length, nI v, rd)) (by
                  rw [pS_u2 _ _ _ (Or.inl (by decide)) (by decide)]
                  exact congrArg (fun z => pS z (nx, ws, ft, sd, nI cs.length, nI v, rd)) (hcW_u2 (mHd4 I k cs.length) k rd t)) ?_
                exact ih (t + 1) (by omega)
          exact loop _ 0 (Nat.zero_add _)
        · cases h3
    · exact absurd h1 (by omega)
  have loop : ∀ d i, i + d = 10 → fstF (fun k => !mth I k) i = none → AW G mX10_hand 2 [(0, .ref (gz G + 22)), (1, .int (nI i))] [] (n, sz, kd, I, R, J) (QHand n sz kd I R J (pText b P) (mFree I)) := by
    intro d
    induction d with
    | zero =>
      intro i hi ha
      refine aw_iload_n dX10_hand_2 rfl rfl ?_
      refine aw_bipush (v := nI 10) dX10_hand_3 (by decide) ?_
      refine aw_n_ge (tgt := 23) dX10_hand_5 (by decide) rfl rfl (by omega) (by omega) (fun h => ?_) (fun h => ?_)
      · have hf : mFree I = none := by unfold mFree; rw [show 10 = i by omega, ha]
        refine aw_iload_n dX10_hand_23 rfl rfl ?_
        refine aw_bipush (v := nI 10) dX10_hand_24 (by decide) ?_
        refine aw_n_ne (tgt := 31) dX10_hand_26 (by decide) rfl rfl (by omega) (by omega) (fun h1 => ?_) (fun h1 => ?_)
        · exact absurd h1 (by omega)
        · rw [hf]
          refine aw_iconst (v := (-1)) dX10_hand_29 (by decide) ?_
          refine aw_iret dX10_hand_30 rfl rfl ?_
          exact ⟨rfl, rfl⟩
      · exact absurd h (by omega)
    | succ d ih =>
      intro i hi ha
      refine aw_iload_n dX10_hand_2 rfl rfl ?_
      refine aw_bipush (v := nI 10) dX10_hand_3 (by decide) ?_
      refine aw_n_ge (tgt := 23) dX10_hand_5 (by decide) rfl rfl (by omega) (by omega) (fun h => ?_) (fun h => ?_)
      · exact absurd h (by omega)
      · refine aw_aload_n dX10_hand_8 rfl rfl (by first | exact isR_ref _ | exact isR_rf _ | exact isR_null) ?_
        refine aw_get dX10_hand_9 fl_X10_37 (sM_kd hM) (sM_n hM) (sM_r_isThere hM _ _) ?_
        refine aw_iload_n dX10_hand_12 rfl rfl ?_
        refine aw_zald dX10_hand_13 (sM_k_isThere hM) (sM_l_isThere hM) (ixm (by omega)) ?_
        refine aw_if_eq (tgt := 23) dX10_hand_14 (by decide) (fun h2 => ?_) (fun h2 => ?_)
        · have e : fstF (fun k => !mth I k) (i + 1) = some i := by rw [fstF, ha]; simp [mth, h2]
          have e2 := fstF_stay e d
          rw [show i + 1 + d = 10 by omega] at e2
          exact rest i (by omega) e2
        · first | refine aw_iincN (c := 1) (lv' := [(0, _), (1, _)]) dX10_hand_17 rfl (by decide) rfl rfl ?_ | refine aw_iinc (v := 1) (lv' := [(0, _), (1, _)]) dX10_hand_17 rfl (by decide) (by decide) rfl ?_
          refine aw_goto (tgt := 2) dX10_hand_20 (by decide) ?_
          exact ih (i + 1) (by omega) (by rw [fstF, ha]; simp [mth, h2])
  exact loop _ 0 (Nat.zero_add _) rfl
end MOD19
