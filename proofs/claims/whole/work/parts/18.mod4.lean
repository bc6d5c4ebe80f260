section MOD4
variable {G : GG} {n sz : Nat} {kd : Nat → AKd} {I : Nat → Nat → Int32} {R : Nat → Nat → Option Nat} {J : Nat → Nat → Int64}
theorem m_letter (hM : ShM G n kd R) (hB : MB I) (f l s w : Int32) : EX G mX10_letter [.ref (gz G + 22), .int f, .int l, .int s, .int w] (n, sz, kd, I, R, J) (some (.int (if okLet I f l s w then nI (mN I) else -1))) (n, sz, kd, if okLet I f l s w then mLet I f l s w else I, R, J) := by
  refine mm_of rfl [(0, .ref (gz G + 22)), (1, .int f), (2, .int l), (3, .int s), (4, .int w)] rfl (Nat.le_of_ble_eq_true rfl) ?_
  have hN : I 22 0 = nI (mN I) := hB.1.eq
  have hN1 : mN I ≤ 100 := hB.1.le
  have out : okLet I f l s w = false → AW G mX10_letter 51 [(0, .ref (gz G + 22)), (1, .int f), (2, .int l), (3, .int s), (4, .int w)] [] (n, sz, kd, I, R, J) (fun v' M' => v' = some (.int (if okLet I f l s w then nI (mN I) else -1)) ∧ M' = (n, sz, kd, if okLet I f l s w then mLet I f l s w else I, R, J)) := by
    intro ho
    refine aw_iconst (v := (-1)) dX10_letter_51 (by decide) ?_
    refine aw_iret dX10_letter_52 rfl rfl ?_
    rw [ho]
    exact ⟨rfl, rfl⟩
  refine aw_aload_n dX10_letter_0 rfl rfl (by first | exact isR_ref _ | exact isR_rf _ | exact isR_null) ?_
  refine aw_get dX10_letter_1 fl_X10_182 (sM_kd hM) (sM_n hM) (congrArg Value.int hN) ?_
  refine aw_bipush (v := nI 100) dX10_letter_4 (by decide) ?_
  refine aw_n_eq (tgt := 51) dX10_letter_6 (by decide) rfl rfl (by omega) (by omega) (fun h0 => ?_) (fun h0 => ?_)
  · exact out (by simp [okLet, h0])
  · refine aw_iload_n dX10_letter_9 rfl rfl ?_
    refine aw_iconst (v := nI 0) dX10_letter_10 (by decide) ?_
    refine aw_bipush (v := nI 15) dX10_letter_11 (by decide) ?_
    refine aw_cSx (as := [_, _, _]) dX10_letter_13 lk_X10_156 cm_X10_in sm_X10_in (by unfold RO; decide) rfl rfl (Nat.le_of_ble_eq_true rfl) (m_inN _) ?_
    refine aw_b_eq (tgt := 51) dX10_letter_16 (by decide) rfl (fun h1 => ?_) (fun h1 => ?_)
    · exact out (by simp [okLet, h1])
    · refine aw_iload_n dX10_letter_19 rfl rfl ?_
      refine aw_iconst (v := (-1)) dX10_letter_20 (by decide) ?_
      refine aw_bipush (v := nI 7) dX10_letter_21 (by decide) ?_
      refine aw_cSx (as := [_, _, _]) dX10_letter_23 lk_X10_156 cm_X10_in sm_X10_in (by unfold RO; decide) rfl rfl (Nat.le_of_ble_eq_true rfl) (m_in _ _ _ _) ?_
      refine aw_top (congrArg bi (in_list l)) ?_
      refine aw_b_eq (tgt := 51) dX10_letter_26 (by decide) rfl (fun h2 => ?_) (fun h2 => ?_)
      · exact out (by simp [okLet, h2])
      · refine aw_iload_n dX10_letter_29 rfl rfl ?_
        refine aw_iconst (v := nI 0) dX10_letter_30 (by decide) ?_
        refine aw_sipush (v := nI 999) dX10_letter_31 (by decide) ?_
        refine aw_cSx (as := [_, _, _]) dX10_letter_34 lk_X10_156 cm_X10_in sm_X10_in (by unfold RO; decide) rfl rfl (Nat.le_of_ble_eq_true rfl) (m_inN _) ?_
        refine aw_b_eq (tgt := 51) dX10_letter_37 (by decide) rfl (fun h3 => ?_) (fun h3 => ?_)
        · exact out (by simp [okLet, h3])
        · refine aw_iload dX10_letter_40 rfl ?_
          refine aw_iconst (v := nI 0) dX10_letter_42 (by decide) ?_
          refine aw_ldc (v := nI 65535) dX10_letter_43 (List.mem_of_getElem? (i := 1033) (by decide +kernel)) ?_
          refine aw_cSx (as := [_, _, _]) dX10_letter_45 lk_X10_156 cm_X10_in sm_X10_in (by unfold RO; decide) rfl rfl (Nat.le_of_ble_eq_true rfl) (m_inN _) ?_
          refine aw_b_ne (tgt := 53) dX10_letter_48 (by decide) rfl (fun h4 => ?_) (fun h4 => ?_)
          · have hok : okLet I f l s w = true := by
              unfold okLet
              rw [h1, h2, h3, h4, decide_eq_false h0]
              rfl
            have hlt : mN I < 100 := by omega
            have hB5 := mLet5_B hB hlt f l s w
            refine aw_aload_n dX10_letter_53 rfl rfl (by first | exact isR_ref _ | exact isR_rf _ | exact isR_null) ?_
            refine aw_get dX10_letter_54 fl_X10_182 (sM_kd hM) (sM_n hM) (congrArg Value.int hN) ?_
            refine aw_istore (lv' := [(0, _), (1, _), (2, _), (3, _), (4, _), (5, _)]) dX10_letter_57 (by decide) rfl ?_
            refine aw_aload_n dX10_letter_59 rfl rfl (by first | exact isR_ref _ | exact isR_rf _ | exact isR_null) ?_
            refine aw_get dX10_letter_60 fl_X10_7 (sM_kd hM) (sM_n hM) (sM_r_from hM _ _) ?_
            refine aw_iload dX10_letter_63 rfl ?_
            refine aw_iload_n dX10_letter_65 rfl rfl ?_
            refine aw_iast dX10_letter_66 (sM_k_from hM) (sM_l_from hM) (ixm (by omega)) ?_
            refine aw_aload_n dX10_letter_67 rfl rfl (by first | exact isR_ref _ | exact isR_rf _ | exact isR_null) ?_
            refine aw_get dX10_letter_68 fl_X10_13 (sM_kd hM) (sM_n hM) (sM_r_list hM _ _) ?_
            refine aw_iload dX10_letter_71 rfl ?_
            refine aw_iload_n dX10_letter_73 rfl rfl ?_
            refine aw_iast dX10_letter_74 (sM_k_list hM) (sM_l_list hM) (ixm (by omega)) ?_
            refine aw_aload_n dX10_letter_75 rfl rfl (by first | exact isR_ref _ | exact isR_rf _ | exact isR_null) ?_
            refine aw_get dX10_letter_76 fl_X10_16 (sM_kd hM) (sM_n hM) (sM_r_size hM _ _) ?_
            refine aw_iload dX10_letter_79 rfl ?_
            refine aw_iload_n dX10_letter_81 rfl rfl ?_
            refine aw_iast dX10_letter_82 (sM_k_size hM) (sM_l_size hM) (ixm (by omega)) ?_
            refine aw_aload_n dX10_letter_83 rfl rfl (by first | exact isR_ref _ | exact isR_rf _ | exact isR_null) ?_
            refine aw_get dX10_letter_84 fl_X10_19 (sM_kd hM) (sM_n hM) (sM_r_words hM _ _) ?_
            refine aw_iload dX10_letter_87 rfl ?_
            refine aw_iload dX10_letter_89 rfl ?_
            refine aw_iast dX10_letter_91 (sM_k_words hM) (sM_l_words hM) (ixm (by omega)) ?_
            refine aw_aload_n dX10_letter_92 rfl rfl (by first | exact isR_ref _ | exact isR_rf _ | exact isR_null) ?_
            refine aw_dup dX10_letter_93 rfl ?_
            refine aw_get dX10_letter_94 fl_X10_182 (sM_kd hM) (sM_n hM) (congrArg Value.int hN) ?_
            refine aw_iconst (v := nI 1) dX10_letter_97 (by decide) ?_
            first | refine aw_iaddN dX10_letter_98 ?_ | refine aw_iadd dX10_letter_98 ?_
            refine aw_putI dX10_letter_99 fl_X10_182 (Or.inl rfl) rfl (sM_kd hM) (sM_n hM) ?_
            refine aw_I (I' := mLet5 I f l s w) rfl ?_
            refine aw_aload_n dX10_letter_102 rfl rfl (by first | exact isR_ref _ | exact isR_rf _ | exact isR_null) ?_
            refine aw_iload dX10_letter_103 rfl ?_
            refine aw_cVx (as := [_]) dX10_letter_105 lk_X10_186 cm_X10_firstThatFits vi_X10_firstThatFits (by unfold RO; decide) rfl (sM_kd hM) (sM_n hM) rfl rfl rfl (Nat.le_of_ble_eq_true rfl) (m_firstThatFits hM hB5 (by omega)) ?_
            refine aw_istore (lv' := [(0, _), (1, _), (2, _), (3, _), (4, _), (5, _), (6, _)]) dX10_letter_108 (by decide) rfl ?_
            refine aw_aload_n dX10_letter_110 rfl rfl (by first | exact isR_ref _ | exact isR_rf _ | exact isR_null) ?_
            refine aw_get dX10_letter_111 fl_X10_25 (sM_kd hM) (sM_n hM) (sM_r_by hM _ _) ?_
            refine aw_iload dX10_letter_114 rfl ?_
            refine aw_iload dX10_letter_116 rfl ?_
            cases e : mFirst (mLet5 I f l s w) (mN I) with
            | none =>
              refine aw_if_ge (tgt := 125) dX10_letter_118 (by decide) (fun h5 => ?_) (fun h5 => ?_)
              · exact absurd h5 (by decide)
              · refine aw_iconst (v := (-1)) dX10_letter_121 (by decide) ?_
                refine aw_goto (tgt := 131) dX10_letter_122 (by decide) ?_
                refine aw_iast dX10_letter_131 (sM_k_by hM) (sM_l_by hM) (ixm (by omega)) ?_
                refine aw_aload_n dX10_letter_132 rfl rfl (by first | exact isR_ref _ | exact isR_rf _ | exact isR_null) ?_
                refine aw_get dX10_letter_133 fl_X10_28 (sM_kd hM) (sM_n hM) (sM_r_byName hM _ _) ?_
                refine aw_iload dX10_letter_136 rfl ?_
                refine aw_iload dX10_letter_138 rfl ?_
                refine aw_if_ge (tgt := 147) dX10_letter_140 (by decide) (fun h6 => ?_) (fun h6 => ?_)
                · exact absurd h6 (by decide)
                · refine aw_iconst (v := (-1)) dX10_letter_143 (by decide) ?_
                  refine aw_goto (tgt := 153) dX10_letter_144 (by decide) ?_
                  refine aw_iast dX10_letter_153 (sM_k_byName hM) (sM_l_byName hM) (ixm (by omega)) ?_
                  refine aw_aload_n dX10_letter_154 rfl rfl (by first | exact isR_ref _ | exact isR_rf _ | exact isR_null) ?_
                  refine aw_get dX10_letter_155 fl_X10_31 (sM_kd hM) (sM_n hM) (sM_r_into hM _ _) ?_
                  refine aw_iload dX10_letter_158 rfl ?_
                  refine aw_iload dX10_letter_160 rfl ?_
                  refine aw_if_ge (tgt := 169) dX10_letter_162 (by decide) (fun h7 => ?_) (fun h7 => ?_)
                  · exact absurd h7 (by decide)
                  · refine aw_iconst (v := nI 0) dX10_letter_165 (by decide) ?_
                    refine aw_goto (tgt := 175) dX10_letter_166 (by decide) ?_
                    refine aw_iast dX10_letter_175 (sM_k_into hM) (sM_l_into hM) (ixm (by omega)) ?_
                    refine aw_aload_n dX10_letter_176 rfl rfl (by first | exact isR_ref _ | exact isR_rf _ | exact isR_null) ?_
                    refine aw_get dX10_letter_177 fl_X10_22 (sM_kd hM) (sM_n hM) (sM_r_lies hM _ _) ?_
                    refine aw_iload dX10_letter_180 rfl ?_
                    refine aw_aload_n dX10_letter_182 rfl rfl (by first | exact isR_ref _ | exact isR_rf _ | exact isR_null) ?_
                    refine aw_get dX10_letter_183 fl_X10_31 (sM_kd hM) (sM_n hM) (sM_r_into hM _ _) ?_
                    refine aw_iload dX10_letter_186 rfl ?_
                    refine aw_iald dX10_letter_188 (sM_k_into hM) (sM_l_into hM) (ixm (by omega)) ?_
                    refine aw_top (u2_same _ _ _ _) ?_
                    refine aw_iast dX10_letter_189 (sM_k_lies hM) (sM_l_lies hM) (ixm (by omega)) ?_
                    refine aw_aload_n dX10_letter_190 rfl rfl (by first | exact isR_ref _ | exact isR_rf _ | exact isR_null) ?_
                    refine aw_get dX10_letter_191 fl_X10_34 (sM_kd hM) (sM_n hM) (sM_r_belongs hM _ _) ?_
                    refine aw_iload dX10_letter_194 rfl ?_
                    refine aw_iconst (v := (-1)) dX10_letter_196 (by decide) ?_
                    refine aw_iast dX10_letter_197 (sM_k_belongs hM) (sM_l_belongs hM) (ixm (by omega)) ?_
                    refine aw_iload dX10_letter_198 rfl ?_
                    refine aw_iret dX10_letter_200 rfl rfl ?_
                    rw [hok]
                    refine ⟨rfl, ?_⟩
                    simp only [mLet, e, mWho, if_true]
            | some p =>
              have hp := mFirst_lt e
              have hH := mH_le (I := mLet5 I f l s w)
              have hL6 : mL (mLet5 I f l s w) ≤ 6 := hB5.2.1.le
              have hB6 : ∀ a, MB (u2 (mLet5 I f l s w) 28 (mN I) a) := fun _ => hB5
              have hB7 : ∀ a b, MB (u2 (u2 (mLet5 I f l s w) 28 (mN I) a) 29 (mN I) b) := fun _ _ => hB5
              refine aw_if_ge (tgt := 125) dX10_letter_118 (by decide) (fun h5 => ?_) (fun h5 => ?_)
              · refine aw_aload_n dX10_letter_125 rfl rfl (by first | exact isR_ref _ | exact isR_rf _ | exact isR_null) ?_
                refine aw_iload dX10_letter_126 rfl ?_
                refine aw_cVx (as := [_]) dX10_letter_128 lk_X10_189 cm_X10_byAt vi_X10_byAt (by unfold RO; decide) rfl (sM_kd hM) (sM_n hM) rfl rfl rfl (Nat.le_of_ble_eq_true rfl) (m_byAt hM hB5 hp) ?_
                refine aw_iast dX10_letter_131 (sM_k_by hM) (sM_l_by hM) (ixm (by omega)) ?_
                refine aw_aload_n dX10_letter_132 rfl rfl (by first | exact isR_ref _ | exact isR_rf _ | exact isR_null) ?_
                refine aw_get dX10_letter_133 fl_X10_28 (sM_kd hM) (sM_n hM) (sM_r_byName hM _ _) ?_
                refine aw_iload dX10_letter_136 rfl ?_
                refine aw_iload dX10_letter_138 rfl ?_
                refine aw_if_ge (tgt := 147) dX10_letter_140 (by decide) (fun h6 => ?_) (fun h6 => ?_)
                · refine aw_aload_n dX10_letter_147 rfl rfl (by first | exact isR_ref _ | exact isR_rf _ | exact isR_null) ?_
                  refine aw_iload dX10_letter_148 rfl ?_
                  refine aw_cVx (as := [_]) dX10_letter_150 lk_X10_192 cm_X10_nameAt vi_X10_nameAt (by unfold RO; decide) rfl (sM_kd hM) (sM_n hM) rfl rfl rfl (Nat.le_of_ble_eq_true rfl) (m_nameAt hM (hB6 _) hp) ?_
                  refine aw_iast dX10_letter_153 (sM_k_byName hM) (sM_l_byName hM) (ixm (by omega)) ?_
                  refine aw_aload_n dX10_letter_154 rfl rfl (by first | exact isR_ref _ | exact isR_rf _ | exact isR_null) ?_
                  refine aw_get dX10_letter_155 fl_X10_31 (sM_kd hM) (sM_n hM) (sM_r_into hM _ _) ?_
                  refine aw_iload dX10_letter_158 rfl ?_
                  refine aw_iload dX10_letter_160 rfl ?_
                  refine aw_if_ge (tgt := 169) dX10_letter_162 (by decide) (fun h7 => ?_) (fun h7 => ?_)
                  · refine aw_aload_n dX10_letter_169 rfl rfl (by first | exact isR_ref _ | exact isR_rf _ | exact isR_null) ?_
                    refine aw_iload dX10_letter_170 rfl ?_
                    refine aw_cVx (as := [_]) dX10_letter_172 lk_X10_195 cm_X10_folderAt vi_X10_folderAt (by unfold RO; decide) rfl (sM_kd hM) (sM_n hM) rfl rfl rfl (Nat.le_of_ble_eq_true rfl) (m_folderAt hM (hB7 _ _) hp) ?_
                    refine aw_iast dX10_letter_175 (sM_k_into hM) (sM_l_into hM) (ixm (by omega)) ?_
                    refine aw_aload_n dX10_letter_176 rfl rfl (by first | exact isR_ref _ | exact isR_rf _ | exact isR_null) ?_
                    refine aw_get dX10_letter_177 fl_X10_22 (sM_kd hM) (sM_n hM) (sM_r_lies hM _ _) ?_
                    refine aw_iload dX10_letter_180 rfl ?_
                    refine aw_aload_n dX10_letter_182 rfl rfl (by first | exact isR_ref _ | exact isR_rf _ | exact isR_null) ?_
                    refine aw_get dX10_letter_183 fl_X10_31 (sM_kd hM) (sM_n hM) (sM_r_into hM _ _) ?_
                    refine aw_iload dX10_letter_186 rfl ?_
                    refine aw_iald dX10_letter_188 (sM_k_into hM) (sM_l_into hM) (ixm (by omega)) ?_
                    refine aw_top (u2_same _ _ _ _) ?_
                    refine aw_iast dX10_letter_189 (sM_k_lies hM) (sM_l_lies hM) (ixm (by omega)) ?_
                    refine aw_aload_n dX10_letter_190 rfl rfl (by first | exact isR_ref _ | exact isR_rf _ | exact isR_null) ?_
                    refine aw_get dX10_letter_191 fl_X10_34 (sM_kd hM) (sM_n hM) (sM_r_belongs hM _ _) ?_
                    refine aw_iload dX10_letter_194 rfl ?_
                    refine aw_iconst (v := (-1)) dX10_letter_196 (by decide) ?_
                    refine aw_iast dX10_letter_197 (sM_k_belongs hM) (sM_l_belongs hM) (ixm (by omega)) ?_
                    refine aw_iload dX10_letter_198 rfl ?_
                    refine aw_iret dX10_letter_200 rfl rfl ?_
                    rw [hok]
                    refine ⟨rfl, ?_⟩
                    simp only [mLet, e, mWho, if_true]
                    rfl
                  · exact absurd (nI_pos' (by omega)) h7
                · exact absurd (nI_pos' (by omega)) h6
              · exact absurd (nI_pos' (by omega)) h5
          · exact out (by simp [okLet, h4])
def okMove (I : Nat → Nat → Int32) (x f : Int32) : Bool := (rgl x 0 (mN I)).isSome && ((rgl f 0 8).isSome && !decide (tn (I 22 26) = 200))
def mMove (I : Nat → Nat → Int32) (k : Nat) (f : Int32) : Nat → Nat → Int32 :=
  let m := tn (I 22 26)
  u2 (u2 (u2 (u2 (u2 (u2 I 43 m (nI k)) 44 m (I 27 k)) 45 m (I 31 k)) 22 26 (nI (m + 1))) 27 k f) 31 k f
theorem m_move (hM : ShM G n kd R) (hB : MB I) (x f : Int32) : EX G mX10_move [.ref (gz G + 22), .int x, .int f] (n, sz, kd, I, R, J) (some (.int (bi (okMove I x f)))) (n, sz, kd, if okMove I x f then mMove I (tn x) f else I, R, J) := by
  refine mm_of rfl [(0, .ref (gz G + 22)), (1, .int x), (2, .int f)] rfl (Nat.le_of_ble_eq_true rfl) ?_
  have hN1 : mN I ≤ 100 := hB.1.le
  have hm : I 22 26 = nI (tn (I 22 26)) := hB.2.2.2.2.2.1.eq
  have hm1 : tn (I 22 26) ≤ 200 := hB.2.2.2.2.2.1.le
  have out : okMove I x f = false → AW G mX10_move 28 [(0, .ref (gz G + 22)), (1, .int x), (2, .int f)] [] (n, sz, kd, I, R, J) (fun v' M' => v' = some (.int (bi (okMove I x f))) ∧ M' = (n, sz, kd, if okMove I x f then mMove I (tn x) f else I, R, J)) := by
    intro ho
    refine aw_iconst (v := nI 0) dX10_move_28 (by decide) ?_
    refine aw_iret dX10_move_29 rfl rfl ?_
    rw [ho]
    exact ⟨rfl, rfl⟩
  refine aw_aload_n dX10_move_0 rfl rfl (by first | exact isR_ref _ | exact isR_rf _ | exact isR_null) ?_
  refine aw_iload_n dX10_move_1 rfl rfl ?_
  refine aw_cVx (as := [_]) dX10_move_2 lk_X10_198 cm_X10_isLetter vi_X10_isLetter (by unfold RO; decide) rfl (sM_kd hM) (sM_n hM) rfl rfl rfl (Nat.le_of_ble_eq_true rfl) (m_isLetter hM hB _) ?_
  refine aw_b_eq (tgt := 28) dX10_move_5 (by decide) rfl (fun h1 => ?_) (fun h1 => ?_)
  · exact out (by simp [okMove, h1])
  · refine aw_iload_n dX10_move_8 rfl rfl ?_
    refine aw_iconst (v := nI 0) dX10_move_9 (by decide) ?_
    refine aw_bipush (v := nI 7) dX10_move_10 (by decide) ?_
    refine aw_cSx (as := [_, _, _]) dX10_move_12 lk_X10_156 cm_X10_in sm_X10_in (by unfold RO; decide) rfl rfl (Nat.le_of_ble_eq_true rfl) (m_inN _) ?_
    refine aw_b_eq (tgt := 28) dX10_move_15 (by decide) rfl (fun h2 => ?_) (fun h2 => ?_)
    · exact out (by simp [okMove, h2])
    · refine aw_aload_n dX10_move_18 rfl rfl (by first | exact isR_ref _ | exact isR_rf _ | exact isR_null) ?_
      refine aw_get dX10_move_19 fl_X10_201 (sM_kd hM) (sM_n hM) (congrArg Value.int hm) ?_
      refine aw_sipush (v := nI 200) dX10_move_22 (by decide) ?_
      refine aw_n_ne (tgt := 30) dX10_move_25 (by decide) rfl rfl (by omega) (by omega) (fun h3 => ?_) (fun h3 => ?_)
      · obtain ⟨k, hk⟩ := Option.isSome_iff_exists.mp h1
        obtain ⟨rfl, -, hk2⟩ := rgl_some hk
        have hok : okMove I (nI k) f = true := by simp [okMove, h1, h2, h3]
        have hk3 : tn (nI k) = k := tn_nI (by omega)
        refine aw_aload_n dX10_move_30 rfl rfl (by first | exact isR_ref _ | exact isR_rf _ | exact isR_null) ?_
        refine aw_get dX10_move_31 fl_X10_78 (sM_kd hM) (sM_n hM) (sM_r_moved hM _ _) ?_
        refine aw_aload_n dX10_move_34 rfl rfl (by first | exact isR_ref _ | exact isR_rf _ | exact isR_null) ?_
        refine aw_get dX10_move_35 fl_X10_201 (sM_kd hM) (sM_n hM) (congrArg Value.int hm) ?_
        refine aw_iload_n dX10_move_38 rfl rfl ?_
        refine aw_iast dX10_move_39 (sM_k_moved hM) (sM_l_moved hM) (ixm (by omega)) ?_
        refine aw_aload_n dX10_move_40 rfl rfl (by first | exact isR_ref _ | exact isR_rf _ | exact isR_null) ?_
        refine aw_get dX10_move_41 fl_X10_81 (sM_kd hM) (sM_n hM) (sM_r_wasLying hM _ _) ?_
        refine aw_aload_n dX10_move_44 rfl rfl (by first | exact isR_ref _ | exact isR_rf _ | exact isR_null) ?_
        refine aw_get dX10_move_45 fl_X10_201 (sM_kd hM) (sM_n hM) (congrArg Value.int hm) ?_
        refine aw_aload_n dX10_move_48 rfl rfl (by first | exact isR_ref _ | exact isR_rf _ | exact isR_null) ?_
        refine aw_get dX10_move_49 fl_X10_22 (sM_kd hM) (sM_n hM) (sM_r_lies hM _ _) ?_
        refine aw_iload_n dX10_move_52 rfl rfl ?_
        refine aw_iald dX10_move_53 (sM_k_lies hM) (sM_l_lies hM) (ixm (by omega)) ?_
        refine aw_iast dX10_move_54 (sM_k_wasLying hM) (sM_l_wasLying hM) (ixm (by omega)) ?_
        refine aw_aload_n dX10_move_55 rfl rfl (by first | exact isR_ref _ | exact isR_rf _ | exact isR_null) ?_
        refine aw_get dX10_move_56 fl_X10_84 (sM_kd hM) (sM_n hM) (sM_r_wasBelonging hM _ _) ?_
        refine aw_aload_n dX10_move_59 rfl rfl (by first | exact isR_ref _ | exact isR_rf _ | exact isR_null) ?_
        refine aw_get dX10_move_60 fl_X10_201 (sM_kd hM) (sM_n hM) (congrArg Value.int hm) ?_
        refine aw_aload_n dX10_move_63 rfl rfl (by first | exact isR_ref _ | exact isR_rf _ | exact isR_null) ?_
        refine aw_get dX10_move_64 fl_X10_34 (sM_kd hM) (sM_n hM) (sM_r_belongs hM _ _) ?_
        refine aw_iload_n dX10_move_67 rfl rfl ?_
        refine aw_iald dX10_move_68 (sM_k_belongs hM) (sM_l_belongs hM) (ixm (by omega)) ?_
        refine aw_iast dX10_move_69 (sM_k_wasBelonging hM) (sM_l_wasBelonging hM) (ixm (by omega)) ?_
        refine aw_aload_n dX10_move_70 rfl rfl (by first | exact isR_ref _ | exact isR_rf _ | exact isR_null) ?_
        refine aw_dup dX10_move_71 rfl ?_
        refine aw_get dX10_move_72 fl_X10_201 (sM_kd hM) (sM_n hM) (congrArg Value.int hm) ?_
        refine aw_iconst (v := nI 1) dX10_move_75 (by decide) ?_
        first | refine aw_iaddN dX10_move_76 ?_ | refine aw_iadd dX10_move_76 ?_
        refine aw_putI dX10_move_77 fl_X10_201 (Or.inl rfl) rfl (sM_kd hM) (sM_n hM) ?_
        refine aw_aload_n dX10_move_80 rfl rfl (by first | exact isR_ref _ | exact isR_rf _ | exact isR_null) ?_
        refine aw_get dX10_move_81 fl_X10_22 (sM_kd hM) (sM_n hM) (sM_r_lies hM _ _) ?_
        refine aw_iload_n dX10_move_84 rfl rfl ?_
        refine aw_iload_n dX10_move_85 rfl rfl ?_
        refine aw_iast dX10_move_86 (sM_k_lies hM) (sM_l_lies hM) (ixm (by omega)) ?_
        refine aw_aload_n dX10_move_87 rfl rfl (by first | exact isR_ref _ | exact isR_rf _ | exact isR_null) ?_
        refine aw_get dX10_move_88 fl_X10_34 (sM_kd hM) (sM_n hM) (sM_r_belongs hM _ _) ?_
        refine aw_iload_n dX10_move_91 rfl rfl ?_
        refine aw_iload_n dX10_move_92 rfl rfl ?_
        refine aw_iast dX10_move_93 (sM_k_belongs hM) (sM_l_belongs hM) (ixm (by omega)) ?_
        refine aw_iconst (v := nI 1) dX10_move_94 (by decide) ?_
        refine aw_iret dX10_move_95 rfl rfl ?_
        rw [hok, hk3]
        exact ⟨rfl, rfl⟩
      · exact out (by simp [okMove, h3])
def mUndo (I : Nat → Nat → Int32) : Nat → Nat → Int32 :=
  let m := tn (I 22 26) - 1
  let k := tn (I 43 m)
  u2 (u2 (u2 I 22 26 (nI m)) 27 k (I 44 m)) 31 k (I 45 m)
theorem m_undo (hM : ShM G n kd R) (hB : MB I) : EX G mX10_undo [.ref (gz G + 22)] (n, sz, kd, I, R, J) (some (.int (if tn (I 22 26) = 0 then -1 else I 43 (tn (I 22 26) - 1)))) (n, sz, kd, if tn (I 22 26) = 0 then I else mUndo I, R, J) := by
  refine mm_of rfl [(0, .ref (gz G + 22))] rfl (Nat.le_of_ble_eq_true rfl) ?_
  have hm : I 22 26 = nI (tn (I 22 26)) := hB.2.2.2.2.2.1.eq
  have hm1 : tn (I 22 26) ≤ 200 := hB.2.2.2.2.2.1.le
  refine aw_aload_n dX10_undo_0 rfl rfl (by first | exact isR_ref _ | exact isR_rf _ | exact isR_null) ?_
  refine aw_get dX10_undo_1 fl_X10_201 (sM_kd hM) (sM_n hM) (congrArg Value.int hm) ?_
  refine aw_z_ne (tgt := 9) dX10_undo_4 (by decide) rfl (by omega) (fun h1 => ?_) (fun h1 => ?_)
  · have hk := hB.2.2.2.2.2.2.1 (tn (I 22 26) - 1) (by omega)
    have hk1 := hk.eq
    have hk2 := hk.le
    refine aw_aload_n dX10_undo_9 rfl rfl (by first | exact isR_ref _ | exact isR_rf _ | exact isR_null) ?_
    refine aw_dup dX10_undo_10 rfl ?_
    refine aw_get dX10_undo_11 fl_X10_201 (sM_kd hM) (sM_n hM) (congrArg Value.int hm) ?_
    refine aw_iconst (v := nI 1) dX10_undo_14 (by decide) ?_
    refine aw_isubN (by omega) dX10_undo_15 ?_
    refine aw_putI dX10_undo_16 fl_X10_201 (Or.inl rfl) rfl (sM_kd hM) (sM_n hM) ?_
    generalize hg : tn (I 22 26) = m at *
    have e1 : u2 I 22 26 (nI (m - 1)) 22 26 = nI (m - 1) := rfl
    refine aw_aload_n dX10_undo_19 rfl rfl (by first | exact isR_ref _ | exact isR_rf _ | exact isR_null) ?_
    refine aw_get dX10_undo_20 fl_X10_78 (sM_kd hM) (sM_n hM) (sM_r_moved hM _ _) ?_
    refine aw_aload_n dX10_undo_23 rfl rfl (by first | exact isR_ref _ | exact isR_rf _ | exact isR_null) ?_
    refine aw_get dX10_undo_24 fl_X10_201 (sM_kd hM) (sM_n hM) (congrArg Value.int e1) ?_
    refine aw_iald dX10_undo_27 (sM_k_moved hM) (sM_l_moved hM) (ixm (by omega)) ?_
    refine aw_top (show u2 I 22 26 (nI (m - 1)) 43 (m - 1) = nI (tn (I 43 (m - 1))) from hk1) ?_
    refine aw_istore_n (lv' := [(0, _), (1, _)]) dX10_undo_28 rfl (by decide) rfl ?_
    refine aw_aload_n dX10_undo_29 rfl rfl (by first | exact isR_ref _ | exact isR_rf _ | exact isR_null) ?_
    refine aw_get dX10_undo_30 fl_X10_22 (sM_kd hM) (sM_n hM) (sM_r_lies hM _ _) ?_
    refine aw_iload_n dX10_undo_33 rfl rfl ?_
    refine aw_aload_n dX10_undo_34 rfl rfl (by first | exact isR_ref _ | exact isR_rf _ | exact isR_null) ?_
    refine aw_get dX10_undo_35 fl_X10_81 (sM_kd hM) (sM_n hM) (sM_r_wasLying hM _ _) ?_
    refine aw_aload_n dX10_undo_38 rfl rfl (by first | exact isR_ref _ | exact isR_rf _ | exact isR_null) ?_
    refine aw_get dX10_undo_39 fl_X10_201 (sM_kd hM) (sM_n hM) (congrArg Value.int e1) ?_
    refine aw_iald dX10_undo_42 (sM_k_wasLying hM) (sM_l_wasLying hM) (ixm (by omega)) ?_
    refine aw_iast dX10_undo_43 (sM_k_lies hM) (sM_l_lies hM) (ixm (by omega)) ?_
    refine aw_aload_n dX10_undo_44 rfl rfl (by first | exact isR_ref _ | exact isR_rf _ | exact isR_null) ?_
    refine aw_get dX10_undo_45 fl_X10_34 (sM_kd hM) (sM_n hM) (sM_r_belongs hM _ _) ?_
    refine aw_iload_n dX10_undo_48 rfl rfl ?_
    refine aw_aload_n dX10_undo_49 rfl rfl (by first | exact isR_ref _ | exact isR_rf _ | exact isR_null) ?_
    refine aw_get dX10_undo_50 fl_X10_84 (sM_kd hM) (sM_n hM) (sM_r_wasBelonging hM _ _) ?_
    refine aw_aload_n dX10_undo_53 rfl rfl (by first | exact isR_ref _ | exact isR_rf _ | exact isR_null) ?_
    refine aw_get dX10_undo_54 fl_X10_201 (sM_kd hM) (sM_n hM) (congrArg Value.int e1) ?_
    refine aw_iald dX10_undo_57 (sM_k_wasBelonging hM) (sM_l_wasBelonging hM) (ixm (by omega)) ?_
    refine aw_iast dX10_undo_58 (sM_k_belongs hM) (sM_l_belongs hM) (ixm (by omega)) ?_
    refine aw_iload_n dX10_undo_59 rfl rfl ?_
    refine aw_iret dX10_undo_60 rfl rfl ?_
    rw [if_neg h1, if_neg h1]
    refine ⟨by rw [← hk1], ?_⟩
    simp only [mUndo, hg]
    rfl
  · refine aw_iconst (v := (-1)) dX10_undo_7 (by decide) ?_
    refine aw_iret dX10_undo_8 rfl rfl ?_
    rw [if_pos h1, if_pos h1]
    exact ⟨rfl, rfl⟩
def okDrop (I : Nat → Nat → Int32) (x : Int32) : Bool := match rgl x 0 10 with
  | none => false
  | some h => mth I h
theorem m_drop (hM : ShM G n kd R) (x : Int32) : EX G mX10_drop [.ref (gz G + 22), .int x] (n, sz, kd, I, R, J) (some (.int (bi (okDrop I x)))) (n, sz, kd, if okDrop I x then u2 I 32 (tn x) (nI 0) else I, R, J) := by
  refine mm_of rfl [(0, .ref (gz G + 22)), (1, .int x)] rfl (Nat.le_of_ble_eq_true rfl) ?_
  refine aw_iload_n dX10_drop_0 rfl rfl ?_
  refine aw_iconst (v := nI 0) dX10_drop_1 (by decide) ?_
  refine aw_bipush (v := nI 9) dX10_drop_2 (by decide) ?_
  refine aw_cSx (as := [_, _, _]) dX10_drop_4 lk_X10_156 cm_X10_in sm_X10_in (by unfold RO; decide) rfl rfl (Nat.le_of_ble_eq_true rfl) (m_inN _) ?_
  refine aw_b_eq (tgt := 19) dX10_drop_7 (by decide) rfl (fun h1 => ?_) (fun h1 => ?_)
  · refine aw_iconst (v := nI 0) dX10_drop_19 (by decide) ?_
    refine aw_iret dX10_drop_20 rfl rfl ?_
    have e : okDrop I x = false := by
      unfold okDrop
      cases h : rgl x 0 10 with
      | none => rfl
      | some k => rw [show rgl x 0 (9 + 1) = some k from h] at h1; cases h1
    rw [e]
    exact ⟨rfl, rfl⟩
  · obtain ⟨k, hk⟩ := Option.isSome_iff_exists.mp h1
    obtain ⟨rfl, -, hk2⟩ := rgl_some hk
    have hk3 : tn (nI k) = k := tn_nI (by omega)
    have e : okDrop I (nI k) = mth I k := by unfold okDrop; rw [show rgl (nI k) 0 10 = some k from hk]
    refine aw_aload_n dX10_drop_10 rfl rfl (by first | exact isR_ref _ | exact isR_rf _ | exact isR_null) ?_
    refine aw_get dX10_drop_11 fl_X10_37 (sM_kd hM) (sM_n hM) (sM_r_isThere hM _ _) ?_
    refine aw_iload_n dX10_drop_14 rfl rfl ?_
    refine aw_zald dX10_drop_15 (sM_k_isThere hM) (sM_l_isThere hM) (ixm (by omega)) ?_
    refine aw_if_ne (tgt := 21) dX10_drop_16 (by decide) (fun h2 => ?_) (fun h2 => ?_)
    · refine aw_aload_n dX10_drop_21 rfl rfl (by first | exact isR_ref _ | exact isR_rf _ | exact isR_null) ?_
      refine aw_get dX10_drop_22 fl_X10_37 (sM_kd hM) (sM_n hM) (sM_r_isThere hM _ _) ?_
      refine aw_iload_n dX10_drop_25 rfl rfl ?_
      refine aw_iconst (v := nI 0) dX10_drop_26 (by decide) ?_
      refine aw_zast (b0 := false) dX10_drop_27 (sM_k_isThere hM) (sM_l_isThere hM) (ixm (by omega)) ?_
      refine aw_iconst (v := nI 1) dX10_drop_28 (by decide) ?_
      refine aw_iret dX10_drop_29 rfl rfl ?_
      rw [e, show mth I k = true from decide_eq_true h2, hk3]
      exact ⟨rfl, rfl⟩
    · refine aw_iconst (v := nI 0) dX10_drop_19 (by decide) ?_
      refine aw_iret dX10_drop_20 rfl rfl ?_
      rw [e, show mth I k = false from decide_eq_false (fun z => z h2)]
      exact ⟨rfl, rfl⟩
theorem m_end (hM : ShM G n kd R) (hB : MB I) (x : Int32) : EX G mX10_end [.ref (gz G + 22), .int x] (n, sz, kd, I, R, J) (some (.int (match rgl x 0 (tn (I 22 31) + 1) with | none => -1 | some _ => x))) (n, sz, kd, match rgl x 0 (tn (I 22 31) + 1) with | none => I | some _ => u2 I 22 31 x, R, J) := by
  refine mm_of rfl [(0, .ref (gz G + 22)), (1, .int x)] rfl (Nat.le_of_ble_eq_true rfl) ?_
  have hT : I 22 31 = nI (tn (I 22 31)) := hB.2.2.2.2.1.eq
  have hT1 : tn (I 22 31) ≤ 100 := hB.2.2.2.2.1.le
  refine aw_iload_n dX10_end_0 rfl rfl ?_
  refine aw_if_lt (tgt := 12) dX10_end_1 (by decide) (fun h1 => ?_) (fun h1 => ?_)
  · refine aw_iconst (v := (-1)) dX10_end_12 (by decide) ?_
    refine aw_iret dX10_end_13 rfl rfl ?_
    have e : rgl x 0 (tn (I 22 31) + 1) = none := by
      cases h : rgl x 0 (tn (I 22 31) + 1) with
      | none => rfl
      | some k => obtain ⟨rfl, -, h3⟩ := rgl_some h; exact absurd h1 (nI_pos (by omega))
    rw [e]
    exact ⟨rfl, rfl⟩
  · refine aw_iload_n dX10_end_4 rfl rfl ?_
    refine aw_aload_n dX10_end_5 rfl rfl (by first | exact isR_ref _ | exact isR_rf _ | exact isR_null) ?_
    refine aw_get dX10_end_6 fl_X10_106 (sM_kd hM) (sM_n hM) (congrArg Value.int hT) ?_
    obtain ⟨k, hk, rfl⟩ := nI_of h1
    refine aw_n_le (tgt := 14) dX10_end_9 (by decide) rfl rfl (by omega) (by omega) (fun h2 => ?_) (fun h2 => ?_)
    · refine aw_aload_n dX10_end_14 rfl rfl (by first | exact isR_ref _ | exact isR_rf _ | exact isR_null) ?_
      refine aw_iload_n dX10_end_15 rfl rfl ?_
      refine aw_putI dX10_end_16 fl_X10_106 (Or.inl rfl) rfl (sM_kd hM) (sM_n hM) ?_
      refine aw_iload_n dX10_end_19 rfl rfl ?_
      refine aw_iret dX10_end_20 rfl rfl ?_
      rw [rgl_nI (Nat.zero_le _) (by omega) hk]
      exact ⟨rfl, rfl⟩
    · refine aw_iconst (v := (-1)) dX10_end_12 (by decide) ?_
      refine aw_iret dX10_end_13 rfl rfl ?_
      have e : rgl (nI k) 0 (tn (I 22 31) + 1) = none := by
        cases h : rgl (nI k) 0 (tn (I 22 31) + 1) with
        | none => rfl
        | some j =>
          obtain ⟨h3, -, h4⟩ := rgl_some h
          have := (nI_eq hk (by omega)).mp h3
          omega
      rw [e]
      exact ⟨rfl, rfl⟩
def mWrong (I : Nat → Nat → Int32) (f g : Nat) : Int32 := if f = g then nI 0 else I 42 f
theorem m_wrong (hM : ShM G n kd R) {f g : Nat} (hf : f < 8) (hg : g < 8) : EX G mX10_wrong [.ref (gz G + 22), .int (nI f), .int (nI g)] (n, sz, kd, I, R, J) (some (.int (mWrong I f g))) (n, sz, kd, I, R, J) := by
  refine mm_of rfl [(0, .ref (gz G + 22)), (1, .int (nI f)), (2, .int (nI g))] rfl (Nat.le_of_ble_eq_true rfl) ?_
  refine aw_iload_n dX10_wrong_0 rfl rfl ?_
  refine aw_iload_n dX10_wrong_1 rfl rfl ?_
  refine aw_n_ne (tgt := 9) dX10_wrong_2 (by decide) rfl rfl (by omega) (by omega) (fun h1 => ?_) (fun h1 => ?_)
  · refine aw_aload_n dX10_wrong_9 rfl rfl (by first | exact isR_ref _ | exact isR_rf _ | exact isR_null) ?_
    refine aw_get dX10_wrong_10 fl_X10_75 (sM_kd hM) (sM_n hM) (sM_r_wrongCost hM _ _) ?_
    refine aw_iload_n dX10_wrong_13 rfl rfl ?_
    refine aw_iald dX10_wrong_14 (sM_k_wrongCost hM) (sM_l_wrongCost hM) (ixm (by omega)) ?_
    refine aw_iret dX10_wrong_15 rfl rfl ?_
    exact ⟨by rw [mWrong, if_neg h1], rfl⟩
  · refine aw_iconst (v := nI 0) dX10_wrong_5 (by decide) ?_
    refine aw_goto (tgt := 15) dX10_wrong_6 (by decide) ?_
    refine aw_iret dX10_wrong_15 rfl rfl ?_
    exact ⟨by rw [mWrong, if_pos h1], rfl⟩
end MOD4
