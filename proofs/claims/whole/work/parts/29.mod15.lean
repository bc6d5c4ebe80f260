section MOD15
variable {G : GG} {n sz : Nat} {kd : Nat → AKd} {I : Nat → Nat → Int32} {R : Nat → Nat → Option Nat} {J : Nat → Nat → Int64}
/-- the words that the reference knows: all, if, and, to, from, list, word, above, below; five places each -/
def kwl : List Nat := [97, 108, 108, 0, 0, 105, 102, 0, 0, 0, 97, 110, 100, 0, 0, 116, 111, 0, 0, 0, 102, 114, 111, 109, 0, 108, 105, 115, 116, 0, 119, 111, 114, 100, 0, 97, 98, 111, 118, 101, 98, 101, 108, 111, 119]
def kwb (i : Nat) : Nat := kwl.getD i 0
def kl (w : Nat) : Nat := [3, 2, 3, 2, 4, 4, 4, 5, 5].getD w 0
def KN (I : Nat → Nat → Int32) : Prop := ∀ i, i < 45 → I 48 i = nI (kwb i)
theorem kl_ok : ∀ w, w < 9 → kl w ≤ 5 ∧ 0 < kl w ∧ (∀ m, m < kl w → kwb (5 * w + m) ≠ 0) ∧ (kl w < 5 → kwb (5 * w + kl w) = 0) := by decide +kernel
theorem kwb_lt : ∀ i, i < 45 → kwb i < 128 := by decide +kernel
theorem sb_neg : ∀ c, c < 256 → 128 ≤ c → sb_b c < 0 := by decide +kernel
theorem sb_eq {c v : Nat} (hc : c < 256) (hv : v < 128) : nI v = sb_b c ↔ c = v := by
  constructor
  · intro h
    by_cases h1 : c < 128
    · rw [sb_nI c h1] at h
      exact ((nI_eq (by omega) (by omega)).mp h).symm
    · have h2 := sb_neg c hc (by omega)
      rw [← h] at h2
      exact absurd h2 (nI_pos (by omega))
  · intro h
    subst h
    exact (sb_nI c hv).symm
def wIs (b : Nat → Nat) (s e w : Nat) : Bool := decide (kl w = e - s) && allT (fun k => decide (b (s + k) = kwb (5 * w + k))) (kl w)
def wcode (b : Nat → Nat) (s e : Nat) : Option Nat := fstF (wIs b s e) 9
theorem m_wordHere (hM : ShM G n kd R) {b : Nat → Nat} (hT : TB I b) (hK : KN I) {P i : Nat} (hP : I 22 31 = nI P) (hP1 : P ≤ 100) (hi : i ≤ P) (ws ft sd ts rf : Int32) (rd : Nat → Int32) : EX G mX10_wordHere [.ref (gz G + 22)] (n, sz, kd, pS I (nI i, ws, ft, sd, ts, rf, rd), R, J) (some (.int (oI (wcode b (run (isBl b) P i) (run (isLt b) P (run (isBl b) P i)))))) (n, sz, kd, pS I (nI (run (isBl b) P i), nI (run (isLt b) P (run (isBl b) P i) - run (isBl b) P i), ft, sd, ts, rf, rd), R, J) := by
  refine mm_of rfl [(0, .ref (gz G + 22))] rfl (Nat.le_of_ble_eq_true rfl) ?_
  refine aw_aload_n dX10_wordHere_0 rfl rfl (by first | exact isR_ref _ | exact isR_rf _ | exact isR_null) ?_
  refine aw_cVx (as := []) dX10_wordHere_1 lk_X10_119 cm_X10_see vi_X10_see (by unfold RO; decide) rfl (sM_kd hM) (sM_n hM) rfl rfl rfl (Nat.le_of_ble_eq_true rfl) (m_see hM hT hP hP1 hi _ _ _ _ _ _) ?_
  have hs := run_le (q := isBl b) hi
  generalize run (isBl b) P i = s at hs ⊢
  have he := run_le (q := isLt b) hs.2
  generalize hee : run (isLt b) P s = e at he ⊢
  refine aw_pop dX10_wordHere_4 rfl ?_
  refine aw_aload_n dX10_wordHere_5 rfl rfl (by first | exact isR_ref _ | exact isR_rf _ | exact isR_null) ?_
  refine aw_iconst (v := nI 0) dX10_wordHere_6 (by decide) ?_
  refine aw_putI dX10_wordHere_7 fl_X10_123 (Or.inl rfl) rfl (sM_kd hM) (sM_n hM) ?_
  rw [pS_ws]
  -- the words, one after the other
  have words : AW G mX10_wordHere 77 [(0, .ref (gz G + 22))] [] (n, sz, kd, pS I (nI s, nI (e - s), ft, sd, ts, rf, rd), R, J) (fun v' M' => v' = some (.int (oI (wcode b s e))) ∧ M' = (n, sz, kd, pS I (nI s, nI (e - s), ft, sd, ts, rf, rd), R, J)) := by
    refine aw_iconst (v := nI 0) dX10_wordHere_77 (by decide) ?_
    refine aw_istore_n (lv' := [(0, _), (1, _)]) dX10_wordHere_78 rfl (by decide) rfl ?_
    have out : fstF (wIs b s e) 9 = none → ∀ lv, AW G mX10_wordHere 196 lv [] (n, sz, kd, pS I (nI s, nI (e - s), ft, sd, ts, rf, rd), R, J) (fun v' M' => v' = some (.int (oI (wcode b s e))) ∧ M' = (n, sz, kd, pS I (nI s, nI (e - s), ft, sd, ts, rf, rd), R, J)) := by
      intro h lv
      refine aw_iconst (v := (-1)) dX10_wordHere_196 (by decide) ?_
      refine aw_iret dX10_wordHere_197 rfl rfl ?_
      exact ⟨by unfold wcode; rw [h]; rfl, rfl⟩
    have loop : ∀ d w ex, w + d = 9 → fstF (wIs b s e) w = none → AW G mX10_wordHere 79 ([(0, .ref (gz G + 22)), (1, .int (nI w))] ++ ex) [] (n, sz, kd, pS I (nI s, nI (e - s), ft, sd, ts, rf, rd), R, J) (fun v' M' => v' = some (.int (oI (wcode b s e))) ∧ M' = (n, sz, kd, pS I (nI s, nI (e - s), ft, sd, ts, rf, rd), R, J)) := by
      intro d
      induction d with
      | zero =>
        intro w ex hd hf
        refine aw_app ?_
        refine aw_iload_n dX10_wordHere_79 rfl rfl ?_
        refine aw_bipush (v := nI 9) dX10_wordHere_80 (by decide) ?_
        refine aw_n_ge (tgt := 196) dX10_wordHere_82 (by decide) rfl rfl (by omega) (by omega) (fun h => ?_) (fun h => ?_)
        · exact out (by rw [show 9 = w by omega]; exact hf) _
        · exact absurd h (by omega)
      | succ d ih =>
        intro w ex hd hf
        refine aw_app ?_
        obtain ⟨k1, k2, k3, k4⟩ := kl_ok w (by omega)
        refine aw_iload_n dX10_wordHere_79 rfl rfl ?_
        refine aw_bipush (v := nI 9) dX10_wordHere_80 (by decide) ?_
        refine aw_n_ge (tgt := 196) dX10_wordHere_82 (by decide) rfl rfl (by omega) (by omega) (fun h => ?_) (fun h => ?_)
        · exact absurd h (by omega)
        · refine aw_aload_n dX10_wordHere_85 rfl rfl (by first | exact isR_ref _ | exact isR_rf _ | exact isR_null) ?_
          refine aw_get dX10_wordHere_86 fl_X10_123 (sM_kd hM) (sM_n hM) (show _ = Value.int (nI (e - s)) from rfl) ?_
          refine aw_iconst (v := nI 5) dX10_wordHere_89 (by decide) ?_
          refine aw_n_gt (tgt := 196) dX10_wordHere_90 (by decide) rfl rfl (by omega) (by omega) (fun h2 => ?_) (fun h2 => ?_)
          · refine out ?_ _
            cases hx : fstF (wIs b s e) 9 with
            | none => rfl
            | some q =>
              obtain ⟨q1, q2, -⟩ := fstF_some hx
              have := kl_ok q q1
              unfold wIs at q2
              rw [Bool.and_eq_true, decide_eq_true_iff] at q2
              omega
          · refine aw_iconst (v := nI 0) dX10_wordHere_93 (by decide) ?_
            refine aw_istore_n (lv' := [(0, _), (1, _), (2, _)]) dX10_wordHere_94 rfl (by decide) rfl ?_
            -- behind the compare
            have tail : ∀ bb : Bool, bb = wIs b s e w → ∀ k, AW G mX10_wordHere 184 [(0, .ref (gz G + 22)), (1, .int (nI w)), (2, .int (nI (kl w))), (3, .int (bi bb)), (4, .int (nI k))] [] (n, sz, kd, pS I (nI s, nI (e - s), ft, sd, ts, rf, rd), R, J) (fun v' M' => v' = some (.int (oI (wcode b s e))) ∧ M' = (n, sz, kd, pS I (nI s, nI (e - s), ft, sd, ts, rf, rd), R, J)) := by
              intro bb hbb k
              refine aw_iload_n dX10_wordHere_184 rfl rfl ?_
              refine aw_b_eq (tgt := 190) dX10_wordHere_185 (by decide) rfl (fun h5 => ?_) (fun h5 => ?_)
              · first | refine aw_iincN (c := 1) (lv' := [(0, _), (1, _), (2, _), (3, _), (4, _)]) dX10_wordHere_190 rfl (by decide) rfl rfl ?_ | refine aw_iinc (v := 1) (lv' := [(0, _), (1, _), (2, _), (3, _), (4, _)]) dX10_wordHere_190 rfl (by decide) (by decide) rfl ?_
                refine aw_goto (tgt := 79) dX10_wordHere_193 (by decide) ?_
                exact ih (w + 1) [_, _, _] (by omega) (by rw [fstF, hf]; simp [← hbb, h5])
              · refine aw_iload_n dX10_wordHere_188 rfl rfl ?_
                refine aw_iret dX10_wordHere_189 rfl rfl ?_
                have e1 : fstF (wIs b s e) (w + 1) = some w := by rw [fstF, hf]; simp [← hbb, h5]
                have e2 := fstF_stay e1 d
                rw [show w + 1 + d = 9 by omega] at e2
                exact ⟨by unfold wcode; rw [e2]; rfl, rfl⟩
            -- the compare itself
            have cmp : ∀ d2 k, k + d2 = kl w → kl w = e - s → allT (fun k => decide (b (s + k) = kwb (5 * w + k))) k = true → AW G mX10_wordHere 136 [(0, .ref (gz G + 22)), (1, .int (nI w)), (2, .int (nI (kl w))), (3, .int (bi true)), (4, .int (nI k))] [] (n, sz, kd, pS I (nI s, nI (e - s), ft, sd, ts, rf, rd), R, J) (fun v' M' => v' = some (.int (oI (wcode b s e))) ∧ M' = (n, sz, kd, pS I (nI s, nI (e - s), ft, sd, ts, rf, rd), R, J)) := by
              intro d2
              induction d2 with
              | zero =>
                intro k hk hkl ha
                refine aw_iload_n dX10_wordHere_136 rfl rfl ?_
                refine aw_b_eq (tgt := 184) dX10_wordHere_137 (by decide) rfl (fun h6 => ?_) (fun h6 => ?_)
                · cases h6
                · refine aw_iload dX10_wordHere_140 rfl ?_
                  refine aw_iload_n dX10_wordHere_142 rfl rfl ?_
                  refine aw_n_ge (tgt := 184) dX10_wordHere_143 (by decide) rfl rfl (by omega) (by omega) (fun h7 => ?_) (fun h7 => ?_)
                  · exact tail true (by unfold wIs; rw [decide_eq_true hkl, show kl w = k by omega, ha]; rfl) _
                  · exact absurd h7 (by omega)
              | succ d2 ih2 =>
                intro k hk hkl ha
                have hb := hT (s + k) (by omega)
                have hkn := hK (5 * w + k) (by omega)
                have hkw := kwb_lt (5 * w + k) (by omega)
                refine aw_iload_n dX10_wordHere_136 rfl rfl ?_
                refine aw_b_eq (tgt := 184) dX10_wordHere_137 (by decide) rfl (fun h6 => ?_) (fun h6 => ?_)
                · cases h6
                · refine aw_iload dX10_wordHere_140 rfl ?_
                  refine aw_iload_n dX10_wordHere_142 rfl rfl ?_
                  refine aw_n_ge (tgt := 184) dX10_wordHere_143 (by decide) rfl rfl (by omega) (by omega) (fun h7 => ?_) (fun h7 => ?_)
                  · exact absurd h7 (by omega)
                  · refine aw_aload_n dX10_wordHere_146 rfl rfl (by first | exact isR_ref _ | exact isR_rf _ | exact isR_null) ?_
                    refine aw_get dX10_wordHere_147 fl_X10_94 (sM_kd hM) (sM_n hM) (sM_r_known hM _ _) ?_
                    refine aw_iconst (v := nI 5) dX10_wordHere_150 (by decide) ?_
                    refine aw_iload_n dX10_wordHere_151 rfl rfl ?_
                    first | refine aw_imulN dX10_wordHere_152 ?_ | refine aw_imul dX10_wordHere_152 ?_
                    refine aw_iload dX10_wordHere_153 rfl ?_
                    first | refine aw_iaddN dX10_wordHere_155 ?_ | refine aw_iadd dX10_wordHere_155 ?_
                    refine aw_bald dX10_wordHere_156 (sM_k_known hM) (sM_l_known hM) (ixm (by omega)) ?_
                    refine aw_top (show pS I (nI s, nI (e - s), ft, sd, ts, rf, rd) 48 (5 * w + k) = nI (kwb (5 * w + k)) from hkn) ?_
                    refine aw_aload_n dX10_wordHere_157 rfl rfl (by first | exact isR_ref _ | exact isR_rf _ | exact isR_null) ?_
                    refine aw_get dX10_wordHere_158 fl_X10_87 (sM_kd hM) (sM_n hM) (sM_r_tape hM _ _) ?_
                    refine aw_aload_n dX10_wordHere_161 rfl rfl (by first | exact isR_ref _ | exact isR_rf _ | exact isR_null) ?_
                    refine aw_get dX10_wordHere_162 fl_X10_116 (sM_kd hM) (sM_n hM) (show _ = Value.int (nI s) from rfl) ?_
                    refine aw_iload dX10_wordHere_165 rfl ?_
                    first | refine aw_iaddN dX10_wordHere_167 ?_ | refine aw_iadd dX10_wordHere_167 ?_
                    refine aw_bald dX10_wordHere_168 (sM_k_tape hM) (sM_l_tape hM) (ixm (by omega)) ?_
                    refine aw_top (show pS I (nI s, nI (e - s), ft, sd, ts, rf, rd) 46 (s + k) = sb_b (b (s + k)) from hb.2) ?_
                    refine aw_icmp_ne (tgt := 176) dX10_wordHere_169 (by decide) (fun h8 => ?_) (fun h8 => ?_)
                    · have h9 : ¬ b (s + k) = kwb (5 * w + k) := fun z => h8 ((sb_eq hb.1 hkw).mpr z)
                      refine aw_iconst (v := nI 0) dX10_wordHere_176 (by decide) ?_
                      refine aw_istore_n (lv' := [(0, _), (1, _), (2, _), (3, _), (4, _)]) dX10_wordHere_177 rfl (by decide) rfl ?_
                      first | refine aw_iincN (c := 1) (lv' := [(0, _), (1, _), (2, _), (3, _), (4, _)]) dX10_wordHere_178 rfl (by decide) rfl rfl ?_ | refine aw_iinc (v := 1) (lv' := [(0, _), (1, _), (2, _), (3, _), (4, _)]) dX10_wordHere_178 rfl (by decide) (by decide) rfl ?_
                      refine aw_goto (tgt := 136) dX10_wordHere_181 (by decide) ?_
                      refine aw_iload_n dX10_wordHere_136 rfl rfl ?_
                      refine aw_b_eq (b := false) (tgt := 184) dX10_wordHere_137 (by decide) rfl (fun _ => ?_) (fun z => by cases z)
                      exact tail false (by unfold wIs; rw [allT_false (k := k) (by omega) (decide_eq_false h9), Bool.and_false]) _
                    · have h9 : b (s + k) = kwb (5 * w + k) := (sb_eq hb.1 hkw).mp h8
                      refine aw_iconst (v := nI 1) dX10_wordHere_172 (by decide) ?_
                      refine aw_goto (tgt := 177) dX10_wordHere_173 (by decide) ?_
                      refine aw_istore_n (lv' := [(0, _), (1, _), (2, _), (3, _), (4, _)]) dX10_wordHere_177 rfl (by decide) rfl ?_
                      first | refine aw_iincN (c := 1) (lv' := [(0, _), (1, _), (2, _), (3, _), (4, _)]) dX10_wordHere_178 rfl (by decide) rfl rfl ?_ | refine aw_iinc (v := 1) (lv' := [(0, _), (1, _), (2, _), (3, _), (4, _)]) dX10_wordHere_178 rfl (by decide) (by decide) rfl ?_
                      refine aw_goto (tgt := 136) dX10_wordHere_181 (by decide) ?_
                      exact ih2 (k + 1) (by omega) hkl (by rw [allT, ha, decide_eq_true h9]; rfl)
            -- its length
            have len : ∀ d2 m, m + d2 = kl w → AW G mX10_wordHere 95 [(0, .ref (gz G + 22)), (1, .int (nI w)), (2, .int (nI m))] [] (n, sz, kd, pS I (nI s, nI (e - s), ft, sd, ts, rf, rd), R, J) (fun v' M' => v' = some (.int (oI (wcode b s e))) ∧ M' = (n, sz, kd, pS I (nI s, nI (e - s), ft, sd, ts, rf, rd), R, J)) := by
              have same : AW G mX10_wordHere 119 [(0, .ref (gz G + 22)), (1, .int (nI w)), (2, .int (nI (kl w)))] [] (n, sz, kd, pS I (nI s, nI (e - s), ft, sd, ts, rf, rd), R, J) (fun v' M' => v' = some (.int (oI (wcode b s e))) ∧ M' = (n, sz, kd, pS I (nI s, nI (e - s), ft, sd, ts, rf, rd), R, J)) := by
                refine aw_iload_n dX10_wordHere_119 rfl rfl ?_
                refine aw_aload_n dX10_wordHere_120 rfl rfl (by first | exact isR_ref _ | exact isR_rf _ | exact isR_null) ?_
                refine aw_get dX10_wordHere_121 fl_X10_123 (sM_kd hM) (sM_n hM) (show _ = Value.int (nI (e - s)) from rfl) ?_
                refine aw_n_ne (tgt := 131) dX10_wordHere_124 (by decide) rfl rfl (by omega) (by omega) (fun h6 => ?_) (fun h6 => ?_)
                · refine aw_iconst (v := nI 0) dX10_wordHere_131 (by decide) ?_
                  refine aw_istore_n (lv' := [(0, _), (1, _), (2, _), (3, _)]) dX10_wordHere_132 rfl (by decide) rfl ?_
                  refine aw_iconst (v := nI 0) dX10_wordHere_133 (by decide) ?_
                  refine aw_istore (lv' := [(0, _), (1, _), (2, _), (3, _), (4, _)]) dX10_wordHere_134 (by decide) rfl ?_
                  refine aw_iload_n dX10_wordHere_136 rfl rfl ?_
                  refine aw_b_eq (b := false) (tgt := 184) dX10_wordHere_137 (by decide) rfl (fun _ => ?_) (fun z => by cases z)
                  exact tail false (by unfold wIs; rw [decide_eq_false h6]; rfl) _
                · refine aw_iconst (v := nI 1) dX10_wordHere_127 (by decide) ?_
                  refine aw_goto (tgt := 132) dX10_wordHere_128 (by decide) ?_
                  refine aw_istore_n (lv' := [(0, _), (1, _), (2, _), (3, _)]) dX10_wordHere_132 rfl (by decide) rfl ?_
                  refine aw_iconst (v := nI 0) dX10_wordHere_133 (by decide) ?_
                  refine aw_istore (lv' := [(0, _), (1, _), (2, _), (3, _), (4, _)]) dX10_wordHere_134 (by decide) rfl ?_
                  exact cmp (kl w) 0 (by omega) h6 rfl
              intro d2
              induction d2 with
              | zero =>
                intro m hm
                have hm2 : m = kl w := by omega
                subst hm2
                refine aw_iload_n dX10_wordHere_95 rfl rfl ?_
                refine aw_iconst (v := nI 5) dX10_wordHere_96 (by decide) ?_
                refine aw_n_ge (tgt := 119) dX10_wordHere_97 (by decide) rfl rfl (by omega) (by omega) (fun h6 => ?_) (fun h6 => ?_)
                · exact same
                · refine aw_aload_n dX10_wordHere_100 rfl rfl (by first | exact isR_ref _ | exact isR_rf _ | exact isR_null) ?_
                  refine aw_get dX10_wordHere_101 fl_X10_94 (sM_kd hM) (sM_n hM) (sM_r_known hM _ _) ?_
                  refine aw_iconst (v := nI 5) dX10_wordHere_104 (by decide) ?_
                  refine aw_iload_n dX10_wordHere_105 rfl rfl ?_
                  first | refine aw_imulN dX10_wordHere_106 ?_ | refine aw_imul dX10_wordHere_106 ?_
                  refine aw_iload_n dX10_wordHere_107 rfl rfl ?_
                  first | refine aw_iaddN dX10_wordHere_108 ?_ | refine aw_iadd dX10_wordHere_108 ?_
                  refine aw_bald dX10_wordHere_109 (sM_k_known hM) (sM_l_known hM) (ixm (by omega)) ?_
                  refine aw_top (show pS I (nI s, nI (e - s), ft, sd, ts, rf, rd) 48 (5 * w + kl w) = nI (kwb (5 * w + kl w)) from hK _ (by omega)) ?_
                  refine aw_top (congrArg nI (k4 (by omega))) ?_
                  refine aw_z_eq (tgt := 119) dX10_wordHere_110 (by decide) rfl (by omega) (fun h7 => ?_) (fun h7 => ?_)
                  · exact same
                  · exact absurd rfl h7
              | succ d2 ih2 =>
                intro m hm
                have hkw := kwb_lt (5 * w + m) (by omega)
                refine aw_iload_n dX10_wordHere_95 rfl rfl ?_
                refine aw_iconst (v := nI 5) dX10_wordHere_96 (by decide) ?_
                refine aw_n_ge (tgt := 119) dX10_wordHere_97 (by decide) rfl rfl (by omega) (by omega) (fun h6 => ?_) (fun h6 => ?_)
                · exact absurd h6 (by omega)
                · refine aw_aload_n dX10_wordHere_100 rfl rfl (by first | exact isR_ref _ | exact isR_rf _ | exact isR_null) ?_
                  refine aw_get dX10_wordHere_101 fl_X10_94 (sM_kd hM) (sM_n hM) (sM_r_known hM _ _) ?_
                  refine aw_iconst (v := nI 5) dX10_wordHere_104 (by decide) ?_
                  refine aw_iload_n dX10_wordHere_105 rfl rfl ?_
                  first | refine aw_imulN dX10_wordHere_106 ?_ | refine aw_imul dX10_wordHere_106 ?_
                  refine aw_iload_n dX10_wordHere_107 rfl rfl ?_
                  first | refine aw_iaddN dX10_wordHere_108 ?_ | refine aw_iadd dX10_wordHere_108 ?_
                  refine aw_bald dX10_wordHere_109 (sM_k_known hM) (sM_l_known hM) (ixm (by omega)) ?_
                  refine aw_top (show pS I (nI s, nI (e - s), ft, sd, ts, rf, rd) 48 (5 * w + m) = nI (kwb (5 * w + m)) from hK _ (by omega)) ?_
                  refine aw_z_eq (tgt := 119) dX10_wordHere_110 (by decide) rfl (by omega) (fun h7 => ?_) (fun h7 => ?_)
                  · exact absurd h7 (k3 m (by omega))
                  · first | refine aw_iincN (c := 1) (lv' := [(0, _), (1, _), (2, _)]) dX10_wordHere_113 rfl (by decide) rfl rfl ?_ | refine aw_iinc (v := 1) (lv' := [(0, _), (1, _), (2, _)]) dX10_wordHere_113 rfl (by decide) (by decide) rfl ?_
                    refine aw_goto (tgt := 95) dX10_wordHere_116 (by decide) ?_
                    exact ih2 (m + 1) (by omega)
            exact len (kl w) 0 (by omega)
    exact loop 9 0 [] rfl rfl
  -- the letters of the word
  have letters : ∀ d k, s + k + d = P → run (isLt b) P (s + k) = e → AW G mX10_wordHere 10 [(0, .ref (gz G + 22))] [] (n, sz, kd, pS I (nI s, nI k, ft, sd, ts, rf, rd), R, J) (fun v' M' => v' = some (.int (oI (wcode b s e))) ∧ M' = (n, sz, kd, pS I (nI s, nI (e - s), ft, sd, ts, rf, rd), R, J)) := by
    intro d
    induction d with
    | zero =>
      intro k hd hr
      have hke : k = e - s := by
        have := run_no (q := isLt b) (P := P) (i := s + k) (Or.inl (by omega))
        omega
      subst hke
      refine aw_aload_n dX10_wordHere_10 rfl rfl (by first | exact isR_ref _ | exact isR_rf _ | exact isR_null) ?_
      refine aw_get dX10_wordHere_11 fl_X10_116 (sM_kd hM) (sM_n hM) (show _ = Value.int (nI s) from rfl) ?_
      refine aw_aload_n dX10_wordHere_14 rfl rfl (by first | exact isR_ref _ | exact isR_rf _ | exact isR_null) ?_
      refine aw_get dX10_wordHere_15 fl_X10_123 (sM_kd hM) (sM_n hM) (show _ = Value.int (nI (e - s)) from rfl) ?_
      first | refine aw_iaddN dX10_wordHere_18 ?_ | refine aw_iadd dX10_wordHere_18 ?_
      refine aw_aload_n dX10_wordHere_19 rfl rfl (by first | exact isR_ref _ | exact isR_rf _ | exact isR_null) ?_
      refine aw_get dX10_wordHere_20 fl_X10_106 (sM_kd hM) (sM_n hM) (congrArg Value.int hP) ?_
      refine aw_n_ge (tgt := 77) dX10_wordHere_23 (by decide) rfl rfl (by omega) (by omega) (fun h => ?_) (fun h => ?_)
      · exact words
      · exact absurd h (by omega)
    | succ d ih =>
      intro k hd hr
      have hb := hT (s + k) (by omega)
      have stop : isLt b (s + k) = false → AW G mX10_wordHere 77 [(0, .ref (gz G + 22))] [] (n, sz, kd, pS I (nI s, nI k, ft, sd, ts, rf, rd), R, J) (fun v' M' => v' = some (.int (oI (wcode b s e))) ∧ M' = (n, sz, kd, pS I (nI s, nI (e - s), ft, sd, ts, rf, rd), R, J)) := by
        intro hq
        have hke : k = e - s := by
          have := run_no (q := isLt b) (P := P) (i := s + k) (Or.inr hq)
          omega
        subst hke
        exact words
      refine aw_aload_n dX10_wordHere_10 rfl rfl (by first | exact isR_ref _ | exact isR_rf _ | exact isR_null) ?_
      refine aw_get dX10_wordHere_11 fl_X10_116 (sM_kd hM) (sM_n hM) (show _ = Value.int (nI s) from rfl) ?_
      refine aw_aload_n dX10_wordHere_14 rfl rfl (by first | exact isR_ref _ | exact isR_rf _ | exact isR_null) ?_
      refine aw_get dX10_wordHere_15 fl_X10_123 (sM_kd hM) (sM_n hM) (show _ = Value.int (nI k) from rfl) ?_
      first | refine aw_iaddN dX10_wordHere_18 ?_ | refine aw_iadd dX10_wordHere_18 ?_
      refine aw_aload_n dX10_wordHere_19 rfl rfl (by first | exact isR_ref _ | exact isR_rf _ | exact isR_null) ?_
      refine aw_get dX10_wordHere_20 fl_X10_106 (sM_kd hM) (sM_n hM) (congrArg Value.int hP) ?_
      refine aw_n_ge (tgt := 77) dX10_wordHere_23 (by decide) rfl rfl (by omega) (by omega) (fun h => ?_) (fun h => ?_)
      · exact absurd h (by omega)
      · refine aw_aload_n dX10_wordHere_26 rfl rfl (by first | exact isR_ref _ | exact isR_rf _ | exact isR_null) ?_
        refine aw_get dX10_wordHere_27 fl_X10_87 (sM_kd hM) (sM_n hM) (sM_r_tape hM _ _) ?_
        refine aw_aload_n dX10_wordHere_30 rfl rfl (by first | exact isR_ref _ | exact isR_rf _ | exact isR_null) ?_
        refine aw_get dX10_wordHere_31 fl_X10_116 (sM_kd hM) (sM_n hM) (show _ = Value.int (nI s) from rfl) ?_
        refine aw_aload_n dX10_wordHere_34 rfl rfl (by first | exact isR_ref _ | exact isR_rf _ | exact isR_null) ?_
        refine aw_get dX10_wordHere_35 fl_X10_123 (sM_kd hM) (sM_n hM) (show _ = Value.int (nI k) from rfl) ?_
        first | refine aw_iaddN dX10_wordHere_38 ?_ | refine aw_iadd dX10_wordHere_38 ?_
        refine aw_bald dX10_wordHere_39 (sM_k_tape hM) (sM_l_tape hM) (ixm (by omega)) ?_
        refine aw_top (show pS I (nI s, nI k, ft, sd, ts, rf, rd) 46 (s + k) = sb_b (b (s + k)) from hb.2) ?_
        refine aw_bipush (v := nI 97) dX10_wordHere_40 (by decide) ?_
        refine aw_icmp_lt (tgt := 77) dX10_wordHere_42 (by decide) (fun h2 => ?_) (fun h2 => ?_)
        · exact stop (decide_eq_false (fun z => ((sb_a _ hb.1).mp h2) ⟨z.1, by omega⟩))
        · have h2' : 97 ≤ b (s + k) ∧ b (s + k) < 128 := by
            by_cases q : 97 ≤ b (s + k) ∧ b (s + k) < 128
            · exact q
            · exact absurd ((sb_a _ hb.1).mpr q) h2
          refine aw_aload_n dX10_wordHere_45 rfl rfl (by first | exact isR_ref _ | exact isR_rf _ | exact isR_null) ?_
          refine aw_get dX10_wordHere_46 fl_X10_87 (sM_kd hM) (sM_n hM) (sM_r_tape hM _ _) ?_
          refine aw_aload_n dX10_wordHere_49 rfl rfl (by first | exact isR_ref _ | exact isR_rf _ | exact isR_null) ?_
          refine aw_get dX10_wordHere_50 fl_X10_116 (sM_kd hM) (sM_n hM) (show _ = Value.int (nI s) from rfl) ?_
          refine aw_aload_n dX10_wordHere_53 rfl rfl (by first | exact isR_ref _ | exact isR_rf _ | exact isR_null) ?_
          refine aw_get dX10_wordHere_54 fl_X10_123 (sM_kd hM) (sM_n hM) (show _ = Value.int (nI k) from rfl) ?_
          first | refine aw_iaddN dX10_wordHere_57 ?_ | refine aw_iadd dX10_wordHere_57 ?_
          refine aw_bald dX10_wordHere_58 (sM_k_tape hM) (sM_l_tape hM) (ixm (by omega)) ?_
          refine aw_top (show pS I (nI s, nI k, ft, sd, ts, rf, rd) 46 (s + k) = sb_b (b (s + k)) from hb.2) ?_
          refine aw_bipush (v := nI 122) dX10_wordHere_59 (by decide) ?_
          refine aw_icmp_gt (tgt := 77) dX10_wordHere_61 (by decide) (fun h3 => ?_) (fun h3 => ?_)
          · have := (sb_z _ hb.1).mp h3
            exact stop (decide_eq_false (fun z => by omega))
          · have h3' : ¬ (122 < b (s + k) ∧ b (s + k) < 128) := fun z => h3 ((sb_z _ hb.1).mpr z)
            have hq : isLt b (s + k) = true := decide_eq_true ⟨h2'.1, by omega⟩
            refine aw_aload_n dX10_wordHere_64 rfl rfl (by first | exact isR_ref _ | exact isR_rf _ | exact isR_null) ?_
            refine aw_dup dX10_wordHere_65 rfl ?_
            refine aw_get dX10_wordHere_66 fl_X10_123 (sM_kd hM) (sM_n hM) (show _ = Value.int (nI k) from rfl) ?_
            refine aw_iconst (v := nI 1) dX10_wordHere_69 (by decide) ?_
            first | refine aw_iaddN dX10_wordHere_70 ?_ | refine aw_iadd dX10_wordHere_70 ?_
            refine aw_putI dX10_wordHere_71 fl_X10_123 (Or.inl rfl) rfl (sM_kd hM) (sM_n hM) ?_
            rw [pS_ws]
            refine aw_goto (tgt := 10) dX10_wordHere_74 (by decide) ?_
            exact ih (k + 1) (by omega) (by rw [← Nat.add_assoc, ← run_yes (by omega) hq]; exact hr)
  exact letters (P - s) 0 (by omega) hee
end MOD15
