section MOD12
variable {G : GG} {n sz : Nat} {kd : Nat → AKd} {I : Nat → Nat → Int32} {R : Nat → Nat → Option Nat} {J : Nat → Nat → Int64}
theorem m_learn (hM : ShM G n kd R) (hB : MB I) : MS G mX10_learn [.ref (gz G + 22)] n sz kd I R J (some (.int (nI (mL (mLearn I))))) (mLearn I) := by
  refine mm_of rfl [(0, .ref (gz G + 22))] rfl (Nat.le_of_ble_eq_true rfl) ?_
  have hN : I 22 0 = nI (mN I) := hB.1.eq
  have hN1 : mN I ≤ 100 := hB.1.le
  have hL : I 22 16 = nI (mL I) := hB.2.1.eq
  have hL6 : mL I ≤ 6 := hB.2.1.le
  refine aw_I (mT_self I).symm ?_
  have goal : ∀ (row : Nat → Int32), AW G mX10_learn 0 [(0, .ref (gz G + 22))] [] (n, sz, kd, mT I row, R, J) (fun v' M' => v' = some (.int (nI (mL (mLearn I)))) ∧ ∃ row, M' = (n, sz, kd, mT (mLearn I) row, R, J)) := by
    intro row
    -- the last part: behind the loops
    have last : ∀ (Ib : Nat → Nat → Int32) (row : Nat → Int32) (x : Int32), mLrnB I = Ib → MB Ib → AW G mX10_learn 199 [(0, .ref (gz G + 22)), (1, .int (nI (mL I))), (2, .int x)] [] (n, sz, kd, mT Ib row, R, J) (fun v' M' => v' = some (.int (nI (mL (mLearn I)))) ∧ ∃ row, M' = (n, sz, kd, mT (mLearn I) row, R, J)) := by
      intro Ib row x hIb hBb
      have hLb : Ib 22 16 = nI (mL Ib) := hBb.2.1.eq
      have hLb6 : mL Ib ≤ 6 := hBb.2.1.le
      have eres : mL (mLearn I) = mL Ib := by unfold mLearn; rw [hIb]; rfl
      refine aw_aload_n dX10_learn_199 rfl rfl (by first | exact isR_ref _ | exact isR_rf _ | exact isR_null) ?_
      refine aw_iconst (v := nI 0) dX10_learn_200 (by decide) ?_
      refine aw_putI dX10_learn_201 fl_X10_249 (Or.inl rfl) rfl (sM_kd hM) (sM_n hM) ?_
      refine aw_aload_n dX10_learn_204 rfl rfl (by first | exact isR_ref _ | exact isR_rf _ | exact isR_null) ?_
      refine aw_iconst (v := nI 0) dX10_learn_205 (by decide) ?_
      refine aw_putI dX10_learn_206 fl_X10_252 (Or.inl rfl) rfl (sM_kd hM) (sM_n hM) ?_
      refine aw_iconst (v := nI 0) dX10_learn_209 (by decide) ?_
      refine aw_istore_n (lv' := [(0, _), (1, _), (2, _), (3, _)]) dX10_learn_210 rfl (by decide) rfl ?_
      rw [mT_o _ _ _ _ _ (by decide), mT_o _ _ _ _ _ (by decide)]
      have l1 : ∀ d i, i + d = mL Ib → (AW G mX10_learn 253 [(0, .ref (gz G + 22)), (1, .int (nI (mL I))), (2, .int x), (3, .int (nI (mL Ib)))] [] (n, sz, kd, mT (u2 (u2 Ib 22 44 (nI (cnt (nwP Ib (mL I)) (mL Ib)))) 22 45 (nI 0)) row, R, J) (fun v' M' => v' = some (.int (nI (mL (mLearn I)))) ∧ ∃ row, M' = (n, sz, kd, mT (mLearn I) row, R, J))) → AW G mX10_learn 211 [(0, .ref (gz G + 22)), (1, .int (nI (mL I))), (2, .int x), (3, .int (nI i))] [] (n, sz, kd, mT (u2 (u2 Ib 22 44 (nI (cnt (nwP Ib (mL I)) i))) 22 45 (nI 0)) row, R, J) (fun v' M' => v' = some (.int (nI (mL (mLearn I)))) ∧ ∃ row, M' = (n, sz, kd, mT (mLearn I) row, R, J)) := by
        intro d
        induction d with
        | zero =>
          intro i hi K
          refine aw_iload_n dX10_learn_211 rfl rfl ?_
          refine aw_aload_n dX10_learn_212 rfl rfl (by first | exact isR_ref _ | exact isR_rf _ | exact isR_null) ?_
          refine aw_get dX10_learn_213 fl_X10_163 (sM_kd hM) (sM_n hM) (congrArg Value.int hLb) ?_
          refine aw_n_ge (tgt := 253) dX10_learn_216 (by decide) rfl rfl (by omega) (by omega) (fun h => ?_) (fun h => ?_)
          · have hi2 : i = mL Ib := by omega
            subst hi2
            exact K
          · exact absurd h (by omega)
        | succ d ih =>
          intro i hi K
          have ih' := ih (i + 1) (by omega) K
          have step : ∀ b, b = nwP Ib (mL I) i → AW G mX10_learn 243 [(0, .ref (gz G + 22)), (1, .int (nI (mL I))), (2, .int x), (3, .int (nI i))] [.int (nI (if b then 1 else 0)), .int (nI (cnt (nwP Ib (mL I)) i)), .ref (gz G + 22)] (n, sz, kd, mT (u2 (u2 Ib 22 44 (nI (cnt (nwP Ib (mL I)) i))) 22 45 (nI 0)) row, R, J) (fun v' M' => v' = some (.int (nI (mL (mLearn I)))) ∧ ∃ row, M' = (n, sz, kd, mT (mLearn I) row, R, J)) := by
            intro b hb
            first | refine aw_iaddN dX10_learn_243 ?_ | refine aw_iadd dX10_learn_243 ?_
            refine aw_putI dX10_learn_244 fl_X10_249 (Or.inl rfl) rfl (sM_kd hM) (sM_n hM) ?_
            rw [mT_o _ _ _ _ _ (by decide), u2_sw _ _ _ (Or.inr (by decide)), u2_u2]
            first | refine aw_iincN (c := 1) (lv' := [(0, _), (1, _), (2, _), (3, _)]) dX10_learn_247 rfl (by decide) rfl rfl ?_ | refine aw_iinc (v := 1) (lv' := [(0, _), (1, _), (2, _), (3, _)]) dX10_learn_247 rfl (by decide) (by decide) rfl ?_
            refine aw_goto (tgt := 211) dX10_learn_250 (by decide) ?_
            rw [show cnt (nwP Ib (mL I)) (i + 1) = cnt (nwP Ib (mL I)) i + (if b then 1 else 0) by rw [cnt, hb]] at ih'
            exact ih'
          refine aw_iload_n dX10_learn_211 rfl rfl ?_
          refine aw_aload_n dX10_learn_212 rfl rfl (by first | exact isR_ref _ | exact isR_rf _ | exact isR_null) ?_
          refine aw_get dX10_learn_213 fl_X10_163 (sM_kd hM) (sM_n hM) (congrArg Value.int hLb) ?_
          refine aw_n_ge (tgt := 253) dX10_learn_216 (by decide) rfl rfl (by omega) (by omega) (fun h => ?_) (fun h => ?_)
          · exact absurd h (by omega)
          · refine aw_aload_n dX10_learn_219 rfl rfl (by first | exact isR_ref _ | exact isR_rf _ | exact isR_null) ?_
            refine aw_dup dX10_learn_220 rfl ?_
            refine aw_get dX10_learn_221 fl_X10_249 (sM_kd hM) (sM_n hM) rfl ?_
            refine aw_top (show mT (u2 (u2 Ib 22 44 (nI (cnt (nwP Ib (mL I)) i))) 22 45 (nI 0)) row 22 44 = nI (cnt (nwP Ib (mL I)) i) from rfl) ?_
            refine aw_aload_n dX10_learn_224 rfl rfl (by first | exact isR_ref _ | exact isR_rf _ | exact isR_null) ?_
            refine aw_aload_n dX10_learn_225 rfl rfl (by first | exact isR_ref _ | exact isR_rf _ | exact isR_null) ?_
            refine aw_get dX10_learn_226 fl_X10_53 (sM_kd hM) (sM_n hM) (sM_r_learntName hM _ _) ?_
            refine aw_iload_n dX10_learn_229 rfl rfl ?_
            refine aw_iald dX10_learn_230 (sM_k_learntName hM) (sM_l_learntName hM) (ixm (by omega)) ?_
            refine aw_iload_n dX10_learn_231 rfl rfl ?_
            refine aw_cVx (as := [_, _]) dX10_learn_232 lk_X10_255 cm_X10_isAmong vi_X10_isAmong (by unfold RO; decide) rfl (sM_kd hM) (sM_n hM) rfl rfl rfl (Nat.le_of_ble_eq_true rfl) (m_isAmong (I := mT (u2 (u2 Ib 22 44 (nI (cnt (nwP Ib (mL I)) i))) 22 45 (nI 0)) row) hM _ hL6) ?_
            refine aw_top (show bi (mAmong (mT (u2 (u2 Ib 22 44 (nI (cnt (nwP Ib (mL I)) i))) 22 45 (nI 0)) row) (Ib 37 i) (mL I)) = bi (mAmong Ib (Ib 37 i) (mL I)) from rfl) ?_
            refine aw_b_eq (tgt := 242) dX10_learn_235 (by decide) rfl (fun h2 => ?_) (fun h2 => ?_)
            · refine aw_iconst (v := nI 1) dX10_learn_242 (by decide) ?_
              exact step true (by simp [nwP, h2])
            · refine aw_iconst (v := nI 0) dX10_learn_238 (by decide) ?_
              refine aw_goto (tgt := 243) dX10_learn_239 (by decide) ?_
              exact step false (by simp [nwP, h2])
      refine l1 (mL Ib) 0 (by omega) ?_
      refine aw_iconst (v := nI 0) dX10_learn_253 (by decide) ?_
      refine aw_istore_n (lv' := [(0, _), (1, _), (2, _), (3, _)]) dX10_learn_254 rfl (by decide) rfl ?_
      have l2 : ∀ d i, i + d = mL I → AW G mX10_learn 255 [(0, .ref (gz G + 22)), (1, .int (nI (mL I))), (2, .int x), (3, .int (nI i))] [] (n, sz, kd, mT (u2 (u2 Ib 22 44 (nI (cnt (nwP Ib (mL I)) (mL Ib)))) 22 45 (nI (cnt (gnP Ib) i))) row, R, J) (fun v' M' => v' = some (.int (nI (mL (mLearn I)))) ∧ ∃ row, M' = (n, sz, kd, mT (mLearn I) row, R, J)) := by
        intro d
        induction d with
        | zero =>
          intro i hi
          refine aw_iload_n dX10_learn_255 rfl rfl ?_
          refine aw_iload_n dX10_learn_256 rfl rfl ?_
          refine aw_n_ge (tgt := 293) dX10_learn_257 (by decide) rfl rfl (by omega) (by omega) (fun h => ?_) (fun h => ?_)
          · have hi2 : i = mL I := by omega
            subst hi2
            refine aw_aload_n dX10_learn_293 rfl rfl (by first | exact isR_ref _ | exact isR_rf _ | exact isR_null) ?_
            refine aw_iconst (v := nI 1) dX10_learn_294 (by decide) ?_
            refine aw_putZ (b := true) dX10_learn_295 fl_X10_261 (Or.inl rfl) rfl (sM_kd hM) (sM_n hM) ?_
            refine aw_aload_n dX10_learn_298 rfl rfl (by first | exact isR_ref _ | exact isR_rf _ | exact isR_null) ?_
            refine aw_get dX10_learn_299 fl_X10_163 (sM_kd hM) (sM_n hM) (congrArg Value.int hLb) ?_
            refine aw_iret dX10_learn_302 rfl rfl ?_
            refine ⟨by rw [eres], row, ?_⟩
            rw [mT_o _ _ _ _ _ (by decide)]
            unfold mLearn
            rw [hIb]
          · exact absurd h (by omega)
        | succ d ih =>
          intro i hi
          have ih' := ih (i + 1) (by omega)
          have step : ∀ b, b = gnP Ib i → AW G mX10_learn 283 [(0, .ref (gz G + 22)), (1, .int (nI (mL I))), (2, .int x), (3, .int (nI i))] [.int (nI (if b then 1 else 0)), .int (nI (cnt (gnP Ib) i)), .ref (gz G + 22)] (n, sz, kd, mT (u2 (u2 Ib 22 44 (nI (cnt (nwP Ib (mL I)) (mL Ib)))) 22 45 (nI (cnt (gnP Ib) i))) row, R, J) (fun v' M' => v' = some (.int (nI (mL (mLearn I)))) ∧ ∃ row, M' = (n, sz, kd, mT (mLearn I) row, R, J)) := by
            intro b hb
            first | refine aw_iaddN dX10_learn_283 ?_ | refine aw_iadd dX10_learn_283 ?_
            refine aw_putI dX10_learn_284 fl_X10_252 (Or.inl rfl) rfl (sM_kd hM) (sM_n hM) ?_
            rw [mT_o _ _ _ _ _ (by decide), u2_u2]
            first | refine aw_iincN (c := 1) (lv' := [(0, _), (1, _), (2, _), (3, _)]) dX10_learn_287 rfl (by decide) rfl rfl ?_ | refine aw_iinc (v := 1) (lv' := [(0, _), (1, _), (2, _), (3, _)]) dX10_learn_287 rfl (by decide) (by decide) rfl ?_
            refine aw_goto (tgt := 255) dX10_learn_290 (by decide) ?_
            rw [show cnt (gnP Ib) (i + 1) = cnt (gnP Ib) i + (if b then 1 else 0) by rw [cnt, hb]] at ih'
            exact ih'
          refine aw_iload_n dX10_learn_255 rfl rfl ?_
          refine aw_iload_n dX10_learn_256 rfl rfl ?_
          refine aw_n_ge (tgt := 293) dX10_learn_257 (by decide) rfl rfl (by omega) (by omega) (fun h => ?_) (fun h => ?_)
          · exact absurd h (by omega)
          · refine aw_aload_n dX10_learn_260 rfl rfl (by first | exact isR_ref _ | exact isR_rf _ | exact isR_null) ?_
            refine aw_dup dX10_learn_261 rfl ?_
            refine aw_get dX10_learn_262 fl_X10_252 (sM_kd hM) (sM_n hM) rfl ?_
            refine aw_top (show mT (u2 (u2 Ib 22 44 (nI (cnt (nwP Ib (mL I)) (mL Ib)))) 22 45 (nI (cnt (gnP Ib) i))) row 22 45 = nI (cnt (gnP Ib) i) from rfl) ?_
            refine aw_aload_n dX10_learn_265 rfl rfl (by first | exact isR_ref _ | exact isR_rf _ | exact isR_null) ?_
            refine aw_aload_n dX10_learn_266 rfl rfl (by first | exact isR_ref _ | exact isR_rf _ | exact isR_null) ?_
            refine aw_get dX10_learn_267 fl_X10_103 (sM_kd hM) (sM_n hM) (sM_r_were hM _ _) ?_
            refine aw_iload_n dX10_learn_270 rfl rfl ?_
            refine aw_iald dX10_learn_271 (sM_k_were hM) (sM_l_were hM) (ixm (by omega)) ?_
            refine aw_cVx (as := [_]) dX10_learn_272 lk_X10_258 cm_X10_isLearnt vi_X10_isLearnt (by unfold RO; decide) rfl (sM_kd hM) (sM_n hM) rfl rfl rfl (Nat.le_of_ble_eq_true rfl) (m_isLearnt (I := mT (u2 (u2 Ib 22 44 (nI (cnt (nwP Ib (mL I)) (mL Ib)))) 22 45 (nI (cnt (gnP Ib) i))) row) hM hBb _) ?_
            refine aw_top (show bi (mIsLearnt (mT (u2 (u2 Ib 22 44 (nI (cnt (nwP Ib (mL I)) (mL Ib)))) 22 45 (nI (cnt (gnP Ib) i))) row) (Ib 51 i)) = bi (mIsLearnt Ib (Ib 51 i)) from rfl) ?_
            refine aw_b_eq (tgt := 282) dX10_learn_275 (by decide) rfl (fun h2 => ?_) (fun h2 => ?_)
            · refine aw_iconst (v := nI 1) dX10_learn_282 (by decide) ?_
              exact step true (by simp [gnP, h2])
            · refine aw_iconst (v := nI 0) dX10_learn_278 (by decide) ?_
              refine aw_goto (tgt := 283) dX10_learn_279 (by decide) ?_
              exact step false (by simp [gnP, h2])
      exact l2 (mL I) 0 (by omega)
    -- the loop that learns
    have main : ∀ d (Ib : Nat → Nat → Int32) (row : Nat → Int32), mL Ib + d = 6 → MB Ib → okOpen Ib → mLrnB I = mLoop d Ib → AW G mX10_learn 142 [(0, .ref (gz G + 22)), (1, .int (nI (mL I))), (2, .int (nI 1))] [] (n, sz, kd, mT Ib row, R, J) (fun v' M' => v' = some (.int (nI (mL (mLearn I)))) ∧ ∃ row, M' = (n, sz, kd, mT (mLearn I) row, R, J)) := by
      intro d
      induction d with
      | zero =>
        intro Ib row hd hBb hOb hIb
        have hLb : Ib 22 16 = nI (mL Ib) := hBb.2.1.eq
        have hLb6 : mL Ib ≤ 6 := hBb.2.1.le
        refine aw_iload_n dX10_learn_142 rfl rfl ?_
        refine aw_z_eq (tgt := 199) dX10_learn_143 (by decide) rfl (by omega) (fun h => ?_) (fun h => ?_)
        · exact absurd h (by decide)
        · refine aw_aload_n dX10_learn_146 rfl rfl (by first | exact isR_ref _ | exact isR_rf _ | exact isR_null) ?_
          refine aw_get dX10_learn_147 fl_X10_163 (sM_kd hM) (sM_n hM) (congrArg Value.int hLb) ?_
          refine aw_bipush (v := nI 6) dX10_learn_150 (by decide) ?_
          refine aw_n_ge (tgt := 199) dX10_learn_152 (by decide) rfl rfl (by omega) (by omega) (fun h2 => ?_) (fun h2 => ?_)
          · exact last Ib row _ hIb hBb
          · exact absurd h2 (by omega)
      | succ d ih =>
        intro Ib row hd hBb hOb hIb
        have hLb : Ib 22 16 = nI (mL Ib) := hBb.2.1.eq
        have hLb6 : mL Ib ≤ 6 := hBb.2.1.le
        refine aw_iload_n dX10_learn_142 rfl rfl ?_
        refine aw_z_eq (tgt := 199) dX10_learn_143 (by decide) rfl (by omega) (fun h => ?_) (fun h => ?_)
        · exact absurd h (by decide)
        · refine aw_aload_n dX10_learn_146 rfl rfl (by first | exact isR_ref _ | exact isR_rf _ | exact isR_null) ?_
          refine aw_get dX10_learn_147 fl_X10_163 (sM_kd hM) (sM_n hM) (congrArg Value.int hLb) ?_
          refine aw_bipush (v := nI 6) dX10_learn_150 (by decide) ?_
          refine aw_n_ge (tgt := 199) dX10_learn_152 (by decide) rfl rfl (by omega) (by omega) (fun h2 => ?_) (fun h2 => ?_)
          · exact absurd h2 (by omega)
          · refine aw_aload_n dX10_learn_155 rfl rfl (by first | exact isR_ref _ | exact isR_rf _ | exact isR_null) ?_
            refine aw_callV (as := []) dX10_learn_156 lk_X10_243 cm_X10_looks vi_X10_looks (by unfold RO; decide) rfl (sM_kd hM) (sM_n hM) rfl rfl rfl (Nat.le_of_ble_eq_true rfl) (m_looks hM hBb hOb row) ?_
            rintro _ _ ⟨rfl, row', rfl⟩
            show AW G mX10_learn (156 + 3) [(0, .ref (gz G + 22)), (1, .int (nI (mL I))), (2, .int (nI 1))] [] _ _
            refine aw_aload_n dX10_learn_159 rfl rfl (by first | exact isR_ref _ | exact isR_rf _ | exact isR_null) ?_
            refine aw_get dX10_learn_160 fl_X10_208 (sM_kd hM) (sM_n hM) rfl ?_
            refine aw_top (show mT (wB Ib (mLooks Ib)) row' 22 49 = (mLooks Ib).1 from rfl) ?_
            by_cases hg : 0 < (mLooks Ib).1
            · rw [show mLoop (d + 1) Ib = mLoop d (mStep Ib (mLooks Ib)) from if_pos hg] at hIb
              obtain ⟨s1, s2, s3, s4⟩ := mStep_ok hBb hOb (by omega) hg
              obtain ⟨a, o, f, ha, ho, hf, e1, e2, e3⟩ := okT_looks (I := Ib) hg
              have t1 : tn (mLooks Ib).2.1 = a := by rw [e1]; exact tn_nI (by omega)
              have t2 : pickO (mLooks Ib).2.2.1 = o := by rw [e2]; exact pickO_oI (fun b hb => by have := ho b hb; omega)
              have t3 : tn (mLooks Ib).2.2.2 = f := by rw [e3]; exact tn_nI (by omega)
              refine aw_if_le (tgt := 170) dX10_learn_163 (by decide) (fun z => absurd hg (Int32.not_lt.mpr z)) (fun _ => ?_)
              refine aw_iconst (v := nI 1) dX10_learn_166 (by decide) ?_
              refine aw_goto (tgt := 171) dX10_learn_167 (by decide) ?_
              refine aw_istore_n (lv' := [(0, _), (1, _), (2, _)]) dX10_learn_171 rfl (by decide) rfl ?_
              refine aw_iload_n dX10_learn_172 rfl rfl ?_
              refine aw_z_ne (tgt := 179) dX10_learn_173 (by decide) rfl (by omega) (fun h4 => ?_) (fun h4 => ?_)
              · refine aw_aload_n dX10_learn_179 rfl rfl (by first | exact isR_ref _ | exact isR_rf _ | exact isR_null) ?_
                refine aw_callV (as := []) dX10_learn_180 lk_X10_246 cm_X10_adds vi_X10_adds (by unfold RO; decide) rfl (sM_kd hM) (sM_n hM) rfl rfl rfl (Nat.le_of_ble_eq_true rfl) (m_adds (I := wB Ib (mLooks Ib)) hM hBb (by show mL Ib < 6; omega) ha ho hf e1 e2 e3 row') ?_
                rintro _ _ ⟨rfl, row2, rfl⟩
                show AW G mX10_learn (180 + 3) [(0, .ref (gz G + 22)), (1, .int (nI (mL I))), (2, .int (nI 1))] [] _ _
                refine aw_aload_n dX10_learn_183 rfl rfl (by first | exact isR_ref _ | exact isR_rf _ | exact isR_null) ?_
                refine aw_dup dX10_learn_184 rfl ?_
                refine aw_get dX10_learn_185 fl_X10_240 (sM_kd hM) (sM_n hM) rfl ?_
                refine aw_aload_n dX10_learn_188 rfl rfl (by first | exact isR_ref _ | exact isR_rf _ | exact isR_null) ?_
                have eg : mAdds (wB Ib (mLooks Ib)) a o f 22 49 = (mLooks Ib).1 := by
                  show mAd7 (wB Ib (mLooks Ib)) a o f 22 49 = _
                  unfold mAd7
                  split <;> rfl
                refine aw_get dX10_learn_189 fl_X10_208 (sM_kd hM) (sM_n hM) (congrArg Value.int eg) ?_
                refine aw_isub dX10_learn_192 ?_
                refine aw_putI dX10_learn_193 fl_X10_240 (Or.inl rfl) rfl (sM_kd hM) (sM_n hM) ?_
                rw [mT_o _ _ _ _ _ (by decide)]
                refine aw_I (I' := mT (mStep Ib (mLooks Ib)) row2) (by unfold mStep; rw [t1, t2, t3]; rfl) ?_
                refine aw_goto (tgt := 142) dX10_learn_196 (by decide) ?_
                exact ih _ row2 (by omega) s1 s2 hIb
              · exact absurd h4 (by decide)
            · rw [show mLoop (d + 1) Ib = wB Ib (mLooks Ib) from if_neg hg] at hIb
              refine aw_if_le (tgt := 170) dX10_learn_163 (by decide) (fun _ => ?_) (fun z => absurd (Int32.not_lt.mp hg) z)
              refine aw_iconst (v := nI 0) dX10_learn_170 (by decide) ?_
              refine aw_istore_n (lv' := [(0, _), (1, _), (2, _)]) dX10_learn_171 rfl (by decide) rfl ?_
              refine aw_iload_n dX10_learn_172 rfl rfl ?_
              refine aw_z_ne (tgt := 179) dX10_learn_173 (by decide) rfl (by omega) (fun h4 => ?_) (fun h4 => ?_)
              · exact absurd rfl h4
              · refine aw_goto (tgt := 199) dX10_learn_176 (by decide) ?_
                exact last _ row' _ hIb hBb
    -- the letters that it goes by
    have letters : ∀ d i (row : Nat → Int32), i + d = mN I → AW G mX10_learn 47 [(0, .ref (gz G + 22)), (1, .int (nI (mL I))), (2, .int (nI i))] [] (n, sz, kd, mT (mI3 I i) row, R, J) (fun v' M' => v' = some (.int (nI (mL (mLearn I)))) ∧ ∃ row, M' = (n, sz, kd, mT (mLearn I) row, R, J)) := by
      intro d
      induction d with
      | zero =>
        intro i row hi
        have hi2 : i = mN I := by omega
        subst hi2
        refine aw_iload_n dX10_learn_47 rfl rfl ?_
        refine aw_aload_n dX10_learn_48 rfl rfl (by first | exact isR_ref _ | exact isR_rf _ | exact isR_null) ?_
        refine aw_get dX10_learn_49 fl_X10_182 (sM_kd hM) (sM_n hM) (congrArg Value.int hN) ?_
        refine aw_n_ge (tgt := 132) dX10_learn_52 (by decide) rfl rfl (by omega) (by omega) (fun h => ?_) (fun h => ?_)
        · refine aw_aload_n dX10_learn_132 rfl rfl (by first | exact isR_ref _ | exact isR_rf _ | exact isR_null) ?_
          refine aw_aload_n dX10_learn_133 rfl rfl (by first | exact isR_ref _ | exact isR_rf _ | exact isR_null) ?_
          refine aw_get dX10_learn_134 fl_X10_234 (sM_kd hM) (sM_n hM) rfl ?_
          refine aw_putI dX10_learn_137 fl_X10_240 (Or.inl rfl) rfl (sM_kd hM) (sM_n hM) ?_
          rw [mT_o _ _ _ _ _ (by decide)]
          refine aw_iconst (v := nI 1) dX10_learn_140 (by decide) ?_
          refine aw_istore_n (lv' := [(0, _), (1, _), (2, _)]) dX10_learn_141 rfl (by decide) rfl ?_
          refine main 6 _ row ?_ ?_ ?_ rfl
          · show tn (nI 0) + 6 = 6
            rw [tn_nI (by decide)]
          · exact mI3_B hB (mN I)
          · intro k hk ho
            have ho : opn I k = true := by rw [← bi_mOpen (I := mI2 I) (opn I) (mN I) k hk]; exact ho
            rw [opn, Bool.and_eq_true] at ho
            have h3 : ¬ I 31 k = -1 := by simpa using ho.1
            rcases hB.2.2.2.2.2.2.2 k (by have : mN I ≤ 100 := hN1; have hk2 : k < mN I := hk; omega) with q | q
            · exact absurd q h3
            · exact q
        · exact absurd h (by omega)
      | succ d ih =>
        intro i row hi
        have ih' := ih (i + 1) row (by omega)
        have hB3 := mI3_B hB i
        have rest : ∀ b, b = opn I i → AW G mX10_learn 83 [(0, .ref (gz G + 22)), (1, .int (nI (mL I))), (2, .int (nI i))] [.int (bi b), .int (nI i), .ref (gz G + 49)] (n, sz, kd, mT (mI3 I i) row, R, J) (fun v' M' => v' = some (.int (nI (mL (mLearn I)))) ∧ ∃ row, M' = (n, sz, kd, mT (mLearn I) row, R, J)) := by
          intro b hb
          subst hb
          refine aw_zast  dX10_learn_83 (sM_k_isOpen hM) (sM_l_isOpen hM) (ixm (by omega)) ?_
          rw [mT_o _ _ _ _ _ (by decide), mI3_o]
          refine aw_aload_n dX10_learn_84 rfl rfl (by first | exact isR_ref _ | exact isR_rf _ | exact isR_null) ?_
          refine aw_get dX10_learn_85 fl_X10_97 (sM_kd hM) (sM_n hM) (sM_r_isOpen hM _ _) ?_
          refine aw_iload_n dX10_learn_88 rfl rfl ?_
          refine aw_zald dX10_learn_89 (sM_k_isOpen hM) (sM_l_isOpen hM) (ixm (by omega)) ?_
          have eo : mT (u2 (u2 (fO (mI2 I) (opn I) (i + 1)) 22 43 (nI (cnt (opn I) i))) 22 42 (pcs I i)) row 49 i = bi (opn I i) := by
            show fO (mI2 I) (opn I) (i + 1) 49 i = _
            unfold fO
            rw [if_pos rfl, if_pos (Nat.lt_succ_self i)]
          refine aw_b_ne (tgt := 96) dX10_learn_90 (by decide) eo (fun h4 => ?_) (fun h4 => ?_)
          · have hbl : bN (I 31 i) 7 := by
              rw [opn, Bool.and_eq_true] at h4
              rcases hB.2.2.2.2.2.2.2 i (by omega) with q | q
              · simp [q] at h4
              · exact q
            have hb1 := hbl.eq
            have hb2 := hbl.le
            refine aw_aload_n dX10_learn_96 rfl rfl (by first | exact isR_ref _ | exact isR_rf _ | exact isR_null) ?_
            refine aw_dup dX10_learn_97 rfl ?_
            refine aw_get dX10_learn_98 fl_X10_231 (sM_kd hM) (sM_n hM) (show _ = Value.int (nI (cnt (opn I) i)) from rfl) ?_
            refine aw_iconst (v := nI 1) dX10_learn_101 (by decide) ?_
            first | refine aw_iaddN dX10_learn_102 ?_ | refine aw_iadd dX10_learn_102 ?_
            refine aw_putI dX10_learn_103 fl_X10_231 (Or.inl rfl) rfl (sM_kd hM) (sM_n hM) ?_
            rw [mT_o _ _ _ _ _ (by decide), u2_sw _ _ _ (Or.inr (by decide)), u2_u2]
            refine aw_aload_n dX10_learn_106 rfl rfl (by first | exact isR_ref _ | exact isR_rf _ | exact isR_null) ?_
            refine aw_dup dX10_learn_107 rfl ?_
            refine aw_get dX10_learn_108 fl_X10_234 (sM_kd hM) (sM_n hM) (show _ = Value.int (pcs I i) from rfl) ?_
            refine aw_aload_n dX10_learn_111 rfl rfl (by first | exact isR_ref _ | exact isR_rf _ | exact isR_null) ?_
            refine aw_iconst (v := nI 0) dX10_learn_112 (by decide) ?_
            refine aw_aload_n dX10_learn_113 rfl rfl (by first | exact isR_ref _ | exact isR_rf _ | exact isR_null) ?_
            refine aw_get dX10_learn_114 fl_X10_34 (sM_kd hM) (sM_n hM) (sM_r_belongs hM _ _) ?_
            refine aw_iload_n dX10_learn_117 rfl rfl ?_
            refine aw_iald dX10_learn_118 (sM_k_belongs hM) (sM_l_belongs hM) (ixm (by omega)) ?_
            refine aw_top (show mT (u2 (u2 (fO (mI2 I) (opn I) (i + 1)) 22 43 (nI (cnt (opn I) i + 1))) 22 42 (pcs I i)) row 31 i = nI (tn (I 31 i)) from hb1) ?_
            refine aw_cVx (as := [_, _]) dX10_learn_119 lk_X10_204 cm_X10_wrong vi_X10_wrong (by unfold RO; decide) rfl (sM_kd hM) (sM_n hM) rfl rfl rfl (Nat.le_of_ble_eq_true rfl) (m_wrong hM (f := 0) (by decide) (by omega)) ?_
            refine aw_iadd dX10_learn_122 ?_
            refine aw_putI dX10_learn_123 fl_X10_234 (Or.inl rfl) rfl (sM_kd hM) (sM_n hM) ?_
            rw [mT_o _ _ _ _ _ (by decide), u2_u2]
            first | refine aw_iincN (c := 1) (lv' := [(0, _), (1, _), (2, _)]) dX10_learn_126 rfl (by decide) rfl rfl ?_ | refine aw_iinc (v := 1) (lv' := [(0, _), (1, _), (2, _)]) dX10_learn_126 rfl (by decide) (by decide) rfl ?_
            refine aw_goto (tgt := 47) dX10_learn_129 (by decide) ?_
            rw [show mI3 I (i + 1) = u2 (u2 (fO (mI2 I) (opn I) (i + 1)) 22 43 (nI (cnt (opn I) i + 1))) 22 42 (pcs I i + mWrong I 0 (tn (I 31 i))) by unfold mI3; rw [cnt_yes h4, pcs, if_pos h4]] at ih'
            exact ih'
          · refine aw_goto (tgt := 126) dX10_learn_93 (by decide) ?_
            first | refine aw_iincN (c := 1) (lv' := [(0, _), (1, _), (2, _)]) dX10_learn_126 rfl (by decide) rfl rfl ?_ | refine aw_iinc (v := 1) (lv' := [(0, _), (1, _), (2, _)]) dX10_learn_126 rfl (by decide) (by decide) rfl ?_
            refine aw_goto (tgt := 47) dX10_learn_129 (by decide) ?_
            rw [show mI3 I (i + 1) = u2 (u2 (fO (mI2 I) (opn I) (i + 1)) 22 43 (nI (cnt (opn I) i))) 22 42 (pcs I i) by unfold mI3; rw [cnt_no h4, pcs, h4]; rfl] at ih'
            exact ih'
        refine aw_iload_n dX10_learn_47 rfl rfl ?_
        refine aw_aload_n dX10_learn_48 rfl rfl (by first | exact isR_ref _ | exact isR_rf _ | exact isR_null) ?_
        refine aw_get dX10_learn_49 fl_X10_182 (sM_kd hM) (sM_n hM) (congrArg Value.int hN) ?_
        refine aw_n_ge (tgt := 132) dX10_learn_52 (by decide) rfl rfl (by omega) (by omega) (fun h => ?_) (fun h => ?_)
        · exact absurd h (by omega)
        · refine aw_aload_n dX10_learn_55 rfl rfl (by first | exact isR_ref _ | exact isR_rf _ | exact isR_null) ?_
          refine aw_get dX10_learn_56 fl_X10_97 (sM_kd hM) (sM_n hM) (sM_r_isOpen hM _ _) ?_
          refine aw_iload_n dX10_learn_59 rfl rfl ?_
          refine aw_aload_n dX10_learn_60 rfl rfl (by first | exact isR_ref _ | exact isR_rf _ | exact isR_null) ?_
          refine aw_get dX10_learn_61 fl_X10_34 (sM_kd hM) (sM_n hM) (sM_r_belongs hM _ _) ?_
          refine aw_iload_n dX10_learn_64 rfl rfl ?_
          refine aw_iald dX10_learn_65 (sM_k_belongs hM) (sM_l_belongs hM) (ixm (by omega)) ?_
          refine aw_iconst (v := (-1)) dX10_learn_66 (by decide) ?_
          refine aw_icmp_eq (tgt := 82) dX10_learn_67 (by decide) (fun h2 => ?_) (fun h2 => ?_)
          · have h2' : I 31 i = -1 := h2
            refine aw_iconst (v := nI 0) dX10_learn_82 (by decide) ?_
            exact rest false (by simp [opn, h2'])
          · have h2' : ¬ I 31 i = -1 := h2
            refine aw_aload_n dX10_learn_70 rfl rfl (by first | exact isR_ref _ | exact isR_rf _ | exact isR_null) ?_
            refine aw_iload_n dX10_learn_71 rfl rfl ?_
            refine aw_cVx (as := [_]) dX10_learn_72 lk_X10_237 cm_X10_fitsHand vi_X10_fitsHand (by unfold RO; decide) rfl (sM_kd hM) (sM_n hM) rfl rfl rfl (Nat.le_of_ble_eq_true rfl) (m_fitsHand (I := mT (mI3 I i) row) hM hB3 (by omega)) ?_
            refine aw_top (show bi (mFitsHand (mT (mI3 I i) row) i) = bi (mFitsHand I i) from rfl) ?_
            refine aw_b_ne (tgt := 82) dX10_learn_75 (by decide) rfl (fun h3 => ?_) (fun h3 => ?_)
            · refine aw_iconst (v := nI 0) dX10_learn_82 (by decide) ?_
              exact rest false (by simp [opn, h3])
            · refine aw_iconst (v := nI 1) dX10_learn_78 (by decide) ?_
              refine aw_goto (tgt := 83) dX10_learn_79 (by decide) ?_
              exact rest true (by simp [opn, h2', h3])
    -- what was learnt ahead of it
    have wereL : ∀ d i (row : Nat → Int32), i + d = mL I → AW G mX10_learn 7 [(0, .ref (gz G + 22)), (1, .int (nI (mL I))), (2, .int (nI i))] [] (n, sz, kd, mT (wr I i) row, R, J) (fun v' M' => v' = some (.int (nI (mL (mLearn I)))) ∧ ∃ row, M' = (n, sz, kd, mT (mLearn I) row, R, J)) := by
      intro d
      induction d with
      | zero =>
        intro i row hi
        have hi2 : i = mL I := by omega
        subst hi2
        refine aw_iload_n dX10_learn_7 rfl rfl ?_
        refine aw_iload_n dX10_learn_8 rfl rfl ?_
        refine aw_n_ge (tgt := 30) dX10_learn_9 (by decide) rfl rfl (by omega) (by omega) (fun h => ?_) (fun h => ?_)
        · refine aw_aload_n dX10_learn_30 rfl rfl (by first | exact isR_ref _ | exact isR_rf _ | exact isR_null) ?_
          refine aw_iconst (v := nI 0) dX10_learn_31 (by decide) ?_
          refine aw_putI dX10_learn_32 fl_X10_163 (Or.inl rfl) rfl (sM_kd hM) (sM_n hM) ?_
          refine aw_aload_n dX10_learn_35 rfl rfl (by first | exact isR_ref _ | exact isR_rf _ | exact isR_null) ?_
          refine aw_iconst (v := nI 0) dX10_learn_36 (by decide) ?_
          refine aw_putI dX10_learn_37 fl_X10_231 (Or.inl rfl) rfl (sM_kd hM) (sM_n hM) ?_
          refine aw_aload_n dX10_learn_40 rfl rfl (by first | exact isR_ref _ | exact isR_rf _ | exact isR_null) ?_
          refine aw_iconst (v := nI 0) dX10_learn_41 (by decide) ?_
          refine aw_putI dX10_learn_42 fl_X10_234 (Or.inl rfl) rfl (sM_kd hM) (sM_n hM) ?_
          rw [mT_o _ _ _ _ _ (by decide), mT_o _ _ _ _ _ (by decide), mT_o _ _ _ _ _ (by decide)]
          refine aw_iconst (v := nI 0) dX10_learn_45 (by decide) ?_
          refine aw_istore_n (lv' := [(0, _), (1, _), (2, _)]) dX10_learn_46 rfl (by decide) rfl ?_
          have l0 := letters (mN I) 0 row (by omega)
          rw [mI3_0] at l0
          exact l0
        · exact absurd h (by omega)
      | succ d ih =>
        intro i row hi
        have ih' := ih (i + 1) row (by omega)
        refine aw_iload_n dX10_learn_7 rfl rfl ?_
        refine aw_iload_n dX10_learn_8 rfl rfl ?_
        refine aw_n_ge (tgt := 30) dX10_learn_9 (by decide) rfl rfl (by omega) (by omega) (fun h => ?_) (fun h => ?_)
        · exact absurd h (by omega)
        · refine aw_aload_n dX10_learn_12 rfl rfl (by first | exact isR_ref _ | exact isR_rf _ | exact isR_null) ?_
          refine aw_get dX10_learn_13 fl_X10_103 (sM_kd hM) (sM_n hM) (sM_r_were hM _ _) ?_
          refine aw_iload_n dX10_learn_16 rfl rfl ?_
          refine aw_aload_n dX10_learn_17 rfl rfl (by first | exact isR_ref _ | exact isR_rf _ | exact isR_null) ?_
          refine aw_get dX10_learn_18 fl_X10_53 (sM_kd hM) (sM_n hM) (sM_r_learntName hM _ _) ?_
          refine aw_iload_n dX10_learn_21 rfl rfl ?_
          refine aw_iald dX10_learn_22 (sM_k_learntName hM) (sM_l_learntName hM) (ixm (by omega)) ?_
          refine aw_iast dX10_learn_23 (sM_k_were hM) (sM_l_were hM) (ixm (by omega)) ?_
          rw [mT_o _ _ _ _ _ (by decide)]
          refine aw_I (I' := mT (wr I (i + 1)) row) (by rw [← wr_s]; rfl) ?_
          first | refine aw_iincN (c := 1) (lv' := [(0, _), (1, _), (2, _)]) dX10_learn_24 rfl (by decide) rfl rfl ?_ | refine aw_iinc (v := 1) (lv' := [(0, _), (1, _), (2, _)]) dX10_learn_24 rfl (by decide) (by decide) rfl ?_
          refine aw_goto (tgt := 7) dX10_learn_27 (by decide) ?_
          exact ih'
    refine aw_aload_n dX10_learn_0 rfl rfl (by first | exact isR_ref _ | exact isR_rf _ | exact isR_null) ?_
    refine aw_get dX10_learn_1 fl_X10_163 (sM_kd hM) (sM_n hM) (congrArg Value.int hL) ?_
    refine aw_istore_n (lv' := [(0, _), (1, _)]) dX10_learn_4 rfl (by decide) rfl ?_
    refine aw_iconst (v := nI 0) dX10_learn_5 (by decide) ?_
    refine aw_istore_n (lv' := [(0, _), (1, _), (2, _)]) dX10_learn_6 rfl (by decide) rfl ?_
    have w0 := wereL (mL I) 0 row (by omega)
    rw [wr_0] at w0
    exact w0
  exact goal _
end MOD12
