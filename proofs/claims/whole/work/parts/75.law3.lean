section LAW3
variable {G : GG} {n n' sz : Nat} {kd kd' : KD} {I I' Z Z' : II} {R R' : RR} {J J' : JJ} {em mi K cap hm : Nat} {u : Nat → Int32} {kn : Nat → Nat} {key : Nat → Key} {b L k : Nat} {xs : Nat → Int32} {Q : Option Value → Mem → Prop} {ad av : Nat → Nat} {fx : Option Nat}
theorem mLet_col {f l s w : Int32} {c : Nat} (hc : c ≠ 0) : mLet Z f l s w 22 c = Z 22 c := by
  show mLet5 Z f l s w 22 c = _
  rw [mLet5, u2_col _ _ _ hc]
  rfl
theorem mLet_row {f l s w : Int32} {q : Nat} (hq : q < 22 ∨ 52 ≤ q) : mLet Z f l s w q = Z q := by
  unfold mLet
  rw [u2_row _ _ _ (by omega), u2_row _ _ _ (by omega), u2_row _ _ _ (by omega), u2_row _ _ _ (by omega), u2_row _ _ _ (by omega), mLet5, u2_row _ _ _ (by omega), u2_row _ _ _ (by omega), u2_row _ _ _ (by omega), u2_row _ _ _ (by omega), u2_row _ _ _ (by omega)]
theorem cMove_row {P j l a : Nat} {f : Int32} (h1 : a ≠ l) (h2 : a ≠ 10) (h3 : a ≠ 11) (h4 : a ≠ 12) (h5 : a ≠ 13) : cMove I P j l f a = I a := by
  rw [cMove, u2_row _ _ _ h1, u2_row _ _ _ h1, cPush, u2_row _ _ _ h2, u2_row _ _ _ h5, u2_row _ _ _ h4, u2_row _ _ _ h3]
theorem mMove_row {j q : Nat} {f : Int32} (hq : q < 22 ∨ 52 ≤ q) : mMove Z j f q = Z q := by
  unfold mMove
  rw [u2_row _ _ _ (by omega), u2_row _ _ _ (by omega), u2_row _ _ _ (by omega), u2_row _ _ _ (by omega), u2_row _ _ _ (by omega), u2_row _ _ _ (by omega)]
theorem mMove_col {j c : Nat} {f : Int32} (hc : c ≠ 26) : mMove Z j f 22 c = Z 22 c := by
  show u2 (u2 (u2 (u2 Z 43 _ _) 44 _ _) 45 _ _) 22 26 _ 22 c = _
  rw [u2_col _ _ _ hc]
  rfl
theorem mUndo_row {q : Nat} (hq : q < 22 ∨ 52 ≤ q) : mUndo Z q = Z q := by
  unfold mUndo
  rw [u2_row _ _ _ (by omega), u2_row _ _ _ (by omega), u2_row _ _ _ (by omega)]
theorem mUndo_col {c : Nat} (hc : c ≠ 26) : mUndo Z 22 c = Z 22 c := by
  show u2 Z 22 26 _ 22 c = _
  rw [u2_col _ _ _ hc]
theorem cpy_row {q l a : Nat} (h1 : a ≠ 37) (h2 : a ≠ 38) (h3 : a ≠ 39) (h4 : a ≠ 40) : cpy Z q l a = Z a := by
  rw [cpy, cp5, u2_row _ _ _ h4, cp4, u2_row _ _ _ h3, cp3, u2_row _ _ _ h3, cp2, u2_row _ _ _ h2, cp1, u2_row _ _ _ h1]
theorem mFS_row {f a : Nat} (h1 : a ≠ 37) (h2 : a ≠ 38) (h3 : a ≠ 39) (h4 : a ≠ 40) : ∀ i, (mFS Z f i).1 a = Z a
  | 0 => rfl
  | i + 1 => by
    have ih : (mFS Z f i).1 a = Z a := mFS_row h1 h2 h3 h4 i
    rw [mFS]
    split
    · exact ih
    · show cpy (mFS Z f i).1 i (mFS Z f i).2 a = _
      rw [cpy_row h1 h2 h3 h4, ih]
theorem pS_row {p : PSt} {q : Nat} (h1 : q ≠ 22) (h2 : q ≠ 47) : pS Z p q = Z q := by
  funext c
  unfold pS
  simp [h1, h2]
theorem pS_col {p : PSt} {c : Nat} (h : c ≠ 32 ∧ c ≠ 39 ∧ c ≠ 33 ∧ c ≠ 34 ∧ c ≠ 35 ∧ c ≠ 37) : pS Z p 22 c = Z 22 c := by
  unfold pS
  simp [h]
theorem lc_letter (hL : L ≤ 3072) (hX : XS G b L xs) (hkL : 6 * k + 6 ≤ L) (T : TL G em b k Q) (h : RC G em k n sz kd I R J I) : AW G mL_law 250 [(0, .ref b), (1, .ref (gz G + 0)), (2, .ref (gz G + 22)), (3, .int (nI (6 * k)))] [] (n, sz, kd, I, R, J) Q := by
  obtain ⟨u, K, cap, hm, kn, key, h0, hrs, r1, r2, r3, r4⟩ := id h
  have hC := h0.shC
  have hM := h0.shM
  have hB := h0.mb
  have hV := h0.hv
  have hLn := h0.ln.1
  have hK := h0.kv
  have hN := h0.le.1
  have hW := h0.lv
  have hb : K ≤ 4000 ∧ hm ≤ 4000 := by omega
  have hcap : cap ≤ 10 + 2 * K := h0.kw.1.2.2.1
  have hn52 := hC.1
  have hN1 : mN I ≤ 100 := hB.1.le
  refine aw_aload_n dL_law_250 rfl rfl (by first | exact isR_ref _ | exact isR_rf _ | exact isR_null) ?_
  refine aw_aload_n dL_law_251 rfl rfl (by first | exact isR_ref _ | exact isR_rf _ | exact isR_null) ?_
  refine aw_iload_n dL_law_252 rfl rfl ?_
  refine aw_iconst (v := nI 1) dL_law_253 (by decide) ?_
  first | refine aw_iaddN dL_law_254 ?_ | refine aw_iadd dL_law_254 ?_
  refine aw_ialdX dL_law_255 hX (ixm (by omega) (by omega)) ?_
  refine aw_aload_n dL_law_256 rfl rfl (by first | exact isR_ref _ | exact isR_rf _ | exact isR_null) ?_
  refine aw_iload_n dL_law_257 rfl rfl ?_
  refine aw_iconst (v := nI 2) dL_law_258 (by decide) ?_
  first | refine aw_iaddN dL_law_259 ?_ | refine aw_iadd dL_law_259 ?_
  refine aw_ialdX dL_law_260 hX (ixm (by omega) (by omega)) ?_
  refine aw_aload_n dL_law_261 rfl rfl (by first | exact isR_ref _ | exact isR_rf _ | exact isR_null) ?_
  refine aw_iload_n dL_law_262 rfl rfl ?_
  refine aw_iconst (v := nI 3) dL_law_263 (by decide) ?_
  first | refine aw_iaddN dL_law_264 ?_ | refine aw_iadd dL_law_264 ?_
  refine aw_ialdX dL_law_265 hX (ixm (by omega) (by omega)) ?_
  refine aw_aload_n dL_law_266 rfl rfl (by first | exact isR_ref _ | exact isR_rf _ | exact isR_null) ?_
  refine aw_iload_n dL_law_267 rfl rfl ?_
  refine aw_iconst (v := nI 4) dL_law_268 (by decide) ?_
  first | refine aw_iaddN dL_law_269 ?_ | refine aw_iadd dL_law_269 ?_
  refine aw_ialdX dL_law_270 hX (ixm (by omega) (by omega)) ?_
  refine aw_cVx (as := [_, _, _, _]) dL_law_271 lk_L_33 cm_X9_letter vi_X9_letter (by unfold RO; decide) rfl (sC_k0 hC) (sC_n0 hC) rfl rfl rfl (Nat.le_of_ble_eq_true rfl) (c_letter hC hV hLn hK hN hN1 (by omega) (by omega) _ _ _ _) ?_
  by_cases hok : okC (mN I) (xs (6 * k + 1)) (xs (6 * k + 2)) (xs (6 * k + 3)) (xs (6 * k + 4)) = true
  · rw [if_pos hok, if_pos hok]
    refine aw_mem (M' := (n + 1, sz + 6, lKd kd n, (u2 (u2 (u2 (lI I n (xs (6 * k + 3))) n 3 (cFo G (lI I n (xs (6 * k + 3))) (cLetO G n kd I R J (mL I) (xs (6 * k + 1)) (xs (6 * k + 2)) (xs (6 * k + 3)) (xs (6 * k + 4))))) n 4 (cFo G (lI I n (xs (6 * k + 3))) (cLetO G n kd I R J (mL I) (xs (6 * k + 1)) (xs (6 * k + 2)) (xs (6 * k + 3)) (xs (6 * k + 4))))) 8 1 (nI (mN I + 1))), (u2 (u2 (lR R n) n 2 (cLetO G n kd I R J (mL I) (xs (6 * k + 1)) (xs (6 * k + 2)) (xs (6 * k + 3)) (xs (6 * k + 4)))) 9 (mN I) (some (gz G + n))), (lJ J n (cMark (xs (6 * k + 1)) (xs (6 * k + 2)) (xs (6 * k + 4)))))) rfl ?_
    have hrow : ∀ q, q ≠ 8 → q ≠ n → (u2 (u2 (u2 (lI I n (xs (6 * k + 3))) n 3 (cFo G (lI I n (xs (6 * k + 3))) (cLetO G n kd I R J (mL I) (xs (6 * k + 1)) (xs (6 * k + 2)) (xs (6 * k + 3)) (xs (6 * k + 4))))) n 4 (cFo G (lI I n (xs (6 * k + 3))) (cLetO G n kd I R J (mL I) (xs (6 * k + 1)) (xs (6 * k + 2)) (xs (6 * k + 3)) (xs (6 * k + 4))))) 8 1 (nI (mN I + 1))) q = I q := fun q h1 h2 => by rw [u2_row _ _ _ h1, u2_row _ _ _ h2, u2_row _ _ _ h2, lI, u2_row _ _ _ h2, u2_row _ _ _ h2, vz_up_ne _ _ h2]
    have hz := h0.zc (Z' := (u2 (u2 (u2 (lI I n (xs (6 * k + 3))) n 3 (cFo G (lI I n (xs (6 * k + 3))) (cLetO G n kd I R J (mL I) (xs (6 * k + 1)) (xs (6 * k + 2)) (xs (6 * k + 3)) (xs (6 * k + 4))))) n 4 (cFo G (lI I n (xs (6 * k + 3))) (cLetO G n kd I R J (mL I) (xs (6 * k + 1)) (xs (6 * k + 2)) (xs (6 * k + 3)) (xs (6 * k + 4))))) 8 1 (nI (mN I + 1)))) (fun q h1 h2 => hrow q (by omega) (by omega))
    have eN : mN (u2 (u2 (u2 (lI I n (xs (6 * k + 3))) n 3 (cFo G (lI I n (xs (6 * k + 3))) (cLetO G n kd I R J (mL I) (xs (6 * k + 1)) (xs (6 * k + 2)) (xs (6 * k + 3)) (xs (6 * k + 4))))) n 4 (cFo G (lI I n (xs (6 * k + 3))) (cLetO G n kd I R J (mL I) (xs (6 * k + 1)) (xs (6 * k + 2)) (xs (6 * k + 3)) (xs (6 * k + 4))))) 8 1 (nI (mN I + 1))) = mN I := congrArg tn (congrFun (hrow 22 (by decide) (by omega)) 0)
    have eL : mL (u2 (u2 (u2 (lI I n (xs (6 * k + 3))) n 3 (cFo G (lI I n (xs (6 * k + 3))) (cLetO G n kd I R J (mL I) (xs (6 * k + 1)) (xs (6 * k + 2)) (xs (6 * k + 3)) (xs (6 * k + 4))))) n 4 (cFo G (lI I n (xs (6 * k + 3))) (cLetO G n kd I R J (mL I) (xs (6 * k + 1)) (xs (6 * k + 2)) (xs (6 * k + 3)) (xs (6 * k + 4))))) 8 1 (nI (mN I + 1))) = mL I := congrArg tn (congrFun (hrow 22 (by decide) (by omega)) 16)
    have hok1 : okLet (u2 (u2 (u2 (lI I n (xs (6 * k + 3))) n 3 (cFo G (lI I n (xs (6 * k + 3))) (cLetO G n kd I R J (mL I) (xs (6 * k + 1)) (xs (6 * k + 2)) (xs (6 * k + 3)) (xs (6 * k + 4))))) n 4 (cFo G (lI I n (xs (6 * k + 3))) (cLetO G n kd I R J (mL I) (xs (6 * k + 1)) (xs (6 * k + 2)) (xs (6 * k + 3)) (xs (6 * k + 4))))) 8 1 (nI (mN I + 1))) (xs (6 * k + 1)) (xs (6 * k + 2)) (xs (6 * k + 3)) (xs (6 * k + 4)) = true := by unfold okLet; rw [eN]; exact hok
    have c1 := core_letter hz hok1 (cLetO G n kd I R J (mL I) (xs (6 * k + 1)) (xs (6 * k + 2)) (xs (6 * k + 3)) (xs (6 * k + 4))) (by rw [eL])
    rw [eN] at c1
    have hB := hz.mb
    have hM := c1.shM
    generalize (u2 (u2 (u2 (lI I n (xs (6 * k + 3))) n 3 (cFo G (lI I n (xs (6 * k + 3))) (cLetO G n kd I R J (mL I) (xs (6 * k + 1)) (xs (6 * k + 2)) (xs (6 * k + 3)) (xs (6 * k + 4))))) n 4 (cFo G (lI I n (xs (6 * k + 3))) (cLetO G n kd I R J (mL I) (xs (6 * k + 1)) (xs (6 * k + 2)) (xs (6 * k + 3)) (xs (6 * k + 4))))) 8 1 (nI (mN I + 1))) = I1 at hrow hz eN eL hok1 c1 hB ⊢
    refine aw_aload_n dL_law_274 rfl rfl (by first | exact isR_ref _ | exact isR_rf _ | exact isR_null) ?_
    refine aw_aload_n dL_law_275 rfl rfl (by first | exact isR_ref _ | exact isR_rf _ | exact isR_null) ?_
    refine aw_iload_n dL_law_276 rfl rfl ?_
    refine aw_iconst (v := nI 1) dL_law_277 (by decide) ?_
    first | refine aw_iaddN dL_law_278 ?_ | refine aw_iadd dL_law_278 ?_
    refine aw_ialdX dL_law_279 hX (ixm (by omega) (by omega)) ?_
    refine aw_aload_n dL_law_280 rfl rfl (by first | exact isR_ref _ | exact isR_rf _ | exact isR_null) ?_
    refine aw_iload_n dL_law_281 rfl rfl ?_
    refine aw_iconst (v := nI 2) dL_law_282 (by decide) ?_
    first | refine aw_iaddN dL_law_283 ?_ | refine aw_iadd dL_law_283 ?_
    refine aw_ialdX dL_law_284 hX (ixm (by omega) (by omega)) ?_
    refine aw_aload_n dL_law_285 rfl rfl (by first | exact isR_ref _ | exact isR_rf _ | exact isR_null) ?_
    refine aw_iload_n dL_law_286 rfl rfl ?_
    refine aw_iconst (v := nI 3) dL_law_287 (by decide) ?_
    first | refine aw_iaddN dL_law_288 ?_ | refine aw_iadd dL_law_288 ?_
    refine aw_ialdX dL_law_289 hX (ixm (by omega) (by omega)) ?_
    refine aw_aload_n dL_law_290 rfl rfl (by first | exact isR_ref _ | exact isR_rf _ | exact isR_null) ?_
    refine aw_iload_n dL_law_291 rfl rfl ?_
    refine aw_iconst (v := nI 4) dL_law_292 (by decide) ?_
    first | refine aw_iaddN dL_law_293 ?_ | refine aw_iadd dL_law_293 ?_
    refine aw_ialdX dL_law_294 hX (ixm (by omega) (by omega)) ?_
    refine aw_cVx (as := [_, _, _, _]) dL_law_295 lk_L_37 cm_X10_letter vi_X10_letter (by unfold RO; decide) rfl (sM_kd hM) (sM_n hM) rfl rfl rfl (Nat.le_of_ble_eq_true rfl) (m_letter hM hB _ _ _ _) ?_
    rw [if_pos hok1, if_pos hok1, eN]
    refine aw_icmp_eq (tgt := 678) dL_law_298 (by decide) (fun hne => ?_) (fun hne => ?_)
    · exact T _ _ _ _ _ _ (RC.fin c1 (hrs.tr (hrow 16 (by decide) (by omega)) (fun c h1 h2 => by rw [mLet_col (by omega), hrow 22 (by decide) (by omega)])) (fun q hq => mLet_row hq) (by omega) (by omega) (by omega) (by omega))
    · exact absurd rfl hne
  · rw [if_neg hok, if_neg hok]
    refine aw_aload_n dL_law_274 rfl rfl (by first | exact isR_ref _ | exact isR_rf _ | exact isR_null) ?_
    refine aw_aload_n dL_law_275 rfl rfl (by first | exact isR_ref _ | exact isR_rf _ | exact isR_null) ?_
    refine aw_iload_n dL_law_276 rfl rfl ?_
    refine aw_iconst (v := nI 1) dL_law_277 (by decide) ?_
    first | refine aw_iaddN dL_law_278 ?_ | refine aw_iadd dL_law_278 ?_
    refine aw_ialdX dL_law_279 hX (ixm (by omega) (by omega)) ?_
    refine aw_aload_n dL_law_280 rfl rfl (by first | exact isR_ref _ | exact isR_rf _ | exact isR_null) ?_
    refine aw_iload_n dL_law_281 rfl rfl ?_
    refine aw_iconst (v := nI 2) dL_law_282 (by decide) ?_
    first | refine aw_iaddN dL_law_283 ?_ | refine aw_iadd dL_law_283 ?_
    refine aw_ialdX dL_law_284 hX (ixm (by omega) (by omega)) ?_
    refine aw_aload_n dL_law_285 rfl rfl (by first | exact isR_ref _ | exact isR_rf _ | exact isR_null) ?_
    refine aw_iload_n dL_law_286 rfl rfl ?_
    refine aw_iconst (v := nI 3) dL_law_287 (by decide) ?_
    first | refine aw_iaddN dL_law_288 ?_ | refine aw_iadd dL_law_288 ?_
    refine aw_ialdX dL_law_289 hX (ixm (by omega) (by omega)) ?_
    refine aw_aload_n dL_law_290 rfl rfl (by first | exact isR_ref _ | exact isR_rf _ | exact isR_null) ?_
    refine aw_iload_n dL_law_291 rfl rfl ?_
    refine aw_iconst (v := nI 4) dL_law_292 (by decide) ?_
    first | refine aw_iaddN dL_law_293 ?_ | refine aw_iadd dL_law_293 ?_
    refine aw_ialdX dL_law_294 hX (ixm (by omega) (by omega)) ?_
    refine aw_cVx (as := [_, _, _, _]) dL_law_295 lk_L_37 cm_X10_letter vi_X10_letter (by unfold RO; decide) rfl (sM_kd hM) (sM_n hM) rfl rfl rfl (Nat.le_of_ble_eq_true rfl) (m_letter hM hB _ _ _ _) ?_
    have hok2 : ¬ okLet I (xs (6 * k + 1)) (xs (6 * k + 2)) (xs (6 * k + 3)) (xs (6 * k + 4)) = true := hok
    rw [if_neg hok2, if_neg hok2]
    refine aw_icmp_eq (tgt := 678) dL_law_298 (by decide) (fun hne => ?_) (fun hne => ?_)
    · exact T n sz kd I R J h.next
    · exact absurd rfl hne
theorem lc_move (hL : L ≤ 3072) (hX : XS G b L xs) (hkL : 6 * k + 6 ≤ L) (T : TL G em b k Q) (h : RC G em k n sz kd I R J I) : AW G mL_law 303 [(0, .ref b), (1, .ref (gz G + 0)), (2, .ref (gz G + 22)), (3, .int (nI (6 * k)))] [] (n, sz, kd, I, R, J) Q := by
  obtain ⟨u, K, cap, hm, kn, key, h0, hrs, r1, r2, r3, r4⟩ := id h
  have hC := h0.shC
  have hM := h0.shM
  have hB := h0.mb
  have hV := h0.hv
  have hLn := h0.ln.1
  have hK := h0.kv
  have hN := h0.le.1
  have hW := h0.lv
  have hb : K ≤ 4000 ∧ hm ≤ 4000 := by omega
  have hcap : cap ≤ 10 + 2 * K := h0.kw.1.2.2.1
  have hn52 := hC.1
  have hN1 : mN I ≤ 100 := hB.1.le
  have hP : I 10 3 = nI (tn (I 22 26)) := h0.mv.1.trans hB.2.2.2.2.2.1.eq
  have hP1 : (tn (I 22 26)) ≤ 200 := hB.2.2.2.2.2.1.le
  refine aw_aload_n dL_law_303 rfl rfl (by first | exact isR_ref _ | exact isR_rf _ | exact isR_null) ?_
  refine aw_aload_n dL_law_304 rfl rfl (by first | exact isR_ref _ | exact isR_rf _ | exact isR_null) ?_
  refine aw_iload_n dL_law_305 rfl rfl ?_
  refine aw_iconst (v := nI 1) dL_law_306 (by decide) ?_
  first | refine aw_iaddN dL_law_307 ?_ | refine aw_iadd dL_law_307 ?_
  refine aw_ialdX dL_law_308 hX (ixm (by omega) (by omega)) ?_
  refine aw_aload_n dL_law_309 rfl rfl (by first | exact isR_ref _ | exact isR_rf _ | exact isR_null) ?_
  refine aw_iload_n dL_law_310 rfl rfl ?_
  refine aw_iconst (v := nI 2) dL_law_311 (by decide) ?_
  first | refine aw_iaddN dL_law_312 ?_ | refine aw_iadd dL_law_312 ?_
  refine aw_ialdX dL_law_313 hX (ixm (by omega) (by omega)) ?_
  cases hok : okMove I (xs (6 * k + 1)) (xs (6 * k + 2)) with
  | false =>
    refine aw_cVx (as := [_, _]) dL_law_314 lk_L_38 cm_X9_move vi_X9_move (by unfold RO; decide) rfl (sC_k0 hC) (sC_n0 hC) rfl rfl rfl (Nat.le_of_ble_eq_true rfl) (c_move0 hC hN hN1 hP hP1 hW _ _ hok) ?_
    refine aw_aload_n dL_law_317 rfl rfl (by first | exact isR_ref _ | exact isR_rf _ | exact isR_null) ?_
    refine aw_aload_n dL_law_318 rfl rfl (by first | exact isR_ref _ | exact isR_rf _ | exact isR_null) ?_
    refine aw_iload_n dL_law_319 rfl rfl ?_
    refine aw_iconst (v := nI 1) dL_law_320 (by decide) ?_
    first | refine aw_iaddN dL_law_321 ?_ | refine aw_iadd dL_law_321 ?_
    refine aw_ialdX dL_law_322 hX (ixm (by omega) (by omega)) ?_
    refine aw_aload_n dL_law_323 rfl rfl (by first | exact isR_ref _ | exact isR_rf _ | exact isR_null) ?_
    refine aw_iload_n dL_law_324 rfl rfl ?_
    refine aw_iconst (v := nI 2) dL_law_325 (by decide) ?_
    first | refine aw_iaddN dL_law_326 ?_ | refine aw_iadd dL_law_326 ?_
    refine aw_ialdX dL_law_327 hX (ixm (by omega) (by omega)) ?_
    refine aw_cVx (as := [_, _]) dL_law_328 lk_L_42 cm_X10_move vi_X10_move (by unfold RO; decide) rfl (sM_kd hM) (sM_n hM) rfl rfl rfl (Nat.le_of_ble_eq_true rfl) (m_move hM hB _ _) ?_
    rw [hok]
    refine aw_icmp_eq (tgt := 678) dL_law_331 (by decide) (fun hne => ?_) (fun hne => ?_)
    · exact T n sz kd I R J h.next
    · exact absurd rfl hne
  | true =>
    have hok0 := hok
    unfold okMove at hok0
    rw [Bool.and_eq_true, Bool.and_eq_true, Bool.not_eq_true', decide_eq_false_iff_not] at hok0
    obtain ⟨o1, o2, o3⟩ := hok0
    obtain ⟨q, hq⟩ := Option.isSome_iff_exists.mp o1
    obtain ⟨ex, -, hqN⟩ := rgl_some hq
    have h52 := h0.l52 q hqN
    have hln := (h0.le.2.1 q hqN).1.2.1
    refine aw_st (st' := [.int (xs (6 * k + 2)), .int (nI q), .ref (gz G + 0)]) (by rw [ex]) ?_
    refine aw_cVx (as := [_, _]) dL_law_314 lk_L_38 cm_X9_move vi_X9_move (by unfold RO; decide) rfl (sC_k0 hC) (sC_n0 hC) rfl rfl rfl (Nat.le_of_ble_eq_true rfl) (c_move hC hN hP (by omega) hW hqN h52 _ o2) ?_
    have hrow : ∀ a, 14 ≤ a → a < 52 → (cMove I (tn (I 22 26)) q (rc G R 9 q) (xs (6 * k + 2))) a = I a := fun a h1 h2 => cMove_row (by omega) (by omega) (by omega) (by omega) (by omega)
    have hz := h0.zc (Z' := (cMove I (tn (I 22 26)) q (rc G R 9 q) (xs (6 * k + 2)))) (fun a h1 h2 => hrow a (by omega) h2)
    have e26 : tn ((cMove I (tn (I 22 26)) q (rc G R 9 q) (xs (6 * k + 2))) 22 26) = (tn (I 22 26)) := by rw [hrow 22 (by decide) (by decide)]
    have eN : mN (cMove I (tn (I 22 26)) q (rc G R 9 q) (xs (6 * k + 2))) = mN I := congrArg tn (congrFun (hrow 22 (by decide) (by decide)) 0)
    have c1 := core_move hz (k := q) (by rw [eN]; exact hqN) (by rw [e26]; omega) o2
    rw [e26] at c1
    have hB := hz.mb
    have hok1 : okMove (cMove I (tn (I 22 26)) q (rc G R 9 q) (xs (6 * k + 2))) (xs (6 * k + 1)) (xs (6 * k + 2)) = true := by unfold okMove; rw [eN, e26]; exact hok
    generalize (cMove I (tn (I 22 26)) q (rc G R 9 q) (xs (6 * k + 2))) = I1 at hrow hz e26 eN c1 hB hok1 ⊢
    refine aw_aload_n dL_law_317 rfl rfl (by first | exact isR_ref _ | exact isR_rf _ | exact isR_null) ?_
    refine aw_aload_n dL_law_318 rfl rfl (by first | exact isR_ref _ | exact isR_rf _ | exact isR_null) ?_
    refine aw_iload_n dL_law_319 rfl rfl ?_
    refine aw_iconst (v := nI 1) dL_law_320 (by decide) ?_
    first | refine aw_iaddN dL_law_321 ?_ | refine aw_iadd dL_law_321 ?_
    refine aw_ialdX dL_law_322 hX (ixm (by omega) (by omega)) ?_
    refine aw_aload_n dL_law_323 rfl rfl (by first | exact isR_ref _ | exact isR_rf _ | exact isR_null) ?_
    refine aw_iload_n dL_law_324 rfl rfl ?_
    refine aw_iconst (v := nI 2) dL_law_325 (by decide) ?_
    first | refine aw_iaddN dL_law_326 ?_ | refine aw_iadd dL_law_326 ?_
    refine aw_ialdX dL_law_327 hX (ixm (by omega) (by omega)) ?_
    refine aw_cVx (as := [_, _]) dL_law_328 lk_L_42 cm_X10_move vi_X10_move (by unfold RO; decide) rfl (sM_kd hM) (sM_n hM) rfl rfl rfl (Nat.le_of_ble_eq_true rfl) (m_move hM hB _ _) ?_
    rw [hok1, if_pos rfl, ex, tn_nI (by omega)]
    refine aw_icmp_eq (tgt := 678) dL_law_331 (by decide) (fun hne => ?_) (fun hne => ?_)
    · exact T _ _ _ _ _ _ (RC.fin c1 (hrs.tr (hrow 16 (by decide) (by decide)) (fun c h1 h2 => by rw [mMove_col (by omega), hrow 22 (by decide) (by decide)])) (fun q hq => mMove_row hq) (by omega) (by omega) (by omega) (by omega))
    · exact absurd rfl hne
theorem lc_undo (hL : L ≤ 3072) (hX : XS G b L xs) (hkL : 6 * k + 6 ≤ L) (T : TL G em b k Q) (h : RC G em k n sz kd I R J I) : AW G mL_law 336 [(0, .ref b), (1, .ref (gz G + 0)), (2, .ref (gz G + 22)), (3, .int (nI (6 * k)))] [] (n, sz, kd, I, R, J) Q := by
  obtain ⟨u, K, cap, hm, kn, key, h0, hrs, r1, r2, r3, r4⟩ := id h
  have hC := h0.shC
  have hM := h0.shM
  have hB := h0.mb
  have hV := h0.hv
  have hLn := h0.ln.1
  have hK := h0.kv
  have hN := h0.le.1
  have hW := h0.lv
  have hb : K ≤ 4000 ∧ hm ≤ 4000 := by omega
  have hcap : cap ≤ 10 + 2 * K := h0.kw.1.2.2.1
  have hn52 := hC.1
  have hN1 : mN I ≤ 100 := hB.1.le
  have hP : I 10 3 = nI (tn (I 22 26)) := h0.mv.1.trans hB.2.2.2.2.2.1.eq
  have hP1 : (tn (I 22 26)) ≤ 200 := hB.2.2.2.2.2.1.le
  refine aw_aload_n dL_law_336 rfl rfl (by first | exact isR_ref _ | exact isR_rf _ | exact isR_null) ?_
  cases hPe : (tn (I 22 26)) with
  | zero =>
    rw [hPe] at hP
    refine aw_cVx (as := []) dL_law_337 lk_L_43 cm_X9_undo vi_X9_undo (by unfold RO; decide) rfl (sC_k0 hC) (sC_n0 hC) rfl rfl rfl (Nat.le_of_ble_eq_true rfl) (c_undo0 hC hP) ?_
    refine aw_aload_n dL_law_340 rfl rfl (by first | exact isR_ref _ | exact isR_rf _ | exact isR_null) ?_
    refine aw_cVx (as := []) dL_law_341 lk_L_46 cm_X10_undo vi_X10_undo (by unfold RO; decide) rfl (sM_kd hM) (sM_n hM) rfl rfl rfl (Nat.le_of_ble_eq_true rfl) (m_undo hM hB) ?_
    rw [if_pos hPe, if_pos hPe]
    refine aw_icmp_eq (tgt := 678) dL_law_344 (by decide) (fun hne => ?_) (fun hne => ?_)
    · exact T n sz kd I R J h.next
    · exact absurd rfl hne
  | succ P =>
    rw [hPe] at hP
    obtain ⟨k1, k2, -⟩ := core_undo h0 hPe
    have h52 := h0.l52 _ k2
    have k3 : I 43 P = nI (tn (I 43 P)) := (hB.2.2.2.2.2.2.1 P (by omega)).eq
    refine aw_cVx (as := []) dL_law_337 lk_L_43 cm_X9_undo vi_X9_undo (by unfold RO; decide) rfl (sC_k0 hC) (sC_n0 hC) rfl rfl rfl (Nat.le_of_ble_eq_true rfl) (c_undo hC hP (by omega) hN hW k1 k2 h52) ?_
    have hrow : ∀ a, 11 ≤ a → a < 52 → (cBack I P (rc G R 9 (tn (I 43 P)))) a = I a := fun a h1 h2 => by rw [cBack, u2_row _ _ _ (by omega), u2_row _ _ _ (by omega), u2_row _ _ _ (by omega)]
    have hz := h0.zc (Z' := (cBack I P (rc G R 9 (tn (I 43 P))))) (fun a h1 h2 => hrow a (by omega) h2)
    have e26 : tn ((cBack I P (rc G R 9 (tn (I 43 P)))) 22 26) = P + 1 := by rw [hrow 22 (by decide) (by decide)]; exact hPe
    have e43 : (cBack I P (rc G R 9 (tn (I 43 P)))) 43 P = I 43 P := by rw [hrow _ (by decide) (by decide)]
    have c1 := (core_undo hz e26).2.2
    rw [e43] at c1
    have hB := hz.mb
    generalize (cBack I P (rc G R 9 (tn (I 43 P)))) = I1 at hrow hz e26 e43 c1 hB ⊢
    refine aw_aload_n dL_law_340 rfl rfl (by first | exact isR_ref _ | exact isR_rf _ | exact isR_null) ?_
    refine aw_cVx (as := []) dL_law_341 lk_L_46 cm_X10_undo vi_X10_undo (by unfold RO; decide) rfl (sM_kd hM) (sM_n hM) rfl rfl rfl (Nat.le_of_ble_eq_true rfl) (m_undo hM hB) ?_
    rw [if_neg (by omega), if_neg (by omega), e26, show P + 1 - 1 = P from rfl, e43, k3]
    refine aw_icmp_eq (tgt := 678) dL_law_344 (by decide) (fun hne => ?_) (fun hne => ?_)
    · exact T _ _ _ _ _ _ (RC.fin c1 (hrs.tr (hrow 16 (by decide) (by decide)) (fun c h1 h2 => by rw [mUndo_col (by omega), hrow 22 (by decide) (by decide)])) (fun q hq => mUndo_row hq) (by omega) (by omega) (by omega) (by omega))
    · exact absurd (by rw [tn_nI (by omega)]) hne
theorem lc_fade (hL : L ≤ 3072) (hX : XS G b L xs) (hkL : 6 * k + 6 ≤ L) (T : TL G em b k Q) (h : RC G em k n sz kd I R J I) : AW G mL_law 418 [(0, .ref b), (1, .ref (gz G + 0)), (2, .ref (gz G + 22)), (3, .int (nI (6 * k)))] [] (n, sz, kd, I, R, J) Q := by
  obtain ⟨u, K, cap, hm, kn, key, h0, hrs, r1, r2, r3, r4⟩ := id h
  have hC := h0.shC
  have hM := h0.shM
  have hB := h0.mb
  have hV := h0.hv
  have hLn := h0.ln.1
  have hK := h0.kv
  have hN := h0.le.1
  have hW := h0.lv
  have hb : K ≤ 4000 ∧ hm ≤ 4000 := by omega
  have hcap : cap ≤ 10 + 2 * K := h0.kw.1.2.2.1
  have hn52 := hC.1
  have hL6 : mL I ≤ 6 := hB.2.1.le
  refine aw_aload_n dL_law_418 rfl rfl (by first | exact isR_ref _ | exact isR_rf _ | exact isR_null) ?_
  refine aw_aload_n dL_law_419 rfl rfl (by first | exact isR_ref _ | exact isR_rf _ | exact isR_null) ?_
  refine aw_iload_n dL_law_420 rfl rfl ?_
  refine aw_iconst (v := nI 1) dL_law_421 (by decide) ?_
  first | refine aw_iaddN dL_law_422 ?_ | refine aw_iadd dL_law_422 ?_
  refine aw_ialdX dL_law_423 hX (ixm (by omega) (by omega)) ?_
  cases hx : rgl (xs (6 * k + 1)) 1 101 with
  | none =>
    refine aw_cVx (as := [_]) dL_law_424 lk_L_60 cm_X9_fade vi_X9_fade (by unfold RO; decide) rfl (sC_k0 hC) (sC_n0 hC) rfl rfl rfl (Nat.le_of_ble_eq_true rfl) (c_fade0 hC _ hx) ?_
    refine aw_aload_n dL_law_427 rfl rfl (by first | exact isR_ref _ | exact isR_rf _ | exact isR_null) ?_
    refine aw_aload_n dL_law_428 rfl rfl (by first | exact isR_ref _ | exact isR_rf _ | exact isR_null) ?_
    refine aw_iload_n dL_law_429 rfl rfl ?_
    refine aw_iconst (v := nI 1) dL_law_430 (by decide) ?_
    first | refine aw_iaddN dL_law_431 ?_ | refine aw_iadd dL_law_431 ?_
    refine aw_ialdX dL_law_432 hX (ixm (by omega) (by omega)) ?_
    refine aw_cVx (as := [_]) dL_law_433 lk_L_63 cm_X10_fade vi_X10_fade (by unfold RO; decide) rfl (sM_kd hM) (sM_n hM) rfl rfl rfl (Nat.le_of_ble_eq_true rfl) (m_fade hM hB _) ?_
    have ef : mFadeX I (xs (6 * k + 1)) = (-1, I) := by unfold mFadeX; rw [hx]
    rw [ef]
    refine aw_icmp_eq (tgt := 678) dL_law_436 (by decide) (fun hne => ?_) (fun hne => ?_)
    · exact T n sz kd I R J h.next
    · exact absurd rfl hne
  | some m =>
    obtain ⟨ex, h1, h2⟩ := rgl_some hx
    refine aw_top ex ?_
    refine aw_cVx (as := [_]) dL_law_424 lk_L_60 cm_X9_fade vi_X9_fade (by unfold RO; decide) rfl (sC_k0 hC) (sC_n0 hC) rfl rfl rfl (Nat.le_of_ble_eq_true rfl) (c_fade hC hLn hK hN hW h0.l52 h1 (by omega)) ?_
    have hz := h0.zc (Z' := u2 I 5 2 (nI (cFS (cFq G I R (mN I) m) (R 7) (mL I)).2)) (fun q h1 h2 => u2_row _ _ _ (by omega))
    obtain ⟨e1, c1⟩ := core_fade hz hb m
    have hB := hz.mb
    have hM := c1.shM
    have ok := mFS_ok hB (mN I - m) (mL I) hL6
    have ef : mFadeX (u2 I 5 2 (nI (cFS (cFq G I R (mN I) m) (R 7) (mL I)).2)) (xs (6 * k + 1)) = mFade (u2 I 5 2 (nI (cFS (cFq G I R (mN I) m) (R 7) (mL I)).2)) m := by unfold mFadeX; rw [hx]
    refine aw_aload_n dL_law_427 rfl rfl (by first | exact isR_ref _ | exact isR_rf _ | exact isR_null) ?_
    refine aw_aload_n dL_law_428 rfl rfl (by first | exact isR_ref _ | exact isR_rf _ | exact isR_null) ?_
    refine aw_iload_n dL_law_429 rfl rfl ?_
    refine aw_iconst (v := nI 1) dL_law_430 (by decide) ?_
    first | refine aw_iaddN dL_law_431 ?_ | refine aw_iadd dL_law_431 ?_
    refine aw_ialdX dL_law_432 hX (ixm (by omega) (by omega)) ?_
    refine aw_cVx (as := [_]) dL_law_433 lk_L_63 cm_X10_fade vi_X10_fade (by unfold RO; decide) rfl (sM_kd hM) (sM_n hM) rfl rfl rfl (Nat.le_of_ble_eq_true rfl) (m_fade hM hB _) ?_
    rw [ef]
    refine aw_icmp_eq (tgt := 678) dL_law_436 (by decide) (fun hne => ?_) (fun hne => ?_)
    · refine T _ _ _ _ _ _ (RC.fin c1 (hrs.tr (u2_row _ _ _ (by decide)) (fun c h1 h2 => ?_)) (fun q hq => ?_) (by omega) (by omega) (by omega) (by omega))
      · show u2 (mFS (u2 I 5 2 _) _ _).1 22 16 _ 22 c = _
        rw [u2_col _ _ _ (by omega)]
        exact ok.2.2 c
      · show u2 (mFS (u2 I 5 2 _) _ _).1 22 16 _ q = _
        rw [u2_row _ _ _ (by omega), mFS_row (by omega) (by omega) (by omega) (by omega)]
        rfl
    · exact absurd (congrArg (fun z => nI (mL I - z)) e1) hne
theorem lc_hand (hG : StP G ad av fx) (hL : L ≤ 3072) (hX : XS G b L xs) (hkL : 6 * k + 6 ≤ L) (T : TL G em b k Q) (h : RC G em k n sz kd I R J I) : AW G mL_law 214 [(0, .ref b), (1, .ref (gz G + 0)), (2, .ref (gz G + 22)), (3, .int (nI (6 * k)))] [] (n, sz, kd, I, R, J) Q := by
  obtain ⟨u, K, cap, hm, kn, key, h0, hrs, r1, r2, r3, r4⟩ := id h
  have hC := h0.shC
  have hM := h0.shM
  have hB := h0.mb
  have hV := h0.hv
  have hLn := h0.ln.1
  have hK := h0.kv
  have hN := h0.le.1
  have hW := h0.lv
  have hb : K ≤ 4000 ∧ hm ≤ 4000 := by omega
  have hcap : cap ≤ 10 + 2 * K := h0.kw.1.2.2.1
  have hn52 := hC.1
  have hT : I 1 1 = nI (tn (I 22 31)) := h0.tp.1.trans hB.2.2.2.2.1.eq
  have hT2 : I 22 31 = nI (tn (I 22 31)) := hB.2.2.2.2.1.eq
  have hT1 : tn (I 22 31) ≤ 100 := hB.2.2.2.2.1.le
  have hKN := h0.kn'
  obtain ⟨b', hTB, hTC⟩ := h0.tp.2
  have efr : ∀ Z' : II, (∀ q, 22 ≤ q → q < 52 → Z' q = I q) → mFree Z' = fstF (fun h => !thC R h) 10 := fun Z' hZ => by
    unfold mFree mth
    rw [hZ 32 (by decide) (by decide)]
    exact fstF_cong (fun q hq => by rw [th_eq h0.row hq]; rfl)
  refine aw_aload_n dL_law_214 rfl rfl (by first | exact isR_ref _ | exact isR_rf _ | exact isR_null) ?_
  refine aw_callV (as := []) dL_law_215 lk_L_23 cm_X9_hand vi_X9_hand (by unfold RO; decide) rfl (sC_k0 hC) (sC_n0 hC) rfl rfl rfl (Nat.le_of_ble_eq_true rfl) (c_hand hG hC (by omega) (by omega) hTC hT hT1) ?_
  intro v' M' hq
  unfold QCHand at hq
  cases hf : fstF (fun h => !thC R h) 10 with
  | none =>
    rw [hf] at hq
    obtain ⟨rfl, rfl⟩ := hq
    refine aw_aload_n dL_law_218 rfl rfl (by first | exact isR_ref _ | exact isR_rf _ | exact isR_null) ?_
    refine aw_callV (as := []) dL_law_219 lk_L_27 cm_X10_hand vi_X10_hand (by unfold RO; decide) rfl (sM_kd hM) (sM_n hM) rfl rfl rfl (Nat.le_of_ble_eq_true rfl) (m_hand hM hTB hKN hT2 hT1) ?_
    intro v' M' hq
    unfold QHand at hq
    rw [efr I (fun _ _ _ => rfl), hf] at hq
    obtain ⟨rfl, rfl⟩ := hq
    refine aw_icmp_eq (tgt := 678) dL_law_222 (by decide) (fun hne => ?_) (fun hne => ?_)
    · exact T n sz kd I R J h.next
    · exact absurd rfl hne
  | some j =>
    rw [hf] at hq
    have hj : j < 10 := (fstF_some hf).1
    cases hp : pText b' (tn (I 22 31)) with
    | inl x =>
      rw [hp] at hq
      obtain ⟨rfl, p, rfl⟩ := hq
      have hrow : ∀ q, 5 ≤ q → rS (u2 I 1 1 (nI 0)) p q = I q := fun q h1 => by rw [rS_row (by omega) (by omega), u2_row _ _ _ (by omega)]
      have hz := h0.zc (Z' := rS (u2 I 1 1 (nI 0)) p) (fun q h1 h2 => hrow q (by omega))
      have c0 := core_end hz (x := nI 0) ⟨0, by decide, rfl⟩
      have hTB' : TB (rS (u2 I 1 1 (nI 0)) p) b' := by unfold TB; rw [hrow _ (by decide)]; exact hTB
      have hT2' : rS (u2 I 1 1 (nI 0)) p 22 31 = nI (tn (I 22 31)) := by rw [hrow _ (by decide)]; exact hT2
      refine aw_aload_n dL_law_218 rfl rfl (by first | exact isR_ref _ | exact isR_rf _ | exact isR_null) ?_
      refine aw_callV (as := []) dL_law_219 lk_L_27 cm_X10_hand vi_X10_hand (by unfold RO; decide) rfl (sM_kd hM) (sM_n hM) rfl rfl rfl (Nat.le_of_ble_eq_true rfl) (m_hand hM hTB' hz.kn' hT2' hT1) ?_
      intro v' M' hq
      unfold QHand at hq
      rw [efr _ (fun q h1 h2 => hrow q (by omega)), hf, hp] at hq
      obtain ⟨rfl, p', rfl⟩ := hq
      refine aw_icmp_eq (tgt := 678) dL_law_222 (by decide) (fun hne => ?_) (fun hne => ?_)
      · have c1 : Core G em n kd (rS (u2 I 1 1 (nI 0)) p) R J (pS (u2 (rS (u2 I 1 1 (nI 0)) p) 22 31 (nI 0)) p') u K cap hm kn key := c0.scr (fun q h1 h2 _ _ _ => rS_row h1 h2) (fun _ _ _ => rfl) (fun q h1 h2 h3 => pS_row (by omega) (by omega)) (fun c hc => pS_col (by unfold okCol at hc; omega))
        refine T _ _ _ _ _ _ (RC.fin c1 (hrs.tr (hrow 16 (by decide)) (fun c h1 h2 => ?_)) (fun q hq => ?_) (by omega) (by omega) (by omega) (by omega))
        · rw [pS_col (by omega), u2_col _ _ _ (by omega), hrow 22 (by decide)]
        · rw [pS_row (by omega) (by omega), u2_row _ _ _ (by omega)]
      · exact absurd rfl hne
    | inr cv =>
      obtain ⟨cs, v⟩ := cv
      rw [hp] at hq
      obtain ⟨rfl, p, kd', I', R', J', rfl, q1, q2, q3, q4, q5, q6, q7⟩ := hq
      obtain ⟨hv7, hco⟩ := pText_ok hp
      have hcs := pText_len hp
      have hrow : ∀ q, 5 ≤ q → q < 52 → I' q = I q := fun q h1 h2 => by rw [(q1 q (by omega)).2.1, rS_row (by omega) (by omega), u2_row _ _ _ (by omega)]
      have hz := h0.zc (Z' := I') (fun q h1 h2 => hrow q (by omega) h2)
      have c0 := core_hand hz hb hj hcs hco hv7 q1 q2 q3 q4 q5 q6 q7
      have hM := c0.shM
      have hTB' : TB I' b' := by unfold TB; rw [hrow _ (by decide) (by decide)]; exact hTB
      have hT2' : I' 22 31 = nI (tn (I 22 31)) := by rw [hrow _ (by decide) (by decide)]; exact hT2
      refine aw_aload_n dL_law_218 rfl rfl (by first | exact isR_ref _ | exact isR_rf _ | exact isR_null) ?_
      refine aw_callV (as := []) dL_law_219 lk_L_27 cm_X10_hand vi_X10_hand (by unfold RO; decide) rfl (sM_kd hM) (sM_n hM) rfl rfl rfl (Nat.le_of_ble_eq_true rfl) (m_hand hM hTB' hz.kn' hT2' hT1) ?_
      intro v' M' hq
      unfold QHand at hq
      rw [efr I' (fun q h1 h2 => hrow q (by omega) h2), hf, hp] at hq
      obtain ⟨rfl, p', rfl⟩ := hq
      refine aw_icmp_eq (tgt := 678) dL_law_222 (by decide) (fun hne => ?_) (fun hne => ?_)
      · have c1 := c0.scr (Z' := pS (mHand I' j cs v) p') (fun _ _ _ _ _ _ => rfl) (fun _ _ _ => rfl) (fun q h1 h2 h3 => pS_row (by omega) (by omega)) (fun c hc => pS_col (by unfold okCol at hc; omega))
        refine T _ _ _ _ _ _ (RC.fin c1 (hrs.tr (hrow 16 (by decide) (by decide)) (fun c h1 h2 => ?_)) (fun q hq => ?_) (by omega) (by omega) (by omega) (by omega))
        · rw [pS_col (by omega), mHand, u2_row _ _ _ (by decide)]
          have e : hcW (mHd4 I' j cs.length) j (fun t => nI (cs.getD t 0)) cs.length 22 c = mHd4 I' j cs.length 22 c := rfl
          rw [e, mHd4, u2_row _ _ _ (by decide), u2_col _ _ _ (by omega), u2_row _ _ _ (by decide), u2_row _ _ _ (by decide), u2_col _ _ _ (by omega), hrow 22 (by decide) (by decide)]
        · rw [pS_row (by omega) (by omega), mHand, u2_row _ _ _ (by omega)]
          have e : hcW (mHd4 I' j cs.length) j (fun t => nI (cs.getD t 0)) cs.length q = mHd4 I' j cs.length q := by funext c; unfold hcW; rw [if_neg (by omega)]
          rw [e, mHd4, u2_row _ _ _ (by omega), u2_row _ _ _ (by omega), u2_row _ _ _ (by omega), u2_row _ _ _ (by omega), u2_row _ _ _ (by omega)]
      · exact absurd rfl hne
end LAW3
