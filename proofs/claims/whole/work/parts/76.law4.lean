section LAW4
variable {G : GG} {n sz : Nat} {kd : KD} {I Z c : II} {R : RR} {J : JJ} {em mi : Nat} {b L k : Nat} {xs : Nat → Int32} {Q : Option Value → Mem → Prop}
/-- the reference's rows of Z, all others of c -/
def ov (c Z : II) : II := fun q => if 22 ≤ q ∧ q < 52 then Z q else c q
theorem ov_in {q : Nat} (h : 22 ≤ q ∧ q < 52) : ov c Z q = Z q := if_pos h
theorem ov_out {q : Nat} (h : q < 22 ∨ 52 ≤ q) : ov c Z q = c q := if_neg (by omega)
theorem ov_u2 {r : Nat} (h : 22 ≤ r ∧ r < 52) (j : Nat) (x : Int32) : u2 (ov c Z) r j x = ov c (u2 Z r j x) := by
  funext a q
  by_cases ha : a = r
  · subst ha
    rw [ov_in h]
    by_cases hq : q = j
    · subst hq; rw [u2_same, u2_same]
    · rw [u2_col _ _ _ hq, u2_col _ _ _ hq, ov_in h]
  · rw [u2_row _ _ _ ha]
    by_cases h2 : 22 ≤ a ∧ a < 52
    · rw [ov_in h2, ov_in h2, u2_row _ _ _ ha]
    · rw [ov_out (by omega), ov_out (by omega)]
theorem ov_same (h : ∀ q, 22 ≤ q → q < 52 → c q = Z q) : c = ov c Z := by
  funext q
  by_cases h2 : 22 ≤ q ∧ q < 52
  · rw [ov_in h2, h q h2.1 h2.2]
  · rw [ov_out (by omega)]
theorem ov_th (a : Nat) (o : Option Nat) (g : Nat) : mThere (ov c Z) a o g = mThere Z a o g := rfl
theorem ov_gs (a : Nat) (o : Option Nat) (f : Nat) : ∀ m, mGs (ov c Z) a o f m = mGs Z a o f m
  | 0 => rfl
  | m + 1 => by rw [mGs, mGs, ov_gs a o f m, ov_th]; rfl
theorem ov_bs (a : Nat) (o : Option Nat) (t : Bst) : ∀ m, mBs (ov c Z) a o t m = mBs Z a o t m
  | 0 => rfl
  | m + 1 => by rw [mBs, mBs, ov_bs a o t m, mUpd, mUpd, ov_gs]
theorem ov_l1 (t : Bst) : ∀ m, mL1 (ov c Z) t m = mL1 Z t m
  | 0 => rfl
  | m + 1 => by rw [mL1, mL1, ov_l1 t m, ov_bs]
theorem ov_l2r (a : Nat) (t : Bst) : ∀ m, mL2r (ov c Z) a t m = mL2r Z a t m
  | 0 => rfl
  | m + 1 => by rw [mL2r, mL2r, ov_l2r a t m, ov_bs]
theorem ov_l2 (t : Bst) : ∀ m, mL2 (ov c Z) t m = mL2 Z t m
  | 0 => rfl
  | m + 1 => by rw [mL2, mL2, ov_l2 t m, ov_l2r]
theorem ov_rB : rB (ov c Z) = rB Z := rfl
theorem ov_looks : mLooks (ov c Z) = mLooks Z := by rw [mLooks, mLooks, ov_rB, ov_l1, ov_l2]
theorem ov_wB (t : Bst) : wB (ov c Z) t = ov c (wB Z t) := by rw [wB, wB, ov_u2 (by decide), ov_u2 (by decide), ov_u2 (by decide), ov_u2 (by decide)]
theorem ov_fO (h : Nat → Bool) (m : Nat) : fO (ov c Z) h m = ov c (fO Z h m) := by
  funext a q
  by_cases ha : a = 49
  · subst ha; rfl
  · rw [fO_row ha]
    by_cases h2 : 22 ≤ a ∧ a < 52
    · rw [ov_in h2, ov_in h2, fO_row ha]
    · rw [ov_out (by omega), ov_out (by omega)]
theorem wr_row {m q : Nat} (hq : q ≠ 51) : wr Z m q = Z q := by funext x; unfold wr; rw [if_neg hq]
theorem ov_wr (m : Nat) : wr (ov c Z) m = ov c (wr Z m) := by
  funext a q
  by_cases ha : a = 51
  · subst ha; rfl
  · rw [wr_row ha]
    by_cases h2 : 22 ≤ a ∧ a < 52
    · rw [ov_in h2, ov_in h2, wr_row ha]
    · rw [ov_out (by omega), ov_out (by omega)]
theorem ov_ad4 (q a : Nat) (o : Option Nat) (f : Nat) : ad4 (ov c Z) q a o f = ov c (ad4 Z q a o f) := by rw [ad4, ad4, ov_u2 (by decide), ov_u2 (by decide), ov_u2 (by decide), ov_u2 (by decide)]
theorem ov_ad5 (Y : II) (nu : Nat) : ad5 (ov c Z) (ov c Y) nu = ov c (ad5 Z Y nu) := by
  show u2 (u2 (ov c Z) 41 nu (nI 100 + Y 22 21)) 22 21 (Y 22 21 + nI 1) = _
  rw [ov_u2 (by decide), ov_u2 (by decide)]
  rfl
theorem ov_ad7 (q nu : Nat) : ad7 (ov c Z) q nu = ov c (ad7 Z q nu) := by
  show u2 (u2 (ov c Z) 37 q (Z 41 nu)) 22 16 (nI (q + 1)) = _
  rw [ov_u2 (by decide), ov_u2 (by decide)]
  rfl
theorem ov_mAd7 (a : Nat) (o : Option Nat) (f : Nat) : mAd7 (ov c Z) a o f = ov c (mAd7 Z a o f) := by
  rw [mAd7_e, mAd7_e]
  by_cases h : Z 41 (mNum a o f) = 0
  · have h' : ov c Z 41 (mNum a o f) = 0 := h
    rw [if_pos h, if_pos h', ov_ad4, ov_ad5, ov_ad7]
    rfl
  · have h' : ¬ ov c Z 41 (mNum a o f) = 0 := h
    rw [if_neg h, if_neg h', ov_ad4, ov_ad7]
    rfl
theorem ov_adds (a : Nat) (o : Option Nat) (f : Nat) : mAdds (ov c Z) a o f = ov c (mAdds Z a o f) := by
  unfold mAdds
  rw [ov_mAd7, ov_fO]
  rfl
theorem ov_step (t : Bst) : mStep (ov c Z) t = ov c (mStep Z t) := by
  unfold mStep
  rw [ov_wB, ov_adds, ov_u2 (by decide)]
  rfl
theorem ov_loop : ∀ (d : Nat) (Z : II), mLoop d (ov c Z) = ov c (mLoop d Z)
  | 0, Z => rfl
  | d + 1, Z => by
    rw [mLoop, mLoop, ov_looks]
    by_cases h : 0 < (mLooks Z).1
    · rw [if_pos h, if_pos h, ov_step, ov_loop d]
    · rw [if_neg h, if_neg h, ov_wB]
theorem ov_opn (i : Nat) : opn (ov c Z) i = opn Z i := rfl
theorem ov_pcs : ∀ i, pcs (ov c Z) i = pcs Z i
  | 0 => rfl
  | i + 1 => by rw [pcs, pcs, ov_pcs i, ov_opn]; rfl
theorem ov_opnF : opn (ov c Z) = opn Z := funext (fun i => ov_opn i)
theorem ov_I2 : mI2 (ov c Z) = ov c (mI2 Z) := by
  rw [mI2, mI2, ov_wr, ov_u2 (by decide), ov_u2 (by decide), ov_u2 (by decide)]
  rfl
theorem ov_I3 (i : Nat) : mI3 (ov c Z) i = ov c (mI3 Z i) := by rw [mI3, mI3, ov_I2, ov_opnF, ov_fO, ov_pcs, ov_u2 (by decide), ov_u2 (by decide)]
theorem ov_lrnB : mLrnB (ov c Z) = ov c (mLrnB Z) := by
  unfold mLrnB
  rw [show mN (ov c Z) = mN Z from rfl, ov_I3, ov_pcs, ov_u2 (by decide), ov_loop]
theorem ov_learn : mLearn (ov c Z) = ov c (mLearn Z) := by
  unfold mLearn
  rw [ov_lrnB, ov_u2 (by decide), ov_u2 (by decide), ov_u2 (by decide)]
  rfl
theorem lc_learn (hG : LsP G em mi) (hL : L ≤ 3072) (hX : XS G b L xs) (hkL : 6 * k + 6 ≤ L) (T : TL G em b k Q) (h : RC G em k n sz kd I R J I) : AW G mL_law 382 [(0, .ref b), (1, .ref (gz G + 0)), (2, .ref (gz G + 22)), (3, .int (nI (6 * k)))] [] (n, sz, kd, I, R, J) Q := by
  obtain ⟨u, K, cap, hm, kn, key, h0, hrs, r1, r2, r3, r4⟩ := id h
  have hC := h0.shC
  have hM := h0.shM
  have hB := h0.mb
  have hcap : cap ≤ 10 + 2 * K := h0.kw.1.2.2.1
  refine aw_aload_n dL_law_382 rfl rfl (by first | exact isR_ref _ | exact isR_rf _ | exact isR_null) ?_
  refine aw_callV (as := []) dL_law_383 lk_L_52 cm_X9_learn vi_X9_learn (by unfold RO; decide) rfl (sC_k0 hC) (sC_n0 hC) rfl rfl rfl (Nat.le_of_ble_eq_true rfl) (c_learn hG h0 (by omega) (by omega) (by omega) (by omega)) ?_
  intro v' M' hq
  obtain ⟨rfl, -, n', sz', kd', I', R', J', u', K', cap', kn', key', rfl, c1, rs1, hrow, b1, b2, b3⟩ := hq
  have hM := c1.shM
  have hB := (h0.zc (Z' := I') hrow).mb
  have eo : mLearn I' = ov I' (mLearn I) := by
    have e := ov_learn (c := I') (Z := I)
    rw [← ov_same hrow] at e
    exact e
  refine aw_aload_n dL_law_386 rfl rfl (by first | exact isR_ref _ | exact isR_rf _ | exact isR_null) ?_
  refine aw_callV (as := []) dL_law_387 lk_L_55 cm_X10_learn vi_X10_learn (by unfold RO; decide) rfl (sM_kd hM) (sM_n hM) rfl rfl rfl (Nat.le_of_ble_eq_true rfl) (m_learn hM hB) ?_
  intro v' M' hq
  obtain ⟨rfl, row, rfl⟩ := hq
  rw [eo]
  clear eo
  generalize mLearn I = Y at c1 rs1 ⊢
  have mr : ∀ q, q ≠ 50 → mT (ov I' Y) row q = ov I' Y q := fun q hq => by funext x; unfold mT; rw [if_neg hq]
  refine aw_icmp_eq (tgt := 678) dL_law_390 (by decide) (fun hne => ?_) (fun hne => ?_)
  · refine T _ _ _ _ _ _ (RC.fin (Z := mT (ov I' Y) row) (c1.scr (fun _ _ _ _ _ _ => rfl) (fun _ _ _ => rfl) (fun q h1 h2 h3 => ?_) (fun x _ => by rw [mr _ (by decide), ov_in (by decide)])) (rs1.tr rfl (fun x _ _ => by rw [mr _ (by decide), ov_in (by decide)])) (fun q hq => ?_) (by omega) (by omega) (by omega) (by omega))
    · rw [mr q (by omega), ov_in (by omega)]
    · rw [mr q (by omega), ov_out hq]
  · have e22 : ov I' Y 22 = Y 22 := ov_in (by decide)
    exact absurd (by unfold mL; rw [e22]) hne
end LAW4
