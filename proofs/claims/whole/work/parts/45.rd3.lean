section RD3
variable {G : GG} {n sz : Nat} {kd : Nat → AKd} {I : Nat → Nat → Int32} {R : Nat → Nat → Option Nat} {J : Nat → Nat → Int64} {ad av : Nat → Nat} {fx : Option Nat}
theorem pNum_ne {b : Nat → Nat} {P i g x : Nat} (h : pNum b P i g = .inl x) : x ≠ 0 := by
  unfold pNum at h
  dsimp only at h
  split at h
  · cases h; omega
  · split at h
    · cases h
    · cases h; omega
theorem pTest_ne {b : Nat → Nat} {P i t x : Nat} (h : pTest b P i t = .inl x) : x ≠ 0 := by
  unfold pTest at h
  split at h
  · cases h; omega
  · split at h
    · cases h; omega
    · split at h
      · cases h; omega
      · split at h
        · rename_i hp
          cases h
          exact pNum_ne hp
        · cases h
theorem pTest_le {b : Nat → Nat} {P i t q c : Nat} (hi : i ≤ P) (h : pTest b P i t = .inr (q, c)) : q ≤ P ∧ t ≠ 4 := by
  unfold pTest at h
  split at h
  · cases h
  · split at h
    · cases h
    · split at h
      · cases h
      · split at h
        · cases h
        · rename_i hp
          cases h
          exact ⟨(pNum_le (wSE b hi).2.2 hp).1, by assumption⟩
def QRTs (n sz : Nat) (kd : Nat → AKd) (I : Nat → Nat → Int32) (R : Nat → Nat → Option Nat) (J : Nat → Nat → Int64) (b : Nat → Nat) (P : Nat) (fo : Int32) (o : Nat ⊕ (Nat × List Nat)) (v' : Option Value) (M' : Mem) : Prop :=
  v' = none ∧ ∃ i' s' t' f' rd', M' = (n, sz, kd, rS I (nI t', fo, nI f', nI i', nI s', rd'), R, J) ∧ s' ≤ i' ∧ i' ≤ P ∧ t' ≤ 4 ∧ f' < 2000 ∧ match o with
    | .inl x => f' = x ∧ x ≠ 0
    | .inr (q, cs) => f' = 0 ∧ q ≤ P ∧ s' = wS b P q ∧ i' = wE b P q ∧ t' = cs.length ∧ rdOf rd' cs
theorem r_tests (hG : StP G ad av fx) (hC : ShC G n kd R) {b : Nat → Nat} (hT : TC I b) {P i : Nat} (hP : I 1 1 = nI P) (hP1 : P ≤ 100) (hi : i ≤ P) (fo st : Int32) (rd : Nat → Int32) : MM G mX7_readTests [.ref (gz G + 3)] (n, sz, kd, rS I (nI 0, fo, nI 0, nI i, st, rd), R, J) (QRTs n sz kd I R J b P fo (pTs b P 5 i [])) := by
  refine mm_of rfl [(0, .ref (gz G + 3))] rfl (Nat.le_of_ble_eq_true rfl) ?_
  generalize hO : pTs b P 5 i [] = o
  -- behind a FAULT
  have modeA : ∀ d k i1 s t f rd, k + d = 4 → s ≤ i1 → i1 ≤ P → t ≤ 4 → f < 2000 → f ≠ 0 → o = .inl f → AW G mX7_readTests 10 [(0, .ref (gz G + 3)), (1, .int (nI k))] [] (n, sz, kd, rS I (nI t, fo, nI f, nI i1, nI s, rd), R, J) (QRTs n sz kd I R J b P fo (o)) := by
    intro d
    induction d with
    | zero =>
      intro k i1 s t f rd hk hs hi ht hf hne hp
      refine aw_iload_n dX7_readTests_10 rfl rfl ?_
      refine aw_iconst (v := nI 4) dX7_readTests_11 (by decide) ?_
      refine aw_n_ge (tgt := 38) dX7_readTests_12 (by decide) rfl rfl (by omega) (by omega) (fun h => ?_) (fun h => ?_)
      · refine aw_vret dX7_readTests_38 rfl ?_
        rw [hp]
        exact ⟨rfl, _, _, _, _, _, rfl, hs, hi, ht, hf, rfl, hne⟩
      · exact absurd h (by omega)
    | succ d ih =>
      intro k i1 s t f rd hk hs hi ht hf hne hp
      refine aw_iload_n dX7_readTests_10 rfl rfl ?_
      refine aw_iconst (v := nI 4) dX7_readTests_11 (by decide) ?_
      refine aw_n_ge (tgt := 38) dX7_readTests_12 (by decide) rfl rfl (by omega) (by omega) (fun h => ?_) (fun h => ?_)
      · exact absurd h (by omega)
      · refine aw_aload_n dX7_readTests_15 rfl rfl (by first | exact isR_ref _ | exact isR_rf _ | exact isR_null) ?_
        refine aw_ldcS dX7_readTests_16 (fun U h => ((hG U h).1 2 (by decide)).2.2.2.2) ?_
        refine aw_cVx (as := [_]) dX7_readTests_18 lk_X7_34 cm_X7_wordIs vi_X7_wordIs (by unfold RO; decide) rfl (sC_k3 hC) (sC_n3 hC) rfl rfl rfl (Nat.le_of_ble_eq_true rfl) (r_wordIs hG hC hT (w := 2) hP1 hs hi (by decide) _ _ _ _) ?_
        refine aw_b_eq (tgt := 38) dX7_readTests_21 (by decide) rfl (fun h2 => ?_) (fun h2 => ?_)
        · refine aw_vret dX7_readTests_38 rfl ?_
          rw [hp]
          exact ⟨rfl, _, _, _, _, _, rfl, hs, hi, ht, hf, rfl, hne⟩
        · refine aw_aload_n dX7_readTests_24 rfl rfl (by first | exact isR_ref _ | exact isR_rf _ | exact isR_null) ?_
          refine aw_callV (as := []) dX7_readTests_25 lk_X7_70 cm_X7_readTest vi_X7_readTest (by unfold RO; decide) rfl (sC_k3 hC) (sC_n3 hC) rfl rfl rfl (Nat.le_of_ble_eq_true rfl) (r_test hG hC hT ht hf hP hP1 hi _ _ _) ?_
          intro v' M' hq
          obtain ⟨rfl, i', s', t', f', rd', rfl, q1, q2, q3, q4, q5, -⟩ := hq
          have e := q5 hne
          subst e
          have hw := wSE b q2
          show AW G mX7_readTests (25 + 3) [(0, .ref (gz G + 3)), (1, .int (nI k))] [] _ _
          refine aw_aload_n dX7_readTests_28 rfl rfl (by first | exact isR_ref _ | exact isR_rf _ | exact isR_null) ?_
          refine aw_cVv (as := []) dX7_readTests_29 lk_X7_29 cm_X7_readWord vi_X7_readWord (by unfold RO; decide) rfl (sC_k3 hC) (sC_n3 hC) rfl rfl rfl (Nat.le_of_ble_eq_true rfl) (r_word hC hT hP hP1 q2 _ _ _ _ _) ?_
          first | refine aw_iincN (c := 1) (lv' := [(0, _), (1, _)]) dX7_readTests_32 rfl (by decide) rfl rfl ?_ | refine aw_iinc (v := 1) (lv' := [(0, _), (1, _)]) dX7_readTests_32 rfl (by decide) (by decide) rfl ?_
          refine aw_goto (tgt := 10) dX7_readTests_35 (by decide) ?_
          exact ih (k + 1) _ _ _ _ _ (by omega) hw.2.1 hw.2.2 q3 hf hne hp
  have modeB : ∀ d k q cs rd, k + d = 4 → q ≤ P → cs.length = k + 1 → cs.length ≤ 4 → rdOf rd cs → o = (if wC b P q = some 2 then pTs b P d (wE b P q) cs else .inr (q, cs)) → AW G mX7_readTests 10 [(0, .ref (gz G + 3)), (1, .int (nI k))] [] (n, sz, kd, rS I (nI cs.length, fo, nI 0, nI (wE b P q), nI (wS b P q), rd), R, J) (QRTs n sz kd I R J b P fo (o)) := by
    intro d
    induction d with
    | zero =>
      intro k q cs rd hk hq hl hl4 hrd hp
      exact absurd hl (by omega)
    | succ d ih =>
      intro k q cs rd hk hq hl hl4 hrd hp
      have hw := wSE b hq
      refine aw_iload_n dX7_readTests_10 rfl rfl ?_
      refine aw_iconst (v := nI 4) dX7_readTests_11 (by decide) ?_
      refine aw_n_ge (tgt := 38) dX7_readTests_12 (by decide) rfl rfl (by omega) (by omega) (fun h => ?_) (fun h => ?_)
      · exact absurd h (by omega)
      · refine aw_aload_n dX7_readTests_15 rfl rfl (by first | exact isR_ref _ | exact isR_rf _ | exact isR_null) ?_
        refine aw_ldcS dX7_readTests_16 (fun U h => ((hG U h).1 2 (by decide)).2.2.2.2) ?_
        refine aw_cVx (as := [_]) dX7_readTests_18 lk_X7_34 cm_X7_wordIs vi_X7_wordIs (by unfold RO; decide) rfl (sC_k3 hC) (sC_n3 hC) rfl rfl rfl (Nat.le_of_ble_eq_true rfl) (r_wordIs hG hC hT (w := 2) hP1 hw.2.1 hw.2.2 (by decide) _ _ _ _) ?_
        rw [wIs_code (by decide)]
        refine aw_b_eq (tgt := 38) dX7_readTests_21 (by decide) rfl (fun h2 => ?_) (fun h2 => ?_)
        · have hn : ¬ wC b P q = some 2 := of_decide_eq_false h2
          rw [if_neg hn] at hp
          refine aw_vret dX7_readTests_38 rfl ?_
          rw [hp]
          exact ⟨rfl, _, _, _, _, _, rfl, hw.2.1, hw.2.2, hl4, by decide, rfl, hq, rfl, rfl, rfl, hrd⟩
        · have hy : wC b P q = some 2 := of_decide_eq_true h2
          rw [if_pos hy, pTs] at hp
          refine aw_aload_n dX7_readTests_24 rfl rfl (by first | exact isR_ref _ | exact isR_rf _ | exact isR_null) ?_
          refine aw_callV (as := []) dX7_readTests_25 lk_X7_70 cm_X7_readTest vi_X7_readTest (by unfold RO; decide) rfl (sC_k3 hC) (sC_n3 hC) rfl rfl rfl (Nat.le_of_ble_eq_true rfl) (r_test hG hC hT hl4 (by decide) hP hP1 hw.2.2 _ _ _) ?_
          intro v' M' hqq
          obtain ⟨rfl, i', s', t', f', rd', rfl, q1, q2, q3, q4, -, q6⟩ := hqq
          have q7 := q6 rfl
          have hw' := wSE b q2
          show AW G mX7_readTests (25 + 3) [(0, .ref (gz G + 3)), (1, .int (nI k))] [] _ _
          refine aw_aload_n dX7_readTests_28 rfl rfl (by first | exact isR_ref _ | exact isR_rf _ | exact isR_null) ?_
          refine aw_cVv (as := []) dX7_readTests_29 lk_X7_29 cm_X7_readWord vi_X7_readWord (by unfold RO; decide) rfl (sC_k3 hC) (sC_n3 hC) rfl rfl rfl (Nat.le_of_ble_eq_true rfl) (r_word hC hT hP hP1 q2 _ _ _ _ _) ?_
          first | refine aw_iincN (c := 1) (lv' := [(0, _), (1, _)]) dX7_readTests_32 rfl (by decide) rfl rfl ?_ | refine aw_iinc (v := 1) (lv' := [(0, _), (1, _)]) dX7_readTests_32 rfl (by decide) (by decide) rfl ?_
          refine aw_goto (tgt := 10) dX7_readTests_35 (by decide) ?_
          cases hpt : pTest b P (wE b P q) cs.length with
          | inl x =>
            rw [hpt] at q7 hp
            subst q7
            exact modeA d (k + 1) _ _ _ _ _ (by omega) hw'.2.1 hw'.2.2 q3 q4 (pTest_ne hpt) hp
          | inr qc =>
            obtain ⟨q', c⟩ := qc
            rw [hpt] at q7 hp
            obtain ⟨e1, e2, e3, e4⟩ := q7
            subst e1
            subst e2
            subst e3
            subst e4
            have hle := pTest_le hw.2.2 hpt
            have hlen : cs.length + 1 = (cs ++ [c]).length := by simp
            rw [hlen]
            exact ih (k + 1) i' (cs ++ [c]) _ (by omega) hle.1 (by rw [← hlen]; omega) (by rw [← hlen]; omega) (rdOf_app hrd c) hp
  refine aw_aload_n dX7_readTests_0 rfl rfl (by first | exact isR_ref _ | exact isR_rf _ | exact isR_null) ?_
  refine aw_callV (as := []) dX7_readTests_1 lk_X7_70 cm_X7_readTest vi_X7_readTest (by unfold RO; decide) rfl (sC_k3 hC) (sC_n3 hC) rfl rfl rfl (Nat.le_of_ble_eq_true rfl) (r_test hG hC hT (by decide) (by decide) hP hP1 hi _ _ _) ?_
  intro v' M' hqq
  obtain ⟨rfl, i', s', t', f', rd', rfl, q1, q2, q3, q4, -, q6⟩ := hqq
  have q7 := q6 rfl
  have hw' := wSE b q2
  have hp : o = match pTest b P i 0 with
    | .inl x => .inl x
    | .inr (q, c) => if wC b P q = some 2 then pTs b P 4 (wE b P q) [c] else .inr (q, [c]) := hO.symm
  show AW G mX7_readTests (1 + 3) [(0, .ref (gz G + 3))] [] _ _
  refine aw_aload_n dX7_readTests_4 rfl rfl (by first | exact isR_ref _ | exact isR_rf _ | exact isR_null) ?_
  refine aw_cVv (as := []) dX7_readTests_5 lk_X7_29 cm_X7_readWord vi_X7_readWord (by unfold RO; decide) rfl (sC_k3 hC) (sC_n3 hC) rfl rfl rfl (Nat.le_of_ble_eq_true rfl) (r_word hC hT hP hP1 q2 _ _ _ _ _) ?_
  refine aw_iconst (v := nI 0) dX7_readTests_8 (by decide) ?_
  refine aw_istore_n (lv' := [(0, _), (1, _)]) dX7_readTests_9 rfl (by decide) rfl ?_
  cases hpt : pTest b P i 0 with
  | inl x =>
    rw [hpt] at q7 hp
    subst q7
    exact modeA 4 0 _ _ _ _ _ rfl hw'.2.1 hw'.2.2 q3 q4 (pTest_ne hpt) hp
  | inr qc =>
    obtain ⟨q', c⟩ := qc
    rw [hpt] at q7 hp
    obtain ⟨e1, e2, e3, e4⟩ := q7
    subst e1
    subst e2
    subst e3
    subst e4
    have hle := pTest_le hi hpt
    exact modeB 4 0 i' [c] _ rfl hle.1 rfl (Nat.le_of_ble_eq_true rfl) (fun j hj => by
      have hj0 : j = 0 := by simp at hj; exact hj
      subst hj0
      rfl) hp
theorem rS_u2 (I : Nat → Nat → Int32) (p : RSt) {r c : Nat} (x : Int32) (h : r ≠ 3) (h2 : r ≠ 4) : u2 (rS I p) r c x = rS (u2 I r c x) p := by
  funext a b
  unfold u2 rS
  by_cases ha : a = r
  · subst ha
    by_cases hb : b = c
    · subst hb
      simp [h, h2]
    · simp [hb]
  · simp [ha]
def QTape (n sz : Nat) (kd : Nat → AKd) (I : Nat → Nat → Int32) (R : Nat → Nat → Option Nat) (J : Nat → Nat → Int64) (o : Nat ⊕ (List Nat × Nat)) (v' : Option Value) (M' : Mem) : Prop :=
  ∃ t' fo' f' i' s' rd', v' = some (.int (nI f')) ∧ M' = (n, sz, kd, rS I (nI t', fo', nI f', i', s', rd'), R, J) ∧ f' < 2000 ∧ match o with
    | .inl x => f' = x ∧ x ≠ 0
    | .inr (cs, v) => f' = 0 ∧ t' = cs.length ∧ rdOf rd' cs ∧ fo' = nI v
theorem r_tape (hG : StP G ad av fx) (hC : ShC G n kd R) {b : Nat → Nat} (hT : TC I b) {P : Nat} (hP : I 1 1 = nI P) (hP1 : P ≤ 100) : MM G mX7_readTape [.ref (gz G + 3)] (n, sz, kd, I, R, J) (QTape n sz kd I R J (pText b P)) := by
  refine mm_of rfl [(0, .ref (gz G + 3))] rfl (Nat.le_of_ble_eq_true rfl) ?_
  have hw := wSE b (Nat.zero_le P)
  -- from 'to' on
  have ends : ∀ (i s t f : Nat) (fo : Int32) (rd : Nat → Int32), s ≤ i → i ≤ P → f < 2000 → (f ≠ 0 → pText b P = .inl f) → (f = 0 → ∃ q cs, q ≤ P ∧ s = wS b P q ∧ i = wE b P q ∧ t = cs.length ∧ rdOf rd cs ∧ pText b P = pEnd b P q cs) → AW G mX7_readTape 56 [(0, .ref (gz G + 3))] [] (n, sz, kd, rS I (nI t, fo, nI f, nI i, nI s, rd), R, J) (QTape n sz kd I R J (pText b P)) := by
    intro i s t f fo rd hs hi hf hne h0
    refine aw_aload_n dX7_readTape_56 rfl rfl (by first | exact isR_ref _ | exact isR_rf _ | exact isR_null) ?_
    refine aw_ldcS dX7_readTape_57 (fun U h => ((hG U h).1 3 (by decide)).2.2.2.2) ?_
    refine aw_cVx (as := [_]) dX7_readTape_59 lk_X7_34 cm_X7_wordIs vi_X7_wordIs (by unfold RO; decide) rfl (sC_k3 hC) (sC_n3 hC) rfl rfl rfl (Nat.le_of_ble_eq_true rfl) (r_wordIs hG hC hT (w := 3) hP1 hs hi (by decide) _ _ _ _) ?_
    rw [wIs_code (by decide)]
    have hws := wSE b hi
    have hrd := run_le (q := isDg b) (P := P) (i := wS b P i) (by omega)
    have hwe := wSE b hrd.2
    -- the number and the end, with FAULT f1
    have num : ∀ f1 s1, f1 < 2000 → (∀ f2, f2 = (if wS b P (run (isDg b) P (wS b P i)) < P then bl (nfF f1 b (wS b P i) (run (isDg b) P (wS b P i)) 7) (wS b P (run (isDg b) P (wS b P i))) 3 else nfF f1 b (wS b P i) (run (isDg b) P (wS b P i)) 7) → match pText b P with
        | .inl x => f2 = x ∧ x ≠ 0
        | .inr (cs, v) => f2 = 0 ∧ t = cs.length ∧ rdOf rd cs ∧ nI (cdv b (wS b P i) (run (isDg b) P (wS b P i) - wS b P i)) = nI v) → AW G mX7_readTape 70 [(0, .ref (gz G + 3))] [] (n, sz, kd, rS I (nI t, fo, nI f1, nI i, nI s1, rd), R, J) (QTape n sz kd I R J (pText b P)) := by
      intro f1 s1 hf1 hfin
      have hn1 := nfF_lt (b := b) (s := wS b P i) (e := run (isDg b) P (wS b P i)) (g := 7) hf1 (by omega)
      refine aw_aload_n dX7_readTape_70 rfl rfl (by first | exact isR_ref _ | exact isR_rf _ | exact isR_null) ?_
      refine aw_aload_n dX7_readTape_71 rfl rfl (by first | exact isR_ref _ | exact isR_rf _ | exact isR_null) ?_
      refine aw_bipush (v := nI 7) dX7_readTape_72 (by decide) ?_
      refine aw_cVx (as := [_]) dX7_readTape_74 lk_X7_49 cm_X7_readNumber vi_X7_readNumber (by unfold RO; decide) rfl (sC_k3 hC) (sC_n3 hC) rfl rfl rfl (Nat.le_of_ble_eq_true rfl) (r_number hC hT hf1 (by decide) hP hP1 hi _ _ _ _) ?_
      refine aw_putI dX7_readTape_77 fl_X7_53 (Or.inl rfl) rfl (sC_k3 hC) (sC_n3 hC) ?_
      rw [rS_fo]
      refine aw_aload_n dX7_readTape_80 rfl rfl (by first | exact isR_ref _ | exact isR_rf _ | exact isR_null) ?_
      refine aw_cVv (as := []) dX7_readTape_81 lk_X7_56 cm_X7_readEnd vi_X7_readEnd (by unfold RO; decide) rfl (sC_k3 hC) (sC_n3 hC) rfl rfl rfl (Nat.le_of_ble_eq_true rfl) (r_end hC hT (by omega) hP hP1 hrd.2 _ _ _ _) ?_
      refine aw_aload_n dX7_readTape_84 rfl rfl (by first | exact isR_ref _ | exact isR_rf _ | exact isR_null) ?_
      refine aw_get dX7_readTape_85 fl_X7_26 (sC_k3 hC) (sC_n3 hC) (show _ = Value.int (nI (if wS b P (run (isDg b) P (wS b P i)) < P then bl (nfF f1 b (wS b P i) (run (isDg b) P (wS b P i)) 7) (wS b P (run (isDg b) P (wS b P i))) 3 else nfF f1 b (wS b P i) (run (isDg b) P (wS b P i)) 7)) from rfl) ?_
      refine aw_iret dX7_readTape_88 rfl rfl ?_
      refine ⟨_, _, _, _, _, _, rfl, rfl, ?_, hfin _ rfl⟩
      split
      · exact bl_lt hn1 (by omega) (by decide)
      · exact hn1
    by_cases hf0 : f = 0
    · subst hf0
      obtain ⟨q, cs, hq, rfl, rfl, rfl, hrds, hpe⟩ := h0 rfl
      unfold pEnd at hpe
      refine aw_b_ne (tgt := 70) dX7_readTape_62 (by decide) rfl (fun h3 => ?_) (fun h3 => ?_)
      · have h3 : wC b P q = some 3 := of_decide_eq_true h3
        rw [if_pos h3] at hpe
        refine num 0 _ (by decide) (fun f2 h2 => ?_)
        have hpn := pNum_cls (b := b) (P := P) (i := wE b P q) (g := 7) hi
        cases hx : pNum b P (wE b P q) 7 with
        | inl x =>
          rw [hx] at hpn hpe
          have hpn : nfF 0 b (wS b P (wE b P q)) (run (isDg b) P (wS b P (wE b P q))) 7 = x := hpn
          rw [hpe]
          have hx0 := pNum_ne hx
          refine ⟨?_, hx0⟩
          rw [h2, hpn, bl_ne hx0]
          split <;> rfl
        | inr vq =>
          obtain ⟨v, q2⟩ := vq
          rw [hx] at hpn hpe
          obtain ⟨e1, e2, e3⟩ := hpn
          dsimp only at hpe
          rw [hpe, h2, e1]
          by_cases hz : wS b P q2 < P
          · rw [if_pos hz]
            rw [e2] at hz ⊢
            rw [if_pos hz]
            exact ⟨rfl, by omega⟩
          · rw [if_neg hz]
            rw [e2] at hz
            rw [if_neg hz]
            exact ⟨rfl, rfl, hrds, by rw [e3, e2]⟩
      · have h3 : ¬ wC b P q = some 3 := of_decide_eq_false h3
        rw [if_neg h3] at hpe
        refine aw_aload_n dX7_readTape_65 rfl rfl (by first | exact isR_ref _ | exact isR_rf _ | exact isR_null) ?_
        refine aw_iconst (v := nI 0) dX7_readTape_66 (by decide) ?_
        refine aw_cVv (as := [_]) dX7_readTape_67 lk_X7_43 cm_X7_blame vi_X7_blame (by unfold RO; decide) rfl (sC_k3 hC) (sC_n3 hC) rfl rfl rfl (Nat.le_of_ble_eq_true rfl) (r_blame hC (by decide) _ _ _ _) ?_
        refine num (bl 0 (wS b P q) 0) _ (bl_lt (by decide) (by omega) (by decide)) (fun f2 h2 => ?_)
        have hb0 : bl 0 (wS b P q) 0 ≠ 0 := by unfold bl; rw [if_pos rfl]; omega
        rw [hpe, h2, nfF_ne hb0, bl_ne hb0]
        refine ⟨?_, by omega⟩
        split <;> rfl
    · have hpe := hne hf0
      have go : ∀ f1, f1 = f → ∀ f2, f2 = (if wS b P (run (isDg b) P (wS b P i)) < P then bl (nfF f1 b (wS b P i) (run (isDg b) P (wS b P i)) 7) (wS b P (run (isDg b) P (wS b P i))) 3 else nfF f1 b (wS b P i) (run (isDg b) P (wS b P i)) 7) → match pText b P with
          | .inl x => f2 = x ∧ x ≠ 0
          | .inr (cs, v) => f2 = 0 ∧ t = cs.length ∧ rdOf rd cs ∧ nI (cdv b (wS b P i) (run (isDg b) P (wS b P i) - wS b P i)) = nI v := by
        intro f1 e1 f2 h2
        subst e1
        rw [hpe, h2, nfF_ne hf0, bl_ne hf0]
        refine ⟨?_, hf0⟩
        split <;> rfl
      refine aw_b_ne (tgt := 70) dX7_readTape_62 (by decide) rfl (fun h3 => ?_) (fun h3 => ?_)
      · exact num f _ hf (go f rfl)
      · refine aw_aload_n dX7_readTape_65 rfl rfl (by first | exact isR_ref _ | exact isR_rf _ | exact isR_null) ?_
        refine aw_iconst (v := nI 0) dX7_readTape_66 (by decide) ?_
        refine aw_cVv (as := [_]) dX7_readTape_67 lk_X7_43 cm_X7_blame vi_X7_blame (by unfold RO; decide) rfl (sC_k3 hC) (sC_n3 hC) rfl rfl rfl (Nat.le_of_ble_eq_true rfl) (r_blame hC (by omega) _ _ _ _) ?_
        exact num (bl f s 0) _ (bl_lt hf (by omega) (by decide)) (go _ (bl_ne hf0))
  refine aw_I (I' := rS I (I 3 2, I 3 3, I 3 4, I 3 5, I 3 6, I 4)) (rS_own I).symm ?_
  refine aw_aload_n dX7_readTape_0 rfl rfl (by first | exact isR_ref _ | exact isR_rf _ | exact isR_null) ?_
  refine aw_iconst (v := nI 0) dX7_readTape_1 (by decide) ?_
  refine aw_putI dX7_readTape_2 fl_X7_19 (Or.inl rfl) rfl (sC_k3 hC) (sC_n3 hC) ?_
  refine aw_aload_n dX7_readTape_5 rfl rfl (by first | exact isR_ref _ | exact isR_rf _ | exact isR_null) ?_
  refine aw_iconst (v := nI 0) dX7_readTape_6 (by decide) ?_
  refine aw_putI dX7_readTape_7 fl_X7_23 (Or.inl rfl) rfl (sC_k3 hC) (sC_n3 hC) ?_
  refine aw_aload_n dX7_readTape_10 rfl rfl (by first | exact isR_ref _ | exact isR_rf _ | exact isR_null) ?_
  refine aw_iconst (v := nI 0) dX7_readTape_11 (by decide) ?_
  refine aw_putI dX7_readTape_12 fl_X7_26 (Or.inl rfl) rfl (sC_k3 hC) (sC_n3 hC) ?_
  rw [rS_at, rS_ts, rS_ft]
  refine aw_aload_n dX7_readTape_15 rfl rfl (by first | exact isR_ref _ | exact isR_rf _ | exact isR_null) ?_
  refine aw_cVv (as := []) dX7_readTape_16 lk_X7_29 cm_X7_readWord vi_X7_readWord (by unfold RO; decide) rfl (sC_k3 hC) (sC_n3 hC) rfl rfl rfl (Nat.le_of_ble_eq_true rfl) (r_word hC hT hP hP1 (Nat.zero_le _) _ _ _ _ _) ?_
  refine aw_aload_n dX7_readTape_19 rfl rfl (by first | exact isR_ref _ | exact isR_rf _ | exact isR_null) ?_
  refine aw_ldcS dX7_readTape_20 (fun U h => ((hG U h).1 1 (by decide)).2.2.2.2) ?_
  refine aw_cVx (as := [_]) dX7_readTape_22 lk_X7_34 cm_X7_wordIs vi_X7_wordIs (by unfold RO; decide) rfl (sC_k3 hC) (sC_n3 hC) rfl rfl rfl (Nat.le_of_ble_eq_true rfl) (r_wordIs hG hC hT (w := 1) hP1 hw.2.1 hw.2.2 (by decide) _ _ _ _) ?_
  rw [wIs_code (by decide)]
  have hpt0 : pText b P = match wC b P 0 with
    | some 0 => pEnd b P (wE b P 0) []
    | some 1 => match pTs b P 5 (wE b P 0) [] with
      | .inl x => .inl x
      | .inr (i, cs) => pEnd b P i cs
    | _ => .inl (1 + 8 * wS b P 0) := rfl
  refine aw_b_eq (tgt := 35) dX7_readTape_25 (by decide) rfl (fun h1 => ?_) (fun h1 => ?_)
  · have h1 : ¬ wC b P 0 = some 1 := of_decide_eq_false h1
    refine aw_aload_n dX7_readTape_35 rfl rfl (by first | exact isR_ref _ | exact isR_rf _ | exact isR_null) ?_
    refine aw_ldcS dX7_readTape_36 (fun U h => ((hG U h).1 0 (by decide)).2.2.2.2) ?_
    refine aw_cVx (as := [_]) dX7_readTape_38 lk_X7_34 cm_X7_wordIs vi_X7_wordIs (by unfold RO; decide) rfl (sC_k3 hC) (sC_n3 hC) rfl rfl rfl (Nat.le_of_ble_eq_true rfl) (r_wordIs hG hC hT (w := 0) hP1 hw.2.1 hw.2.2 (by decide) _ _ _ _) ?_
    rw [wIs_code (by decide)]
    refine aw_b_eq (tgt := 51) dX7_readTape_41 (by decide) rfl (fun h2 => ?_) (fun h2 => ?_)
    · have h2 : ¬ wC b P 0 = some 0 := of_decide_eq_false h2
      have hpe : pText b P = .inl (1 + 8 * wS b P 0) := by
        rw [hpt0]
        cases hc : wC b P 0 with
        | none => rfl
        | some w =>
          rw [hc] at h1 h2
          match w, h1, h2 with
          | 0, _, h2 => exact absurd rfl h2
          | 1, h1, _ => exact absurd rfl h1
          | w + 2, _, _ => rfl
      refine aw_aload_n dX7_readTape_51 rfl rfl (by first | exact isR_ref _ | exact isR_rf _ | exact isR_null) ?_
      refine aw_iconst (v := nI 0) dX7_readTape_52 (by decide) ?_
      refine aw_cVv (as := [_]) dX7_readTape_53 lk_X7_43 cm_X7_blame vi_X7_blame (by unfold RO; decide) rfl (sC_k3 hC) (sC_n3 hC) rfl rfl rfl (Nat.le_of_ble_eq_true rfl) (r_blame hC (by decide) _ _ _ _) ?_
      refine ends _ _ 0 (bl 0 (wS b P 0) 0) _ _ hw.2.1 hw.2.2 (bl_lt (by decide) (by omega) (by decide)) (fun _ => hpe) (fun z => ?_)
      unfold bl at z
      rw [if_pos rfl] at z
      omega
    · have h2 : wC b P 0 = some 0 := of_decide_eq_true h2
      rw [h2] at hpt0
      have hw2 := wSE b hw.2.2
      refine aw_aload_n dX7_readTape_44 rfl rfl (by first | exact isR_ref _ | exact isR_rf _ | exact isR_null) ?_
      refine aw_cVv (as := []) dX7_readTape_45 lk_X7_29 cm_X7_readWord vi_X7_readWord (by unfold RO; decide) rfl (sC_k3 hC) (sC_n3 hC) rfl rfl rfl (Nat.le_of_ble_eq_true rfl) (r_word hC hT hP hP1 hw.2.2 _ _ _ _ _) ?_
      refine aw_goto (tgt := 56) dX7_readTape_48 (by decide) ?_
      exact ends _ _ 0 0 _ _ hw2.2.1 hw2.2.2 (by decide) (fun z => absurd rfl z) (fun _ => ⟨_, [], hw.2.2, rfl, rfl, rfl, (fun j hj => absurd hj (Nat.not_lt_zero j)), hpt0⟩)
  · have h1 : wC b P 0 = some 1 := of_decide_eq_true h1
    rw [h1] at hpt0
    refine aw_aload_n dX7_readTape_28 rfl rfl (by first | exact isR_ref _ | exact isR_rf _ | exact isR_null) ?_
    refine aw_callV (as := []) dX7_readTape_29 lk_X7_38 cm_X7_readTests vi_X7_readTests (by unfold RO; decide) rfl (sC_k3 hC) (sC_n3 hC) rfl rfl rfl (Nat.le_of_ble_eq_true rfl) (r_tests hG hC hT hP hP1 hw.2.2 _ _ _) ?_
    intro v' M' hqq
    obtain ⟨rfl, i', s', t', f', rd', rfl, q1, q2, q3, q4, q5⟩ := hqq
    show AW G mX7_readTape (29 + 3) [(0, .ref (gz G + 3))] [] _ _
    refine aw_goto (tgt := 56) dX7_readTape_32 (by decide) ?_
    cases hpx : pTs b P 5 (wE b P 0) [] with
    | inl x =>
      rw [hpx] at hpt0 q5
      obtain ⟨rfl, hx0⟩ := q5
      exact ends _ _ _ _ _ _ q1 q2 q4 (fun _ => hpt0) (fun z => absurd z hx0)
    | inr qc =>
      obtain ⟨q, cs⟩ := qc
      rw [hpx] at hpt0 q5
      obtain ⟨rfl, hq, rfl, rfl, rfl, hrds⟩ := q5
      exact ends _ _ _ _ _ _ q1 q2 q4 (fun z => absurd rfl z) (fun _ => ⟨q, cs, hq, rfl, rfl, rfl, hrds, hpt0⟩)
end RD3
