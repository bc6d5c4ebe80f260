section LOOP
variable {G : GG} {n sz : Nat} {kd : KD} {I : II} {R : RR} {J : JJ} {em mi : Nat} {b L : Nat} {xs : Nat → Int32} {ad av : Nat → Nat} {fx : Option Nat}
def QL (v : Option Value) (_ : Mem) : Prop := v = some (.int 1)
theorem loop_in {L k : Nat} (hL : L ≤ 3072) (hk : k ≤ 512) (h : ¬ nI L - nI 6 < nI (6 * k)) : 6 * k + 6 ≤ L := by
  have h2 := Int32.not_lt.mp h
  rw [Int32.le_iff_toInt_le, pk_sub_toInt (by omega) (by omega)] at h2
  have e : (nI (6 * k)).toInt = ((6 * k : Nat) : Int) := by
    have := pk_sub_toInt (a := 6 * k) (b := 0) (by omega) (by decide)
    rw [show nI (6 * k) - nI 0 = nI (6 * k) by rw [pk_sub (Nat.zero_le _)]; rfl] at this
    omega
  rw [e] at h2
  omega
theorem law_loop (hS : StP G ad av fx) (hG : LsP G em mi) (hL : L ≤ 3072) (hX : XS G b L xs) : ∀ d k, 512 ≤ k + d → k ≤ 512 → ∀ n sz kd I R J, RC G em k n sz kd I R J I → AW G mL_law 18 [(0, .ref b), (1, .ref (gz G + 0)), (2, .ref (gz G + 22)), (3, .int (nI (6 * k)))] [] (n, sz, kd, I, R, J) QL := by
  intro d
  induction d with
  | zero =>
    intro k hd hk n sz kd I R J h
    refine aw_iload_n dL_law_18 rfl rfl ?_
    refine aw_aload_n dL_law_19 rfl rfl (by first | exact isR_ref _ | exact isR_rf _ | exact isR_null) ?_
    refine aw_alenX dL_law_20 hX ?_
    refine aw_bipush (v := nI 6) dL_law_21 (by decide) ?_
    refine aw_isub dL_law_23 ?_
    refine aw_icmp_gt (tgt := 684) dL_law_24 (by decide) (fun hg => ?_) (fun hg => ?_)
    · refine aw_iconst (v := nI 1) dL_law_684 (by decide) ?_
      refine aw_iret dL_law_685 rfl rfl ?_
      exact rfl
    · have := loop_in hL hk hg
      omega
  | succ d ih =>
    intro k hd hk n sz kd I R J h
    refine aw_iload_n dL_law_18 rfl rfl ?_
    refine aw_aload_n dL_law_19 rfl rfl (by first | exact isR_ref _ | exact isR_rf _ | exact isR_null) ?_
    refine aw_alenX dL_law_20 hX ?_
    refine aw_bipush (v := nI 6) dL_law_21 (by decide) ?_
    refine aw_isub dL_law_23 ?_
    refine aw_icmp_gt (tgt := 684) dL_law_24 (by decide) (fun hg => ?_) (fun hg => ?_)
    · refine aw_iconst (v := nI 1) dL_law_684 (by decide) ?_
      refine aw_iret dL_law_685 rfl rfl ?_
      exact rfl
    · have hkL := loop_in hL hk hg
      have T : TL G em b k QL := by
        intro n sz kd I R J h'
        first | refine aw_iincN (c := 6) (lv' := [(0, _), (1, _), (2, _), (3, _)]) dL_law_678 rfl (by decide) rfl rfl ?_ | refine aw_iinc (v := 6) (lv' := [(0, _), (1, _), (2, _), (3, _)]) dL_law_678 rfl (by decide) (by decide) rfl ?_
        refine aw_goto (tgt := 18) dL_law_681 (by decide) ?_
        have k' := ih (k + 1) (by omega) (by omega) n sz kd I R J h'
        rw [show 6 * (k + 1) = 6 * k + 6 by omega] at k'
        exact k'
      refine aw_aload_n dL_law_27 rfl rfl (by first | exact isR_ref _ | exact isR_rf _ | exact isR_null) ?_
      refine aw_iload_n dL_law_28 rfl rfl ?_
      refine aw_ialdX dL_law_29 hX (ixm (by omega) (by omega)) ?_
      refine aw_bipush (v := nI 31) dL_law_30 (by decide) ?_
      refine aw_iand dL_law_32 ?_
      refine aw_ts (N := 20) (tgd := 678) (tg := fun j => match j with | 0 => 128 | 1 => 191 | 2 => 214 | 3 => 227 | 4 => 250 | 5 => 303 | 6 => 336 | 7 => 349 | 8 => 382 | 9 => 395 | 10 => 418 | 11 => 441 | 12 => 474 | 13 => 507 | 14 => 540 | 15 => 573 | 16 => 596 | 17 => 619 | 18 => 632 | _ => 655) dL_law_33 (by decide) (by decide) (by decide) (fun hs => ?_) (fun hsj hs => ?_)
      · exact T n sz kd I R J h.next
      · obtain ⟨-, -, hj⟩ := rgl_some hs
        match hsj, hj with
        | 0, _ => exact lc_feed hL hX hkL T h
        | 1, _ => exact lc_end hL hX hkL T h
        | 2, _ => exact lc_hand hS hL hX hkL T h
        | 3, _ => exact lc_drop hL hX hkL T h
        | 4, _ => exact lc_letter hL hX hkL T h
        | 5, _ => exact lc_move hL hX hkL T h
        | 6, _ => exact lc_undo hL hX hkL T h
        | 7, _ => exact lc_cost hL hX hkL T h
        | 8, _ => exact lc_learn hG hL hX hkL T h
        | 9, _ => exact lc_learnt hL hX hkL T h
        | 10, _ => exact lc_fade hL hX hkL T h
        | 11, _ => exact lc_rule hL hX hkL T h
        | 12, _ => exact lc_record hL hX hkL T h
        | 13, _ => exact lc_both hL hX hkL T h
        | 14, _ => exact lc_about hL hX hkL T h
        | 15, _ => exact lc_heap hL hX hkL T h
        | 16, _ => exact lc_heaped hL hX hkL T h
        | 17, _ => exact lc_again hL hX hkL T h
        | 18, _ => exact lc_differs hL hX hkL T h
        | 19, _ => exact lc_count hL hX hkL T h
        | j + 20, hj => exact absurd hj (by omega)
theorem no7 : ∀ i, i < 22 → ctab i ≠ .inl 7 := by decide +kernel
theorem sb0 : sb_b 0 = nI 0 := by decide
theorem rc_start {sz2 : Nat} {kd1 kd2 : KD} {I1 I2 : II} {R1 R2 : RR} {J2 : JJ} (hs : sz2 ≤ 12000)
    (k1 : ∀ i, i < 22 → kd1 i = ctab i) (c1 : ∀ i, i < 23 → R1 (cref i).1 (cref i).2.1 = some (gz G + (cref i).2.2)) (e17 : R1 17 1 = some em) (h6 : ∀ h, R1 6 h = none) (a1 : I1 1 1 = nI 0) (a2 : ∀ i, I1 2 i = nI 0) (a5 : I1 5 2 = nI 0) (a8 : I1 8 1 = nI 0) (a10 : I1 10 3 = nI 0) (b0 : I1 14 0 = nI 3) (b1 : I1 14 1 = nI 1) (b2 : ∀ f, f < 8 → I1 15 f = nI (if f = 7 then 10 else 2)) (a16 : I1 16 2 = nI 0 ∧ I1 16 3 = nI 0 ∧ I1 16 4 = nI 0 ∧ I1 16 5 = nI 0 ∧ I1 16 6 = nI 0 ∧ I1 16 7 = nI 0) (a17 : I1 17 2 = nI 0)
    (old : ∀ a, a < 22 → kd2 a = kd1 a ∧ I2 a = I1 a ∧ R2 a = R1 a) (k22 : kd2 22 = .inl 11) (k23 : ∀ i, i < 29 → kd2 (23 + i) = .inr (mtab i)) (r22 : ∀ i, i < 29 → R2 22 (mfld i) = some (gz G + (23 + i))) (z22 : ∀ c, c ≠ 23 → c ≠ 24 → I2 22 c = nI 0) (z1 : I2 22 23 = nI 3) (z2 : I2 22 24 = nI 1) (z42 : ∀ f, f < 8 → I2 42 f = nI (if f = 7 then 10 else 2)) (z48 : ∀ i, i < 45 → I2 48 i = nI (kwb i)) (zz : ∀ a, 23 ≤ a → a < 52 → a ≠ 42 → a ≠ 48 → ∀ j, I2 a j = nI 0) : RC G em 0 52 sz2 kd2 I2 R2 J2 I2 := by
  have oI := fun a (h : a < 22) => (old a h).2.1
  have oR := fun a (h : a < 22) => (old a h).2.2
  have no : ∀ r, ¬ iO 52 kd2 r 7 := fun r hr => by
    by_cases h : r < 22
    · have := hr.1
      rw [(old r h).1, k1 r h] at this
      exact no7 r h this
    · by_cases h2 : r = 22
      · have := hr.1
        rw [h2, k22] at this
        cases this
      · obtain ⟨i, rfl⟩ : ∃ i, r = 23 + i := ⟨r - 23, by omega⟩
        have := hr.1
        rw [k23 i (by have := hr.2; omega)] at this
        cases this
  have t0 : ∀ x : Int32, x = nI 0 → tn x = 0 := fun x hx => by rw [hx]; rfl
  have bz : ∀ (x : Int32) (m : Nat), x = nI 0 → bN x m := fun x m hx => ⟨0, Nat.zero_le m, hx⟩
  have fw : ∀ f, f < 8 → bN (nI (if f = 7 then 10 else 2)) 1000 := fun f _ => bN_nI (by split <;> decide)
  refine ⟨fun _ => 0, 0, 0, 0, fun _ => 0, fun _ => (0, none, 0), ⟨⟨Nat.le_refl _, fun i hi => by rw [(old i hi).1]; exact k1 i hi, fun i hi => by have := cref_lt i hi; rw [oR _ (by omega)]; exact c1 i hi⟩, ⟨Nat.le_refl _, k22, k23, r22⟩, ⟨bz _ _ (z22 _ (by decide) (by decide)), bz _ _ (z22 _ (by decide) (by decide)), fun h _ => bz _ _ (zz _ (by decide) (by decide) (by decide) (by decide) h), fun h _ => bz _ _ (zz _ (by decide) (by decide) (by decide) (by decide) h), bz _ _ (z22 _ (by decide) (by decide)), bz _ _ (z22 _ (by decide) (by decide)), fun h _ => bz _ _ (zz _ (by decide) (by decide) (by decide) (by decide) h), fun h _ => Or.inr (bz _ _ (zz _ (by decide) (by decide) (by decide) (by decide) h))⟩, z48, ⟨fun r hr => absurd hr (no r), fun r r' hr => absurd hr (no r)⟩, ⟨?_, fun _ => 0, fun i hi => ⟨(by decide : 0 < 256), ?_⟩, fun i hi => ⟨(by decide : 0 < 256), ?_⟩⟩, ⟨?_, ?_, fun f hf => ?_, ?_, ?_, fun f hf => ?_⟩, ⟨?_, fun i hi => ?_⟩, ⟨?_, fun i hi => ?_, fun i j hi => ?_⟩, fun h hh => ⟨?_, fun ht => ?_⟩, ⟨?_, fun l hl => ?_⟩, ⟨⟨?_, Nat.le_refl _, by decide, fun i hi => absurd hi (Nat.not_lt_zero i), Or.inl ⟨rfl, rfl, ?_⟩⟩, z22 _ (by decide) (by decide), fun i hi => absurd hi (Nat.not_lt_zero i), fun q hq => ?_⟩, z22 _ (by decide) (by decide)⟩, ⟨?_, ?_, ?_, ?_, ?_, ?_⟩, by omega, by omega, by omega, by omega⟩
  · rw [oI 1 (by decide), a1, z22 _ (by decide) (by decide)]
  · rw [zz _ (by decide) (by decide) (by decide) (by decide), sb0]
  · rw [oI 2 (by decide)]; exact a2 i
  · rw [oI 14 (by decide), b0, z1]
  · rw [oI 14 (by decide), b1, z2]
  · rw [oI 15 (by decide), b2 f hf, z42 f hf]
  · rw [z1]; exact bN_nI (by decide)
  · rw [z2]; exact bN_nI (by decide)
  · rw [z42 f hf]; exact fw f hf
  · rw [oI 10 (by decide), a10, z22 _ (by decide) (by decide)]
  · rw [t0 _ (z22 _ (by decide) (by decide))] at hi; exact absurd hi (Nat.not_lt_zero i)
  · rw [oI 8 (by decide), a8]; unfold mN; rw [t0 _ (z22 _ (by decide) (by decide))]
  · unfold mN at hi; rw [t0 _ (z22 _ (by decide) (by decide))] at hi; exact absurd hi (Nat.not_lt_zero i)
  · unfold mN at hi; rw [t0 _ (z22 _ (by decide) (by decide))] at hi; exact absurd hi (Nat.not_lt_zero i)
  · rw [thC_n (by rw [oR 6 (by decide)]; exact h6 h)]
    unfold mth
    rw [zz _ (by decide) (by decide) (by decide) (by decide)]
    exact decide_eq_false (fun z => z rfl)
  · rw [thC_n (by rw [oR 6 (by decide)]; exact h6 h)] at ht; cases ht
  · rw [oI 5 (by decide), a5]; unfold mL; rw [t0 _ (z22 _ (by decide) (by decide))]
  · unfold mL at hl; rw [t0 _ (z22 _ (by decide) (by decide))] at hl; exact absurd hl (Nat.not_lt_zero l)
  · rw [oI 17 (by decide)]; exact a17
  · rw [oR 17 (by decide)]; exact e17
  · rw [zz _ (by decide) (by decide) (by decide) (by decide)]; rfl
  · rw [oI 16 (by decide), a16.1, z22 _ (by decide) (by decide)]
  · rw [oI 16 (by decide), a16.2.1, z22 _ (by decide) (by decide)]
  · rw [oI 16 (by decide), a16.2.2.1, z22 _ (by decide) (by decide)]
  · rw [oI 16 (by decide), a16.2.2.2.1, z22 _ (by decide) (by decide)]
  · rw [oI 16 (by decide), a16.2.2.2.2.1, z22 _ (by decide) (by decide)]
  · rw [oI 16 (by decide), a16.2.2.2.2.2, z22 _ (by decide) (by decide)]
theorem law_start (hS : StP G ad av fx) (hG : LsP G em mi) (hL : L ≤ 3072) (hX : XS G b L xs) : AW G mL_law 0 [(0, .ref b)] [] (0, 0, kd, I, R, J) QL := by
  refine aw_new dL_law_0 cf_X9 (List.mem_of_getElem? (i := 76) (by decide +kernel)) (List.mem_of_getElem? (i := 77) (by decide +kernel)) (List.mem_of_getElem? (i := 53) (by decide +kernel)) (by show _ ≤ 600000; omega) (by show _ + 7 ≤ 7302250; omega) ?_
  refine aw_dup dL_law_3 rfl ?_
  refine aw_mem (M' := (1, 7, _, _, _, _)) rfl ?_
  refine aw_callI (as := []) dL_law_4 lk_L_9 cm_X9_init im_X9_init (by unfold RO; decide) rfl rfl (Nat.le_of_ble_eq_true rfl) (i_class (sz := 7) hG (vz_up_same _ _ _) (by decide) (vz_up_same _ _ _)) ?_
  intro v' M' hq
  obtain ⟨rfl, sz1, kd1, I1, R1, J1, rfl, s1, k1, c1, e17, h6, a1, a2, a5, a8, a10, b0, b1, b2, a16, a17⟩ := hq
  refine aw_astore_n (lv' := [(0, _), (1, _)]) dL_law_7 rfl (by decide) rfl ?_
  refine aw_new dL_law_8 cf_X10 (List.mem_of_getElem? (i := 815) (by decide +kernel)) (List.mem_of_getElem? (i := 816) (by decide +kernel)) (List.mem_of_getElem? (i := 64) (by decide +kernel)) (by show _ ≤ 600000; omega) (by show _ + 53 ≤ 7302250; omega) ?_
  refine aw_dup dL_law_11 rfl ?_
  refine aw_mem (M' := (23, sz1 + 53, _, _, _, _)) rfl ?_
  refine aw_callI (as := []) dL_law_12 lk_L_12 cm_X10_init im_X10_init (by unfold RO; decide) rfl rfl (Nat.le_of_ble_eq_true rfl) (i_model (vz_up_same _ _ _) (by omega) (vz_up_same _ _ _)) ?_
  intro v' M' hq
  obtain ⟨rfl, sz2, kd2, I2, R2, J2, rfl, s2, old, k22, k23, r22, z22, z1, z2, z42, z48, zz⟩ := hq
  refine aw_astore_n (lv' := [(0, _), (1, _), (2, _)]) dL_law_15 rfl (by decide) rfl ?_
  refine aw_iconst (v := nI 0) dL_law_16 (by decide) ?_
  refine aw_istore_n (lv' := [(0, _), (1, _), (2, _), (3, _)]) dL_law_17 rfl (by decide) rfl ?_
  exact law_loop hS hG hL hX 512 0 (by decide) (by decide) 52 sz2 kd2 I2 R2 J2 (rc_start (by omega) k1 c1 e17 h6 a1 a2 a5 a8 a10 b0 b1 b2 a16 a17 (fun a ha => by
    obtain ⟨w1, w2, w3⟩ := old a ha
    exact ⟨by rw [w1, vz_up_ne _ _ (by omega)], by rw [w2, vz_up_ne _ _ (by omega)], by rw [w3, vz_up_ne _ _ (by omega)]⟩) k22 k23 r22 z22 z1 z2 z42 z48 zz)
end LOOP
