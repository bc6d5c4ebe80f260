section LAW1
variable {G : GG} {n n' sz : Nat} {kd kd' : KD} {I I' Z Z' : II} {R R' : RR} {J J' : JJ} {em mi K cap hm : Nat} {u : Nat → Int32} {kn : Nat → Nat} {key : Nat → Key} {b L k : Nat} {xs : Nat → Int32} {Q : Option Value → Mem → Prop}
theorem aw_ialdX {y : MI} {pc : Nat} {lv : List (Nat × Value)} {st : List Value} {M : Mem} {N a j : Nat} {f : Nat → Int32} {i : Int32} (hd : decode y.2.1 pc = .ok (.iaload, 1)) (hZ : ∀ U, gP G U → va_T .int a N (fun j => .int (f j)) (fun q => gz G ≤ q) U (gH G)) (hi : ix i j N) (Kk : AW G y (pc + 1) lv (.int (f j) :: st) M Q) : AW G y pc lv (.int i :: .ref a :: st) M Q := by
  intro M0 p e s m args below meth c C H locs ls hR hS hl
  obtain ⟨hx, hb, hret, hml, hown, hlocks, hname, hK, h0⟩ := id C
  obtain ⟨cell, h1, h2, h3, h4, h5, h6, h7⟩ := (hZ s hK.2.2.2.1).kept (zz_keep h0)
  exact W.iald hx hb (by rw [hS.2.1 a (Array.getElem?_eq_some_iff.mp h1).1 h7]; exact h1) h2 h3 (fun z => hi.vp (z.imp id (fun q => Nat.le_trans h4 q))) (by rw [hi.cl]; exact h6 j hi.2.1) rfl rfl hd (Kk M0 p e s m args below meth c C H locs ls hR hS hl)
theorem Core.zc (h : Core G em n kd I R J Z u K cap hm kn key) (hz : ∀ q, 22 ≤ q → q < 52 → Z' q = Z q) : Core G em n kd I R J Z' u K cap hm kn key := h.scr (fun _ _ _ _ _ _ => rfl) (fun _ _ _ => rfl) (fun q h1 h2 h3 => hz q (by omega) (by omega)) (fun c _ => by rw [hz 22 (by decide) (by decide)])
theorem Core.cls (h : Core G em n kd I R J Z u K cap hm kn key) (hI : ∀ q, q < 22 ∨ 52 ≤ q → I' q = I q) : Core G em n kd I' R J Z u K cap hm kn key := by
  have F : Fr n kd I R J n kd I' R J := ⟨Nat.le_refl n, fun a _ => rfl, fun a h1 _ _ => ⟨hI a (Or.inr h1), rfl, rfl⟩⟩
  have i := fun q (h1 : q < 22) => hI q (Or.inl h1)
  refine ⟨h.shC, h.shM, h.mb, h.kn', h.ur, ⟨?_, ?_⟩, ?_, ?_, h.le.fr h.ur F (by rw [i 8 (by decide)]) rfl rfl rfl rfl rfl rfl rfl rfl rfl rfl rfl (fun _ _ => rfl), h.ha.fr F.rul rfl rfl rfl rfl rfl rfl (fun _ _ => rfl), h.ln.fr F.rul (by rw [i 5 (by decide)]) rfl rfl rfl rfl rfl rfl (fun _ _ => rfl), h.kw.fr F.rul (h.kw.1.grow2 (Nat.le_refl n) (fun _ _ => rfl) (i 17 (by decide)) rfl (fun _ _ _ => rfl)) rfl rfl (fun _ _ => rfl), h.hm'⟩
  · rw [i 1 (by decide)]; exact h.tp.1
  · obtain ⟨b, b1, b2⟩ := h.tp.2
    exact ⟨b, b1, fun q hq => by rw [i 2 (by decide)]; exact b2 q hq⟩
  · unfold CoR
    rw [i 14 (by decide), i 15 (by decide)]
    exact h.co
  · unfold MvR
    rw [i 10 (by decide), i 11 (by decide), i 12 (by decide), i 13 (by decide)]
    exact h.mv
/-- both stand alike behind k calls -/
def RC (G : GG) (em k n sz : Nat) (kd : KD) (I : II) (R : RR) (J : JJ) (Z : II) : Prop := ∃ u K cap hm kn key, Core G em n kd I R J Z u K cap hm kn key ∧ RsR I Z ∧ K ≤ 6 * k ∧ hm ≤ k ∧ n ≤ 60 + 20 * k ∧ sz ≤ 12000 + 60 * k + 4 * cap
theorem RC.next (h : RC G em k n sz kd I R J Z) : RC G em (k + 1) n sz kd I R J Z := by
  obtain ⟨u, K, cap, hm, kn, key, a1, a2, a3, a4, a5, a6⟩ := h
  exact ⟨u, K, cap, hm, kn, key, a1, a2, by omega, by omega, by omega, by omega⟩
/-- where the law goes on -/
def TL (G : GG) (em b k : Nat) (Q : Option Value → Mem → Prop) : Prop := ∀ n sz kd I R J, RC G em (k + 1) n sz kd I R J I → AW G mL_law 678 [(0, .ref b), (1, .ref (gz G + 0)), (2, .ref (gz G + 22)), (3, .int (nI (6 * k)))] [] (n, sz, kd, I, R, J) Q
def XS (G : GG) (b L : Nat) (xs : Nat → Int32) : Prop := ∀ U, gP G U → va_T .int b L (fun j => .int (xs j)) (fun q => gz G ≤ q) U (gH G)
theorem lc_learnt (hL : L ≤ 3072) (hX : XS G b L xs) (hkL : 6 * k + 6 ≤ L) (T : TL G em b k Q) (h : RC G em k n sz kd I R J I) : AW G mL_law 395 [(0, .ref b), (1, .ref (gz G + 0)), (2, .ref (gz G + 22)), (3, .int (nI (6 * k)))] [] (n, sz, kd, I, R, J) Q := by
  obtain ⟨u, K, cap, hm, kn, key, h0, hrs, r1, r2, r3, r4⟩ := id h
  have hC := h0.shC
  have hM := h0.shM
  have hB := h0.mb
  have hV := h0.hv
  have hLn := h0.ln.1
  have hK := h0.kv
  have hN := h0.le.1
  have hW := h0.lv
  have hb : K ≤ 4000 ∧ hm ≤ 4000 := by omega
  refine aw_aload_n dL_law_395 rfl rfl (by first | exact isR_ref _ | exact isR_rf _ | exact isR_null) ?_
  refine aw_aload_n dL_law_396 rfl rfl (by first | exact isR_ref _ | exact isR_rf _ | exact isR_null) ?_
  refine aw_iload_n dL_law_397 rfl rfl ?_
  refine aw_iconst (v := nI 1) dL_law_398 (by decide) ?_
  first | refine aw_iaddN dL_law_399 ?_ | refine aw_iadd dL_law_399 ?_
  refine aw_ialdX dL_law_400 hX (ixm (by omega) (by omega)) ?_
  refine aw_cVx (as := [_]) dL_law_401 lk_L_56 cm_X9_learnt vi_X9_learnt (by unfold RO; decide) rfl (sC_k0 hC) (sC_n0 hC) rfl rfl rfl (Nat.le_of_ble_eq_true rfl) (c_learnt hC _) ?_
  refine aw_aload_n dL_law_404 rfl rfl (by first | exact isR_ref _ | exact isR_rf _ | exact isR_null) ?_
  refine aw_aload_n dL_law_405 rfl rfl (by first | exact isR_ref _ | exact isR_rf _ | exact isR_null) ?_
  refine aw_iload_n dL_law_406 rfl rfl ?_
  refine aw_iconst (v := nI 1) dL_law_407 (by decide) ?_
  first | refine aw_iaddN dL_law_408 ?_ | refine aw_iadd dL_law_408 ?_
  refine aw_ialdX dL_law_409 hX (ixm (by omega) (by omega)) ?_
  refine aw_cVx (as := [_]) dL_law_410 lk_L_59 cm_X10_learnt vi_X10_learnt (by unfold RO; decide) rfl (sM_kd hM) (sM_n hM) rfl rfl rfl (Nat.le_of_ble_eq_true rfl) (m_learnt hM _) ?_
  refine aw_icmp_eq (tgt := 678) dL_law_413 (by decide) (fun hne => ?_) (fun hne => ?_)
  · exact T n sz kd I R J h.next
  · exact absurd (learnt_eq hrs _) hne
theorem lc_rule (hL : L ≤ 3072) (hX : XS G b L xs) (hkL : 6 * k + 6 ≤ L) (T : TL G em b k Q) (h : RC G em k n sz kd I R J I) : AW G mL_law 441 [(0, .ref b), (1, .ref (gz G + 0)), (2, .ref (gz G + 22)), (3, .int (nI (6 * k)))] [] (n, sz, kd, I, R, J) Q := by
  obtain ⟨u, K, cap, hm, kn, key, h0, hrs, r1, r2, r3, r4⟩ := id h
  have hC := h0.shC
  have hM := h0.shM
  have hB := h0.mb
  have hV := h0.hv
  have hLn := h0.ln.1
  have hK := h0.kv
  have hN := h0.le.1
  have hW := h0.lv
  have hb : K ≤ 4000 ∧ hm ≤ 4000 := by omega
  refine aw_aload_n dL_law_441 rfl rfl (by first | exact isR_ref _ | exact isR_rf _ | exact isR_null) ?_
  refine aw_aload_n dL_law_442 rfl rfl (by first | exact isR_ref _ | exact isR_rf _ | exact isR_null) ?_
  refine aw_iload_n dL_law_443 rfl rfl ?_
  refine aw_iconst (v := nI 1) dL_law_444 (by decide) ?_
  first | refine aw_iaddN dL_law_445 ?_ | refine aw_iadd dL_law_445 ?_
  refine aw_ialdX dL_law_446 hX (ixm (by omega) (by omega)) ?_
  refine aw_aload_n dL_law_447 rfl rfl (by first | exact isR_ref _ | exact isR_rf _ | exact isR_null) ?_
  refine aw_iload_n dL_law_448 rfl rfl ?_
  refine aw_iconst (v := nI 2) dL_law_449 (by decide) ?_
  first | refine aw_iaddN dL_law_450 ?_ | refine aw_iadd dL_law_450 ?_
  refine aw_ialdX dL_law_451 hX (ixm (by omega) (by omega)) ?_
  refine aw_cVx (as := [_, _]) dL_law_452 lk_L_64 cm_X9_rule vi_X9_rule (by unfold RO; decide) rfl (sC_k0 hC) (sC_n0 hC) rfl rfl rfl (Nat.le_of_ble_eq_true rfl) (c_rule hC hV hLn hK _ _) ?_
  refine aw_aload_n dL_law_455 rfl rfl (by first | exact isR_ref _ | exact isR_rf _ | exact isR_null) ?_
  refine aw_aload_n dL_law_456 rfl rfl (by first | exact isR_ref _ | exact isR_rf _ | exact isR_null) ?_
  refine aw_iload_n dL_law_457 rfl rfl ?_
  refine aw_iconst (v := nI 1) dL_law_458 (by decide) ?_
  first | refine aw_iaddN dL_law_459 ?_ | refine aw_iadd dL_law_459 ?_
  refine aw_ialdX dL_law_460 hX (ixm (by omega) (by omega)) ?_
  refine aw_aload_n dL_law_461 rfl rfl (by first | exact isR_ref _ | exact isR_rf _ | exact isR_null) ?_
  refine aw_iload_n dL_law_462 rfl rfl ?_
  refine aw_iconst (v := nI 2) dL_law_463 (by decide) ?_
  first | refine aw_iaddN dL_law_464 ?_ | refine aw_iadd dL_law_464 ?_
  refine aw_ialdX dL_law_465 hX (ixm (by omega) (by omega)) ?_
  refine aw_cVx (as := [_, _]) dL_law_466 lk_L_67 cm_X10_rule vi_X10_rule (by unfold RO; decide) rfl (sM_kd hM) (sM_n hM) rfl rfl rfl (Nat.le_of_ble_eq_true rfl) (m_rule hM hB _ _) ?_
  refine aw_icmp_eq (tgt := 678) dL_law_469 (by decide) (fun hne => ?_) (fun hne => ?_)
  · exact T n sz kd I R J h.next
  · exact absurd (rule_eq h0 _ _) hne
theorem lc_record (hL : L ≤ 3072) (hX : XS G b L xs) (hkL : 6 * k + 6 ≤ L) (T : TL G em b k Q) (h : RC G em k n sz kd I R J I) : AW G mL_law 474 [(0, .ref b), (1, .ref (gz G + 0)), (2, .ref (gz G + 22)), (3, .int (nI (6 * k)))] [] (n, sz, kd, I, R, J) Q := by
  obtain ⟨u, K, cap, hm, kn, key, h0, hrs, r1, r2, r3, r4⟩ := id h
  have hC := h0.shC
  have hM := h0.shM
  have hB := h0.mb
  have hV := h0.hv
  have hLn := h0.ln.1
  have hK := h0.kv
  have hN := h0.le.1
  have hW := h0.lv
  have hb : K ≤ 4000 ∧ hm ≤ 4000 := by omega
  refine aw_aload_n dL_law_474 rfl rfl (by first | exact isR_ref _ | exact isR_rf _ | exact isR_null) ?_
  refine aw_aload_n dL_law_475 rfl rfl (by first | exact isR_ref _ | exact isR_rf _ | exact isR_null) ?_
  refine aw_iload_n dL_law_476 rfl rfl ?_
  refine aw_iconst (v := nI 1) dL_law_477 (by decide) ?_
  first | refine aw_iaddN dL_law_478 ?_ | refine aw_iadd dL_law_478 ?_
  refine aw_ialdX dL_law_479 hX (ixm (by omega) (by omega)) ?_
  refine aw_aload_n dL_law_480 rfl rfl (by first | exact isR_ref _ | exact isR_rf _ | exact isR_null) ?_
  refine aw_iload_n dL_law_481 rfl rfl ?_
  refine aw_iconst (v := nI 2) dL_law_482 (by decide) ?_
  first | refine aw_iaddN dL_law_483 ?_ | refine aw_iadd dL_law_483 ?_
  refine aw_ialdX dL_law_484 hX (ixm (by omega) (by omega)) ?_
  refine aw_cVx (as := [_, _]) dL_law_485 lk_L_68 cm_X9_record vi_X9_record (by unfold RO; decide) rfl (sC_k0 hC) (sC_n0 hC) rfl rfl rfl (Nat.le_of_ble_eq_true rfl) (c_record hC hV hLn hK hN hW _ _) ?_
  refine aw_aload_n dL_law_488 rfl rfl (by first | exact isR_ref _ | exact isR_rf _ | exact isR_null) ?_
  refine aw_aload_n dL_law_489 rfl rfl (by first | exact isR_ref _ | exact isR_rf _ | exact isR_null) ?_
  refine aw_iload_n dL_law_490 rfl rfl ?_
  refine aw_iconst (v := nI 1) dL_law_491 (by decide) ?_
  first | refine aw_iaddN dL_law_492 ?_ | refine aw_iadd dL_law_492 ?_
  refine aw_ialdX dL_law_493 hX (ixm (by omega) (by omega)) ?_
  refine aw_aload_n dL_law_494 rfl rfl (by first | exact isR_ref _ | exact isR_rf _ | exact isR_null) ?_
  refine aw_iload_n dL_law_495 rfl rfl ?_
  refine aw_iconst (v := nI 2) dL_law_496 (by decide) ?_
  first | refine aw_iaddN dL_law_497 ?_ | refine aw_iadd dL_law_497 ?_
  refine aw_ialdX dL_law_498 hX (ixm (by omega) (by omega)) ?_
  refine aw_cVx (as := [_, _]) dL_law_499 lk_L_71 cm_X10_record vi_X10_record (by unfold RO; decide) rfl (sM_kd hM) (sM_n hM) rfl rfl rfl (Nat.le_of_ble_eq_true rfl) (m_record hM hB _ _) ?_
  refine aw_icmp_eq (tgt := 678) dL_law_502 (by decide) (fun hne => ?_) (fun hne => ?_)
  · exact T n sz kd I R J h.next
  · exact absurd (rec_eq h0 hb _ _) hne
theorem lc_both (hL : L ≤ 3072) (hX : XS G b L xs) (hkL : 6 * k + 6 ≤ L) (T : TL G em b k Q) (h : RC G em k n sz kd I R J I) : AW G mL_law 507 [(0, .ref b), (1, .ref (gz G + 0)), (2, .ref (gz G + 22)), (3, .int (nI (6 * k)))] [] (n, sz, kd, I, R, J) Q := by
  obtain ⟨u, K, cap, hm, kn, key, h0, hrs, r1, r2, r3, r4⟩ := id h
  have hC := h0.shC
  have hM := h0.shM
  have hB := h0.mb
  have hV := h0.hv
  have hLn := h0.ln.1
  have hK := h0.kv
  have hN := h0.le.1
  have hW := h0.lv
  have hb : K ≤ 4000 ∧ hm ≤ 4000 := by omega
  refine aw_aload_n dL_law_507 rfl rfl (by first | exact isR_ref _ | exact isR_rf _ | exact isR_null) ?_
  refine aw_aload_n dL_law_508 rfl rfl (by first | exact isR_ref _ | exact isR_rf _ | exact isR_null) ?_
  refine aw_iload_n dL_law_509 rfl rfl ?_
  refine aw_iconst (v := nI 1) dL_law_510 (by decide) ?_
  first | refine aw_iaddN dL_law_511 ?_ | refine aw_iadd dL_law_511 ?_
  refine aw_ialdX dL_law_512 hX (ixm (by omega) (by omega)) ?_
  refine aw_aload_n dL_law_513 rfl rfl (by first | exact isR_ref _ | exact isR_rf _ | exact isR_null) ?_
  refine aw_iload_n dL_law_514 rfl rfl ?_
  refine aw_iconst (v := nI 2) dL_law_515 (by decide) ?_
  first | refine aw_iaddN dL_law_516 ?_ | refine aw_iadd dL_law_516 ?_
  refine aw_ialdX dL_law_517 hX (ixm (by omega) (by omega)) ?_
  refine aw_cVx (as := [_, _]) dL_law_518 lk_L_72 cm_X9_both vi_X9_both (by unfold RO; decide) rfl (sC_k0 hC) (sC_n0 hC) rfl rfl rfl (Nat.le_of_ble_eq_true rfl) (c_both hC hV hLn hK hN hW _ _) ?_
  refine aw_aload_n dL_law_521 rfl rfl (by first | exact isR_ref _ | exact isR_rf _ | exact isR_null) ?_
  refine aw_aload_n dL_law_522 rfl rfl (by first | exact isR_ref _ | exact isR_rf _ | exact isR_null) ?_
  refine aw_iload_n dL_law_523 rfl rfl ?_
  refine aw_iconst (v := nI 1) dL_law_524 (by decide) ?_
  first | refine aw_iaddN dL_law_525 ?_ | refine aw_iadd dL_law_525 ?_
  refine aw_ialdX dL_law_526 hX (ixm (by omega) (by omega)) ?_
  refine aw_aload_n dL_law_527 rfl rfl (by first | exact isR_ref _ | exact isR_rf _ | exact isR_null) ?_
  refine aw_iload_n dL_law_528 rfl rfl ?_
  refine aw_iconst (v := nI 2) dL_law_529 (by decide) ?_
  first | refine aw_iaddN dL_law_530 ?_ | refine aw_iadd dL_law_530 ?_
  refine aw_ialdX dL_law_531 hX (ixm (by omega) (by omega)) ?_
  refine aw_cVx (as := [_, _]) dL_law_532 lk_L_75 cm_X10_both vi_X10_both (by unfold RO; decide) rfl (sM_kd hM) (sM_n hM) rfl rfl rfl (Nat.le_of_ble_eq_true rfl) (m_both hM hB _ _) ?_
  refine aw_icmp_eq (tgt := 678) dL_law_535 (by decide) (fun hne => ?_) (fun hne => ?_)
  · exact T n sz kd I R J h.next
  · exact absurd (both_eq h0 _ _) hne
theorem lc_about (hL : L ≤ 3072) (hX : XS G b L xs) (hkL : 6 * k + 6 ≤ L) (T : TL G em b k Q) (h : RC G em k n sz kd I R J I) : AW G mL_law 540 [(0, .ref b), (1, .ref (gz G + 0)), (2, .ref (gz G + 22)), (3, .int (nI (6 * k)))] [] (n, sz, kd, I, R, J) Q := by
  obtain ⟨u, K, cap, hm, kn, key, h0, hrs, r1, r2, r3, r4⟩ := id h
  have hC := h0.shC
  have hM := h0.shM
  have hB := h0.mb
  have hV := h0.hv
  have hLn := h0.ln.1
  have hK := h0.kv
  have hN := h0.le.1
  have hW := h0.lv
  have hb : K ≤ 4000 ∧ hm ≤ 4000 := by omega
  refine aw_aload_n dL_law_540 rfl rfl (by first | exact isR_ref _ | exact isR_rf _ | exact isR_null) ?_
  refine aw_aload_n dL_law_541 rfl rfl (by first | exact isR_ref _ | exact isR_rf _ | exact isR_null) ?_
  refine aw_iload_n dL_law_542 rfl rfl ?_
  refine aw_iconst (v := nI 1) dL_law_543 (by decide) ?_
  first | refine aw_iaddN dL_law_544 ?_ | refine aw_iadd dL_law_544 ?_
  refine aw_ialdX dL_law_545 hX (ixm (by omega) (by omega)) ?_
  refine aw_aload_n dL_law_546 rfl rfl (by first | exact isR_ref _ | exact isR_rf _ | exact isR_null) ?_
  refine aw_iload_n dL_law_547 rfl rfl ?_
  refine aw_iconst (v := nI 2) dL_law_548 (by decide) ?_
  first | refine aw_iaddN dL_law_549 ?_ | refine aw_iadd dL_law_549 ?_
  refine aw_ialdX dL_law_550 hX (ixm (by omega) (by omega)) ?_
  refine aw_cVx (as := [_, _]) dL_law_551 lk_L_76 cm_X9_about vi_X9_about (by unfold RO; decide) rfl (sC_k0 hC) (sC_n0 hC) rfl rfl rfl (Nat.le_of_ble_eq_true rfl) (c_about hC hV hLn hK hN hW (sorter_c h0) _ _) ?_
  refine aw_aload_n dL_law_554 rfl rfl (by first | exact isR_ref _ | exact isR_rf _ | exact isR_null) ?_
  refine aw_aload_n dL_law_555 rfl rfl (by first | exact isR_ref _ | exact isR_rf _ | exact isR_null) ?_
  refine aw_iload_n dL_law_556 rfl rfl ?_
  refine aw_iconst (v := nI 1) dL_law_557 (by decide) ?_
  first | refine aw_iaddN dL_law_558 ?_ | refine aw_iadd dL_law_558 ?_
  refine aw_ialdX dL_law_559 hX (ixm (by omega) (by omega)) ?_
  refine aw_aload_n dL_law_560 rfl rfl (by first | exact isR_ref _ | exact isR_rf _ | exact isR_null) ?_
  refine aw_iload_n dL_law_561 rfl rfl ?_
  refine aw_iconst (v := nI 2) dL_law_562 (by decide) ?_
  first | refine aw_iaddN dL_law_563 ?_ | refine aw_iadd dL_law_563 ?_
  refine aw_ialdX dL_law_564 hX (ixm (by omega) (by omega)) ?_
  refine aw_cVx (as := [_, _]) dL_law_565 lk_L_79 cm_X10_about vi_X10_about (by unfold RO; decide) rfl (sM_kd hM) (sM_n hM) rfl rfl rfl (Nat.le_of_ble_eq_true rfl) (m_about hM hB _ _) ?_
  refine aw_icmp_eq (tgt := 678) dL_law_568 (by decide) (fun hne => ?_) (fun hne => ?_)
  · exact T n sz kd I R J h.next
  · exact absurd (about_eq h0 _ _) hne
theorem lc_heaped (hL : L ≤ 3072) (hX : XS G b L xs) (hkL : 6 * k + 6 ≤ L) (T : TL G em b k Q) (h : RC G em k n sz kd I R J I) : AW G mL_law 596 [(0, .ref b), (1, .ref (gz G + 0)), (2, .ref (gz G + 22)), (3, .int (nI (6 * k)))] [] (n, sz, kd, I, R, J) Q := by
  obtain ⟨u, K, cap, hm, kn, key, h0, hrs, r1, r2, r3, r4⟩ := id h
  have hC := h0.shC
  have hM := h0.shM
  have hB := h0.mb
  have hV := h0.hv
  have hLn := h0.ln.1
  have hK := h0.kv
  have hN := h0.le.1
  have hW := h0.lv
  have hb : K ≤ 4000 ∧ hm ≤ 4000 := by omega
  refine aw_aload_n dL_law_596 rfl rfl (by first | exact isR_ref _ | exact isR_rf _ | exact isR_null) ?_
  refine aw_aload_n dL_law_597 rfl rfl (by first | exact isR_ref _ | exact isR_rf _ | exact isR_null) ?_
  refine aw_iload_n dL_law_598 rfl rfl ?_
  refine aw_iconst (v := nI 1) dL_law_599 (by decide) ?_
  first | refine aw_iaddN dL_law_600 ?_ | refine aw_iadd dL_law_600 ?_
  refine aw_ialdX dL_law_601 hX (ixm (by omega) (by omega)) ?_
  refine aw_cVx (as := [_]) dL_law_602 lk_L_84 cm_X9_heaped vi_X9_heaped (by unfold RO; decide) rfl (sC_k0 hC) (sC_n0 hC) rfl rfl rfl (Nat.le_of_ble_eq_true rfl) (c_heaped hC hN hW _) ?_
  refine aw_aload_n dL_law_605 rfl rfl (by first | exact isR_ref _ | exact isR_rf _ | exact isR_null) ?_
  refine aw_aload_n dL_law_606 rfl rfl (by first | exact isR_ref _ | exact isR_rf _ | exact isR_null) ?_
  refine aw_iload_n dL_law_607 rfl rfl ?_
  refine aw_iconst (v := nI 1) dL_law_608 (by decide) ?_
  first | refine aw_iaddN dL_law_609 ?_ | refine aw_iadd dL_law_609 ?_
  refine aw_ialdX dL_law_610 hX (ixm (by omega) (by omega)) ?_
  refine aw_cVx (as := [_]) dL_law_611 lk_L_87 cm_X10_heaped vi_X10_heaped (by unfold RO; decide) rfl (sM_kd hM) (sM_n hM) rfl rfl rfl (Nat.le_of_ble_eq_true rfl) (m_heaped hM hB _) ?_
  refine aw_icmp_eq (tgt := 678) dL_law_614 (by decide) (fun hne => ?_) (fun hne => ?_)
  · exact T n sz kd I R J h.next
  · exact absurd (heaped_eq h0 hb _) hne
theorem lc_again (hL : L ≤ 3072) (hX : XS G b L xs) (hkL : 6 * k + 6 ≤ L) (T : TL G em b k Q) (h : RC G em k n sz kd I R J I) : AW G mL_law 619 [(0, .ref b), (1, .ref (gz G + 0)), (2, .ref (gz G + 22)), (3, .int (nI (6 * k)))] [] (n, sz, kd, I, R, J) Q := by
  obtain ⟨u, K, cap, hm, kn, key, h0, hrs, r1, r2, r3, r4⟩ := id h
  have hC := h0.shC
  have hM := h0.shM
  have hB := h0.mb
  have hV := h0.hv
  have hLn := h0.ln.1
  have hK := h0.kv
  have hN := h0.le.1
  have hW := h0.lv
  have hb : K ≤ 4000 ∧ hm ≤ 4000 := by omega
  refine aw_aload_n dL_law_619 rfl rfl (by first | exact isR_ref _ | exact isR_rf _ | exact isR_null) ?_
  refine aw_cVx (as := []) dL_law_620 lk_L_88 cm_X9_again vi_X9_again (by unfold RO; decide) rfl (sC_k0 hC) (sC_n0 hC) rfl rfl rfl (Nat.le_of_ble_eq_true rfl) (c_again hC hV hLn hK hN hW) ?_
  refine aw_aload_n dL_law_623 rfl rfl (by first | exact isR_ref _ | exact isR_rf _ | exact isR_null) ?_
  refine aw_cVx (as := []) dL_law_624 lk_L_91 cm_X10_again vi_X10_again (by unfold RO; decide) rfl (sM_kd hM) (sM_n hM) rfl rfl rfl (Nat.le_of_ble_eq_true rfl) (m_again hM hB) ?_
  refine aw_icmp_eq (tgt := 678) dL_law_627 (by decide) (fun hne => ?_) (fun hne => ?_)
  · exact T n sz kd I R J h.next
  · exact absurd (congrArg nI (cnt_cong (fun i hi => ot_eq h0 hi))) hne
theorem lc_differs (hL : L ≤ 3072) (hX : XS G b L xs) (hkL : 6 * k + 6 ≤ L) (T : TL G em b k Q) (h : RC G em k n sz kd I R J I) : AW G mL_law 632 [(0, .ref b), (1, .ref (gz G + 0)), (2, .ref (gz G + 22)), (3, .int (nI (6 * k)))] [] (n, sz, kd, I, R, J) Q := by
  obtain ⟨u, K, cap, hm, kn, key, h0, hrs, r1, r2, r3, r4⟩ := id h
  have hC := h0.shC
  have hM := h0.shM
  have hB := h0.mb
  have hV := h0.hv
  have hLn := h0.ln.1
  have hK := h0.kv
  have hN := h0.le.1
  have hW := h0.lv
  have hb : K ≤ 4000 ∧ hm ≤ 4000 := by omega
  refine aw_aload_n dL_law_632 rfl rfl (by first | exact isR_ref _ | exact isR_rf _ | exact isR_null) ?_
  refine aw_aload_n dL_law_633 rfl rfl (by first | exact isR_ref _ | exact isR_rf _ | exact isR_null) ?_
  refine aw_iload_n dL_law_634 rfl rfl ?_
  refine aw_iconst (v := nI 1) dL_law_635 (by decide) ?_
  first | refine aw_iaddN dL_law_636 ?_ | refine aw_iadd dL_law_636 ?_
  refine aw_ialdX dL_law_637 hX (ixm (by omega) (by omega)) ?_
  refine aw_cVx (as := [_]) dL_law_638 lk_L_92 cm_X9_differs vi_X9_differs (by unfold RO; decide) rfl (sC_k0 hC) (sC_n0 hC) rfl rfl rfl (Nat.le_of_ble_eq_true rfl) (c_differs hC hV hLn hK hN hW _) ?_
  refine aw_aload_n dL_law_641 rfl rfl (by first | exact isR_ref _ | exact isR_rf _ | exact isR_null) ?_
  refine aw_aload_n dL_law_642 rfl rfl (by first | exact isR_ref _ | exact isR_rf _ | exact isR_null) ?_
  refine aw_iload_n dL_law_643 rfl rfl ?_
  refine aw_iconst (v := nI 1) dL_law_644 (by decide) ?_
  first | refine aw_iaddN dL_law_645 ?_ | refine aw_iadd dL_law_645 ?_
  refine aw_ialdX dL_law_646 hX (ixm (by omega) (by omega)) ?_
  refine aw_cVx (as := [_]) dL_law_647 lk_L_95 cm_X10_differs vi_X10_differs (by unfold RO; decide) rfl (sM_kd hM) (sM_n hM) rfl rfl rfl (Nat.le_of_ble_eq_true rfl) (m_differs hM hB _) ?_
  refine aw_icmp_eq (tgt := 678) dL_law_650 (by decide) (fun hne => ?_) (fun hne => ?_)
  · exact T n sz kd I R J h.next
  · exact absurd (differs_eq h0 _) hne
theorem lc_count (hL : L ≤ 3072) (hX : XS G b L xs) (hkL : 6 * k + 6 ≤ L) (T : TL G em b k Q) (h : RC G em k n sz kd I R J I) : AW G mL_law 655 [(0, .ref b), (1, .ref (gz G + 0)), (2, .ref (gz G + 22)), (3, .int (nI (6 * k)))] [] (n, sz, kd, I, R, J) Q := by
  obtain ⟨u, K, cap, hm, kn, key, h0, hrs, r1, r2, r3, r4⟩ := id h
  have hC := h0.shC
  have hM := h0.shM
  have hB := h0.mb
  have hV := h0.hv
  have hLn := h0.ln.1
  have hK := h0.kv
  have hN := h0.le.1
  have hW := h0.lv
  have hb : K ≤ 4000 ∧ hm ≤ 4000 := by omega
  refine aw_aload_n dL_law_655 rfl rfl (by first | exact isR_ref _ | exact isR_rf _ | exact isR_null) ?_
  refine aw_aload_n dL_law_656 rfl rfl (by first | exact isR_ref _ | exact isR_rf _ | exact isR_null) ?_
  refine aw_iload_n dL_law_657 rfl rfl ?_
  refine aw_iconst (v := nI 1) dL_law_658 (by decide) ?_
  first | refine aw_iaddN dL_law_659 ?_ | refine aw_iadd dL_law_659 ?_
  refine aw_ialdX dL_law_660 hX (ixm (by omega) (by omega)) ?_
  refine aw_cVx (as := [_]) dL_law_661 lk_L_96 cm_X9_count vi_X9_count (by unfold RO; decide) rfl (sC_k0 hC) (sC_n0 hC) rfl rfl rfl (Nat.le_of_ble_eq_true rfl) (c_count hC hN hW _) ?_
  refine aw_aload_n dL_law_664 rfl rfl (by first | exact isR_ref _ | exact isR_rf _ | exact isR_null) ?_
  refine aw_aload_n dL_law_665 rfl rfl (by first | exact isR_ref _ | exact isR_rf _ | exact isR_null) ?_
  refine aw_iload_n dL_law_666 rfl rfl ?_
  refine aw_iconst (v := nI 1) dL_law_667 (by decide) ?_
  first | refine aw_iaddN dL_law_668 ?_ | refine aw_iadd dL_law_668 ?_
  refine aw_ialdX dL_law_669 hX (ixm (by omega) (by omega)) ?_
  refine aw_cVx (as := [_]) dL_law_670 lk_L_99 cm_X10_count vi_X10_count (by unfold RO; decide) rfl (sM_kd hM) (sM_n hM) rfl rfl rfl (Nat.le_of_ble_eq_true rfl) (m_count hM hB _) ?_
  refine aw_icmp_eq (tgt := 678) dL_law_673 (by decide) (fun hne => ?_) (fun hne => ?_)
  · exact T n sz kd I R J h.next
  · exact absurd (count_eq h0 _) hne
theorem lc_heap (hL : L ≤ 3072) (hX : XS G b L xs) (hkL : 6 * k + 6 ≤ L) (T : TL G em b k Q) (h : RC G em k n sz kd I R J I) : AW G mL_law 573 [(0, .ref b), (1, .ref (gz G + 0)), (2, .ref (gz G + 22)), (3, .int (nI (6 * k)))] [] (n, sz, kd, I, R, J) Q := by
  obtain ⟨u, K, cap, hm, kn, key, h0, hrs, r1, r2, r3, r4⟩ := id h
  have hC := h0.shC
  have hM := h0.shM
  have hB := h0.mb
  have hV := h0.hv
  have hLn := h0.ln.1
  have hK := h0.kv
  have hN := h0.le.1
  have hW := h0.lv
  have hb : K ≤ 4000 ∧ hm ≤ 4000 := by omega
  refine aw_aload_n dL_law_573 rfl rfl (by first | exact isR_ref _ | exact isR_rf _ | exact isR_null) ?_
  refine aw_aload_n dL_law_574 rfl rfl (by first | exact isR_ref _ | exact isR_rf _ | exact isR_null) ?_
  refine aw_iload_n dL_law_575 rfl rfl ?_
  refine aw_iconst (v := nI 1) dL_law_576 (by decide) ?_
  first | refine aw_iaddN dL_law_577 ?_ | refine aw_iadd dL_law_577 ?_
  refine aw_ialdX dL_law_578 hX (ixm (by omega) (by omega)) ?_
  cases hx : rgl (xs (6 * k + 1)) 1 101 with
  | none =>
    refine aw_cVx (as := [_]) dL_law_579 lk_L_80 cm_X9_heap vi_X9_heap (by unfold RO; decide) rfl (sC_k0 hC) (sC_n0 hC) rfl rfl rfl (Nat.le_of_ble_eq_true rfl) (c_heap0 hC _ hx) ?_
    refine aw_aload_n dL_law_582 rfl rfl (by first | exact isR_ref _ | exact isR_rf _ | exact isR_null) ?_
    refine aw_aload_n dL_law_583 rfl rfl (by first | exact isR_ref _ | exact isR_rf _ | exact isR_null) ?_
    refine aw_iload_n dL_law_584 rfl rfl ?_
    refine aw_iconst (v := nI 1) dL_law_585 (by decide) ?_
    first | refine aw_iaddN dL_law_586 ?_ | refine aw_iadd dL_law_586 ?_
    refine aw_ialdX dL_law_587 hX (ixm (by omega) (by omega)) ?_
    refine aw_cVx (as := [_]) dL_law_588 lk_L_83 cm_X10_heap vi_X10_heap (by unfold RO; decide) rfl (sM_kd hM) (sM_n hM) rfl rfl rfl (Nat.le_of_ble_eq_true rfl) (m_heap hM hB _) ?_
    refine aw_icmp_eq (tgt := 678) dL_law_591 (by decide) (fun hne => ?_) (fun hne => ?_)
    · exact T n sz kd I R J h.next
    · exact absurd (by unfold mHeap; rw [hx]) hne
  | some m =>
    obtain ⟨ex, h1, h2⟩ := rgl_some hx
    refine aw_top ex ?_
    refine aw_cVx (as := [_]) dL_law_579 lk_L_80 cm_X9_heap vi_X9_heap (by unfold RO; decide) rfl (sC_k0 hC) (sC_n0 hC) rfl rfl rfl (Nat.le_of_ble_eq_true rfl) (c_heap hC hN hW h1 (by omega)) ?_
    refine aw_aload_n dL_law_582 rfl rfl (by first | exact isR_ref _ | exact isR_rf _ | exact isR_null) ?_
    refine aw_aload_n dL_law_583 rfl rfl (by first | exact isR_ref _ | exact isR_rf _ | exact isR_null) ?_
    refine aw_iload_n dL_law_584 rfl rfl ?_
    refine aw_iconst (v := nI 1) dL_law_585 (by decide) ?_
    first | refine aw_iaddN dL_law_586 ?_ | refine aw_iadd dL_law_586 ?_
    refine aw_ialdX dL_law_587 hX (ixm (by omega) (by omega)) ?_
    refine aw_cVx (as := [_]) dL_law_588 lk_L_83 cm_X10_heap vi_X10_heap (by unfold RO; decide) rfl (sM_kd hM) (sM_n hM) rfl rfl rfl (Nat.le_of_ble_eq_true rfl) (m_heap hM hB _) ?_
    refine aw_icmp_eq (tgt := 678) dL_law_591 (by decide) (fun hne => ?_) (fun hne => ?_)
    · exact T n sz kd I R J h.next
    · exact absurd (by unfold mHeap; rw [hx, hps_eq h0 hb m 40 (Nat.le_refl _)]) hne
end LAW1
