section CLS8
variable {G : GG} {n n' sz : Nat} {kd kd' : Nat → AKd} {I : Nat → Nat → Int32} {R R' : Nat → Nat → Option Nat} {J : Nat → Nat → Int64}
/-- more cells than before, those that were there as they were -/
def Gr (n : Nat) (kd : Nat → AKd) (R : Nat → Nat → Option Nat) (n' : Nat) (kd' : Nat → AKd) (R' : Nat → Nat → Option Nat) : Prop := n ≤ n' ∧ ∀ a, a < n → kd' a = kd a ∧ R' a = R a
theorem rc_cong {a i : Nat} (h : R' a = R a) : rc G R' a i = rc G R a i := by unfold rc; rw [h]
theorem isC.grow {a i ci : Nat} (h : isC G n kd R a i ci) (g : Gr n kd R n' kd' R') (ha : a < n) : isC G n' kd' R' a i ci := by
  have e := (g.2 a ha).2
  unfold isC at h ⊢
  rw [rc_cong e, e]
  exact ⟨h.1, Nat.lt_of_lt_of_le h.2.1 g.1, by rw [(g.2 _ h.2.1).1]; exact h.2.2⟩
theorem RuS.grow {r : Nat} (h : RuS G n kd R r) (g : Gr n kd R n' kd' R') (hr : r < n) : RuS G n' kd' R' r ∧ rc G R' r 1 = rc G R r 1 ∧ cM G kd' R' r = cM G kd R r := by
  have e := (g.2 r hr).2
  have e2 := rc_cong (G := G) (i := 1) e
  have e3 : cM G kd' R' r = cM G kd R r := by unfold cM; rw [e2, (g.2 _ h.2.1).1]
  refine ⟨?_, e2, e3⟩
  unfold RuS at h ⊢
  rw [e2, e3, e, (g.2 _ h.2.1).1]
  exact ⟨h.1, Nat.lt_of_lt_of_le h.2.1 g.1, h.2.2.1, h.2.2.2⟩
theorem RuC.grow {a i : Nat} (h : RuC G n kd R a i) (g : Gr n kd R n' kd' R') (ha : a < n) : RuC G n' kd' R' a i := by
  refine ⟨h.1.grow g ha, ?_⟩
  rw [rc_cong (g.2 a ha).2]
  exact (h.2.grow g h.1.2.1).1
theorem HV.grow (h : HV G n kd R) (g : Gr n kd R n' kd' R') (h6 : 6 < n) : HV G n' kd' R' := fun i hi hne => (h i hi (by rw [← (g.2 6 h6).2]; exact hne)).grow g h6
theorem KV.grow {L : Nat} (h : KV G n kd R L) (g : Gr n kd R n' kd' R') (h7 : 7 < n) : KV G n' kd' R' L := ⟨h.1, fun l hl => (h.2 l hl).grow g h7⟩
theorem LV.grow {N : Nat} (h : LV G n kd R N) (g : Gr n kd R n' kd' R') (h9 : 9 < n) : LV G n' kd' R' N := ⟨h.1, fun i hi => (h.2 i hi).grow g h9⟩
theorem Gr.shC (g : Gr n kd R n' kd' R') (hC : ShC G n kd R) : ShC G n' kd' R' := hC.grow g.1 (fun i hi => (g.2 i (Nat.lt_of_lt_of_le hi hC.1)).1) (fun i hi => (g.2 i (Nat.lt_of_lt_of_le hi hC.1)).2)
def lKd (kd : Nat → AKd) (n : Nat) : Nat → AKd := va_up kd n (.inl 3)
def lI (I : Nat → Nat → Int32) (n : Nat) (s : Int32) : Nat → Nat → Int32 := u2 (u2 (va_up I n (fun _ => 0)) n 1 s) n 5 (-1)
def lR (R : Nat → Nat → Option Nat) (n : Nat) : Nat → Nat → Option Nat := va_up R n (fun _ => none)
def lJ (J : Nat → Nat → Int64) (n : Nat) (m : Int64) : Nat → Nat → Int64 := u2 (va_up J n (fun _ => 0)) n 0 m
theorem gr_let : Gr n kd R (n + 1) (lKd kd n) (lR R n) := ⟨by omega, fun a ha => ⟨vz_up_ne _ _ (by omega), vz_up_ne _ _ (by omega)⟩⟩
def okC (N : Nat) (f l s w : Int32) : Bool := !decide (N = 100) && ((rgl f 0 16).isSome && ((decide (l = -1) || (rgl l 0 8).isSome) && ((rgl s 0 1000).isSome && (rgl w 0 65536).isSome)))
def cLetO (G : GG) (n : Nat) (kd : Nat → AKd) (I : Nat → Nat → Int32) (R : Nat → Nat → Option Nat) (J : Nat → Nat → Int64) (L : Nat) (f l s w : Int32) : Option Nat := cFi G (lKd kd n) (lI I n s) (lR R n) (lJ J n (cMark f l w)) L n
def cLetM (G : GG) (n sz : Nat) (kd : Nat → AKd) (I : Nat → Nat → Int32) (R : Nat → Nat → Option Nat) (J : Nat → Nat → Int64) (N : Nat) (s : Int32) (m : Int64) (o : Option Nat) : Mem := (n + 1, sz + 6, lKd kd n, u2 (u2 (u2 (lI I n s) n 3 (cFo G (lI I n s) o)) n 4 (cFo G (lI I n s) o)) 8 1 (nI (N + 1)), u2 (u2 (lR R n) n 2 o) 9 N (some (gz G + n)), lJ J n m)
theorem c_letter (hC : ShC G n kd R) (hV : HV G n kd R) {L : Nat} (hL : I 5 2 = nI L) (hK : KV G n kd R L) {N : Nat} (hN : I 8 1 = nI N) (hN1 : N ≤ 100) (hc1 : n + 10 ≤ 600000) (hc2 : sz + 100 ≤ 7302250) (f l s w : Int32) : EX G mX9_letter [.ref (gz G + 0), .int f, .int l, .int s, .int w] (n, sz, kd, I, R, J) (some (.int (if okC N f l s w then nI N else -1))) (if okC N f l s w then cLetM G n sz kd I R J N s (cMark f l w) (cLetO G n kd I R J L f l s w) else (n, sz, kd, I, R, J)) := by
  refine mm_of rfl [(0, .ref (gz G + 0)), (1, .int f), (2, .int l), (3, .int s), (4, .int w)] rfl (Nat.le_of_ble_eq_true rfl) ?_
  have hn := hC.1
  have rest : ∀ bt, bt = ((rgl f 0 16).isSome && ((decide (l = -1) || (rgl l 0 8).isSome) && ((rgl s 0 1000).isSome && (rgl w 0 65536).isSome))) → AW G mX9_letter 48 [(0, .ref (gz G + 0)), (1, .int f), (2, .int l), (3, .int s), (4, .int w)] [.int (bi bt)] (n, sz, kd, I, R, J) (fun v' M' => v' = some (.int (if okC N f l s w then nI N else -1)) ∧ M' = if okC N f l s w then cLetM G n sz kd I R J N s (cMark f l w) (cLetO G n kd I R J L f l s w) else (n, sz, kd, I, R, J)) := by
    intro bt hbt
    have hok : okC N f l s w = (!decide (N = 100) && bt) := by rw [hbt]; rfl
    refine aw_istore (lv' := [(0, _), (1, _), (2, _), (3, _), (4, _), (5, _)]) dX9_letter_48 (by decide) rfl ?_
    refine aw_iload dX9_letter_50 rfl ?_
    refine aw_b_eq (tgt := 67) dX9_letter_52 (by decide) rfl (fun h1 => ?_) (fun h1 => ?_)
    · refine aw_iconst (v := (-1)) dX9_letter_67 (by decide) ?_
      refine aw_iret dX9_letter_68 rfl rfl ?_
      rw [hok, h1, Bool.and_false]
      exact ⟨rfl, rfl⟩
    · refine aw_aload_n dX9_letter_55 rfl rfl (by first | exact isR_ref _ | exact isR_rf _ | exact isR_null) ?_
      refine aw_get dX9_letter_56 fl_X9_35 (sC_k0 hC) (sC_n0 hC) (sC_r_0_mail hC _ _) ?_
      refine aw_get dX9_letter_59 fl_X9_90 (sC_k8 hC) (sC_n8 hC) (congrArg Value.int hN) ?_
      refine aw_bipush (v := nI 100) dX9_letter_62 (by decide) ?_
      refine aw_n_ne (tgt := 69) dX9_letter_64 (by decide) rfl rfl (by omega) (by omega) (fun h2 => ?_) (fun h2 => ?_)
      · rw [hok, h1, decide_eq_false h2]
        rw [if_pos (by rfl), if_pos (by rfl)]
        refine aw_new dX9_letter_69 cf_X2 cl_X9_93 (List.mem_of_getElem? (i := 496) (by decide +kernel)) (List.mem_of_getElem? (i := 72) (by decide +kernel)) (by show _ ≤ 600000; omega) (by show _ + 6 ≤ 7302250; omega) ?_
        refine aw_dup dX9_letter_72 rfl ?_
        refine aw_iload_n dX9_letter_73 rfl rfl ?_
        refine aw_iload_n dX9_letter_74 rfl rfl ?_
        refine aw_iload_n dX9_letter_75 rfl rfl ?_
        refine aw_iload dX9_letter_76 rfl ?_
        refine aw_cIv (as := [_, _, _, _]) dX9_letter_78 lk_X9_95 cm_X2_init im_X2_init (by unfold RO; decide) rfl rfl (Nat.le_of_ble_eq_true rfl) (c_letInit (k := n) ⟨vz_up_same _ _ _, Nat.lt_succ_self _⟩ _ _ _ _) ?_
        have g := gr_let (n := n) (kd := kd) (R := R)
        have hl : iO (n + 1) (lKd kd n) n 3 := ⟨vz_up_same _ _ _, Nat.lt_succ_self _⟩
        refine aw_mem (M' := (n + 1, sz + 6, lKd kd n, lI I n s, lR R n, lJ J n (cMark f l w))) rfl ?_
        have hC := g.shC hC
        have hL' : lI I n s 5 2 = nI L := by unfold lI; rw [u2_row _ _ _ (by omega), u2_row _ _ _ (by omega), vz_up_ne _ _ (by omega)]; exact hL
        have hN' : ∀ x, u2 (u2 (lI I n s) n 3 x) n 4 x 8 1 = nI N := fun x => by unfold lI; rw [u2_row _ _ _ (by omega), u2_row _ _ _ (by omega), u2_row _ _ _ (by omega), u2_row _ _ _ (by omega), vz_up_ne _ _ (by omega)]; exact hN
        have hV' := hV.grow g (by omega)
        have hK' := hK.grow g (by omega)
        have hoF : cLetO G n kd I R J L f l s w = none ∨ ∃ r, cLetO G n kd I R J L f l s w = some (gz G + r) ∧ iO (n + 1) (lKd kd n) r 7 := by
          cases ho : cLetO G n kd I R J L f l s w with
          | none => exact Or.inl rfl
          | some a =>
            obtain ⟨r, rfl, hr, -⟩ := cFi_ok hV' hK' ho
            exact Or.inr ⟨r, rfl, hr⟩
        refine aw_astore (lv' := [(0, _), (1, _), (2, _), (3, _), (4, _), (5, _), (6, _)]) dX9_letter_81 (by decide) rfl ?_
        refine aw_aload dX9_letter_83 rfl (by first | exact isR_ref _ | exact isR_rf _ | exact isR_null) ?_
        refine aw_aload_n dX9_letter_85 rfl rfl (by first | exact isR_ref _ | exact isR_rf _ | exact isR_null) ?_
        refine aw_get dX9_letter_86 fl_X9_28 (sC_k0 hC) (sC_n0 hC) (sC_r_0_row hC _ _) ?_
        refine aw_aload dX9_letter_89 rfl (by first | exact isR_ref _ | exact isR_rf _ | exact isR_null) ?_
        refine aw_cVx (as := [_]) dX9_letter_91 lk_X9_98 cm_X5_firstThatFits vi_X5_firstThatFits (by unfold RO; decide) rfl (sC_k5 hC) (sC_n5 hC) rfl rfl rfl (Nat.le_of_ble_eq_true rfl) (c_firstThatFits hC hV' hL' hK' hl) ?_
        refine aw_cVv (as := [_]) dX9_letter_94 lk_X9_102 cm_X2_sortBy vi_X2_sortBy (by unfold RO; decide) rfl hl.1 hl.2 rfl rfl rfl (Nat.le_of_ble_eq_true rfl) (c_sortBy hl hoF) ?_
        have hC := hC.grow (n' := n + 1) (kd' := lKd kd n) (R' := u2 (lR R n) n 2 (cLetO G n kd I R J L f l s w)) (Nat.le_refl _) (fun _ _ => rfl) (fun i hi => u2_row _ _ _ (by omega))
        refine aw_aload_n dX9_letter_97 rfl rfl (by first | exact isR_ref _ | exact isR_rf _ | exact isR_null) ?_
        refine aw_get dX9_letter_98 fl_X9_35 (sC_k0 hC) (sC_n0 hC) (sC_r_0_mail hC _ _) ?_
        refine aw_aload dX9_letter_101 rfl (by first | exact isR_ref _ | exact isR_rf _ | exact isR_null) ?_
        refine aw_cVx (as := [_]) dX9_letter_103 lk_X9_106 cm_X3_add vi_X3_add (by unfold RO; decide) rfl (sC_k8 hC) (sC_n8 hC) rfl rfl rfl (Nat.le_of_ble_eq_true rfl) (c_madd hC (hN' _) (by omega) hl) ?_
        refine aw_iret dX9_letter_106 rfl rfl ?_
        exact ⟨rfl, rfl⟩
      · refine aw_iconst (v := (-1)) dX9_letter_67 (by decide) ?_
        refine aw_iret dX9_letter_68 rfl rfl ?_
        rw [hok, decide_eq_true h2]
        exact ⟨rfl, rfl⟩
  refine aw_iload_n dX9_letter_0 rfl rfl ?_
  refine aw_bipush (v := nI 16) dX9_letter_1 (by decide) ?_
  refine aw_cSx (as := [_, _]) dX9_letter_3 lk_X9_85 cm_X9_isWithin sm_X9_isWithin (by unfold RO; decide) rfl rfl (Nat.le_of_ble_eq_true rfl) (c_isWithin _ (by decide) _) ?_
  refine aw_b_eq (tgt := 47) dX9_letter_6 (by decide) rfl (fun h1 => ?_) (fun h1 => ?_)
  · refine aw_iconst (v := nI 0) dX9_letter_47 (by decide) ?_
    exact rest false (by rw [h1]; rfl)
  · have sz_ : ((decide (l = -1) || (rgl l 0 8).isSome) = true) → AW G mX9_letter 23 [(0, .ref (gz G + 0)), (1, .int f), (2, .int l), (3, .int s), (4, .int w)] [] (n, sz, kd, I, R, J) (fun v' M' => v' = some (.int (if okC N f l s w then nI N else -1)) ∧ M' = if okC N f l s w then cLetM G n sz kd I R J N s (cMark f l w) (cLetO G n kd I R J L f l s w) else (n, sz, kd, I, R, J)) := by
      intro h2
      refine aw_iload_n dX9_letter_23 rfl rfl ?_
      refine aw_sipush (v := nI 1000) dX9_letter_24 (by decide) ?_
      refine aw_cSx (as := [_, _]) dX9_letter_27 lk_X9_85 cm_X9_isWithin sm_X9_isWithin (by unfold RO; decide) rfl rfl (Nat.le_of_ble_eq_true rfl) (c_isWithin _ (by decide) _) ?_
      refine aw_b_eq (tgt := 47) dX9_letter_30 (by decide) rfl (fun h3 => ?_) (fun h3 => ?_)
      · refine aw_iconst (v := nI 0) dX9_letter_47 (by decide) ?_
        exact rest false (by rw [h3, Bool.false_and, Bool.and_false, Bool.and_false])
      · refine aw_iload dX9_letter_33 rfl ?_
        refine aw_ldc (v := nI 65536) dX9_letter_35 (List.mem_of_getElem? (i := 494) (by decide +kernel)) ?_
        refine aw_cSx (as := [_, _]) dX9_letter_37 lk_X9_85 cm_X9_isWithin sm_X9_isWithin (by unfold RO; decide) rfl rfl (Nat.le_of_ble_eq_true rfl) (c_isWithin _ (by decide) _) ?_
        refine aw_b_eq (tgt := 47) dX9_letter_40 (by decide) rfl (fun h4 => ?_) (fun h4 => ?_)
        · refine aw_iconst (v := nI 0) dX9_letter_47 (by decide) ?_
          exact rest false (by rw [h4, Bool.and_false, Bool.and_false, Bool.and_false])
        · refine aw_iconst (v := nI 1) dX9_letter_43 (by decide) ?_
          refine aw_goto (tgt := 48) dX9_letter_44 (by decide) ?_
          exact rest true (by rw [h1, h2, h3, h4]; rfl)
    refine aw_iload_n dX9_letter_9 rfl rfl ?_
    refine aw_iconst (v := (-1)) dX9_letter_10 (by decide) ?_
    refine aw_icmp_eq (tgt := 23) dX9_letter_11 (by decide) (fun h2 => ?_) (fun h2 => ?_)
    · exact sz_ (by rw [decide_eq_true h2]; rfl)
    · refine aw_iload_n dX9_letter_14 rfl rfl ?_
      refine aw_bipush (v := nI 8) dX9_letter_15 (by decide) ?_
      refine aw_cSx (as := [_, _]) dX9_letter_17 lk_X9_85 cm_X9_isWithin sm_X9_isWithin (by unfold RO; decide) rfl rfl (Nat.le_of_ble_eq_true rfl) (c_isWithin _ (by decide) _) ?_
      refine aw_b_eq (tgt := 47) dX9_letter_20 (by decide) rfl (fun h3 => ?_) (fun h3 => ?_)
      · refine aw_iconst (v := nI 0) dX9_letter_47 (by decide) ?_
        exact rest false (by rw [h3, decide_eq_false h2, Bool.false_or, Bool.false_and, Bool.and_false])
      · exact sz_ (by rw [h3, Bool.or_true])
end CLS8
