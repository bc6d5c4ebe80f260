section MOD3
variable {G : GG} {y : MI} {pc : Nat} {lv : List (Nat × Value)} {st : List Value} {M : Mem} {Q : Option Value → Mem → Prop}
variable {n sz : Nat} {kd : Nat → AKd} {I : Nat → Nat → Int32} {R : Nat → Nat → Option Nat} {J : Nat → Nat → Int64}
/-- x as a number from a on, below b -/
def rgl (x : Int32) (a b : Nat) : Option Nat := if (a : Int) ≤ x.toInt ∧ x.toInt < (b : Int) then some x.toInt.toNat else none
theorem rgl_some {x : Int32} {a b j : Nat} (h : rgl x a b = some j) : x = nI j ∧ a ≤ j ∧ j < b := by
  unfold rgl at h
  split at h
  · rename_i q
    have e := Option.some.inj h
    have h1 : x.toInt = (j : Int) := by omega
    have h2 : x.toInt < 2 ^ 31 := Int32.toInt_lt x
    refine ⟨Int32.toInt_inj.mp ?_, by omega, by omega⟩
    rw [nI_toInt (by omega), h1]
  · cases h
theorem rgl_nI {j a b : Nat} (h1 : a ≤ j) (h2 : j < b) (h3 : j < 2 ^ 31) : rgl (nI j) a b = some j := by
  unfold rgl
  rw [nI_toInt h3, if_pos ⟨by omega, by omega⟩]
  simp
theorem rgl_none {x : Int32} {a b : Nat} (h : rgl x a b = none) {j : Nat} (h1 : a ≤ j) (h2 : j < b) (h3 : j < 2 ^ 31) : x ≠ nI j := by
  intro e
  rw [e, rgl_nI h1 h2 h3] at h
  cases h
theorem rgl_iff {x : Int32} {a b : Nat} (ha : a < 2 ^ 31) (hb : b < 2 ^ 31) : (nI a ≤ x ∧ x ≤ nI b) ↔ (rgl x a (b + 1)).isSome = true := by
  rw [Int32.le_iff_toInt_le, Int32.le_iff_toInt_le, nI_toInt ha, nI_toInt hb]
  unfold rgl
  split
  · rename_i q
    simp
    omega
  · rename_i q
    simp
    omega
theorem m_inN (v : Int32) {a b : Nat} (ha : a < 2 ^ 31 := by decide) (hb : b < 2 ^ 31 := by decide) : EX G mX10_in [.int v, .int (nI a), .int (nI b)] M (some (.int (bi (rgl v a (b + 1)).isSome))) M := by
  have h := m_in (G := G) v (nI a) (nI b) M
  rw [show decide (nI a ≤ v ∧ v ≤ nI b) = (rgl v a (b + 1)).isSome from by rw [Bool.eq_iff_iff, decide_eq_true_iff]; exact rgl_iff ha hb] at h
  exact h
theorem aw_ldc {idx : Nat} {v : Int32} (hd : decode y.2.1 pc = .ok (.ldc idx, 2)) (hw : Cond.constant y.1.cls idx v ∈ lw_tbl) (K : AW G y (pc + 2) lv (.int v :: st) M Q) : AW G y pc lv st M Q := by
  intro M0 p e s m args below meth c C H locs ls hR hS hl
  obtain ⟨hx, hb, hret, hml, hown, hlocks, hname, hK, h0⟩ := id C
  exact W.ldc hx hb hown (hK.2.2.1 _ hw rfl args) rfl hd (K M0 p e s m args below meth c C H locs ls hR hS hl)
theorem aw_ts {x : Int32} {dflt hi : Int} {offs : Array Int} {len N tgd : Nat} {tg : Nat → Nat} (hd : decode y.2.1 pc = .ok (.tableswitch dflt 0 hi offs, len)) (hN : hi + 1 = (N : Int)) (h1 : (pc : Int) + dflt = (tgd : Int)) (h2 : ∀ j, j < N → (offs[j]?).map (fun o => (pc : Int) + o) = some ((tg j : Nat) : Int)) (Kout : rgl x 0 N = none → AW G y tgd lv st M Q) (Kin : ∀ j, rgl x 0 N = some j → AW G y (tg j) lv st M Q) : AW G y pc lv (.int x :: st) M Q := by
  cases e : rgl x 0 N with
  | none =>
    refine aw_tableOut hd ?_ h1 (Kout e)
    unfold rgl at e
    split at e
    · cases e
    · rename_i q
      omega
  | some j =>
    obtain ⟨rfl, -, hj⟩ := rgl_some e
    have hlt : (nI j).toInt = (j : Int) := by
      unfold rgl at e
      split at e
      · have := Option.some.inj e
        omega
      · cases e
    have h3 := h2 j hj
    cases ho : offs[j]? with
    | none => rw [ho] at h3; cases h3
    | some off =>
      rw [ho] at h3
      have h4 : (pc : Int) + off = ((tg j : Nat) : Int) := Option.some.inj h3
      exact aw_tableIn hd (by rw [hlt]; omega) (by rw [hlt]; omega) (off := off) (by rw [hlt]; simpa using ho) h4 (Kin j e)
theorem rgl_place {x : Int32} {m : Nat} (hm : m < 2 ^ 31) : decide (nI 0 ≤ x ∧ x ≤ nI m - nI 1) = (rgl x 0 m).isSome := by
  cases m with
  | zero =>
    rw [show nI 0 - nI 1 = -1 by decide]
    have h1 : ¬ (nI 0 ≤ x ∧ x ≤ -1) := by
      rw [Int32.le_iff_toInt_le, Int32.le_iff_toInt_le, nI_toInt (by decide), show (-1 : Int32).toInt = -1 by decide]
      omega
    have h2 : rgl x 0 0 = none := by unfold rgl; rw [if_neg (by omega)]
    rw [decide_eq_false h1, h2]
    rfl
  | succ m =>
    rw [pk_sub (by omega), show m + 1 - 1 = m by omega, Bool.eq_iff_iff, decide_eq_true_iff]
    exact rgl_iff (by decide) (by omega)
theorem m_isPlaceN (hM : ShM G n kd R) (hB : MB I) (x : Int32) : EX G mX10_isPlace [.ref (gz G + 22), .int x] (n, sz, kd, I, R, J) (some (.int (bi (rgl x 0 (mH I + mL I)).isSome))) (n, sz, kd, I, R, J) := by
  have h := m_isPlace (J := J) (sz := sz) hM hB x
  have hH := mH_le (I := I)
  have hL6 : mL I ≤ 6 := hB.2.1.le
  rw [rgl_place (by omega)] at h
  exact h
theorem m_isLetter (hM : ShM G n kd R) (hB : MB I) (x : Int32) : EX G mX10_isLetter [.ref (gz G + 22), .int x] (n, sz, kd, I, R, J) (some (.int (bi (rgl x 0 (mN I)).isSome))) (n, sz, kd, I, R, J) := by
  refine mm_of rfl [(0, .ref (gz G + 22)), (1, .int x)] rfl (Nat.le_of_ble_eq_true rfl) ?_
  have hN : I 22 0 = nI (mN I) := hB.1.eq
  have hN1 : mN I ≤ 100 := hB.1.le
  refine aw_iload_n dX10_isLetter_0 rfl rfl ?_
  refine aw_iconst (v := nI 0) dX10_isLetter_1 (by decide) ?_
  refine aw_aload_n dX10_isLetter_2 rfl rfl (by first | exact isR_ref _ | exact isR_rf _ | exact isR_null) ?_
  refine aw_get dX10_isLetter_3 fl_X10_182 (sM_kd hM) (sM_n hM) (congrArg Value.int hN) ?_
  refine aw_iconst (v := nI 1) dX10_isLetter_6 (by decide) ?_
  refine aw_isub dX10_isLetter_7 ?_
  refine aw_cSx (as := [_, _, _]) dX10_isLetter_8 lk_X10_156 cm_X10_in sm_X10_in (by unfold RO; decide) rfl rfl (Nat.le_of_ble_eq_true rfl) (m_in _ _ _ _) ?_
  refine aw_iret dX10_isLetter_11 rfl (bi_nar _) ?_
  exact ⟨by rw [rgl_place (by omega)], rfl⟩
theorem oI_neg {o : Option Nat} (h : o = none) : oI o < 0 := by rw [h]; decide
theorem oI_pos {h : Nat} (hh : h < 2 ^ 31) : ¬ oI (some h) < 0 := nI_pos hh
/-- what the first RULE that FITS says of LETTER k -/
def mWho (I : Nat → Nat → Int32) (f : (Nat → Nat → Int32) → Nat ⊕ Nat → Int32) (d : Int32) (o : Option Nat) : Int32 := match o with
  | none => d
  | some p => f I (mRow I p)
def mLet5 (I : Nat → Nat → Int32) (f l s w : Int32) : Nat → Nat → Int32 := u2 (u2 (u2 (u2 (u2 I 23 (mN I) f) 24 (mN I) l) 25 (mN I) s) 26 (mN I) w) 22 0 (nI (mN I + 1))
def mLet (I : Nat → Nat → Int32) (f l s w : Int32) : Nat → Nat → Int32 :=
  let I5 := mLet5 I f l s w
  let o := mFirst I5 (mN I)
  u2 (u2 (u2 (u2 (u2 I5 28 (mN I) (mWho I5 mByR (-1) o)) 29 (mN I) (mWho I5 mNameR (-1) o)) 30 (mN I) (mWho I5 mFolderR (nI 0) o)) 27 (mN I) (mWho I5 mFolderR (nI 0) o)) 31 (mN I) (-1)
theorem mFirst_lt {k p : Nat} (h : mFirst I k = some p) : p < mH I + mL I := (fstF_some h).1
theorem mLet5_B (hB : MB I) (hN : mN I < 100) (f l s w : Int32) : MB (mLet5 I f l s w) := ⟨bN_nI (j := mN I + 1) (by omega), hB.2⟩
/-- the letter is as told -/
def okLet (I : Nat → Nat → Int32) (f l s w : Int32) : Bool := !decide (mN I = 100) && ((rgl f 0 16).isSome && ((decide (l = -1) || (rgl l 0 8).isSome) && ((rgl s 0 1000).isSome && (rgl w 0 65536).isSome)))
theorem in_list (l : Int32) : decide (-1 ≤ l ∧ l ≤ nI 7) = (decide (l = -1) || (rgl l 0 8).isSome) := by
  rw [Bool.eq_iff_iff, Bool.or_eq_true, decide_eq_true_iff, decide_eq_true_iff, ← rgl_iff (by decide) (by decide), Int32.le_iff_toInt_le, Int32.le_iff_toInt_le, Int32.le_iff_toInt_le, ← Int32.toInt_inj, nI_toInt (by decide), nI_toInt (by decide), show (-1 : Int32).toInt = -1 by decide]
  omega
end MOD3
