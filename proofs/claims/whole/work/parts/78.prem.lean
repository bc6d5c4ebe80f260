section PRM
theorem zz_tab {w : Cond} (h : zz_tb w = true) {args : Array Value} {s : State} (hs : w.before args s = true) : ∀ A, w.before A s = true := by
  intro A
  by_cases hg : goodWord w = true
  · exact word_at (State.WarmedH.refl s) (good_of_word hg) hs
  · unfold zz_tb at h
    split at h
    · exact va_Nw.use rfl (va_Nw.of rfl hs)
    · exact va_Nw.use rfl (va_Nw.of rfl hs)
    · exact va_Nw.use rfl (va_Nw.of rfl hs)
    · exact va_AO.use (va_AO.of hs)
    · exact absurd h hg
theorem arr_p {ty : FieldType} {args : Array Value} {s : State} (h : (Cond.arrayClass ty).before args s = true) : ∃ cA : ClassId, ArrOfT s cA ty ∧ s.vm.findClass ("[" ++ ty.toString) = some cA := by
  obtain ⟨cA, kA, comp, h1, h2, h3⟩ := Cond.arrayClass_spec h
  exact ⟨cA, fun N z => ⟨(fun k h => by cases h), kA, h2, comp, h3⟩, h1⟩
theorem arr_o {C : String} {args : Array Value} {s : State} (h : (Cond.arrayOver (.object C)).before args s = true) : ∃ cA : ClassId, ArrOfT s cA (.object C) ∧ va_RA s cA (.object C) := by
  obtain ⟨comp, cA, kA, h1, h2, h3, h4, h5⟩ := Cond.arrayOver_spec h
  exact ⟨cA, fun N z => ⟨(fun k h => by cases h), kA, h3, comp, h4⟩, kA, comp, h3, h4, h1, h5⟩
theorem arr_all {args : Array Value} {s : State} (hts : ∀ w ∈ lw_tbl, w.before args s = true) : ∀ t : Nat, ∃ cA : ClassId, t < 6 → ArrOfT s cA (aty t) ∧ va_RA s cA (aty t) := by
  intro t
  match t with
  | 0 => obtain ⟨cA, h1, h2⟩ := arr_p (hts _ ac_0); exact ⟨cA, fun _ => ⟨h1, h2⟩⟩
  | 1 => obtain ⟨cA, h1, h2⟩ := arr_p (hts _ ac_1); exact ⟨cA, fun _ => ⟨h1, h2⟩⟩
  | 2 => obtain ⟨cA, h1, h2⟩ := arr_p (hts _ ac_2); exact ⟨cA, fun _ => ⟨h1, h2⟩⟩
  | 3 => obtain ⟨cA, h1, h2⟩ := arr_o (hts _ ao_X6); exact ⟨cA, fun _ => ⟨h1, h2⟩⟩
  | 4 => obtain ⟨cA, h1, h2⟩ := arr_o (hts _ ao_X2); exact ⟨cA, fun _ => ⟨h1, h2⟩⟩
  | 5 => obtain ⟨cA, h1, h2⟩ := arr_o (hts _ ao_O); exact ⟨cA, fun _ => ⟨h1, h2⟩⟩
  | t + 6 => exact ⟨0, fun h => absurd h (by omega)⟩
theorem cls_1 {args : Array Value} {s : State} (hts : ∀ w ∈ lw_tbl, w.before args s = true) {ci : Nat} {r : vw_C} (hc : CF ci r) (hi : Cond.instantiable r.1 r.2.2 ∈ lw_tbl) : ∃ x : ClassId × (Nat → Nat), ∀ q : vw_C, vwCl[ci]? = some q → u_Kn s q.1 q.2.1 q.2.2 x.1 x.2 := by
  obtain ⟨cC, iS, hk⟩ := u_known (ws := lw_tbl) (C := r.1) (T := r.2.1) (N := r.2.2) (n := r.2.2) hts (fun w hw => (hc.2.2.2.2.1 w hw).1) (hts _ hi)
  refine ⟨(cC, iS), fun q hq => ?_⟩
  rw [hc.2.1] at hq
  cases hq
  exact hk
theorem cls_all {args : Array Value} {s : State} (hts : ∀ w ∈ lw_tbl, w.before args s = true) : ∀ c : Nat, ∃ x : ClassId × (Nat → Nat), ∀ q : vw_C, vwCl[c]? = some q → u_Kn s q.1 q.2.1 q.2.2 x.1 x.2 := by
  intro c
  match c with
  | 0 => exact cls_1 hts cf_Jx4a65c (List.mem_of_getElem? (i := 217) (by decide +kernel))
  | 1 => exact cls_1 hts cf_X0 (List.mem_of_getElem? (i := 192) (by decide +kernel))
  | 2 => exact cls_1 hts cf_X1 (List.mem_of_getElem? (i := 211) (by decide +kernel))
  | 3 => exact cls_1 hts cf_X2 (List.mem_of_getElem? (i := 496) (by decide +kernel))
  | 4 => exact cls_1 hts cf_X3 (List.mem_of_getElem? (i := 153) (by decide +kernel))
  | 5 => exact cls_1 hts cf_X4 (List.mem_of_getElem? (i := 172) (by decide +kernel))
  | 6 => exact cls_1 hts cf_X5 (List.mem_of_getElem? (i := 130) (by decide +kernel))
  | 7 => exact cls_1 hts cf_X6 (List.mem_of_getElem? (i := 462) (by decide +kernel))
  | 8 => exact cls_1 hts cf_X7 (List.mem_of_getElem? (i := 102) (by decide +kernel))
  | 9 => exact cls_1 hts cf_X8 (List.mem_of_getElem? (i := 85) (by decide +kernel))
  | 10 => exact cls_1 hts cf_X9 (List.mem_of_getElem? (i := 77) (by decide +kernel))
  | 11 => exact cls_1 hts cf_X10 (List.mem_of_getElem? (i := 816) (by decide +kernel))
  | c + 12 => exact ⟨(0, fun _ => 0), fun q hq => by
      have h : vwCl.length ≤ c + 12 := by show 12 ≤ c + 12; omega
      rw [List.getElem?_eq_none h] at hq
      cases hq⟩
def tmS (i : Nat) : Term := .string RX7 (sidx i)
def lnS : List Nat := [3, 2, 3, 2, 4, 4, 4, 5, 5]
def byS : List (List Int32) := [[97, 108, 108], [105, 102], [97, 110, 100], [116, 111], [102, 114, 111, 109], [108, 105, 115, 116], [119, 111, 114, 100], [97, 98, 111, 118, 101], [98, 101, 108, 111, 119]]
def flS : List Cond := flatC (Jvm.Cond.and given_1 narrow_1)
theorem s_ex : ∀ i, i < 9 → Cond.exactly (tmS i) "java/lang/String" ∈ flS := by decide +kernel
theorem s_co : ∀ i, i < 9 → Cond.eq (.field (tmS i) "java/lang/String" "coder" "B") (.int 0) ∈ flS := by decide +kernel
theorem s_ar : ∀ i, i < 9 → Cond.arrayOf (.field (tmS i) "java/lang/String" "value" "[B") .byte ∈ flS := by decide +kernel
theorem s_le : ∀ i, i < 9 → Cond.eq (.length (.field (tmS i) "java/lang/String" "value" "[B")) (.int (Int32.ofNat (lnS.getD i 0))) ∈ flS := by decide +kernel
theorem s_el : ∀ i, i < 9 → ∀ j, j < lnS.getD i 0 → Cond.eq (.elem (.field (tmS i) "java/lang/String" "value" "[B") (.int (Int32.ofNat j))) (.int ((byS.getD i []).getD j 0)) ∈ flS := by decide +kernel
theorem s_ne : ∀ i, i < 9 → ∀ j, j < 9 → i ≠ j → Cond.not (Cond.eq (tmS i) (tmS j)) ∈ flS ∨ Cond.not (Cond.eq (tmS j) (tmS i)) ∈ flS := by decide +kernel
theorem s_ln : ∀ i, i < 9 → lnS.getD i 0 < 2 ^ 31 := by decide +kernel
theorem s_by : ∀ i, i < 9 → ∀ j, j < kl i → (byS.getD i []).getD j 0 = nI (kwb (5 * i + j)) := by decide +kernel
theorem s_st : ∀ i, i < 9 → Cond.stringRef RX7 (sidx i) (stx i) ∈ lw_tbl := fun i hi => by
  match i, hi with
  | 0, _ => exact List.mem_of_getElem? (i := 448) (by decide +kernel)
  | 1, _ => exact List.mem_of_getElem? (i := 363) (by decide +kernel)
  | 2, _ => exact List.mem_of_getElem? (i := 447) (by decide +kernel)
  | 3, _ => exact List.mem_of_getElem? (i := 449) (by decide +kernel)
  | 4, _ => exact List.mem_of_getElem? (i := 428) (by decide +kernel)
  | 5, _ => exact List.mem_of_getElem? (i := 429) (by decide +kernel)
  | 6, _ => exact List.mem_of_getElem? (i := 430) (by decide +kernel)
  | 7, _ => exact List.mem_of_getElem? (i := 431) (by decide +kernel)
  | 8, _ => exact List.mem_of_getElem? (i := 432) (by decide +kernel)
  | i + 9, h => exact absurd h (by omega)
theorem va_Tcong {ty : FieldType} {t N : Nat} {f g : Nat → Value} {A : Nat → Prop} {U : State} {H : Heap} (h : va_T ty t N f A U H) (e : ∀ j, j < N → f j = g j) : va_T ty t N g A U H := by
  obtain ⟨cell, h1, h2, h3, h4, h5, h6, h7⟩ := h
  exact ⟨cell, h1, h2, h3, h4, h5, fun j hj => by rw [← e j hj]; exact h6 j hj, h7⟩
/-- what of the start every later state keeps -/
def PP (z b L : Nat) (xs : Nat → Int32) (ad av : Nat → Nat) (fx : Option Nat) (em mi : Nat) (H : Heap) (U : State) : Prop := ((∀ w, w < 9 → va_O "java/lang/String" (ad w) (fun q => z ≤ q) U H ∧ va_OF "java/lang/String" "coder" "B" (.int 0) (ad w) (fun q => z ≤ q) U H ∧ va_OF "java/lang/String" "value" "[B" (.ref (av w)) (ad w) (fun q => z ≤ q) U H ∧ va_T .byte (av w) (kl w) (fun j => .int (nI (kwb (5 * w + j)))) (fun q => z ≤ q) U H ∧ vk_R RX7 (sidx w) (stx w) (ad w) U) ∧ va_Z "java/lang/String" "COMPACT_STRINGS" "Z" (.int 1) (fun q => z ≤ q) U H ∧ va_Z "jdk/internal/util/Preconditions" "SIOOBE_FORMATTER" "Ljava/util/function/BiFunction;" (va_rf fx) (fun q => z ≤ q) U H) ∧ (va_Z "java/util/ArrayList" "DEFAULTCAPACITY_EMPTY_ELEMENTDATA" "[Ljava/lang/Object;" (.ref em) (fun q => z ≤ q) U H ∧ va_T (.object "java/lang/Object") em 0 (fun _ => .null) (fun q => z ≤ q) U H ∧ va_Mi "[Ljava/lang/Object;" mi U ∧ va_Dc U) ∧ va_T .int b L (fun j => .int (xs j)) (fun q => z ≤ q) U H
theorem PP.moved {z b L : Nat} {xs : Nat → Int32} {ad av : Nat → Nat} {fx : Option Nat} {em mi : Nat} {H : Heap} {s U : State} (hW : s.WarmedH U.vm) (h : PP z b L xs ad av fx em mi H s) : PP z b L xs ad av fx em mi H U := by
  obtain ⟨⟨h1, h2, h3⟩, ⟨h4, h5, h6, h7⟩, h8⟩ := h
  refine ⟨⟨fun w hw => ?_, h2.moved hW.alike, h3.moved hW.alike⟩, ⟨h4.moved hW.alike, h5.moved hW.alike, h6.moved hW.alike, h7.moved hW.alike⟩, h8.moved hW.alike⟩
  obtain ⟨a1, a2, a3, a4, a5⟩ := h1 w hw
  exact ⟨a1.moved hW.alike, a2.moved hW.alike, a3.moved hW.alike, a4.moved hW.alike, a5.warm hW⟩
theorem PP_start {args : Array Value} {s : State} {b L : Nat} {xs : Nat → Int32} (hts : ∀ w ∈ lw_tbl, w.before args s = true) (hgv : (Jvm.Cond.and given_1 narrow_1).before args s = true) (hX : va_X b L xs s s.heap) (hbl : b < s.heap.size) : ∃ ad av fx em mi, PP s.heap.size b L xs ad av fx em mi s.heap s := by
  have hs : ∀ c ∈ flS, c.before args s = true := flat_of_before _ hgv
  have hA : ∀ a : Nat, a < s.heap.size → ¬ (fun q : Nat => s.heap.size ≤ q) a := fun a h => Nat.not_le.mpr h
  obtain ⟨ad, av, hS, hE⟩ := vk_Sof (args := args) (s := s) (N := 9) (tm := tmS) (len := lnS) (byt := byS) (A := fun q => s.heap.size ≤ q) s_ln (fun i hi => hs _ (s_ex i hi)) (fun i hi => hs _ (s_co i hi)) (fun i hi => hs _ (s_ar i hi)) (fun i hi => hs _ (s_le i hi)) (fun i hi j hj => hs _ (s_el i hi j hj)) (fun i j hi hj hij => (s_ne i hi j hj hij).imp (fun h => hs _ h) (fun h => hs _ h)) hA
  have z1 := va_Zof (v := .int 1) (A := fun q => s.heap.size ≤ q) (hts _ (List.mem_of_getElem? (i := 377) (by decide +kernel))) (hts _ (List.mem_of_getElem? (i := 65) (by decide +kernel))) (va_eqt (hs (.eq (.static "java/lang/String" "COMPACT_STRINGS" "Z") (.int 1)) (by decide +kernel))) hA
  have z2 := va_Zqof (A := fun q => s.heap.size ≤ q) (hts _ (List.mem_of_getElem? (i := 393) (by decide +kernel))) (hts _ (List.mem_of_getElem? (i := 67) (by decide +kernel))) (hs (.isRef (.static "jdk/internal/util/Preconditions" "SIOOBE_FORMATTER" "Ljava/util/function/BiFunction;")) (by decide +kernel)) hA
  obtain ⟨fx, z2'⟩ : ∃ fx : Option Nat, va_Z "jdk/internal/util/Preconditions" "SIOOBE_FORMATTER" "Ljava/util/function/BiFunction;" (va_rf fx) (fun q => s.heap.size ≤ q) s s.heap := by
    rcases z2 with h | ⟨t, h⟩
    · exact ⟨none, h⟩
    · exact ⟨some t, h⟩
  obtain ⟨em, e1, e2⟩ := va_Tof (args := args) (s := s) (tm := .static "java/util/ArrayList" "DEFAULTCAPACITY_EMPTY_ELEMENTDATA" "[Ljava/lang/Object;") (ty := .object "java/lang/Object") (N := 0) (f := fun _ => .null) (A := fun q => s.heap.size ≤ q) (by decide) (hs _ (by decide +kernel)) (va_eqt (hs (.eq (.length (.static "java/util/ArrayList" "DEFAULTCAPACITY_EMPTY_ELEMENTDATA" "[Ljava/lang/Object;")) (.int 0)) (by decide +kernel))) (fun j hj => absurd hj (Nat.not_lt_zero j)) hA
  have z3 := va_Zref (A := fun q => s.heap.size ≤ q) (hts _ (List.mem_of_getElem? (i := 229) (by decide +kernel))) (hts _ (List.mem_of_getElem? (i := 63) (by decide +kernel))) e1 hA
  obtain ⟨mi, m1⟩ := va_Mi.of (hs (.isRef (.mirror "[Ljava/lang/Object;")) (by decide +kernel))
  have d1 := va_Dc.of (hts _ (List.mem_of_getElem? (i := 1204) (by decide +kernel)))
  refine ⟨ad, av, fx, em, mi, ⟨fun w hw => ?_, z1, z2'⟩, ⟨z3, e2, m1, d1⟩, ?_⟩
  · obtain ⟨a1, a2, a3, a4⟩ := hS.1 w hw
    exact ⟨a1, a2, a3, va_Tcong a4 (fun j hj => by rw [s_by w hw j hj]), vk_R.of (hts _ (s_st w hw)) (hE w hw)⟩
  · obtain ⟨scr, x1, x2, x3, x4, x5⟩ := hX
    exact ⟨scr, x1, x2, x3, Nat.le_of_eq x4.symm, by rw [x4], x5, hA b hbl⟩
end PRM
