def ctab : Nat → AKd := fun i => match i with
  | 0 => .inl 10
  | 1 => .inl 9
  | 2 => .inr (0, 100)
  | 3 => .inl 8
  | 4 => .inr (0, 4)
  | 5 => .inl 6
  | 6 => .inr (3, 10)
  | 7 => .inr (3, 6)
  | 8 => .inl 4
  | 9 => .inr (4, 100)
  | 10 => .inl 5
  | 11 => .inr (0, 200)
  | 12 => .inr (0, 200)
  | 13 => .inr (0, 200)
  | 14 => .inl 1
  | 15 => .inr (0, 8)
  | 16 => .inl 2
  | 17 => .inl 0
  | 18 => .inr (3, 6)
  | 19 => .inr (4, 100)
  | 20 => .inr (0, 8)
  | _ => .inr (0, 40)
def cref : Nat → Nat × Nat × Nat := fun i => match i with
  | 0 => (0, 0, 1)
  | 1 => (0, 1, 3)
  | 2 => (0, 2, 5)
  | 3 => (0, 3, 8)
  | 4 => (0, 4, 10)
  | 5 => (0, 5, 14)
  | 6 => (0, 6, 16)
  | 7 => (1, 0, 2)
  | 8 => (3, 0, 1)
  | 9 => (3, 1, 4)
  | 10 => (5, 0, 6)
  | 11 => (5, 1, 7)
  | 12 => (8, 0, 9)
  | 13 => (10, 0, 11)
  | 14 => (10, 1, 12)
  | 15 => (10, 2, 13)
  | 16 => (14, 2, 15)
  | 17 => (16, 0, 14)
  | 18 => (16, 1, 17)
  | 19 => (16, 8, 18)
  | 20 => (16, 10, 19)
  | 21 => (16, 13, 20)
  | _ => (16, 14, 21)
/-- the class's own objects and arrays lie where they were made -/
def ShC (G : GG) (n : Nat) (kd : Nat → AKd) (R : Nat → Nat → Option Nat) : Prop := 52 ≤ n ∧ (∀ i, i < 22 → kd i = ctab i) ∧ ∀ i, i < 23 → R (cref i).1 (cref i).2.1 = some (gz G + (cref i).2.2)
section SHC
variable {G : GG} {n : Nat} {kd : Nat → AKd} {R : Nat → Nat → Option Nat}
theorem sC_k0 (h : ShC G n kd R) : kd 0 = .inl 10 := h.2.1 0 (by decide)
theorem sC_n0 (h : ShC G n kd R) : 0 < n := Nat.lt_of_lt_of_le (by decide) h.1
theorem sC_k1 (h : ShC G n kd R) : kd 1 = .inl 9 := h.2.1 1 (by decide)
theorem sC_n1 (h : ShC G n kd R) : 1 < n := Nat.lt_of_lt_of_le (by decide) h.1
theorem sC_k2 (h : ShC G n kd R) : kd 2 = .inr (0, 100) := h.2.1 2 (by decide)
theorem sC_n2 (h : ShC G n kd R) : 2 < n := Nat.lt_of_lt_of_le (by decide) h.1
theorem sC_k3 (h : ShC G n kd R) : kd 3 = .inl 8 := h.2.1 3 (by decide)
theorem sC_n3 (h : ShC G n kd R) : 3 < n := Nat.lt_of_lt_of_le (by decide) h.1
theorem sC_k4 (h : ShC G n kd R) : kd 4 = .inr (0, 4) := h.2.1 4 (by decide)
theorem sC_n4 (h : ShC G n kd R) : 4 < n := Nat.lt_of_lt_of_le (by decide) h.1
theorem sC_k5 (h : ShC G n kd R) : kd 5 = .inl 6 := h.2.1 5 (by decide)
theorem sC_n5 (h : ShC G n kd R) : 5 < n := Nat.lt_of_lt_of_le (by decide) h.1
theorem sC_k6 (h : ShC G n kd R) : kd 6 = .inr (3, 10) := h.2.1 6 (by decide)
theorem sC_n6 (h : ShC G n kd R) : 6 < n := Nat.lt_of_lt_of_le (by decide) h.1
theorem sC_k7 (h : ShC G n kd R) : kd 7 = .inr (3, 6) := h.2.1 7 (by decide)
theorem sC_n7 (h : ShC G n kd R) : 7 < n := Nat.lt_of_lt_of_le (by decide) h.1
theorem sC_k8 (h : ShC G n kd R) : kd 8 = .inl 4 := h.2.1 8 (by decide)
theorem sC_n8 (h : ShC G n kd R) : 8 < n := Nat.lt_of_lt_of_le (by decide) h.1
theorem sC_k9 (h : ShC G n kd R) : kd 9 = .inr (4, 100) := h.2.1 9 (by decide)
theorem sC_n9 (h : ShC G n kd R) : 9 < n := Nat.lt_of_lt_of_le (by decide) h.1
theorem sC_k10 (h : ShC G n kd R) : kd 10 = .inl 5 := h.2.1 10 (by decide)
theorem sC_n10 (h : ShC G n kd R) : 10 < n := Nat.lt_of_lt_of_le (by decide) h.1
theorem sC_k11 (h : ShC G n kd R) : kd 11 = .inr (0, 200) := h.2.1 11 (by decide)
theorem sC_n11 (h : ShC G n kd R) : 11 < n := Nat.lt_of_lt_of_le (by decide) h.1
theorem sC_k12 (h : ShC G n kd R) : kd 12 = .inr (0, 200) := h.2.1 12 (by decide)
theorem sC_n12 (h : ShC G n kd R) : 12 < n := Nat.lt_of_lt_of_le (by decide) h.1
theorem sC_k13 (h : ShC G n kd R) : kd 13 = .inr (0, 200) := h.2.1 13 (by decide)
theorem sC_n13 (h : ShC G n kd R) : 13 < n := Nat.lt_of_lt_of_le (by decide) h.1
theorem sC_k14 (h : ShC G n kd R) : kd 14 = .inl 1 := h.2.1 14 (by decide)
theorem sC_n14 (h : ShC G n kd R) : 14 < n := Nat.lt_of_lt_of_le (by decide) h.1
theorem sC_k15 (h : ShC G n kd R) : kd 15 = .inr (0, 8) := h.2.1 15 (by decide)
theorem sC_n15 (h : ShC G n kd R) : 15 < n := Nat.lt_of_lt_of_le (by decide) h.1
theorem sC_k16 (h : ShC G n kd R) : kd 16 = .inl 2 := h.2.1 16 (by decide)
theorem sC_n16 (h : ShC G n kd R) : 16 < n := Nat.lt_of_lt_of_le (by decide) h.1
theorem sC_k17 (h : ShC G n kd R) : kd 17 = .inl 0 := h.2.1 17 (by decide)
theorem sC_n17 (h : ShC G n kd R) : 17 < n := Nat.lt_of_lt_of_le (by decide) h.1
theorem sC_k18 (h : ShC G n kd R) : kd 18 = .inr (3, 6) := h.2.1 18 (by decide)
theorem sC_n18 (h : ShC G n kd R) : 18 < n := Nat.lt_of_lt_of_le (by decide) h.1
theorem sC_k19 (h : ShC G n kd R) : kd 19 = .inr (4, 100) := h.2.1 19 (by decide)
theorem sC_n19 (h : ShC G n kd R) : 19 < n := Nat.lt_of_lt_of_le (by decide) h.1
theorem sC_k20 (h : ShC G n kd R) : kd 20 = .inr (0, 8) := h.2.1 20 (by decide)
theorem sC_n20 (h : ShC G n kd R) : 20 < n := Nat.lt_of_lt_of_le (by decide) h.1
theorem sC_k21 (h : ShC G n kd R) : kd 21 = .inr (0, 40) := h.2.1 21 (by decide)
theorem sC_n21 (h : ShC G n kd R) : 21 < n := Nat.lt_of_lt_of_le (by decide) h.1
theorem sC_r_0_tape (h : ShC G n kd R) (x : Int32) (z : Int64) : fvl (fty 10 0) x (R 0 0) z = .ref (gz G + 1) := by rw [show R 0 0 = some (gz G + 1) from h.2.2 0 (by decide)]; rfl
theorem sC_r_0_reader (h : ShC G n kd R) (x : Int32) (z : Int64) : fvl (fty 10 1) x (R 0 1) z = .ref (gz G + 3) := by rw [show R 0 1 = some (gz G + 3) from h.2.2 1 (by decide)]; rfl
theorem sC_r_0_row (h : ShC G n kd R) (x : Int32) (z : Int64) : fvl (fty 10 2) x (R 0 2) z = .ref (gz G + 5) := by rw [show R 0 2 = some (gz G + 5) from h.2.2 2 (by decide)]; rfl
theorem sC_r_0_mail (h : ShC G n kd R) (x : Int32) (z : Int64) : fvl (fty 10 3) x (R 0 3) z = .ref (gz G + 8) := by rw [show R 0 3 = some (gz G + 8) from h.2.2 3 (by decide)]; rfl
theorem sC_r_0_moves (h : ShC G n kd R) (x : Int32) (z : Int64) : fvl (fty 10 4) x (R 0 4) z = .ref (gz G + 10) := by rw [show R 0 4 = some (gz G + 10) from h.2.2 4 (by decide)]; rfl
theorem sC_r_0_costs (h : ShC G n kd R) (x : Int32) (z : Int64) : fvl (fty 10 5) x (R 0 5) z = .ref (gz G + 14) := by rw [show R 0 5 = some (gz G + 14) from h.2.2 5 (by decide)]; rfl
theorem sC_r_0_learner (h : ShC G n kd R) (x : Int32) (z : Int64) : fvl (fty 10 6) x (R 0 6) z = .ref (gz G + 16) := by rw [show R 0 6 = some (gz G + 16) from h.2.2 6 (by decide)]; rfl
theorem sC_r_1_bytes (h : ShC G n kd R) (x : Int32) (z : Int64) : fvl (fty 9 0) x (R 1 0) z = .ref (gz G + 2) := by rw [show R 1 0 = some (gz G + 2) from h.2.2 7 (by decide)]; rfl
theorem sC_r_3_tape (h : ShC G n kd R) (x : Int32) (z : Int64) : fvl (fty 8 0) x (R 3 0) z = .ref (gz G + 1) := by rw [show R 3 0 = some (gz G + 1) from h.2.2 8 (by decide)]; rfl
theorem sC_r_3_codes (h : ShC G n kd R) (x : Int32) (z : Int64) : fvl (fty 8 1) x (R 3 1) z = .ref (gz G + 4) := by rw [show R 3 1 = some (gz G + 4) from h.2.2 9 (by decide)]; rfl
theorem sC_r_5_hands (h : ShC G n kd R) (x : Int32) (z : Int64) : fvl (fty 6 0) x (R 5 0) z = .ref (gz G + 6) := by rw [show R 5 0 = some (gz G + 6) from h.2.2 10 (by decide)]; rfl
theorem sC_r_5_learnt (h : ShC G n kd R) (x : Int32) (z : Int64) : fvl (fty 6 1) x (R 5 1) z = .ref (gz G + 7) := by rw [show R 5 1 = some (gz G + 7) from h.2.2 11 (by decide)]; rfl
theorem sC_r_8_letters (h : ShC G n kd R) (x : Int32) (z : Int64) : fvl (fty 4 0) x (R 8 0) z = .ref (gz G + 9) := by rw [show R 8 0 = some (gz G + 9) from h.2.2 12 (by decide)]; rfl
theorem sC_r_10_numbers (h : ShC G n kd R) (x : Int32) (z : Int64) : fvl (fty 5 0) x (R 10 0) z = .ref (gz G + 11) := by rw [show R 10 0 = some (gz G + 11) from h.2.2 13 (by decide)]; rfl
theorem sC_r_10_lay (h : ShC G n kd R) (x : Int32) (z : Int64) : fvl (fty 5 1) x (R 10 1) z = .ref (gz G + 12) := by rw [show R 10 1 = some (gz G + 12) from h.2.2 14 (by decide)]; rfl
theorem sC_r_10_belonged (h : ShC G n kd R) (x : Int32) (z : Int64) : fvl (fty 5 2) x (R 10 2) z = .ref (gz G + 13) := by rw [show R 10 2 = some (gz G + 13) from h.2.2 15 (by decide)]; rfl
theorem sC_r_14_ofWrong (h : ShC G n kd R) (x : Int32) (z : Int64) : fvl (fty 1 2) x (R 14 2) z = .ref (gz G + 15) := by rw [show R 14 2 = some (gz G + 15) from h.2.2 16 (by decide)]; rfl
theorem sC_r_16_costs (h : ShC G n kd R) (x : Int32) (z : Int64) : fvl (fty 2 0) x (R 16 0) z = .ref (gz G + 14) := by rw [show R 16 0 = some (gz G + 14) from h.2.2 17 (by decide)]; rfl
theorem sC_r_16_known (h : ShC G n kd R) (x : Int32) (z : Int64) : fvl (fty 2 1) x (R 16 1) z = .ref (gz G + 17) := by rw [show R 16 1 = some (gz G + 17) from h.2.2 18 (by decide)]; rfl
theorem sC_r_16_earlier (h : ShC G n kd R) (x : Int32) (z : Int64) : fvl (fty 2 8) x (R 16 8) z = .ref (gz G + 18) := by rw [show R 16 8 = some (gz G + 18) from h.2.2 19 (by decide)]; rfl
theorem sC_r_16_open (h : ShC G n kd R) (x : Int32) (z : Int64) : fvl (fty 2 10) x (R 16 10) z = .ref (gz G + 19) := by rw [show R 16 10 = some (gz G + 19) from h.2.2 20 (by decide)]; rfl
theorem sC_r_16_belonging (h : ShC G n kd R) (x : Int32) (z : Int64) : fvl (fty 2 13) x (R 16 13) z = .ref (gz G + 20) := by rw [show R 16 13 = some (gz G + 20) from h.2.2 21 (by decide)]; rfl
theorem sC_r_16_atStake (h : ShC G n kd R) (x : Int32) (z : Int64) : fvl (fty 2 14) x (R 16 14) z = .ref (gz G + 21) := by rw [show R 16 14 = some (gz G + 21) from h.2.2 22 (by decide)]; rfl
theorem ShC.put (h : ShC G n kd R) {a : Nat} (j : Nat) (x : Option Nat) (ha : ∀ i, i < 23 → (cref i).1 ≠ a) : ShC G n kd (u2 R a j x) :=
  ⟨h.1, h.2.1, fun i hi => by rw [u2_row R j x (ha i hi)]; exact h.2.2 i hi⟩
theorem ShC.row (h : ShC G n kd R) {a : Nat} (f : Nat → Option Nat) (ha : ∀ i, i < 23 → (cref i).1 ≠ a) : ShC G n kd (va_up R a f) :=
  ⟨h.1, h.2.1, fun i hi => by rw [vz_up_ne _ _ (ha i hi)]; exact h.2.2 i hi⟩
theorem cref_lt : ∀ i, i < 23 → (cref i).1 < 17 := by decide +kernel
theorem ShC.grow (h : ShC G n kd R) {n' : Nat} {kd' : Nat → AKd} {R' : Nat → Nat → Option Nat} (h1 : n ≤ n') (h2 : ∀ i, i < 52 → kd' i = kd i) (h3 : ∀ i, i < 52 → R' i = R i) : ShC G n' kd' R' :=
  ⟨Nat.le_trans h.1 h1, fun i hi => by rw [h2 i (by omega)]; exact h.2.1 i hi, fun i hi => by have := cref_lt i hi; rw [h3 _ (by omega)]; exact h.2.2 i hi⟩
/-- the cell that a place refers to -/
def rc (G : GG) (R : Nat → Nat → Option Nat) (a i : Nat) : Nat := (R a i).getD 0 - gz G
/-- an object of class ci is there -/
def isC (G : GG) (n : Nat) (kd : Nat → AKd) (R : Nat → Nat → Option Nat) (a i ci : Nat) : Prop := R a i = some (gz G + rc G R a i) ∧ rc G R a i < n ∧ kd (rc G R a i) = .inl ci
theorem rc_some {a i q : Nat} (h : R a i = some (gz G + q)) : rc G R a i = q := by unfold rc; rw [h]; show gz G + q - gz G = q; omega
theorem isC_of {a i q ci : Nat} (h : R a i = some (gz G + q)) (h1 : q < n) (h2 : kd q = .inl ci) : isC G n kd R a i ci := by
  unfold isC
  rw [rc_some h]
  exact ⟨h, h1, h2⟩
def iO (n : Nat) (kd : Nat → AKd) (q ci : Nat) : Prop := kd q = .inl ci ∧ q < n
theorem isC.o {a i ci : Nat} (h : isC G n kd R a i ci) : iO n kd (rc G R a i) ci := ⟨h.2.2, h.2.1⟩
/-- how many TESTS the RULE at r has -/
def cM (G : GG) (kd : Nat → AKd) (R : Nat → Nat → Option Nat) (r : Nat) : Nat := lenK (kd (rc G R r 1))
/-- a RULE's CODES are there -/
def RuS (G : GG) (n : Nat) (kd : Nat → AKd) (R : Nat → Nat → Option Nat) (r : Nat) : Prop := R r 1 = some (gz G + rc G R r 1) ∧ rc G R r 1 < n ∧ kd (rc G R r 1) = .inr (0, cM G kd R r) ∧ cM G kd R r ≤ 4
theorem rs_r {r : Nat} (h : RuS G n kd R r) (x : Int32) (z : Int64) : fvl (fty 7 1) x (R r 1) z = .ref (gz G + rc G R r 1) := by rw [h.1]; rfl
def LV (G : GG) (n : Nat) (kd : Nat → AKd) (R : Nat → Nat → Option Nat) (N : Nat) : Prop := N ≤ 100 ∧ ∀ i, i < N → isC G n kd R 9 i 3
def RuC (G : GG) (n : Nat) (kd : Nat → AKd) (R : Nat → Nat → Option Nat) (a i : Nat) : Prop := isC G n kd R a i 7 ∧ RuS G n kd R (rc G R a i)
def HV (G : GG) (n : Nat) (kd : Nat → AKd) (R : Nat → Nat → Option Nat) : Prop := ∀ h, h < 10 → ¬ R 6 h = none → RuC G n kd R 6 h
def KV (G : GG) (n : Nat) (kd : Nat → AKd) (R : Nat → Nat → Option Nat) (L : Nat) : Prop := L ≤ 6 ∧ ∀ l, l < L → RuC G n kd R 7 l
def sh1 (c : Int32) : Int64 := (1 : Int64) <<< (c.toInt64 &&& 63)
def cPs (I : Nat → Nat → Int32) (J : Nat → Nat → Int64) (l : Nat) (c : Int32) : Bool := if nI 1100 ≤ c then decide (I l 1 < c - nI 1100) else if nI 100 ≤ c then decide (c - nI 100 < I l 1) else decide (J l 0 &&& sh1 c = sh1 c)
def cFt (G : GG) (kd : Nat → AKd) (I : Nat → Nat → Int32) (R : Nat → Nat → Option Nat) (J : Nat → Nat → Int64) (r l : Nat) : Bool := allT (fun t => cPs I J l (I (rc G R r 1) t)) (cM G kd R r)
end SHC
theorem cl_X5_9 : Cond.classLink RX5 9 "LetterSieve$Rule" ∈ lw_tbl := List.mem_of_getElem? (i := 135) (by decide +kernel)
theorem cl_X3_9 : Cond.classLink RX3 9 "LetterSieve$Letter" ∈ lw_tbl := List.mem_of_getElem? (i := 158) (by decide +kernel)
theorem cl_X1_18 : Cond.classLink RX1 18 "LetterSieve$Rule" ∈ lw_tbl := List.mem_of_getElem? (i := 242) (by decide +kernel)
theorem cl_X1_24 : Cond.classLink RX1 24 "LetterSieve$Letter" ∈ lw_tbl := List.mem_of_getElem? (i := 243) (by decide +kernel)
theorem cl_Jx4a65c_7 : Cond.classLink RJx4a65c 7 "java/lang/Object" ∈ lw_tbl := List.mem_of_getElem? (i := 715) (by decide +kernel)
theorem cl_J7_2 : Cond.classLink RJ7 2 "java/lang/Object" ∈ lw_tbl := List.mem_of_getElem? (i := 711) (by decide +kernel)
theorem cl_J7_110 : Cond.classLink RJ7 110 "[Ljava/lang/Object;" ∈ lw_tbl := List.mem_of_getElem? (i := 709) (by decide +kernel)
theorem cl_X7_65 : Cond.classLink RX7 65 "LetterSieve$Rule" ∈ lw_tbl := List.mem_of_getElem? (i := 461) (by decide +kernel)
theorem cl_X9_93 : Cond.classLink RX9 93 "LetterSieve$Letter" ∈ lw_tbl := List.mem_of_getElem? (i := 495) (by decide +kernel)
theorem cl_X9_7 : Cond.classLink RX9 7 "LetterSieve$Tape" ∈ lw_tbl := List.mem_of_getElem? (i := 84) (by decide +kernel)
theorem cl_X9_16 : Cond.classLink RX9 16 "LetterSieve$RuleReader" ∈ lw_tbl := List.mem_of_getElem? (i := 101) (by decide +kernel)
theorem cl_X9_25 : Cond.classLink RX9 25 "LetterSieve$Row" ∈ lw_tbl := List.mem_of_getElem? (i := 129) (by decide +kernel)
theorem cl_X9_32 : Cond.classLink RX9 32 "LetterSieve$Mail" ∈ lw_tbl := List.mem_of_getElem? (i := 152) (by decide +kernel)
theorem cl_X9_39 : Cond.classLink RX9 39 "LetterSieve$Moves" ∈ lw_tbl := List.mem_of_getElem? (i := 171) (by decide +kernel)
theorem cl_X9_46 : Cond.classLink RX9 46 "LetterSieve$Costs" ∈ lw_tbl := List.mem_of_getElem? (i := 191) (by decide +kernel)
theorem cl_X9_53 : Cond.classLink RX9 53 "LetterSieve$Learner" ∈ lw_tbl := List.mem_of_getElem? (i := 210) (by decide +kernel)
theorem cl_X1_9 : Cond.classLink RX1 9 "java/util/ArrayList" ∈ lw_tbl := List.mem_of_getElem? (i := 216) (by decide +kernel)
theorem ao_X6 : Cond.arrayOver (.object "LetterSieve$Rule") ∈ lw_tbl := List.mem_of_getElem? (i := 136) (by decide +kernel)
theorem ao_X2 : Cond.arrayOver (.object "LetterSieve$Letter") ∈ lw_tbl := List.mem_of_getElem? (i := 159) (by decide +kernel)
theorem ao_O : Cond.arrayOver (.object "java/lang/Object") ∈ lw_tbl := List.mem_of_getElem? (i := 710) (by decide +kernel)
theorem ca_X6 : Cond.castable RX6 "java/lang/Object" ∈ lw_tbl := List.mem_of_getElem? (i := 1189) (by decide +kernel)
