section AWX
variable {G : GG} {y : MI} {pc : Nat} {lv : List (Nat × Value)} {st : List Value} {M M1 : Mem} {Q : Option Value → Mem → Prop}
/-- an exact contract: it answers v, the memory is M1 then -/
def EX (G : GG) (y : MI) (as : List Value) (M : Mem) (v : Option Value) (M1 : Mem) : Prop := MM G y as M (fun v' M' => v' = v ∧ M' = M1)
theorem ix_any {i : Int32} {len : Nat} (h : vp_in i len) (hl : len < 2 ^ 31) : ∃ j, ix i j len := by
  obtain ⟨j, h1, h2⟩ := vp_in_of h hl
  exact ⟨j, h2, h1, hl⟩
theorem ixm {j len : Nat} (h : j < len) (hl : len < 2 ^ 31 := by decide) : ix (nI j) j len := ⟨rfl, h, hl⟩
theorem ixe {i : Int32} {j len : Nat} (e : i = nI j) (h : j < len) (hl : len < 2 ^ 31 := by decide) : ix i j len := ⟨e, h, hl⟩
theorem aw_cVx {z : MI} {k ci idx kn : Nat} {r : vw_C} {as rest : List Value} {v : Value} (hd : decode y.2.1 pc = .ok (.invokevirtual idx, 3)) (hL : LK y.1.cls idx z) (hz : CM z kn) (hv : VI z) (hro : RO y z) (hkn : as.length = kn) (hk : M.2.2.1 k = .inl ci) (hn : k < M.1) (hcl : vwCl[ci]? = some r) (hcn : r.1 = z.1.cls) (hst : st = as.reverse ++ .ref (gz G + k) :: rest) (hw : (rest.map fun v => v.category).sum ≤ 8) (hM : EX G z (.ref (gz G + k) :: as) M (some v) M1) (K : AW G y (pc + 3) lv (v :: rest) M1 Q) : AW G y pc lv st M Q :=
  aw_callV hd hL hz hv hro hkn hk hn hcl hcn hst hw hM (fun v' M' q => by obtain ⟨rfl, rfl⟩ := q; exact K)
theorem aw_cVv {z : MI} {k ci idx kn : Nat} {r : vw_C} {as rest : List Value} (hd : decode y.2.1 pc = .ok (.invokevirtual idx, 3)) (hL : LK y.1.cls idx z) (hz : CM z kn) (hv : VI z) (hro : RO y z) (hkn : as.length = kn) (hk : M.2.2.1 k = .inl ci) (hn : k < M.1) (hcl : vwCl[ci]? = some r) (hcn : r.1 = z.1.cls) (hst : st = as.reverse ++ .ref (gz G + k) :: rest) (hw : (rest.map fun v => v.category).sum ≤ 8) (hM : EX G z (.ref (gz G + k) :: as) M (none) M1) (K : AW G y (pc + 3) lv (rest) M1 Q) : AW G y pc lv st M Q :=
  aw_callV hd hL hz hv hro hkn hk hn hcl hcn hst hw hM (fun v' M' q => by obtain ⟨rfl, rfl⟩ := q; exact K)
theorem aw_cSx {z : MI} {idx kn : Nat} {as rest : List Value} {v : Value} (hd : decode y.2.1 pc = .ok (.invokestatic idx, 3)) (hL : LK y.1.cls idx z) (hz : CM z kn) (hv : Cond.static z.1 ∈ lw_tbl) (hro : RO y z) (hkn : as.length = kn) (hst : st = as.reverse ++ rest) (hw : (rest.map fun v => v.category).sum ≤ 8) (hM : EX G z (as) M (some v) M1) (K : AW G y (pc + 3) lv (v :: rest) M1 Q) : AW G y pc lv st M Q :=
  aw_callS hd hL hz hv hro hkn hst hw hM (fun v' M' q => by obtain ⟨rfl, rfl⟩ := q; exact K)
theorem aw_cSv {z : MI} {idx kn : Nat} {as rest : List Value} (hd : decode y.2.1 pc = .ok (.invokestatic idx, 3)) (hL : LK y.1.cls idx z) (hz : CM z kn) (hv : Cond.static z.1 ∈ lw_tbl) (hro : RO y z) (hkn : as.length = kn) (hst : st = as.reverse ++ rest) (hw : (rest.map fun v => v.category).sum ≤ 8) (hM : EX G z (as) M (none) M1) (K : AW G y (pc + 3) lv (rest) M1 Q) : AW G y pc lv st M Q :=
  aw_callS hd hL hz hv hro hkn hst hw hM (fun v' M' q => by obtain ⟨rfl, rfl⟩ := q; exact K)
theorem aw_cIx {z : MI} {a idx kn : Nat} {as rest : List Value} {v : Value} (hd : decode y.2.1 pc = .ok (.invokespecial idx, 3)) (hL : LK y.1.cls idx z) (hz : CM z kn) (hv : z.2.2.2.1 = none ∧ z.1.name = "<init>" ∧ Cond.instanceMethod z.1 ∈ lw_tbl) (hro : RO y z) (hkn : as.length = kn) (hst : st = as.reverse ++ .ref a :: rest) (hw : (rest.map fun v => v.category).sum ≤ 8) (hM : EX G z (.ref a :: as) M (some v) M1) (K : AW G y (pc + 3) lv (v :: rest) M1 Q) : AW G y pc lv st M Q :=
  aw_callI hd hL hz hv hro hkn hst hw hM (fun v' M' q => by obtain ⟨rfl, rfl⟩ := q; exact K)
theorem aw_cIv {z : MI} {a idx kn : Nat} {as rest : List Value} (hd : decode y.2.1 pc = .ok (.invokespecial idx, 3)) (hL : LK y.1.cls idx z) (hz : CM z kn) (hv : z.2.2.2.1 = none ∧ z.1.name = "<init>" ∧ Cond.instanceMethod z.1 ∈ lw_tbl) (hro : RO y z) (hkn : as.length = kn) (hst : st = as.reverse ++ .ref a :: rest) (hw : (rest.map fun v => v.category).sum ≤ 8) (hM : EX G z (.ref a :: as) M (none) M1) (K : AW G y (pc + 3) lv (rest) M1 Q) : AW G y pc lv st M Q :=
  aw_callI hd hL hz hv hro hkn hst hw hM (fun v' M' q => by obtain ⟨rfl, rfl⟩ := q; exact K)
end AWX
def mtab : Nat → Nat × Nat := fun i => match i with
  | 0 => (0, 100)
  | 1 => (0, 100)
  | 2 => (0, 100)
  | 3 => (0, 100)
  | 4 => (0, 100)
  | 5 => (0, 100)
  | 6 => (0, 100)
  | 7 => (0, 100)
  | 8 => (0, 100)
  | 9 => (2, 10)
  | 10 => (0, 10)
  | 11 => (0, 10)
  | 12 => (0, 40)
  | 13 => (0, 10)
  | 14 => (0, 6)
  | 15 => (0, 6)
  | 16 => (0, 12)
  | 17 => (0, 6)
  | 18 => (0, 6560)
  | 19 => (0, 8)
  | 20 => (0, 200)
  | 21 => (0, 200)
  | 22 => (0, 200)
  | 23 => (1, 100)
  | 24 => (0, 4)
  | 25 => (1, 45)
  | 26 => (2, 100)
  | 27 => (0, 8)
  | _ => (0, 6)
def mfld : Nat → Nat := fun i => match i with
  | 0 => 1
  | 1 => 2
  | 2 => 3
  | 3 => 4
  | 4 => 5
  | 5 => 6
  | 6 => 7
  | 7 => 8
  | 8 => 9
  | 9 => 10
  | 10 => 11
  | 11 => 12
  | 12 => 13
  | 13 => 14
  | 14 => 17
  | 15 => 18
  | 16 => 19
  | 17 => 20
  | 18 => 22
  | 19 => 25
  | 20 => 27
  | 21 => 28
  | 22 => 29
  | 23 => 30
  | 24 => 36
  | 25 => 38
  | 26 => 46
  | 27 => 47
  | _ => 48
/-- the reference's object and its arrays lie where they were made -/
def ShM (G : GG) (n : Nat) (kd : Nat → AKd) (R : Nat → Nat → Option Nat) : Prop := 52 ≤ n ∧ kd 22 = .inl 11 ∧ (∀ i, i < 29 → kd (23 + i) = .inr (mtab i)) ∧ ∀ i, i < 29 → R 22 (mfld i) = some (gz G + (23 + i))
section SHM
variable {G : GG} {n : Nat} {kd : Nat → AKd} {R : Nat → Nat → Option Nat}
theorem sM_kd (h : ShM G n kd R) : kd 22 = .inl 11 := h.2.1
theorem sM_n (h : ShM G n kd R) : 22 < n := Nat.lt_of_lt_of_le (by decide) h.1
theorem sM_k_from (h : ShM G n kd R) : kd 23 = .inr (0, 100) := h.2.2.1 0 (by decide)
theorem sM_l_from (h : ShM G n kd R) : 23 < n := Nat.lt_of_lt_of_le (by decide) h.1
theorem sM_r_from (h : ShM G n kd R) (x : Int32) (z : Int64) : fvl (fty 11 1) x (R 22 1) z = .ref (gz G + 23) := by rw [show R 22 1 = some (gz G + 23) from h.2.2.2 0 (by decide)]; rfl
theorem sM_k_list (h : ShM G n kd R) : kd 24 = .inr (0, 100) := h.2.2.1 1 (by decide)
theorem sM_l_list (h : ShM G n kd R) : 24 < n := Nat.lt_of_lt_of_le (by decide) h.1
theorem sM_r_list (h : ShM G n kd R) (x : Int32) (z : Int64) : fvl (fty 11 2) x (R 22 2) z = .ref (gz G + 24) := by rw [show R 22 2 = some (gz G + 24) from h.2.2.2 1 (by decide)]; rfl
theorem sM_k_size (h : ShM G n kd R) : kd 25 = .inr (0, 100) := h.2.2.1 2 (by decide)
theorem sM_l_size (h : ShM G n kd R) : 25 < n := Nat.lt_of_lt_of_le (by decide) h.1
theorem sM_r_size (h : ShM G n kd R) (x : Int32) (z : Int64) : fvl (fty 11 3) x (R 22 3) z = .ref (gz G + 25) := by rw [show R 22 3 = some (gz G + 25) from h.2.2.2 2 (by decide)]; rfl
theorem sM_k_words (h : ShM G n kd R) : kd 26 = .inr (0, 100) := h.2.2.1 3 (by decide)
theorem sM_l_words (h : ShM G n kd R) : 26 < n := Nat.lt_of_lt_of_le (by decide) h.1
theorem sM_r_words (h : ShM G n kd R) (x : Int32) (z : Int64) : fvl (fty 11 4) x (R 22 4) z = .ref (gz G + 26) := by rw [show R 22 4 = some (gz G + 26) from h.2.2.2 3 (by decide)]; rfl
theorem sM_k_lies (h : ShM G n kd R) : kd 27 = .inr (0, 100) := h.2.2.1 4 (by decide)
theorem sM_l_lies (h : ShM G n kd R) : 27 < n := Nat.lt_of_lt_of_le (by decide) h.1
theorem sM_r_lies (h : ShM G n kd R) (x : Int32) (z : Int64) : fvl (fty 11 5) x (R 22 5) z = .ref (gz G + 27) := by rw [show R 22 5 = some (gz G + 27) from h.2.2.2 4 (by decide)]; rfl
theorem sM_k_by (h : ShM G n kd R) : kd 28 = .inr (0, 100) := h.2.2.1 5 (by decide)
theorem sM_l_by (h : ShM G n kd R) : 28 < n := Nat.lt_of_lt_of_le (by decide) h.1
theorem sM_r_by (h : ShM G n kd R) (x : Int32) (z : Int64) : fvl (fty 11 6) x (R 22 6) z = .ref (gz G + 28) := by rw [show R 22 6 = some (gz G + 28) from h.2.2.2 5 (by decide)]; rfl
theorem sM_k_byName (h : ShM G n kd R) : kd 29 = .inr (0, 100) := h.2.2.1 6 (by decide)
theorem sM_l_byName (h : ShM G n kd R) : 29 < n := Nat.lt_of_lt_of_le (by decide) h.1
theorem sM_r_byName (h : ShM G n kd R) (x : Int32) (z : Int64) : fvl (fty 11 7) x (R 22 7) z = .ref (gz G + 29) := by rw [show R 22 7 = some (gz G + 29) from h.2.2.2 6 (by decide)]; rfl
theorem sM_k_into (h : ShM G n kd R) : kd 30 = .inr (0, 100) := h.2.2.1 7 (by decide)
theorem sM_l_into (h : ShM G n kd R) : 30 < n := Nat.lt_of_lt_of_le (by decide) h.1
theorem sM_r_into (h : ShM G n kd R) (x : Int32) (z : Int64) : fvl (fty 11 8) x (R 22 8) z = .ref (gz G + 30) := by rw [show R 22 8 = some (gz G + 30) from h.2.2.2 7 (by decide)]; rfl
theorem sM_k_belongs (h : ShM G n kd R) : kd 31 = .inr (0, 100) := h.2.2.1 8 (by decide)
theorem sM_l_belongs (h : ShM G n kd R) : 31 < n := Nat.lt_of_lt_of_le (by decide) h.1
theorem sM_r_belongs (h : ShM G n kd R) (x : Int32) (z : Int64) : fvl (fty 11 9) x (R 22 9) z = .ref (gz G + 31) := by rw [show R 22 9 = some (gz G + 31) from h.2.2.2 8 (by decide)]; rfl
theorem sM_k_isThere (h : ShM G n kd R) : kd 32 = .inr (2, 10) := h.2.2.1 9 (by decide)
theorem sM_l_isThere (h : ShM G n kd R) : 32 < n := Nat.lt_of_lt_of_le (by decide) h.1
theorem sM_r_isThere (h : ShM G n kd R) (x : Int32) (z : Int64) : fvl (fty 11 10) x (R 22 10) z = .ref (gz G + 32) := by rw [show R 22 10 = some (gz G + 32) from h.2.2.2 9 (by decide)]; rfl
theorem sM_k_handBy (h : ShM G n kd R) : kd 33 = .inr (0, 10) := h.2.2.1 10 (by decide)
theorem sM_l_handBy (h : ShM G n kd R) : 33 < n := Nat.lt_of_lt_of_le (by decide) h.1
theorem sM_r_handBy (h : ShM G n kd R) (x : Int32) (z : Int64) : fvl (fty 11 11) x (R 22 11) z = .ref (gz G + 33) := by rw [show R 22 11 = some (gz G + 33) from h.2.2.2 10 (by decide)]; rfl
theorem sM_k_handMany (h : ShM G n kd R) : kd 34 = .inr (0, 10) := h.2.2.1 11 (by decide)
theorem sM_l_handMany (h : ShM G n kd R) : 34 < n := Nat.lt_of_lt_of_le (by decide) h.1
theorem sM_r_handMany (h : ShM G n kd R) (x : Int32) (z : Int64) : fvl (fty 11 12) x (R 22 12) z = .ref (gz G + 34) := by rw [show R 22 12 = some (gz G + 34) from h.2.2.2 11 (by decide)]; rfl
theorem sM_k_handCode (h : ShM G n kd R) : kd 35 = .inr (0, 40) := h.2.2.1 12 (by decide)
theorem sM_l_handCode (h : ShM G n kd R) : 35 < n := Nat.lt_of_lt_of_le (by decide) h.1
theorem sM_r_handCode (h : ShM G n kd R) (x : Int32) (z : Int64) : fvl (fty 11 13) x (R 22 13) z = .ref (gz G + 35) := by rw [show R 22 13 = some (gz G + 35) from h.2.2.2 12 (by decide)]; rfl
theorem sM_k_handFolder (h : ShM G n kd R) : kd 36 = .inr (0, 10) := h.2.2.1 13 (by decide)
theorem sM_l_handFolder (h : ShM G n kd R) : 36 < n := Nat.lt_of_lt_of_le (by decide) h.1
theorem sM_r_handFolder (h : ShM G n kd R) (x : Int32) (z : Int64) : fvl (fty 11 14) x (R 22 14) z = .ref (gz G + 36) := by rw [show R 22 14 = some (gz G + 36) from h.2.2.2 13 (by decide)]; rfl
theorem sM_k_learntName (h : ShM G n kd R) : kd 37 = .inr (0, 6) := h.2.2.1 14 (by decide)
theorem sM_l_learntName (h : ShM G n kd R) : 37 < n := Nat.lt_of_lt_of_le (by decide) h.1
theorem sM_r_learntName (h : ShM G n kd R) (x : Int32) (z : Int64) : fvl (fty 11 17) x (R 22 17) z = .ref (gz G + 37) := by rw [show R 22 17 = some (gz G + 37) from h.2.2.2 14 (by decide)]; rfl
theorem sM_k_learntTests (h : ShM G n kd R) : kd 38 = .inr (0, 6) := h.2.2.1 15 (by decide)
theorem sM_l_learntTests (h : ShM G n kd R) : 38 < n := Nat.lt_of_lt_of_le (by decide) h.1
theorem sM_r_learntTests (h : ShM G n kd R) (x : Int32) (z : Int64) : fvl (fty 11 18) x (R 22 18) z = .ref (gz G + 38) := by rw [show R 22 18 = some (gz G + 38) from h.2.2.2 15 (by decide)]; rfl
theorem sM_k_learntCode (h : ShM G n kd R) : kd 39 = .inr (0, 12) := h.2.2.1 16 (by decide)
theorem sM_l_learntCode (h : ShM G n kd R) : 39 < n := Nat.lt_of_lt_of_le (by decide) h.1
theorem sM_r_learntCode (h : ShM G n kd R) (x : Int32) (z : Int64) : fvl (fty 11 19) x (R 22 19) z = .ref (gz G + 39) := by rw [show R 22 19 = some (gz G + 39) from h.2.2.2 16 (by decide)]; rfl
theorem sM_k_learntFolder (h : ShM G n kd R) : kd 40 = .inr (0, 6) := h.2.2.1 17 (by decide)
theorem sM_l_learntFolder (h : ShM G n kd R) : 40 < n := Nat.lt_of_lt_of_le (by decide) h.1
theorem sM_r_learntFolder (h : ShM G n kd R) (x : Int32) (z : Int64) : fvl (fty 11 20) x (R 22 20) z = .ref (gz G + 40) := by rw [show R 22 20 = some (gz G + 40) from h.2.2.2 17 (by decide)]; rfl
theorem sM_k_nameOf (h : ShM G n kd R) : kd 41 = .inr (0, 6560) := h.2.2.1 18 (by decide)
theorem sM_l_nameOf (h : ShM G n kd R) : 41 < n := Nat.lt_of_lt_of_le (by decide) h.1
theorem sM_r_nameOf (h : ShM G n kd R) (x : Int32) (z : Int64) : fvl (fty 11 22) x (R 22 22) z = .ref (gz G + 41) := by rw [show R 22 22 = some (gz G + 41) from h.2.2.2 18 (by decide)]; rfl
theorem sM_k_wrongCost (h : ShM G n kd R) : kd 42 = .inr (0, 8) := h.2.2.1 19 (by decide)
theorem sM_l_wrongCost (h : ShM G n kd R) : 42 < n := Nat.lt_of_lt_of_le (by decide) h.1
theorem sM_r_wrongCost (h : ShM G n kd R) (x : Int32) (z : Int64) : fvl (fty 11 25) x (R 22 25) z = .ref (gz G + 42) := by rw [show R 22 25 = some (gz G + 42) from h.2.2.2 19 (by decide)]; rfl
theorem sM_k_moved (h : ShM G n kd R) : kd 43 = .inr (0, 200) := h.2.2.1 20 (by decide)
theorem sM_l_moved (h : ShM G n kd R) : 43 < n := Nat.lt_of_lt_of_le (by decide) h.1
theorem sM_r_moved (h : ShM G n kd R) (x : Int32) (z : Int64) : fvl (fty 11 27) x (R 22 27) z = .ref (gz G + 43) := by rw [show R 22 27 = some (gz G + 43) from h.2.2.2 20 (by decide)]; rfl
theorem sM_k_wasLying (h : ShM G n kd R) : kd 44 = .inr (0, 200) := h.2.2.1 21 (by decide)
theorem sM_l_wasLying (h : ShM G n kd R) : 44 < n := Nat.lt_of_lt_of_le (by decide) h.1
theorem sM_r_wasLying (h : ShM G n kd R) (x : Int32) (z : Int64) : fvl (fty 11 28) x (R 22 28) z = .ref (gz G + 44) := by rw [show R 22 28 = some (gz G + 44) from h.2.2.2 21 (by decide)]; rfl
theorem sM_k_wasBelonging (h : ShM G n kd R) : kd 45 = .inr (0, 200) := h.2.2.1 22 (by decide)
theorem sM_l_wasBelonging (h : ShM G n kd R) : 45 < n := Nat.lt_of_lt_of_le (by decide) h.1
theorem sM_r_wasBelonging (h : ShM G n kd R) (x : Int32) (z : Int64) : fvl (fty 11 29) x (R 22 29) z = .ref (gz G + 45) := by rw [show R 22 29 = some (gz G + 45) from h.2.2.2 22 (by decide)]; rfl
theorem sM_k_tape (h : ShM G n kd R) : kd 46 = .inr (1, 100) := h.2.2.1 23 (by decide)
theorem sM_l_tape (h : ShM G n kd R) : 46 < n := Nat.lt_of_lt_of_le (by decide) h.1
theorem sM_r_tape (h : ShM G n kd R) (x : Int32) (z : Int64) : fvl (fty 11 30) x (R 22 30) z = .ref (gz G + 46) := by rw [show R 22 30 = some (gz G + 46) from h.2.2.2 23 (by decide)]; rfl
theorem sM_k_read (h : ShM G n kd R) : kd 47 = .inr (0, 4) := h.2.2.1 24 (by decide)
theorem sM_l_read (h : ShM G n kd R) : 47 < n := Nat.lt_of_lt_of_le (by decide) h.1
theorem sM_r_read (h : ShM G n kd R) (x : Int32) (z : Int64) : fvl (fty 11 36) x (R 22 36) z = .ref (gz G + 47) := by rw [show R 22 36 = some (gz G + 47) from h.2.2.2 24 (by decide)]; rfl
theorem sM_k_known (h : ShM G n kd R) : kd 48 = .inr (1, 45) := h.2.2.1 25 (by decide)
theorem sM_l_known (h : ShM G n kd R) : 48 < n := Nat.lt_of_lt_of_le (by decide) h.1
theorem sM_r_known (h : ShM G n kd R) (x : Int32) (z : Int64) : fvl (fty 11 38) x (R 22 38) z = .ref (gz G + 48) := by rw [show R 22 38 = some (gz G + 48) from h.2.2.2 25 (by decide)]; rfl
theorem sM_k_isOpen (h : ShM G n kd R) : kd 49 = .inr (2, 100) := h.2.2.1 26 (by decide)
theorem sM_l_isOpen (h : ShM G n kd R) : 49 < n := Nat.lt_of_lt_of_le (by decide) h.1
theorem sM_r_isOpen (h : ShM G n kd R) (x : Int32) (z : Int64) : fvl (fty 11 46) x (R 22 46) z = .ref (gz G + 49) := by rw [show R 22 46 = some (gz G + 49) from h.2.2.2 26 (by decide)]; rfl
theorem sM_k_there (h : ShM G n kd R) : kd 50 = .inr (0, 8) := h.2.2.1 27 (by decide)
theorem sM_l_there (h : ShM G n kd R) : 50 < n := Nat.lt_of_lt_of_le (by decide) h.1
theorem sM_r_there (h : ShM G n kd R) (x : Int32) (z : Int64) : fvl (fty 11 47) x (R 22 47) z = .ref (gz G + 50) := by rw [show R 22 47 = some (gz G + 50) from h.2.2.2 27 (by decide)]; rfl
theorem sM_k_were (h : ShM G n kd R) : kd 51 = .inr (0, 6) := h.2.2.1 28 (by decide)
theorem sM_l_were (h : ShM G n kd R) : 51 < n := Nat.lt_of_lt_of_le (by decide) h.1
theorem sM_r_were (h : ShM G n kd R) (x : Int32) (z : Int64) : fvl (fty 11 48) x (R 22 48) z = .ref (gz G + 51) := by rw [show R 22 48 = some (gz G + 51) from h.2.2.2 28 (by decide)]; rfl
end SHM
