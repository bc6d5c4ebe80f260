section AWH
variable {G : GG} {y : MI} {pc : Nat} {lv : List (Nat × Value)} {st : List Value} {Q : Option Value → Mem → Prop}
variable {n sz : Nat} {kd : Nat → AKd} {I : Nat → Nat → Int32} {R : Nat → Nat → Option Nat} {J : Nat → Nat → Int64}
def u2 {α : Type} (f : Nat → Nat → α) (k j : Nat) (x : α) : Nat → Nat → α := fun a b => if a = k then (if b = j then x else f a b) else f a b
theorem u2_same {α : Type} (f : Nat → Nat → α) (k j : Nat) (x : α) : u2 f k j x k j = x := by simp [u2]
theorem u2_row {α : Type} (f : Nat → Nat → α) {k a : Nat} (j : Nat) (x : α) (h : a ≠ k) : u2 f k j x a = f a := by funext b; simp [u2, h]
theorem u2_col {α : Type} (f : Nat → Nat → α) (k : Nat) {j b : Nat} (x : α) (h : b ≠ j) : u2 f k j x k b = f k b := by simp [u2, h]
theorem vz_up_same {α : Type} (f : Nat → α) (k : Nat) (x : α) : va_up f k x k = x := by simp [va_up]
theorem vz_up_ne {α : Type} (f : Nat → α) {k a : Nat} (x : α) (h : a ≠ k) : va_up f k x a = f a := by simp [va_up, h]
/-- what is known of a class by its tables -/
def CF (ci : Nat) (r : vw_C) : Prop := ci < 12 ∧ vwCl[ci]? = some r ∧ (∀ k, k < r.2.2 → parseFieldDescriptor (r.2.1 k).2.2.1 = some (fty ci k)) ∧ (∀ a, a < r.2.2 → ∀ b, b < r.2.2 → a ≠ b → (r.2.1 a).2.1 ≠ (r.2.1 b).2.1) ∧ (∀ w ∈ u_ws r.1 r.2.1 r.2.2, w ∈ lw_tbl ∧ zz_tb w = true) ∧ (∀ k, k < r.2.2 → fvl (fty ci k) 0 none 0 = defaultValue (fty ci k))
/-- a field's entry in a class's pool: which place of which class -/
def FL (own : String) (idx ci j : Nat) (r : vw_C) : Prop := CF ci r ∧ j < r.2.2 ∧ ∃ ref : String, (Cond.fieldLink own idx ref (r.2.1 j).2.1 (r.2.1 j).2.2.1 ∈ lw_tbl ∨ ∃ host, Cond.fieldLinkNest own idx ref (r.2.1 j).2.1 (r.2.1 j).2.2.1 host ∈ lw_tbl) ∧ (ref = (r.2.1 j).1 ∨ Cond.sameField ref (r.2.1 j).1 (r.2.1 j).2.1 (r.2.1 j).2.2.1 ∈ lw_tbl)
theorem nF_of {ci : Nat} {r : vw_C} (h : vwCl[ci]? = some r) : nF ci = r.2.2 := by
  unfold nF
  rw [h]
theorem aw_get {ci k j idx : Nat} {r : vw_C} {v : Value} (hd : decode y.2.1 pc = .ok (.getfield idx, 3)) (hL : FL y.1.cls idx ci j r) (hk : kd k = .inl ci) (hn : k < n) (hv : fvl (fty ci j) (I k j) (R k j) (J k j) = v) (K : AW G y (pc + 3) lv (v :: st) (n, sz, kd, I, R, J) Q) : AW G y pc lv (.ref (gz G + k) :: st) (n, sz, kd, I, R, J) Q := by
  intro M0 p e s m args below meth c C H locs ls hR hS hl
  obtain ⟨⟨hci, hc, hty, hnm, hws, -⟩, hj, ref, hlink, hsame⟩ := hL
  obtain ⟨hx, hb, hret, hml, hown, hlocks, hname, hK, h0⟩ := id C
  obtain ⟨-, cell, q1, q2, q3, q4, q5⟩ := cellAt_obj (hR.2.2.1 k hn) hk
  have hnf := nF_of hc
  obtain ⟨hS', hfc, kC, hkC, hkind⟩ := hK.1 ci _ hc
  obtain ⟨cf, kf, fi, f, hi, hsl⟩ := hS' j hj
  have hts : ∀ w ∈ u_ws r.1 r.2.1 r.2.2, w.before args s = true := fun w hw => hK.2.2.1 w (hws w hw).1 (hws w hw).2 args
  have hst := (u_facts hfc hkC (u_lays hts (fun _ h => h) hj) hi).1
  have hsm : s.fieldFound? ref (r.2.1 j).2.1 (r.2.1 j).2.2.1 = some (cf, kf, fi, f) := by
    rcases hsame with rfl | h
    · exact hi
    · exact u_same (hK.2.2.1 _ h rfl args) _ hi
  have hslot : cell.slots[f.slot]? = some v := by
    rw [hsl, q5 j (by omega)]
    exact congrArg some hv
  rcases hlink with hl1 | ⟨host, hl1⟩
  · exact W.getf hx hb hown (hK.2.2.1 _ hl1 rfl args) hsm hst q1 (by rw [q3]; exact fun h => by cases h) hslot rfl rfl hd (K M0 p e s m args below meth c C H locs ls hR hS hl)
  · exact va_Wgetf hx hb hown (hK.2.2.1 _ hl1 rfl args) hsm hst q1 (by rw [q3]; exact fun h => by cases h) hslot rfl rfl hd (K M0 p e s m args below meth c C H locs ls hR hS hl)
theorem rel_set {H H1 : Heap} {k : Nat} {M M1 : Mem} (hR : Rel G M H) (z1 : H1.size = H.size) (oq : ∀ q, q ≠ gz G + k → H1[q]? = H[q]?) (h1 : M1.1 = M.1) (h2 : M1.2.1 = M.2.1) (h3 : M1.2.2.1 = M.2.2.1) (ho : ∀ a, a ≠ k → M1.2.2.2.1 a = M.2.2.2.1 a ∧ M1.2.2.2.2.1 a = M.2.2.2.2.1 a ∧ M1.2.2.2.2.2 a = M.2.2.2.2.2 a) (hkn : k < M.1) (hc : cellAt G M1 k H1) : Rel G M1 H1 := by
  obtain ⟨r1, r2, r3, r4, r5, r6⟩ := hR
  refine ⟨by rw [z1, r1, h1], fun q hq => by rw [oq q (by omega)]; exact r2 q hq, fun a ha => ?_, by rw [h1, h2, h3]; exact r4, by rw [h1]; exact r5, by rw [h2]; exact r6⟩
  by_cases hak : a = k
  · subst hak
    exact hc
  · obtain ⟨o1, o2, o3⟩ := ho a hak
    have hq : H1[gz G + a]? = H[gz G + a]? := oq _ (by omega)
    have h4 := r3 a (by rw [← h1]; exact ha)
    unfold cellAt at h4 ⊢
    rw [h3]
    split
    · rename_i ci hci
      rw [hci] at h4
      obtain ⟨g0, cell, g1, g2, g3, g4, g5⟩ := h4
      exact ⟨g0, cell, by rw [hq]; exact g1, g2, g3, g4, fun j hj => by rw [o1, o2, o3]; exact g5 j hj⟩
    · rename_i x hx
      rw [hx] at h4
      refine ⟨h4.1, ?_⟩
      unfold arrAt
      rw [hq, o1, o2]
      exact h4.2
theorem zz_setSize (cell : Cell) (i : Nat) (v : Value) : (cell.setSlot i v).slots.size = cell.slots.size := by simp [Cell.setSlot]
theorem aw_putG {ci k j idx : Nat} {r : vw_C} {v : Value} {M M1 : Mem} (hd : decode y.2.1 pc = .ok (.putfield idx, 3)) (hL : FL y.1.cls idx ci j r) (hk : M.2.2.1 k = .inl ci) (hn : k < M.1) (hfin : (r.2.1 j).2.2.2 = false ∨ ((r.2.1 j).2.2.2 = true ∧ y.1.name = "<init>" ∧ (r.2.1 j).1 = y.1.cls ∧ Cond.fieldLink y.1.cls idx (r.2.1 j).1 (r.2.1 j).2.1 (r.2.1 j).2.2.1 ∈ lw_tbl)) (hnar : narrow (fty ci j) v = v) (hfit : fits (fty ci j) v = true)
    (h1 : M1.1 = M.1) (h2 : M1.2.1 = M.2.1) (h3 : M1.2.2.1 = M.2.2.1) (ho : ∀ a, a ≠ k → M1.2.2.2.1 a = M.2.2.2.1 a ∧ M1.2.2.2.2.1 a = M.2.2.2.2.1 a ∧ M1.2.2.2.2.2 a = M.2.2.2.2.2 a) (hv : fvl (fty ci j) (M1.2.2.2.1 k j) (M1.2.2.2.2.1 k j) (M1.2.2.2.2.2 k j) = v) (hb' : ∀ b, b ≠ j → M1.2.2.2.1 k b = M.2.2.2.1 k b ∧ M1.2.2.2.2.1 k b = M.2.2.2.2.1 k b ∧ M1.2.2.2.2.2 k b = M.2.2.2.2.2 k b)
    (K : AW G y (pc + 3) lv st M1 Q) : AW G y pc lv (v :: .ref (gz G + k) :: st) M Q := by
  intro M0 p e s m args below meth c C H locs ls hR hS hl
  obtain ⟨⟨hci, hc, hty, hnm, hws, -⟩, hj, ref, hlink, hsame⟩ := hL
  obtain ⟨hx, hb, hret, hml, hown, hlocks, hname, hK, h0⟩ := id C
  obtain ⟨hci', cell, q1, q2, q3, q4, q5⟩ := cellAt_obj (hR.2.2.1 k hn) hk
  have hnf := nF_of hc
  obtain ⟨hS', hfc, kC, hkC, hkind⟩ := hK.1 ci _ hc
  obtain ⟨cf, kf, fi, f, hi, hsl⟩ := hS' j hj
  have hts : ∀ w ∈ u_ws r.1 r.2.1 r.2.2, w.before args s = true := fun w hw => hK.2.2.1 w (hws w hw).1 (hws w hw).2 args
  have hst := (u_facts hfc hkC (u_lays hts (fun _ h => h) hj) hi).1
  have hsm : s.fieldFound? ref (r.2.1 j).2.1 (r.2.1 j).2.2.1 = some (cf, kf, fi, f) := by
    rcases hsame with rfl | h
    · exact hi
    · exact u_same (hK.2.2.1 _ h rfl args) _ hi
  have hap : ∀ a b, a < nF ci → b < nF ci → a ≠ b → gI G ci a ≠ gI G ci b := by
    intro a b ha hb2 hne
    obtain ⟨_, _, _, fa, hia, ea⟩ := hS' a (by omega)
    obtain ⟨_, _, _, fb, hib, eb⟩ := hS' b (by omega)
    rw [← ea, ← eb]
    refine u_apart (u_lays hts (fun _ h => h) (k := a) (by omega)) (u_lays hts (fun _ h => h) (k := b) (by omega)) hia hib ?_
    rw [(State.fieldFound?_type hia (hty a (by omega))).1, (State.fieldFound?_type hib (hty b (by omega))).1]
    exact hnm a (by omega) b (by omega) hne
  have hlt : f.slot < cell.slots.size := by rw [hsl]; exact k2_hasslot (q5 j (by omega))
  have fin : ∀ H' : Heap, H'[gz G + k]? = some (cell.setSlot f.slot v) → H'.size = H.size → (∀ q, q ≠ gz G + k → H'[q]? = H[q]?) → W p (gl G) e (rmOf y M0) s m args below meth c H' (locs ++ [⟨gz G + k, f.slot⟩]) (M.1 - M0.1) (M.2.1 - M0.2.1) (MQ below (QcOf G Q) args s (capC - M0.1) (capS - M0.2.1) (fun q => gz G ≤ q)) (F0 m (pc + 3) ls st) := by
    intro H' e1 e2 e3
    have hR1 : Rel G M1 H' := by
      refine rel_set hR e2 e3 h1 h2 h3 ho hn ?_
      unfold cellAt
      rw [h3, hk]
      refine ⟨hci, _, e1, q2, q3, by rw [zz_setSize]; exact q4, ?_⟩
      have hset := t_set (iS := gI G ci) (V := fun j => fvl (fty ci j) (M.2.2.2.1 k j) (M.2.2.2.2.1 k j) (M.2.2.2.2.2 k j)) q5 hap (k := j) (by omega) v
      intro b hb2
      rw [hsl, hset b hb2]
      by_cases hbj : b = j
      · subst hbj
        simp [updV, hv]
      · obtain ⟨o1, o2, o3⟩ := hb' b hbj
        simp [updV, hbj, o1, o2, o3]
    have key := K M0 p e s m args below meth c C H' (locs ++ [⟨gz G + k, f.slot⟩]) ls hR1 (hS.put e2 e3 (Nat.le_add_right _ _)) hl
    rw [h1, h2] at key
    exact key
  rcases hfin with hf | ⟨hf, hin2, hdecl, hlk⟩
  · have hlay := hts _ (u_in_lay hj)
    unfold u_lay at hlay
    rw [if_neg (by rw [hf]; decide)] at hlay
    have h6 := u_store hfc hkC hkind hlay hi (hty j hj) hnar hfit
    rcases hlink with hl1 | ⟨host, hl1⟩
    · exact W.putK hx hb (f := f) ⟨hown, hK.2.2.1 _ hl1 rfl args, ⟨_, _, _, hsm⟩, hst⟩ (by rw [q2]; exact h6) q1 q3 hlt rfl rfl hd fin
    · exact va_WputK hx hb (f := f) hown (hK.2.2.1 _ hl1 rfl args) hsm hst (by rw [q2]; exact h6) q1 q3 hlt rfl rfl hd fin
  · have hlay := hts _ (u_in_lay hj)
    unfold u_lay at hlay
    rw [if_pos hf] at hlay
    have hcf : m.cls = cf := by
      obtain ⟨_, _, c', _, _, _, -, -, hf', -, -, -, hown2, -⟩ := Cond.laysFinal_spec hlay
      have e1 : c' = cf := by have := hi.symm.trans hf'; simp at this; exact this.1.symm
      rw [hdecl] at hown2
      rw [← e1]; exact Option.some.inj (hown.symm.trans hown2)
    have h6 := u_fits hfc hkC hkind (Or.inr hlay) hi (hty j hj) hnar hfit
    exact W.putFinK hx hb hown (hK.2.2.1 _ hlk rfl args) hi hst hcf (hname.trans hin2) (by rw [q2]; exact h6) q1 q3 hlt rfl rfl hd fin
/-- may be written there: not final, or in the class's own constructor -/
def FW (y : MI) (idx j : Nat) (r : vw_C) : Prop := (r.2.1 j).2.2.2 = false ∨ ((r.2.1 j).2.2.2 = true ∧ y.1.name = "<init>" ∧ (r.2.1 j).1 = y.1.cls ∧ Cond.fieldLink y.1.cls idx (r.2.1 j).1 (r.2.1 j).2.1 (r.2.1 j).2.2.1 ∈ lw_tbl)
theorem aw_putI {ci k j idx : Nat} {r : vw_C} {x : Int32} (hd : decode y.2.1 pc = .ok (.putfield idx, 3)) (hL : FL y.1.cls idx ci j r) (hf : FW y idx j r) (hty : fty ci j = .int) (hk : kd k = .inl ci) (hn : k < n) (K : AW G y (pc + 3) lv st (n, sz, kd, u2 I k j x, R, J) Q) : AW G y pc lv (.int x :: .ref (gz G + k) :: st) (n, sz, kd, I, R, J) Q :=
  aw_putG (M1 := (n, sz, kd, u2 I k j x, R, J)) hd hL hk hn hf (by rw [hty]; rfl) (by rw [hty]; rfl) rfl rfl rfl (fun a ha => ⟨u2_row I j x ha, rfl, rfl⟩) (by rw [hty]; show Value.int (u2 I k j x k j) = _; rw [u2_same]) (fun b hb => ⟨u2_col I k x hb, rfl, rfl⟩) K
theorem aw_putZ {ci k j idx : Nat} {r : vw_C} {b : Bool} (hd : decode y.2.1 pc = .ok (.putfield idx, 3)) (hL : FL y.1.cls idx ci j r) (hf : FW y idx j r) (hty : fty ci j = .boolean) (hk : kd k = .inl ci) (hn : k < n) (K : AW G y (pc + 3) lv st (n, sz, kd, u2 I k j (bi b), R, J) Q) : AW G y pc lv (.int (bi b) :: .ref (gz G + k) :: st) (n, sz, kd, I, R, J) Q :=
  aw_putG (M1 := (n, sz, kd, u2 I k j (bi b), R, J)) hd hL hk hn hf (by rw [hty]; exact bi_nar b) (by rw [hty]; cases b <;> rfl) rfl rfl rfl (fun a ha => ⟨u2_row I j _ ha, rfl, rfl⟩) (by rw [hty]; show Value.int (u2 I k j (bi b) k j) = _; rw [u2_same]) (fun b' hb => ⟨u2_col I k _ hb, rfl, rfl⟩) K
def isRefT (t : FieldType) : Bool := match t with
  | .object _ => true
  | .array _ => true
  | _ => false
theorem aw_putR {ci k j idx : Nat} {r : vw_C} {x : Option Nat} (hd : decode y.2.1 pc = .ok (.putfield idx, 3)) (hL : FL y.1.cls idx ci j r) (hf : FW y idx j r) (hty : isRefT (fty ci j) = true) (hk : kd k = .inl ci) (hn : k < n) (K : AW G y (pc + 3) lv st (n, sz, kd, I, u2 R k j x, J) Q) : AW G y pc lv (va_rf x :: .ref (gz G + k) :: st) (n, sz, kd, I, R, J) Q := by
  have h1 : narrow (fty ci j) (va_rf x) = va_rf x ∧ fits (fty ci j) (va_rf x) = true ∧ fvl (fty ci j) (I k j) x (J k j) = va_rf x := by
    cases hT : fty ci j <;> rw [hT] at hty <;> first | (cases x <;> exact ⟨rfl, rfl, rfl⟩) | cases hty
  exact aw_putG (M1 := (n, sz, kd, I, u2 R k j x, J)) hd hL hk hn hf h1.1 h1.2.1 rfl rfl rfl (fun a ha => ⟨rfl, u2_row R j _ ha, rfl⟩) (by show fvl (fty ci j) (I k j) (u2 R k j x k j) (J k j) = _; rw [u2_same]; exact h1.2.2) (fun b' hb => ⟨rfl, u2_col R k _ hb, rfl⟩) K
theorem aw_putJ {ci k j idx : Nat} {r : vw_C} {x : Int64} (hd : decode y.2.1 pc = .ok (.putfield idx, 3)) (hL : FL y.1.cls idx ci j r) (hf : FW y idx j r) (hty : fty ci j = .long) (hk : kd k = .inl ci) (hn : k < n) (K : AW G y (pc + 3) lv st (n, sz, kd, I, R, u2 J k j x) Q) : AW G y pc lv (.long x :: .ref (gz G + k) :: st) (n, sz, kd, I, R, J) Q :=
  aw_putG (M1 := (n, sz, kd, I, R, u2 J k j x)) hd hL hk hn hf (by rw [hty]; rfl) (by rw [hty]; rfl) rfl rfl rfl (fun a ha => ⟨rfl, rfl, u2_row J j x ha⟩) (by rw [hty]; show Value.long (u2 J k j x k j) = _; rw [u2_same]) (fun b hb => ⟨rfl, rfl, u2_col J k x hb⟩) K
theorem aw_lcmp {x z : Int64} {M : Mem} (hd : decode y.2.1 pc = .ok (.lcmp, 1)) (K : AW G y (pc + 1) lv (.int (lg_cmp x z) :: st) M Q) : AW G y pc lv (.long z :: .long x :: st) M Q := fun M0 p e s m args below meth c C H locs ls hR hS hl => W.lcmp C.1 C.2.1 hd (K M0 p e s m args below meth c C H locs ls hR hS hl)
end AWH
