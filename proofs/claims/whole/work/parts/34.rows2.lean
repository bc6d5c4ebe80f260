section AWY
variable {G : GG} {y : MI} {pc : Nat} {lv : List (Nat × Value)} {st : List Value} {Q : Option Value → Mem → Prop}
variable {n sz : Nat} {kd : Nat → AKd} {I : Nat → Nat → Int32} {R : Nat → Nat → Option Nat} {J : Nat → Nat → Int64}
theorem aw_aaS {t k j len a : Nat} {i : Int32} (hd : decode y.2.1 pc = .ok (.aaload, 1)) (ht : 3 ≤ t) (hk : kd k = .inr (t, len)) (hn : k < n) (hi : ix i j len) (hv : R k j = some a) (K : AW G y (pc + 1) lv (.ref a :: st) (n, sz, kd, I, R, J) Q) : AW G y pc lv (.int i :: .ref (gz G + k) :: st) (n, sz, kd, I, R, J) Q :=
  aw_aald hd ht hk hn hi (by rw [hv]; exact K)
theorem aw_aaN {t k j len : Nat} {i : Int32} (hd : decode y.2.1 pc = .ok (.aaload, 1)) (ht : 3 ≤ t) (hk : kd k = .inr (t, len)) (hn : k < n) (hi : ix i j len) (hv : R k j = none) (K : AW G y (pc + 1) lv (.null :: st) (n, sz, kd, I, R, J) Q) : AW G y pc lv (.int i :: .ref (gz G + k) :: st) (n, sz, kd, I, R, J) Q :=
  aw_aald hd ht hk hn hi (by rw [hv]; exact K)
theorem aw_aastN {t k j len : Nat} {i : Int32} (hd : decode y.2.1 pc = .ok (.aastore, 1)) (ht : 3 ≤ t) (hk : kd k = .inr (t, len)) (hn : k < n) (hi : ix i j len) (K : AW G y (pc + 1) lv st (n, sz, kd, I, u2 R k j none, J) Q) : AW G y pc lv (.null :: .int i :: .ref (gz G + k) :: st) (n, sz, kd, I, R, J) Q := by
  intro M0 p e s m args below meth c C H locs ls hR hS hl
  obtain ⟨hx, hb, hret, hml, hown, hlocks, hname, hK, h0⟩ := id C
  obtain ⟨ht6, q1⟩ := cellAt_arr (hR.2.2.1 k hn) hk
  obtain ⟨Cn, hC, -⟩ := zz_refT ht
  have hA := (hK.2.1 t ht6).1
  rw [hC] at hA
  refine va_WaastN (C := Cn) hx hb q1 (hA _ _) (fun h => by cases h) hi.at rfl rfl hd ?_
  refine ar_fin (M1 := (n, sz, kd, I, u2 R k j none, J)) hi hk hn C hR hS hl rfl rfl rfl (fun a ha => ⟨rfl, u2_row R j _ ha, rfl⟩) (fun b => ?_) K
  show avl t (I k b) (u2 R k j none k b) = if b = j then Value.null else avl t (I k b) (R k b)
  rw [avl_ref ht, avl_ref ht]
  by_cases hb2 : b = j
  · subst hb2; rw [u2_same, if_pos rfl]; rfl
  · rw [u2_col R k none hb2, if_neg hb2]
theorem aw_aast {t k j len q ci : Nat} {r : vw_C} {i : Int32} {Cn : String} (hd : decode y.2.1 pc = .ok (.aastore, 1)) (ht : 3 ≤ t) (hC : aty t = .object Cn) (hk : kd k = .inr (t, len)) (hn : k < n) (hi : ix i j len) (hq : kd q = .inl ci) (hqn : q < n) (hcl : vwCl[ci]? = some r) (hca : Cn = r.1 ∨ Cond.castable r.1 Cn ∈ lw_tbl) (K : AW G y (pc + 1) lv st (n, sz, kd, I, u2 R k j (some (gz G + q)), J) Q) : AW G y pc lv (.ref (gz G + q) :: .int i :: .ref (gz G + k) :: st) (n, sz, kd, I, R, J) Q := by
  intro M0 p e s m args below meth c C H locs ls hR hS hl
  obtain ⟨hx, hb, hret, hml, hown, hlocks, hname, hK, h0⟩ := id C
  obtain ⟨ht6, q1⟩ := cellAt_arr (hR.2.2.1 k hn) hk
  obtain ⟨-, cellV, g1, g2, g3, -, -⟩ := cellAt_obj (hR.2.2.1 q hqn) hq
  have hcls := (hK.1 ci _ hcl).2
  have hra := (hK.2.1 t ht6).2
  rw [hC] at hra
  obtain ⟨kA, comp, k1, k2, k3, -⟩ := hra
  have asg : s.vm.assignable (gC G ci) comp = true := by
    rcases hca with rfl | hca
    · have e0 : comp = gC G ci := Option.some.inj (k3.symm.trans hcls.1)
      rw [e0]
      exact va_assign hcls
    · obtain ⟨c0, t1, f1, f2, f3⟩ := Cond.castable_spec (hK.2.2.1 _ hca rfl args)
      have e0 : gC G ci = c0 := Option.some.inj (hcls.1.symm.trans f1)
      have e1 : comp = t1 := Option.some.inj (k3.symm.trans f2)
      rw [e0, e1]
      exact f3
  obtain ⟨kE, hkE, -⟩ := Vm.findClass_spec k3
  obtain ⟨kC, hkC, -⟩ := hcls.2
  refine W.aast hx hb q1 (fun q h => by cases h) (fun h => by cases h) k1 k2 rfl hkE ⟨fun z => hi.vp (Or.inl z), by rw [arrV_size]; exact Nat.not_le.mp fun z => hi.vp (Or.inr z)⟩ g1 (fun q h => by rw [g3] at h; cases h) (by rw [g2]; exact hkC) (by rw [g2]; exact asg) rfl rfl hd ?_
  refine ar_fin (M1 := (n, sz, kd, I, u2 R k j (some (gz G + q)), J)) hi hk hn C hR hS hl rfl rfl rfl (fun a ha => ⟨rfl, u2_row R j _ ha, rfl⟩) (fun b => ?_) K
  show avl t (I k b) (u2 R k j (some (gz G + q)) k b) = if b = j then Value.ref (gz G + q) else avl t (I k b) (R k b)
  rw [avl_ref ht, avl_ref ht]
  by_cases hb2 : b = j
  · subst hb2; rw [u2_same, if_pos rfl]; rfl
  · rw [u2_col R k _ hb2, if_neg hb2]
theorem aw_cast {q ci idx : Nat} {r : vw_C} (hd : decode y.2.1 pc = .ok (.checkcast idx, 3)) (hlk : Cond.classLink y.1.cls idx r.1 ∈ lw_tbl) (hq : kd q = .inl ci) (hqn : q < n) (hcl : vwCl[ci]? = some r) (K : AW G y (pc + 3) lv (.ref (gz G + q) :: st) (n, sz, kd, I, R, J) Q) : AW G y pc lv (.ref (gz G + q) :: st) (n, sz, kd, I, R, J) Q := by
  intro M0 p e s m args below meth c C H locs ls hR hS hl
  obtain ⟨hx, hb, hret, hml, hown, hlocks, hname, hK, h0⟩ := id C
  obtain ⟨-, cellV, g1, g2, g3, -, -⟩ := cellAt_obj (hR.2.2.1 q hqn) hq
  have hcls := (hK.1 ci _ hcl).2
  exact va_castE hx hb hown (hK.2.2.1 _ hlk rfl args) ⟨cellV, g1, by rw [g3]; rfl, by rw [g2]; exact hcls.1⟩ hd (K M0 p e s m args below meth c C H locs ls hR hS hl)
theorem aw_i2c {x : Int32} {M : Mem} (hd : decode y.2.1 pc = .ok (.i2c, 1)) (K : AW G y (pc + 1) lv (.int (x.toUInt32 % 65536).toInt32 :: st) M Q) : AW G y pc lv (.int x :: st) M Q := fun M0 p e s m args below meth c C H locs ls hR hS hl => lv_i2c C.1 C.2.1 hd rfl (K M0 p e s m args below meth c C H locs ls hR hS hl)

theorem cp_nat : Cond.native arraycopyName ∈ lw_tbl := List.mem_of_getElem? (i := 460) (by decide +kernel)
theorem cp_sta : Cond.static arraycopyName ∈ lw_tbl := List.mem_of_getElem? (i := 459) (by decide +kernel)
theorem cp_ini : Cond.initialized "java/lang/System" ∈ lw_tbl := List.mem_of_getElem? (i := 70) (by decide +kernel)
theorem cp_X7 : Cond.methodLink RX7 59 arraycopyName ∈ lw_tbl := List.mem_of_getElem? (i := 458) (by decide +kernel)
theorem cp_J7 : Cond.methodLink RJ7 150 arraycopyName ∈ lw_tbl := List.mem_of_getElem? (i := 713) (by decide +kernel)
theorem zz_cl {a b : Nat} (h : a + b < 2 ^ 31) : (nI a).toInt + (nI b).toInt = ((a + b : Nat) : Int) := by
  rw [nI_toInt (by omega), nI_toInt (by omega)]
  omega
theorem aw_copyI {k0 k1 n0 n1 sp dp m idx : Nat} (hd : decode y.2.1 pc = .ok (.invokestatic idx, 3)) (hlk : Cond.methodLink y.1.cls idx arraycopyName ∈ lw_tbl) (h0k : kd k0 = .inr (0, n0)) (h0n : k0 < n) (h1k : kd k1 = .inr (0, n1)) (h1n : k1 < n) (hs : sp + m ≤ n0) (ht : dp + m ≤ n1) (hs3 : n0 < 2 ^ 31) (ht3 : n1 < 2 ^ 31) (hfr : 1 ≤ y.2.2.2.2.1) (hlo : (st.map fun v => v.category).sum + (nativeFrameWords "java/lang/System" "arraycopy" 5 + 11) ≤ y.2.2.2.2.2)
    (K : AW G y (pc + 3) lv st (n, sz, kd, va_up I k1 (va_cpy (I k0) (I k1) sp dp m), R, J) Q) : AW G y pc lv (.int (nI m) :: .int (nI dp) :: .ref (gz G + k1) :: .int (nI sp) :: .ref (gz G + k0) :: st) (n, sz, kd, I, R, J) Q := by
  intro M0 p e s m0 args below meth c C H locs ls hR hS hl T hT X
  obtain ⟨hx, hb, hret, hml, hown, hlocks, hname, hK, h0⟩ := id C
  obtain ⟨-, q0⟩ := cellAt_arr (hR.2.2.1 k0 h0n) h0k
  obtain ⟨-, q1⟩ := cellAt_arr (hR.2.2.1 k1 h1n) h1k
  have q0 : H[gz G + k0]? = some (arrV (gA G 0) n0 (fun j => .int (I k0 j))) := q0
  have q1 : H[gz G + k1]? = some (arrV (gA G 0) n1 (fun j => .int (I k1 j))) := q1
  obtain ⟨-, c0, hc0, cm0, hkk0⟩ := (hK.2.1 0 (by decide)).1 n0 (fun j => .int (I k0 j))
  obtain ⟨vm', X', step⟩ := X.arraycopy hx hown (hK.2.2.1 _ hlk rfl args) (hK.2.2.1 _ cp_nat rfl args) (hK.2.2.1 _ cp_sta rfl args) (hK.2.2.1 _ cp_ini rfl args) (src := gz G + k0) (dst := gz G + k1) (cs := arrV (gA G 0) n0 (fun j => .int (I k0 j))) (cd := arrV (gA G 0) n1 (fun j => .int (I k1 j))) (srcPos := nI sp) (destPos := nI dp) (n := nI m) (by rw [hT]; exact q0) (by rw [hT]; exact q1)
    (fun _ h => by cases h) (fun _ h => by cases h) (fun h => by cases h) (fun h => by cases h) hc0 hc0 hkk0 hkk0 rfl (nI_pos (by omega)) (nI_pos (by omega)) (nI_pos (by omega))
    (by rw [zz_cl (by omega), arrV_size]; omega)
    (by rw [zz_cl (by omega), arrV_size]; omega)
    (fun vm₁ _ i hi => by
      rw [nI_clamp (by omega)] at hi
      have e : (arrV (gA G 0) n0 (fun j => Value.int (I k0 j))).slots.getD ((nI sp).toNatClampNeg + i) .null = .int (I k0 (sp + i)) := by
        rw [nI_clamp (by omega), Array.getD_eq_getD_getElem?, arrV_read _ _ (by omega)]
        rfl
      rw [e]
      exact ⟨rfl, trivial⟩)
    (g := F0 m0 pc ls (.int (nI m) :: .int (nI dp) :: .ref (gz G + k1) :: .int (nI sp) :: .ref (gz G + k0) :: st)) rfl (by rw [hml]; exact hl.1) (rest := st) rfl (by rw [hb]; exact hd) hfr (by show 2 * 0 + _ + _ ≤ y.2.2.2.2.2; omega)
  have e1 : copied (arrV (gA G 0) n0 (fun j => Value.int (I k0 j))) (arrV (gA G 0) n1 (fun j => Value.int (I k1 j))) (nI sp) (nI dp) (nI m) = arrV (gA G 0) n1 (fun j => Value.int (va_cpy (I k0) (I k1) sp dp m j)) := by
    have h := va_copied (fun z => Value.int z) (gA G 0) (gA G 0) (n0 := n0) (n1 := n1) (sp := (nI sp).toNatClampNeg) (dp := (nI dp).toNatClampNeg) (n := (nI m).toNatClampNeg) (I k0) (I k1) (by rw [nI_clamp (by omega), nI_clamp (by omega)]; exact hs)
    rw [nI_clamp (by omega : sp < 2 ^ 31), nI_clamp (by omega : dp < 2 ^ 31), nI_clamp (by omega : m < 2 ^ 31)] at h
    unfold copied
    rw [nI_clamp (by omega : sp < 2 ^ 31), nI_clamp (by omega : dp < 2 ^ 31), nI_clamp (by omega : m < 2 ^ 31)]
    exact h
  rw [e1] at X' step
  have hl1 : gz G + k1 < H.size := (Array.getElem?_eq_some_iff.mp q1).1
  generalize hcell : arrV (gA G 0) n1 (fun j => Value.int (va_cpy (I k0) (I k1) sp dp m j)) = cell1 at X' step
  have hheap : ((T.setVm vm').setCell (gz G + k1) cell1).heap = H.setIfInBounds (gz G + k1) cell1 := by rw [← hT]; rfl
  have oq : ∀ q : Nat, q ≠ gz G + k1 → (H.setIfInBounds (gz G + k1) cell1)[q]? = H[q]? := fun q hq => by simp [Array.getElem?_setIfInBounds, Ne.symm hq]
  have e2 : (H.setIfInBounds (gz G + k1) cell1)[gz G + k1]? = some cell1 := by simp [Array.getElem?_setIfInBounds, hl1]
  have hR1 : Rel G (n, sz, kd, va_up I k1 (va_cpy (I k0) (I k1) sp dp m), R, J) (H.setIfInBounds (gz G + k1) cell1) := by
    refine rel_set hR (by simp) oq rfl rfl rfl (fun a ha => ⟨vz_up_ne _ _ ha, rfl, rfl⟩) h1n ?_
    unfold cellAt
    rw [show (n, sz, kd, va_up I k1 (va_cpy (I k0) (I k1) sp dp m), R, J).2.2.1 k1 = .inr (0, n1) from h1k]
    refine ⟨(by show (0 : Nat) < 6; decide), ?_⟩
    unfold arrAt
    rw [e2, ← hcell]
    congr 2
    funext j
    show _ = Value.int (va_up I k1 (va_cpy (I k0) (I k1) sp dp m) k1 j)
    rw [vz_up_same]
  have key := fun z => K M0 p e s m0 args below meth c C _ _ ls hR1 z hl _ hheap X'
  obtain ⟨t, a1, b1⟩ := key ⟨by simp; exact hS.1, fun q g1 g2 => by
      rw [oq q (fun e => g2 (by rw [e]; exact Nat.le_add_right _ _))]
      exact hS.2.1 q g1 g2, fun q hq => by
      rcases List.mem_append.mp hq with h | h
      · exact hS.2.2 q h
      · obtain ⟨z, -, hz⟩ := List.mem_map.mp h
        rw [← hz]
        exact Nat.le_add_right _ _⟩
  exact ⟨t, step t a1, b1⟩
theorem aw_copyR {t0 t1 k0 k1 n0 n1 sp dp m idx ci : Nat} {r : vw_C} {E0 E1 : String} (hd : decode y.2.1 pc = .ok (.invokestatic idx, 3)) (hlk : Cond.methodLink y.1.cls idx arraycopyName ∈ lw_tbl) (ht0 : 3 ≤ t0) (ht1 : 3 ≤ t1) (hE0 : aty t0 = .object E0) (hE1 : aty t1 = .object E1) (h0k : kd k0 = .inr (t0, n0)) (h0n : k0 < n) (h1k : kd k1 = .inr (t1, n1)) (h1n : k1 < n) (hs : sp + m ≤ n0) (ht : dp + m ≤ n1) (hs3 : n0 < 2 ^ 31) (ht3 : n1 < 2 ^ 31) (hfr : 1 ≤ y.2.2.2.2.1) (hlo : (st.map fun v => v.category).sum + (nativeFrameWords "java/lang/System" "arraycopy" 5 + 11) ≤ y.2.2.2.2.2)
    (hcl : vwCl[ci]? = some r) (hca : E1 = r.1 ∨ Cond.castable r.1 E1 ∈ lw_tbl) (hel : ∀ i, i < m → ∀ a, R k0 (sp + i) = some a → ∃ q, a = gz G + q ∧ q < n ∧ kd q = .inl ci)
    (K : AW G y (pc + 3) lv st (n, sz, kd, I, va_up R k1 (va_cpy (R k0) (R k1) sp dp m), J) Q) : AW G y pc lv (.int (nI m) :: .int (nI dp) :: .ref (gz G + k1) :: .int (nI sp) :: .ref (gz G + k0) :: st) (n, sz, kd, I, R, J) Q := by
  intro M0 p e s m0 args below meth c C H locs ls hR hS hl T hT X
  obtain ⟨hx, hb, hret, hml, hown, hlocks, hname, hK, h0⟩ := id C
  obtain ⟨ht06, q0⟩ := cellAt_arr (hR.2.2.1 k0 h0n) h0k
  obtain ⟨ht16, q1⟩ := cellAt_arr (hR.2.2.1 k1 h1n) h1k
  have q0 : H[gz G + k0]? = some (arrV (gA G t0) n0 (fun j => va_rf (R k0 j))) := by
    rw [show (fun j => va_rf (R k0 j)) = fun j => avl t0 (I k0 j) (R k0 j) from funext fun j => (avl_ref ht0 _ _).symm]
    exact q0
  have q1 : H[gz G + k1]? = some (arrV (gA G t1) n1 (fun j => va_rf (R k1 j))) := by
    rw [show (fun j => va_rf (R k1 j)) = fun j => avl t1 (I k1 j) (R k1 j) from funext fun j => (avl_ref ht1 _ _).symm]
    exact q1
  have ha0 := (hK.2.1 t0 ht06).1
  have ha1 := (hK.2.1 t1 ht16).1
  rw [hE0] at ha0
  rw [hE1] at ha1
  have hra := (hK.2.1 t1 ht16).2
  rw [hE1] at hra
  have hcls := (hK.1 ci _ hcl).2
  obtain ⟨-, c0, hc0, cm0, hkk0⟩ := ha0 n0 (fun j => va_rf (R k0 j))
  obtain ⟨-, c1, hc1, cm1, hkk1⟩ := ha1 n1 (fun j => va_rf (R k1 j))
  obtain ⟨vm', X', step⟩ := X.arraycopy hx hown (hK.2.2.1 _ hlk rfl args) (hK.2.2.1 _ cp_nat rfl args) (hK.2.2.1 _ cp_sta rfl args) (hK.2.2.1 _ cp_ini rfl args) (src := gz G + k0) (dst := gz G + k1) (cs := arrV (gA G t0) n0 (fun j => va_rf (R k0 j))) (cd := arrV (gA G t1) n1 (fun j => va_rf (R k1 j))) (srcPos := nI sp) (destPos := nI dp) (n := nI m) (by rw [hT]; exact q0) (by rw [hT]; exact q1)
    (fun _ h => by cases h) (fun _ h => by cases h) (fun h => by cases h) (fun h => by cases h) hc0 hc1 hkk0 hkk1 rfl (nI_pos (by omega)) (nI_pos (by omega)) (nI_pos (by omega))
    (by rw [zz_cl (by omega), arrV_size]; omega)
    (by rw [zz_cl (by omega), arrV_size]; omega)
    (fun vm₁ hal i hi => by
      rw [nI_clamp (by omega)] at hi
      have e : (arrV (gA G t0) n0 (fun j => va_rf (R k0 j))).slots.getD ((nI sp).toNatClampNeg + i) .null = va_rf (R k0 (sp + i)) := by
        rw [nI_clamp (by omega), Array.getD_eq_getD_getElem?, arrV_read _ _ (by omega)]
        rfl
      rw [e]
      cases hy : R k0 (sp + i) with
      | none => exact ⟨rfl, trivial⟩
      | some a =>
        obtain ⟨q, rfl, hqn, hqk⟩ := hel i hi a hy
        obtain ⟨-, cellV, g1, g2, g3, -, -⟩ := cellAt_obj (hR.2.2.1 q hqn) hqk
        obtain ⟨kA, comp, r1, r2, r3, -⟩ := hra
        cases hc1.symm.trans r1
        cases hkk1.symm.trans r2
        have asg : s.vm.assignable (gC G ci) cm1 = true := by
          rcases hca with rfl | hca
          · have e0 : cm1 = gC G ci := Option.some.inj (r3.symm.trans hcls.1)
            rw [e0]
            exact va_assign hcls
          · obtain ⟨c0', t1', f1, f2, f3⟩ := Cond.castable_spec (hK.2.2.1 _ hca rfl args)
            have e0 : gC G ci = c0' := Option.some.inj (hcls.1.symm.trans f1)
            have e1 : cm1 = t1' := Option.some.inj (r3.symm.trans f2)
            rw [e0, e1]
            exact f3
        obtain ⟨kC, hkC, -⟩ := Vm.findClass_spec hcls.1
        obtain ⟨kE, hkE, -⟩ := Vm.findClass_spec r3
        obtain ⟨kC', hkC', -⟩ := hal.2.2 _ _ hkC
        obtain ⟨kE', hkE', -⟩ := hal.2.2 _ _ hkE
        refine ⟨rfl, cellV, (show T.heap[gz G + q]? = some cellV by rw [hT]; exact g1), (fun q h => by rw [g3] at h; cases h), ⟨kC', by rw [g2]; exact hkC'⟩, ?_, ?_⟩
        · exact ⟨kE', hkE'⟩
        · show vm₁.assignable _ _ = true
          rw [hal.assignable, g2]
          exact asg)
    (g := F0 m0 pc ls (.int (nI m) :: .int (nI dp) :: .ref (gz G + k1) :: .int (nI sp) :: .ref (gz G + k0) :: st)) rfl (by rw [hml]; exact hl.1) (rest := st) rfl (by rw [hb]; exact hd) hfr (by show 2 * 0 + _ + _ ≤ y.2.2.2.2.2; omega)
  have e1 : copied (arrV (gA G t0) n0 (fun j => va_rf (R k0 j))) (arrV (gA G t1) n1 (fun j => va_rf (R k1 j))) (nI sp) (nI dp) (nI m) = arrV (gA G t1) n1 (fun j => va_rf (va_cpy (R k0) (R k1) sp dp m j)) := by
    have h := va_copied (fun z => va_rf z) (gA G t0) (gA G t1) (n0 := n0) (n1 := n1) (sp := (nI sp).toNatClampNeg) (dp := (nI dp).toNatClampNeg) (n := (nI m).toNatClampNeg) (R k0) (R k1) (by rw [nI_clamp (by omega), nI_clamp (by omega)]; exact hs)
    rw [nI_clamp (by omega : sp < 2 ^ 31), nI_clamp (by omega : dp < 2 ^ 31), nI_clamp (by omega : m < 2 ^ 31)] at h
    unfold copied
    rw [nI_clamp (by omega : sp < 2 ^ 31), nI_clamp (by omega : dp < 2 ^ 31), nI_clamp (by omega : m < 2 ^ 31)]
    exact h
  rw [e1] at X' step
  have hl1 : gz G + k1 < H.size := (Array.getElem?_eq_some_iff.mp q1).1
  generalize hcell : arrV (gA G t1) n1 (fun j => va_rf (va_cpy (R k0) (R k1) sp dp m j)) = cell1 at X' step
  have hheap : ((T.setVm vm').setCell (gz G + k1) cell1).heap = H.setIfInBounds (gz G + k1) cell1 := by rw [← hT]; rfl
  have oq : ∀ q : Nat, q ≠ gz G + k1 → (H.setIfInBounds (gz G + k1) cell1)[q]? = H[q]? := fun q hq => by simp [Array.getElem?_setIfInBounds, Ne.symm hq]
  have e2 : (H.setIfInBounds (gz G + k1) cell1)[gz G + k1]? = some cell1 := by simp [Array.getElem?_setIfInBounds, hl1]
  have hR1 : Rel G (n, sz, kd, I, va_up R k1 (va_cpy (R k0) (R k1) sp dp m), J) (H.setIfInBounds (gz G + k1) cell1) := by
    refine rel_set hR (by simp) oq rfl rfl rfl (fun a ha => ⟨rfl, vz_up_ne _ _ ha, rfl⟩) h1n ?_
    unfold cellAt
    rw [show (n, sz, kd, I, va_up R k1 (va_cpy (R k0) (R k1) sp dp m), J).2.2.1 k1 = .inr (t1, n1) from h1k]
    refine ⟨ht16, ?_⟩
    unfold arrAt
    rw [e2, ← hcell]
    congr 2
    funext j
    show _ = avl t1 _ (va_up R k1 (va_cpy (R k0) (R k1) sp dp m) k1 j)
    rw [vz_up_same, avl_ref ht1]
  have key := fun z => K M0 p e s m0 args below meth c C _ _ ls hR1 z hl _ hheap X'
  obtain ⟨t, a1, b1⟩ := key ⟨by simp; exact hS.1, fun q g1 g2 => by
      rw [oq q (fun e => g2 (by rw [e]; exact Nat.le_add_right _ _))]
      exact hS.2.1 q g1 g2, fun q hq => by
      rcases List.mem_append.mp hq with h | h
      · exact hS.2.2 q h
      · obtain ⟨z, -, hz⟩ := List.mem_map.mp h
        rw [← hz]
        exact Nat.le_add_right _ _⟩
  exact ⟨t, step t a1, b1⟩
theorem zz_keep {M0 : Mem} {H0 : Heap} (h0 : Rel G M0 H0) : ∀ a : Nat, a < (gH G).size → ¬ (gz G ≤ a) → H0[a]? = (gH G)[a]? := fun a _ h => h0.2.1 a (Nat.not_le.mp h)
variable {M : Mem}
theorem aw_gets {Cn nm d : String} {v : Value} {idx : Nat} (hd : decode y.2.1 pc = .ok (.getstatic idx, 3)) (hlk : Cond.fieldLink y.1.cls idx Cn nm d ∈ lw_tbl) (hZ : ∀ U, gP G U → va_Z Cn nm d v (fun q => gz G ≤ q) U (gH G)) (K : AW G y (pc + 3) lv (v :: st) M Q) : AW G y pc lv st M Q := by
  intro M0 p e s m args below meth c C H locs ls hR hS hl
  obtain ⟨hx, hb, hret, hml, hown, hlocks, hname, hK, h0⟩ := id C
  exact va_gets hx hb ((hZ s hK.2.2.2.1).kept (zz_keep h0)) hS hown (hK.2.2.1 _ hlk rfl args) (fun _ h => h) hd (K M0 p e s m args below meth c C H locs ls hR hS hl)
theorem aw_ldcS {tx : String} {idx q : Nat} (hd : decode y.2.1 pc = .ok (.ldc idx, 2)) (hZ : ∀ U, gP G U → vk_R y.1.cls idx tx q U) (K : AW G y (pc + 2) lv (.ref q :: st) M Q) : AW G y pc lv st M Q := by
  intro M0 p e s m args below meth c C H locs ls hR hS hl
  obtain ⟨hx, hb, hret, hml, hown, hlocks, hname, hK, h0⟩ := id C
  exact va_ldcS hx hb hown (hZ s hK.2.2.2.1) hd (K M0 p e s m args below meth c C H locs ls hR hS hl)
theorem aw_ldcM {Cn : String} {idx q : Nat} (hd : decode y.2.1 pc = .ok (.ldc idx, 2)) (hlk : Cond.classLink y.1.cls idx Cn ∈ lw_tbl) (hZ : ∀ U, gP G U → va_Mi Cn q U) (K : AW G y (pc + 2) lv (.ref q :: st) M Q) : AW G y pc lv st M Q := by
  intro M0 p e s m args below meth c C H locs ls hR hS hl
  obtain ⟨hx, hb, hret, hml, hown, hlocks, hname, hK, h0⟩ := id C
  exact va_ldcM hx hb hown (hK.2.2.1 _ hlk rfl args) (hZ s hK.2.2.2.1) hd (K M0 p e s m args below meth c C H locs ls hR hS hl)
theorem aw_getX {Cn nm d : String} {v : Value} {idx a : Nat} (hd : decode y.2.1 pc = .ok (.getfield idx, 3)) (hlk : Cond.fieldLink y.1.cls idx Cn nm d ∈ lw_tbl) (hZ : ∀ U, gP G U → va_OF Cn nm d v a (fun q => gz G ≤ q) U (gH G)) (K : AW G y (pc + 3) lv (v :: st) M Q) : AW G y pc lv (.ref a :: st) M Q := by
  intro M0 p e s m args below meth c C H locs ls hR hS hl
  obtain ⟨hx, hb, hret, hml, hown, hlocks, hname, hK, h0⟩ := id C
  exact vk_getf hx hb ((hZ s hK.2.2.2.1).kept (zz_keep h0)) hS hown (hK.2.2.1 _ hlk rfl args) (fun _ h => h) hd (K M0 p e s m args below meth c C H locs ls hR hS hl)
theorem aw_alenX {ty : FieldType} {N a : Nat} {f : Nat → Value} (hd : decode y.2.1 pc = .ok (.arraylength, 1)) (hZ : ∀ U, gP G U → va_T ty a N f (fun q => gz G ≤ q) U (gH G)) (K : AW G y (pc + 1) lv (.int (nI N) :: st) M Q) : AW G y pc lv (.ref a :: st) M Q := by
  intro M0 p e s m args below meth c C H locs ls hR hS hl
  obtain ⟨hx, hb, hret, hml, hown, hlocks, hname, hK, h0⟩ := id C
  obtain ⟨cell, h1, h2, h3, h4, h5, h6, h7⟩ := (hZ s hK.2.2.2.1).kept (zz_keep h0)
  exact W.alen hx hb (by rw [hS.2.1 a (Array.getElem?_eq_some_iff.mp h1).1 h7]; exact h1) h2 h5 rfl rfl hd (K M0 p e s m args below meth c C H locs ls hR hS hl)
theorem aw_baldX {N a j : Nat} {f : Nat → Value} {i : Int32} (hd : decode y.2.1 pc = .ok (.baload, 1)) (hZ : ∀ U, gP G U → va_T .byte a N f (fun q => gz G ≤ q) U (gH G)) (hi : ix i j N) (K : AW G y (pc + 1) lv (f j :: st) M Q) : AW G y pc lv (.int i :: .ref a :: st) M Q := by
  intro M0 p e s m args below meth c C H locs ls hR hS hl
  obtain ⟨hx, hb, hret, hml, hown, hlocks, hname, hK, h0⟩ := id C
  obtain ⟨cell, h1, h2, h3, h4, h5, h6, h7⟩ := (hZ s hK.2.2.2.1).kept (zz_keep h0)
  exact W.bald hx hb (by rw [hS.2.1 a (Array.getElem?_eq_some_iff.mp h1).1 h7]; exact h1) h2 h3 (fun z => hi.vp (z.imp id (fun q => Nat.le_trans h4 q))) (by rw [hi.cl]; exact h6 j hi.2.1) rfl rfl hd (K M0 p e s m args below meth c C H locs ls hR hS hl)
theorem aw_getC {k len idx mi : Nat} (hd : decode y.2.1 pc = .ok (.invokevirtual idx, 3)) (hlk : Cond.methodLink y.1.cls idx ⟨"java/lang/Object", "getClass", "()Ljava/lang/Class;"⟩ ∈ lw_tbl) (hsel : Cond.selects "[Ljava/lang/Object;" ⟨"java/lang/Object", "getClass", "()Ljava/lang/Class;"⟩ ⟨"java/lang/Object", "getClass", "()Ljava/lang/Class;"⟩ ∈ lw_tbl) (hin : Cond.instanceMethod ⟨"java/lang/Object", "getClass", "()Ljava/lang/Class;"⟩ ∈ lw_tbl) (hnat : Cond.native ⟨"java/lang/Object", "getClass", "()Ljava/lang/Class;"⟩ ∈ lw_tbl) (hZ : ∀ U, gP G U → va_Mi "[Ljava/lang/Object;" mi U ∧ va_Dc U) (hk : kd k = .inr (5, len)) (hn : k < n) (hfr : 1 ≤ y.2.2.2.2.1) (hlo : (st.map fun v => v.category).sum + 14 ≤ y.2.2.2.2.2)
    (K : AW G y (pc + 3) lv (.ref mi :: st) (n, sz, kd, I, R, J) Q) : AW G y pc lv (.ref (gz G + k) :: st) (n, sz, kd, I, R, J) Q := by
  intro M0 p e s m args below meth c C H locs ls hR hS hl
  obtain ⟨hx, hb, hret, hml, hown, hlocks, hname, hK, h0⟩ := id C
  obtain ⟨-, q1⟩ := cellAt_arr (hR.2.2.1 k hn) hk
  obtain ⟨hM, hD⟩ := hZ s hK.2.2.2.1
  exact va_getC hx hb (by rw [hml]; exact hl.1.symm) hown (hK.2.2.1 _ hlk rfl args) hD.use (hK.2.2.1 _ hsel rfl args) (hK.2.2.1 _ hin rfl args) (hK.2.2.1 _ hnat rfl args) hM ⟨_, q1, rfl, va_nmO (hK.2.1 5 (by decide)).2 rfl⟩ hfr hlo hd (K M0 p e s m args below meth c C H locs ls hR hS hl)
set_option maxHeartbeats 4000000 in
/-- a method of an object that stands outside -/
theorem aw_callX {z : MI} {a idx kn : Nat} {as rest : List Value} {v : Value} {M1 : Mem} (hd : decode y.2.1 pc = .ok (.invokevirtual idx, 3)) (hL : LK y.1.cls idx z) (hz : CM z kn) (hv : VI z) (hro : RO y z) (hkn : as.length = kn) (hZ : ∀ U, gP G U → va_O z.1.cls a (fun q => gz G ≤ q) U (gH G)) (hst : st = as.reverse ++ .ref a :: rest) (hw : (rest.map fun v => v.category).sum ≤ 8)
    (hM : EX G z (.ref a :: as) M (some v) M1) (K : AW G y (pc + 3) lv (v :: rest) M1 Q) : AW G y pc lv st M Q := by
  subst hst
  have K' : ∀ v' M', (v' = some v ∧ M' = M1) → AW G y (pc + 3) lv (v'.toList ++ rest) M' Q := fun v' M' q => by obtain ⟨rfl, rfl⟩ := q; exact K
  intro M0 p e s m args below meth c C H locs ls hR hS hl T hT X
  obtain ⟨hx, hb, hret, hml, hown, hlocks, hname, hK, h0⟩ := id C
  obtain ⟨hg1, hg2⟩ := zz_ge (G := G) X (by rw [hT]; exact hR) h0
  obtain ⟨cell, q1, q2, q3, -⟩ := ((hZ s hK.2.2.2.1).kept (zz_keep h0)).kept hS.2.1
  obtain ⟨c1, c2, c3, c4⟩ := id hz
  have hpar : ∀ sig, parseMethodDescriptor z.1.desc = some sig → kn = sig.parameters.length := fun sig h => by
    rw [h] at c4
    exact (Option.some.inj c4).symm
  have hp : PreV s H z.1.cls a (PcOf G (.ref a :: as) M) as := ⟨zz_blind, ⟨cell, q1, q2, q3⟩, fun U hU hW => ⟨rfl, by rw [hU]; exact hR, hK.moved hW⟩⟩
  have S : CallFix p m c y.2.1 y.2.2.1 s args ([] : List Cond) y.1.cls := ⟨hx, hb, hml, hown, fun w h => by cases h⟩
  have hroom := ro_room (M := M) (M0 := M0) hro
  have hini := hK.2.2.1 _ c2 rfl args
  have hcode := hK.2.2.1 _ c1 rfl args
  have hwW : 2 * (F0 m pc ls (as.reverse ++ .ref a :: rest)).monitorRoom + (rest.map fun v => v.category).sum ≤ 8 := by show 2 * 0 + _ ≤ 8; omega
  rcases hL with h1 | ⟨host, h1⟩
  · exact call_fin (z := z) (as := as) C hR hS hl (va_runV (As := as) (rest := rest) S hM ⟨⟨rfl, rfl, hroom.1, hroom.2, cm_ws hz hK, List.mem_singleton.mpr rfl, hcode, hini, c3, hpar, hK.2.2.1 _ h1 rfl args⟩, hK.2.2.1 _ hv.1 rfl args, hK.2.2.1 _ hv.2 rfl args⟩ hp rfl hkn hl.1 rfl hwW hd (zz_fits hR h0 hg1 hg2)) K' T hT X
  · exact call_fin (z := z) (as := as) C hR hS hl (va_runVN (As := as) (rest := rest) S hM ⟨⟨⟨rfl, rfl, hroom.1, hroom.2, cm_ws hz hK, List.mem_singleton.mpr rfl⟩, hcode, hini, c3, hpar, hK.2.2.1 _ h1 rfl args⟩, hK.2.2.1 _ hv.1 rfl args, hK.2.2.1 _ hv.2 rfl args⟩ hp rfl hkn hl.1 rfl hwW hd (zz_fits hR h0 hg1 hg2)) K' T hT X
end AWY
