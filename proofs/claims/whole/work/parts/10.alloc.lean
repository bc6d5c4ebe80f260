section AWA
variable {G : GG} {y : MI} {pc : Nat} {lv : List (Nat × Value)} {st : List Value} {Q : Option Value → Mem → Prop}
variable {n sz : Nat} {kd : Nat → AKd} {I : Nat → Nat → Int32} {R : Nat → Nat → Option Nat} {J : Nat → Nat → Int64}
theorem zz_ge {M M0 : Mem} {p : Program} {l : Launch} {e : Env} {Rm : Room} {s : State} {m : MethodId} {args : Array Value} {below : List Frame} {meth : Method} {c : Code} {T : State} {locs : List Loc} {cells slots : Nat} (X : Stand p l e Rm s m args below meth c T locs cells slots) (hR : Rel G M T.heap) (h0 : Rel G M0 s.heap) : M0.1 ≤ M.1 ∧ M0.2.1 ≤ M.2.1 := by
  obtain ⟨e1, h1, h2, h3, h4, h5⟩ := X.same
  have h1' : s.heap.size ≤ T.heap.size := h1
  obtain ⟨r1, r2, r3, r4, r5, r6⟩ := hR
  obtain ⟨q1, q2, q3, q4, q5, q6⟩ := h0
  obtain ⟨d, hd⟩ : ∃ d, M.1 = M0.1 + d := ⟨M.1 - M0.1, by omega⟩
  have hsame : ∀ k, k < M0.1 → lenK (M.2.2.1 k) = lenK (M0.2.2.1 k) := by
    intro k hk
    obtain ⟨cell, a1, a2⟩ := cellAt_size (q3 k hk)
    obtain ⟨cell', b1, b2⟩ := cellAt_size (r3 k (by omega))
    obtain ⟨c', g1, -, g3, -⟩ := h5 _ _ a1
    have g1' : T.heap[gz G + k]? = some c' := g1
    rw [b1] at g1'
    cases g1'
    rw [← b2, ← a2, g3]
  have h6 := sumF_split (fun k => lenK (M.2.2.1 k)) M0.1 d
  rw [← hd, r4, sumF_cong hsame, q4] at h6
  omega
/-- behind a new cell -/
theorem al_fin {M M1 : Mem} {cell : Cell} {g : JFrame} {p : Program} {e : Env} {s : State} {m : MethodId} {args : Array Value} {below : List Frame} {meth : Method} {c : Code} {M0 : Mem} {H : Heap} {locs : List Loc} {cells slots : Nat} {Z : State → Prop} (C : AC G y M0 p s m meth c) (hR : Rel G M H) (hS : va_S (fun q => gz G ≤ q) s.heap H locs) (hR1 : Rel G M1 (H.push cell))
    (K : va_S (fun q => gz G ≤ q) s.heap (H.push cell) locs → W p (gl G) e (rmOf y M0) s m args below meth c (H.push cell) locs (M1.1 - M0.1) (M1.2.1 - M0.2.1) Z g) : W p (gl G) e (rmOf y M0) s m args below meth c (H.push cell) locs cells slots Z g := by
  refine zz_Wtight hR1 C.2.2.2.2.2.2.2.2 (K ⟨?_, fun q g1 g2 => ?_, hS.2.2⟩)
  · rw [Array.size_push]
    exact Nat.le_succ_of_le hS.1
  · have h1 := hS.1
    rw [Array.getElem?_push, if_neg (by omega)]
    exact hS.2.1 q g1 g2
theorem aw_newa {t N : Nat} {at_ : ArrayType} {x : Int32} (hd : decode y.2.1 pc = .ok (.newarray at_, 2)) (ht : newarray.typeOf at_ = aty t) (ht3 : t < 3) (hw : Cond.arrayClass (aty t) ∈ lw_tbl) (hx : x = nI N) (hN : N ≤ 10000) (hc1 : n + 1 ≤ capC) (hc2 : sz + N ≤ capS)
    (K : AW G y (pc + 2) lv (.ref (gz G + n) :: st) (n + 1, sz + N, va_up kd n (.inr (t, N)), va_up I n (fun _ => 0), R, J) Q) : AW G y pc lv (.int x :: st) (n, sz, kd, I, R, J) Q := by
  intro M0 p e s m args below meth c C H locs ls hR hS hl T hT X
  obtain ⟨hx', hb, hret, hml, hown, hlocks, hname, hK, h0⟩ := id C
  obtain ⟨hg1, hg2⟩ := zz_ge (G := G) (M := (n, sz, kd, I, R, J)) X (by rw [hT]; exact hR) h0
  have hg1 : M0.1 ≤ n := hg1
  have hg2 : M0.2.1 ≤ sz := hg2
  have hsz : H.size = gz G + n := hR.1
  have hcl : x.toNatClampNeg = N := by rw [hx]; exact nI_clamp (by omega)
  have hneg : ¬ x < 0 := by rw [hx]; exact nI_pos (by omega)
  obtain ⟨hdv, hcb, hra⟩ := zz_prim ht3
  have hbytes : x.toNatClampNeg * componentBytes (newarray.typeOf at_) ≤ 536870912 := by
    rw [hcl, ht]
    exact Nat.le_trans (Nat.mul_le_mul hN hcb) (by decide)
  have hroom : n - M0.1 + 1 ≤ (rmOf y M0).cells := by show n - M0.1 + 1 ≤ capC - M0.1; omega
  have hroom2 : sz - M0.2.1 + x.toNatClampNeg ≤ (rmOf y M0).slots := by rw [hcl]; show sz - M0.2.1 + N ≤ capS - M0.2.1; omega
  have hwd : (Cond.arrayClass (newarray.typeOf at_)).before args s = true := by rw [ht]; exact hK.2.2.1 _ hw rfl args
  have hR1 : Rel G (n + 1, sz + N, va_up kd n (.inr (t, N)), va_up I n (fun _ => 0), R, J) (H.push { cls := gA G t, slots := Array.replicate x.toNatClampNeg (defaultValue (newarray.typeOf at_)), vm := .none }) := by
    refine rel_push (M := (n, sz, kd, I, R, J)) (q := .inr (t, N)) hR rfl rfl (fun a ha => vz_up_ne _ _ (Nat.ne_of_lt ha)) (vz_up_same _ _ _) (fun a ha => ⟨vz_up_ne _ _ (Nat.ne_of_lt ha), rfl, rfl⟩) ?_ hc1 hc2
    unfold cellAt
    rw [show (n + 1, sz + N, va_up kd n (.inr (t, N)), va_up I n (fun _ => 0), R, J).2.2.1 (n, sz, kd, I, R, J).1 = .inr (t, N) from vz_up_same _ _ _]
    refine ⟨Nat.lt_trans ht3 (by decide), ?_⟩
    unfold arrAt
    rw [show gz G + (n, sz, kd, I, R, J).1 = H.size from hsz.symm, Array.getElem?_push_size, arrV_new, hcl, ht, hdv]
    congr 2
    funext j
    show _ = avl t (va_up I n (fun _ => 0) n j) _
    rw [vz_up_same]
    unfold avl
    rw [if_pos ht3]
  refine W.newa (R := rmOf y M0) (cells := n - M0.1) (slots := sz - M0.2.1) (g := F0 m pc ls (.int x :: st)) hx' hb hwd rfl hd rfl hneg hbytes hroom hroom2 (fun cA kA comp f1 f2 f3 => ?_) T hT X
  rw [ht] at f1
  have hcA : cA = gA G t := Option.some.inj (f1.symm.trans (hra _ _ (hK.2.1 t (Nat.lt_trans ht3 (by decide))).2))
  subst hcA
  refine al_fin C hR hS hR1 (fun hS1 => ?_)
  rw [hsz]
  exact K M0 p e s m args below meth c C _ locs ls hR1 hS1 hl
theorem zz_refT {t : Nat} (ht3 : 3 ≤ t) : ∃ C, aty t = .object C ∧ defaultValue (aty t) = .null := by
  match t, ht3 with
  | 3, _ => exact ⟨_, rfl, rfl⟩
  | 4, _ => exact ⟨_, rfl, rfl⟩
  | t + 5, _ => exact ⟨_, rfl, rfl⟩
theorem aw_anew {t N idx : Nat} {Cn : String} {x : Int32} (hd : decode y.2.1 pc = .ok (.anewarray idx, 3)) (ht : aty t = .object Cn) (ht3 : 3 ≤ t) (ht6 : t < 6) (hlk : Cond.classLink y.1.cls idx Cn ∈ lw_tbl) (hw : Cond.arrayOver (.object Cn) ∈ lw_tbl) (hx : x = nI N) (hN : N ≤ 10000) (hc1 : n + 1 ≤ capC) (hc2 : sz + N ≤ capS)
    (K : AW G y (pc + 3) lv (.ref (gz G + n) :: st) (n + 1, sz + N, va_up kd n (.inr (t, N)), I, va_up R n (fun _ => none), J) Q) : AW G y pc lv (.int x :: st) (n, sz, kd, I, R, J) Q := by
  intro M0 p e s m args below meth c C H locs ls hR hS hl T hT X
  obtain ⟨hx', hb, hret, hml, hown, hlocks, hname, hK, h0⟩ := id C
  obtain ⟨hg1, hg2⟩ := zz_ge (G := G) (M := (n, sz, kd, I, R, J)) X (by rw [hT]; exact hR) h0
  have hg1 : M0.1 ≤ n := hg1
  have hg2 : M0.2.1 ≤ sz := hg2
  have hsz : H.size = gz G + n := hR.1
  have hcl : x.toNatClampNeg = N := by rw [hx]; exact nI_clamp (by omega)
  have hneg : ¬ x < 0 := by rw [hx]; exact nI_pos (by omega)
  have hbytes : x.toNatClampNeg * 4 ≤ 536870912 := by
    rw [hcl]
    exact Nat.le_trans (Nat.mul_le_mul hN (Nat.le_refl 4)) (by decide)
  have hroom : n - M0.1 + 1 ≤ (rmOf y M0).cells := by show n - M0.1 + 1 ≤ capC - M0.1; omega
  have hroom2 : sz - M0.2.1 + x.toNatClampNeg ≤ (rmOf y M0).slots := by rw [hcl]; show sz - M0.2.1 + N ≤ capS - M0.2.1; omega
  have hR1 : Rel G (n + 1, sz + N, va_up kd n (.inr (t, N)), I, va_up R n (fun _ => none), J) (H.push { cls := gA G t, slots := Array.replicate x.toNatClampNeg .null, vm := .none }) := by
    refine rel_push (M := (n, sz, kd, I, R, J)) (q := .inr (t, N)) hR rfl rfl (fun a ha => vz_up_ne _ _ (Nat.ne_of_lt ha)) (vz_up_same _ _ _) (fun a ha => ⟨rfl, vz_up_ne _ _ (Nat.ne_of_lt ha), rfl⟩) ?_ hc1 hc2
    unfold cellAt
    rw [show (n + 1, sz + N, va_up kd n (.inr (t, N)), I, va_up R n (fun _ => none), J).2.2.1 (n, sz, kd, I, R, J).1 = .inr (t, N) from vz_up_same _ _ _]
    refine ⟨ht6, ?_⟩
    unfold arrAt
    rw [show gz G + (n, sz, kd, I, R, J).1 = H.size from hsz.symm, Array.getElem?_push_size, arrV_new, hcl]
    congr 2
    funext j
    show _ = avl t _ (va_up R n (fun _ => none) n j)
    rw [vz_up_same, avl_ref ht3]
    rfl
  refine W.anew (R := rmOf y M0) (cells := n - M0.1) (slots := sz - M0.2.1) (g := F0 m pc ls (.int x :: st)) hx' hb hown (hK.2.2.1 _ hlk rfl args) (hK.2.2.1 _ hw rfl args) rfl hd rfl hneg hbytes hroom hroom2 (fun cA kA comp f1 f2 f3 f4 => ?_) T hT X
  have hra := (hK.2.1 t ht6).2
  rw [ht] at hra
  obtain ⟨kA', comp', w1, w2, w3, w4⟩ := hra
  have hcA : cA = gA G t := Option.some.inj (f1.symm.trans w4)
  subst hcA
  refine al_fin C hR hS hR1 (fun hS1 => ?_)
  rw [hsz]
  exact K M0 p e s m args below meth c C _ locs ls hR1 hS1 hl
theorem aw_new {ci idx : Nat} {r : vw_C} (hd : decode y.2.1 pc = .ok (.new idx, 3)) (hc : CF ci r) (hlk : Cond.classLink y.1.cls idx r.1 ∈ lw_tbl) (hin : Cond.instantiable r.1 r.2.2 ∈ lw_tbl) (hini : Cond.initialized r.1 ∈ lw_tbl) (hc1 : n + 1 ≤ capC) (hc2 : sz + r.2.2 ≤ capS)
    (K : AW G y (pc + 3) lv (.ref (gz G + n) :: st) (n + 1, sz + r.2.2, va_up kd n (.inl ci), va_up I n (fun _ => 0), va_up R n (fun _ => none), va_up J n (fun _ => 0)) Q) : AW G y pc lv st (n, sz, kd, I, R, J) Q := by
  intro M0 p e s m args below meth c C H locs ls hR hS hl T hT X
  obtain ⟨hx', hb, hret, hml, hown, hlocks, hname, hK, h0⟩ := id C
  obtain ⟨hg1, hg2⟩ := zz_ge (G := G) (M := (n, sz, kd, I, R, J)) X (by rw [hT]; exact hR) h0
  have hg1 : M0.1 ≤ n := hg1
  have hg2 : M0.2.1 ≤ sz := hg2
  obtain ⟨hci, hcl, hty, hnm, hws, hdef⟩ := hc
  have hnf := nF_of hcl
  have hsz : H.size = gz G + n := hR.1
  have hroom : n - M0.1 + 1 ≤ (rmOf y M0).cells := by show n - M0.1 + 1 ≤ capC - M0.1; omega
  have hroom2 : sz - M0.2.1 + r.2.2 ≤ (rmOf y M0).slots := by show sz - M0.2.1 + r.2.2 ≤ capS - M0.2.1; omega
  have hts : ∀ w ∈ u_ws r.1 r.2.1 r.2.2, w.before args s = true := fun w hw => hK.2.2.1 w (hws w hw).1 (hws w hw).2 args
  have hKn := hK.1 ci _ hcl
  refine W.newc (R := rmOf y M0) (cells := n - M0.1) (slots := sz - M0.2.1) (g := F0 m pc ls st) hx' hb hown (hK.2.2.1 _ hlk rfl args) (hK.2.2.1 _ hin rfl args) (hK.2.2.1 _ hini rfl args) rfl hd hroom hroom2 (fun cC kC f1 f2 f3 f4 => ?_) T hT X
  have hcC : cC = gC G ci := Option.some.inj (f1.symm.trans hKn.2.1)
  subst hcC
  have hR1 : Rel G (n + 1, sz + r.2.2, va_up kd n (.inl ci), va_up I n (fun _ => 0), va_up R n (fun _ => none), va_up J n (fun _ => 0)) (H.push { cls := gC G ci, slots := kC.instanceTypes.map defaultValue, vm := .none }) := by
    refine rel_push (M := (n, sz, kd, I, R, J)) (q := .inl ci) hR rfl (by show sz + r.2.2 = sz + nF ci; rw [hnf]) (fun a ha => vz_up_ne _ _ (Nat.ne_of_lt ha)) (vz_up_same _ _ _) (fun a ha => ⟨vz_up_ne _ _ (Nat.ne_of_lt ha), vz_up_ne _ _ (Nat.ne_of_lt ha), vz_up_ne _ _ (Nat.ne_of_lt ha)⟩) ?_ hc1 (by show sz + nF ci ≤ capS; rw [hnf]; exact hc2)
    unfold cellAt
    rw [show (n + 1, sz + r.2.2, va_up kd n (.inl ci), va_up I n (fun _ => 0), va_up R n (fun _ => none), va_up J n (fun _ => 0)).2.2.1 (n, sz, kd, I, R, J).1 = .inl ci from vz_up_same _ _ _]
    have hpc : (H.push { cls := gC G ci, slots := kC.instanceTypes.map defaultValue, vm := .none })[gz G + n]? = some (blank (gC G ci) kC) := by
      rw [← hsz, Array.getElem?_push_size]
      rfl
    obtain ⟨cell, b1, b2, b3, b4⟩ := u_born (fty ci) hts (fun _ h => h) hKn f2 hpc hty
    rw [hpc] at b1
    cases b1
    refine ⟨hci, _, hpc, rfl, rfl, ?_, fun j hj => ?_⟩
    · show (kC.instanceTypes.map defaultValue).size = _
      rw [Array.size_map, f4, hnf]
    · rw [b4 j (by omega)]
      show some (defaultValue (fty ci j)) = some (fvl (fty ci j) (va_up I n (fun _ => 0) n j) (va_up R n (fun _ => none) n j) (va_up J n (fun _ => 0) n j))
      rw [vz_up_same, vz_up_same, vz_up_same, hdef j (by omega)]
  refine al_fin C hR hS hR1 (fun hS1 => ?_)
  rw [hsz]
  exact K M0 p e s m args below meth c C _ locs ls hR1 hS1 hl
end AWA
