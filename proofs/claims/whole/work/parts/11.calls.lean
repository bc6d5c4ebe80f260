section AWC
variable {G : GG} {y : MI} {pc : Nat} {lv : List (Nat × Value)} {st : List Value} {M : Mem} {Q Q' : Option Value → Mem → Prop}
/-- what the tables say of a method that is called -/
def CM (z : MI) (k : Nat) : Prop := Cond.code z.1 z.2.1 z.2.2.1 z.2.2.2.1 ∈ lw_tbl ∧ Cond.initialized z.1.cls ∈ lw_tbl ∧ (z.1.cls ≠ "java/lang/invoke/MethodHandle" ∧ z.1.cls ≠ "java/lang/invoke/VarHandle") ∧ (parseMethodDescriptor z.1.desc).map (fun d => d.parameters.length) = some k
def LK (own : String) (idx : Nat) (z : MI) : Prop := Cond.methodLink own idx z.1 ∈ lw_tbl ∨ ∃ host, Cond.methodLinkNest own idx z.1 host ∈ lw_tbl
def VI (z : MI) : Prop := Cond.instanceMethod z.1 ∈ lw_tbl ∧ Cond.selects z.1.cls z.1 z.1 ∈ lw_tbl
/-- the caller has room for it -/
def RO (y z : MI) : Prop := z.2.2.2.2.1 + 1 ≤ y.2.2.2.2.1 ∧ 8 + (z.2.2.1 + 11) + z.2.2.2.2.2 ≤ y.2.2.2.2.2
theorem cm_ws {z : MI} {k : Nat} (h : CM z k) {s : State} (hK : KK G s) : ∀ w ∈ [Cond.code z.1 z.2.1 z.2.2.1 z.2.2.2.1], ∀ (a' : Array Value) (U : State), s.WarmedH U.vm → w.before a' U = true := by
  intro w hw a' U hW
  have e := List.mem_singleton.mp hw
  subst e
  exact zz_warm rfl hW (hK.2.2.1 _ h.1 rfl) a'
/-- behind a call, whichever -/
theorem call_fin {z : MI} {as rest : List Value} {p : Program} {e : Env} {s : State} {m : MethodId} {args : Array Value} {below : List Frame} {meth : Method} {c : Code} {M0 : Mem} {H : Heap} {locs : List Loc} {ls : Array Slot} {a : Array Value} (C : AC G y M0 p s m meth c) (hR : Rel G M H) (hS : va_S (fun q => gz G ≤ q) s.heap H locs) (hl : lv_has ls y.2.2.1 lv)
    (hr : va_Run p (gl G) e (rmOf y M0) s m args below meth c H locs (M.1 - M0.1) (M.2.1 - M0.2.1) (capC - M.1) (capS - M.2.1) (F0 m pc ls st) rest (QcOf G Q' a) (fun q => gz G ≤ q))
    (K : ∀ v M', Q' v M' → AW G y (pc + 3) lv (v.toList ++ rest) M' Q) : W p (gl G) e (rmOf y M0) s m args below meth c H locs (M.1 - M0.1) (M.2.1 - M0.2.1) (MQ below (QcOf G Q) args s (capC - M0.1) (capS - M0.2.1) (fun q => gz G ≤ q)) (F0 m pc ls st) := by
  intro T hT X
  obtain ⟨v, st₀, t, T', L, g1, X', hL, e1, e2, ⟨v', M', hv, hq, hR', hz⟩, go⟩ := hr T hT X
  cases hv
  have hR1 : Rel G M' T'.heap := by rw [e1]; exact hR'
  have hS1 : va_S (fun q => gz G ≤ q) s.heap T'.heap (locs ++ L) := by
    have hs1 := hS.1
    rw [g1] at hz
    refine ⟨by rw [e1]; omega, fun q h1 h2 => ?_, fun q hq => ?_⟩
    · rw [hR1.2.1 q (Nat.not_le.mp h2), ← hR.2.1 q (Nat.not_le.mp h2)]
      exact hS.2.1 q h1 h2
    · rcases List.mem_append.mp hq with h | h
      · exact hS.2.2 q h
      · exact hL q h
  have X1 := zz_tight X' hR1 C.2.2.2.2.2.2.2.2
  obtain ⟨t2, a1, b1⟩ := K v M' hq M0 p e s m args below meth c C T'.heap (locs ++ L) ls hR1 hS1 hl T' rfl X1
  exact ⟨t2, go t2 a1, b1⟩
theorem ro_room {z : MI} {M0 : Mem} (h : RO y z) : (rmOf z M).frames + 1 ≤ (rmOf y M0).frames ∧ 8 + (z.2.2.1 + 11) + (rmOf z M).locals ≤ (rmOf y M0).locals := h
theorem zz_fits {M0 : Mem} {H H0 : Heap} (hR : Rel G M H) (h0 : Rel G M0 H0) (h1 : M0.1 ≤ M.1) (h2 : M0.2.1 ≤ M.2.1) : M.1 - M0.1 + (capC - M.1) ≤ capC - M0.1 ∧ M.2.1 - M0.2.1 + (capS - M.2.1) ≤ capS - M0.2.1 := by
  have h3 := hR.2.2.2.2.1
  have h4 := hR.2.2.2.2.2
  omega
set_option maxHeartbeats 4000000 in
theorem aw_callV {z : MI} {k ci idx kn : Nat} {r : vw_C} {as rest : List Value} (hd : decode y.2.1 pc = .ok (.invokevirtual idx, 3)) (hL : LK y.1.cls idx z) (hz : CM z kn) (hv : VI z) (hro : RO y z) (hkn : as.length = kn) (hk : M.2.2.1 k = .inl ci) (hn : k < M.1) (hcl : vwCl[ci]? = some r) (hcn : r.1 = z.1.cls) (hst : st = as.reverse ++ .ref (gz G + k) :: rest) (hw : (rest.map fun v => v.category).sum ≤ 8)
    (hM : MM G z (.ref (gz G + k) :: as) M Q') (K : ∀ v M', Q' v M' → AW G y (pc + 3) lv (v.toList ++ rest) M' Q) : AW G y pc lv st M Q := by
  subst hst
  intro M0 p e s m args below meth c C H locs ls hR hS hl T hT X
  obtain ⟨hx, hb, hret, hml, hown, hlocks, hname, hK, h0⟩ := id C
  obtain ⟨hg1, hg2⟩ := zz_ge (G := G) X (by rw [hT]; exact hR) h0
  obtain ⟨-, cell, q1, q2, q3, q4, q5⟩ := cellAt_obj (hR.2.2.1 k hn) hk
  have hfc := (hK.1 ci _ hcl).2.1
  obtain ⟨c1, c2, c3, c4⟩ := id hz
  have hpar : ∀ sig, parseMethodDescriptor z.1.desc = some sig → kn = sig.parameters.length := fun sig h => by
    rw [h] at c4
    exact (Option.some.inj c4).symm
  have hp : PreV s H z.1.cls (gz G + k) (PcOf G (.ref (gz G + k) :: as) M) as := ⟨zz_blind, ⟨cell, q1, by rw [q3]; rfl, by rw [q2, ← hcn]; exact hfc⟩, fun U hU hW => ⟨rfl, by rw [hU]; exact hR, hK.moved hW⟩⟩
  have S : CallFix p m c y.2.1 y.2.2.1 s args ([] : List Cond) y.1.cls := ⟨hx, hb, hml, hown, fun w h => by cases h⟩
  have hroom := ro_room (M := M) (M0 := M0) hro
  have hini := hK.2.2.1 _ c2 rfl args
  have hcode := hK.2.2.1 _ c1 rfl args
  have hwW : 2 * (F0 m pc ls (as.reverse ++ .ref (gz G + k) :: rest)).monitorRoom + (rest.map fun v => v.category).sum ≤ 8 := by show 2 * 0 + _ ≤ 8; omega
  rcases hL with h1 | ⟨host, h1⟩
  · exact call_fin (z := z) (as := as) C hR hS hl (va_runV (As := as) (rest := rest) S hM ⟨⟨rfl, rfl, hroom.1, hroom.2, cm_ws hz hK, List.mem_singleton.mpr rfl, hcode, hini, c3, hpar, hK.2.2.1 _ h1 rfl args⟩, hK.2.2.1 _ hv.1 rfl args, hK.2.2.1 _ hv.2 rfl args⟩ hp rfl hkn hl.1 rfl hwW hd (zz_fits hR h0 hg1 hg2)) K T hT X
  · exact call_fin (z := z) (as := as) C hR hS hl (va_runVN (As := as) (rest := rest) S hM ⟨⟨⟨rfl, rfl, hroom.1, hroom.2, cm_ws hz hK, List.mem_singleton.mpr rfl⟩, hcode, hini, c3, hpar, hK.2.2.1 _ h1 rfl args⟩, hK.2.2.1 _ hv.1 rfl args, hK.2.2.1 _ hv.2 rfl args⟩ hp rfl hkn hl.1 rfl hwW hd (zz_fits hR h0 hg1 hg2)) K T hT X
set_option maxHeartbeats 4000000 in
theorem aw_callS {z : MI} {idx kn : Nat} {as rest : List Value} (hd : decode y.2.1 pc = .ok (.invokestatic idx, 3)) (hL : LK y.1.cls idx z) (hz : CM z kn) (hv : Cond.static z.1 ∈ lw_tbl) (hro : RO y z) (hkn : as.length = kn) (hst : st = as.reverse ++ rest) (hw : (rest.map fun v => v.category).sum ≤ 8)
    (hM : MM G z as M Q') (K : ∀ v M', Q' v M' → AW G y (pc + 3) lv (v.toList ++ rest) M' Q) : AW G y pc lv st M Q := by
  subst hst
  intro M0 p e s m args below meth c C H locs ls hR hS hl T hT X
  obtain ⟨hx, hb, hret, hml, hown, hlocks, hname, hK, h0⟩ := id C
  obtain ⟨hg1, hg2⟩ := zz_ge (G := G) X (by rw [hT]; exact hR) h0
  obtain ⟨c1, c2, c3, c4⟩ := id hz
  have hpar : ∀ sig, parseMethodDescriptor z.1.desc = some sig → kn = sig.parameters.length := fun sig h => by
    rw [h] at c4
    exact (Option.some.inj c4).symm
  have hp : PreS s H (PcOf G as M) as := ⟨zz_blind, fun U hU hW => ⟨rfl, by rw [hU]; exact hR, hK.moved hW⟩⟩
  have S : CallFix p m c y.2.1 y.2.2.1 s args ([] : List Cond) y.1.cls := ⟨hx, hb, hml, hown, fun w h => by cases h⟩
  have hroom := ro_room (M := M) (M0 := M0) hro
  have hini := hK.2.2.1 _ c2 rfl args
  have hcode := hK.2.2.1 _ c1 rfl args
  have hwW : 2 * (F0 m pc ls (as.reverse ++ rest)).monitorRoom + (rest.map fun v => v.category).sum ≤ 8 := by show 2 * 0 + _ ≤ 8; omega
  rcases hL with h1 | ⟨host, h1⟩
  · exact call_fin (z := z) (as := as) C hR hS hl (va_runS (As := as) (rest := rest) S hM ⟨⟨rfl, rfl, hroom.1, hroom.2, cm_ws hz hK, List.mem_singleton.mpr rfl, hcode, hini, c3, hpar, hK.2.2.1 _ h1 rfl args⟩, hK.2.2.1 _ hv rfl args⟩ hp rfl hkn hl.1 rfl hwW hd (zz_fits hR h0 hg1 hg2)) K T hT X
  · exact call_fin (z := z) (as := as) C hR hS hl (va_runSN (As := as) (rest := rest) S hM ⟨⟨⟨rfl, rfl, hroom.1, hroom.2, cm_ws hz hK, List.mem_singleton.mpr rfl⟩, hcode, hini, c3, hpar, hK.2.2.1 _ h1 rfl args⟩, hK.2.2.1 _ hv rfl args, trivial⟩ hp rfl hkn hl.1 rfl hwW hd (zz_fits hR h0 hg1 hg2)) K T hT X
set_option maxHeartbeats 4000000 in
theorem aw_callI {z : MI} {a idx kn : Nat} {as rest : List Value} (hd : decode y.2.1 pc = .ok (.invokespecial idx, 3)) (hL : LK y.1.cls idx z) (hz : CM z kn) (hv : z.2.2.2.1 = none ∧ z.1.name = "<init>" ∧ Cond.instanceMethod z.1 ∈ lw_tbl) (hro : RO y z) (hkn : as.length = kn) (hst : st = as.reverse ++ .ref a :: rest) (hw : (rest.map fun v => v.category).sum ≤ 8)
    (hM : MM G z (.ref a :: as) M Q') (K : ∀ v M', Q' v M' → AW G y (pc + 3) lv (v.toList ++ rest) M' Q) : AW G y pc lv st M Q := by
  subst hst
  intro M0 p e s m args below meth c C H locs ls hR hS hl T hT X
  obtain ⟨hx, hb, hret, hml, hown, hlocks, hname, hK, h0⟩ := id C
  obtain ⟨hg1, hg2⟩ := zz_ge (G := G) X (by rw [hT]; exact hR) h0
  obtain ⟨c1, c2, c3, c4⟩ := id hz
  have hpar : ∀ sig, parseMethodDescriptor z.1.desc = some sig → kn = sig.parameters.length := fun sig h => by
    rw [h] at c4
    exact (Option.some.inj c4).symm
  have hp : PreS s H (PcOf G (.ref a :: as) M) (.ref a :: as) := ⟨zz_blind, fun U hU hW => ⟨rfl, by rw [hU]; exact hR, hK.moved hW⟩⟩
  have S : CallFix p m c y.2.1 y.2.2.1 s args ([] : List Cond) y.1.cls := ⟨hx, hb, hml, hown, fun w h => by cases h⟩
  have hroom := ro_room (M := M) (M0 := M0) hro
  have hini := hK.2.2.1 _ c2 rfl args
  have hcw := cm_ws hz hK
  have hcode : (Cond.code z.1 z.2.1 z.2.2.1 none).before args s = true := by
    have h := hK.2.2.1 _ c1 rfl args
    rw [hv.1] at h
    exact h
  have hmem : Cond.code z.1 z.2.1 z.2.2.1 none ∈ [Cond.code z.1 z.2.1 z.2.2.1 z.2.2.2.1] := by rw [hv.1]; exact List.mem_singleton.mpr rfl
  have hwW : 2 * (F0 m pc ls (as.reverse ++ .ref a :: rest)).monitorRoom + (rest.map fun v => v.category).sum ≤ 8 := by show 2 * 0 + _ ≤ 8; omega
  rcases hL with h1 | ⟨host, h1⟩
  · exact call_fin (z := z) (as := as) C hR hS hl (va_runI (As := as) (rest := rest) S hM ⟨⟨rfl, rfl, hroom.1, hroom.2, hcw, hmem, hcode, hini, c3, hpar, hK.2.2.1 _ h1 rfl args⟩, hv.2.1, hK.2.2.1 _ hv.2.2 rfl args⟩ hp rfl hkn hl.1 rfl hwW hd (zz_fits hR h0 hg1 hg2)) K T hT X
  · exact call_fin (z := z) (as := as) C hR hS hl (va_runIN (As := as) (rest := rest) S hM ⟨⟨⟨rfl, rfl, hroom.1, hroom.2, hcw, hmem⟩, hcode, hini, c3, hpar, hK.2.2.1 _ h1 rfl args⟩, hv.2.1, hK.2.2.1 _ hv.2.2 rfl args⟩ hp rfl hkn hl.1 rfl hwW hd (zz_fits hR h0 hg1 hg2)) K T hT X
theorem aw_objInit {a idx : Nat} (hd : decode y.2.1 pc = .ok (.invokespecial idx, 3)) (hlk : Cond.methodLink y.1.cls idx objectInit ∈ lw_tbl) (hin : Cond.instanceMethod objectInit ∈ lw_tbl) (hco : Cond.code objectInit ⟨#[0xb1]⟩ 1 none ∈ lw_tbl) (hfr : 1 ≤ y.2.2.2.2.1) (hlo : (st.map fun v => v.category).sum + 12 ≤ y.2.2.2.2.2) (K : AW G y (pc + 3) lv st M Q) : AW G y pc lv (.ref a :: st) M Q := by
  intro M0 p e s m args below meth c C H locs ls hR hS hl
  obtain ⟨hx, hb, hret, hml, hown, hlocks, hname, hK, h0⟩ := id C
  exact W.objInit hx hb hown (hK.2.2.1 _ hlk rfl args) (hK.2.2.1 _ hin rfl args) (hK.2.2.1 _ hco rfl args) rfl (by rw [hml]; exact hl.1) rfl hd hfr (by show 2 * 0 + _ + 12 ≤ _; show _ ≤ y.2.2.2.2.2; omega) (K M0 p e s m args below meth c C H locs ls hR hS hl)
end AWC
