/-! THE ABSTRACT MACHINE: all cells from the law's entry on lie at base + 0, base + 1, ..; a memory tells them whole; AW: a walk from a point of a method, told by such a memory alone -/
abbrev AKd : Type := Nat ⊕ (Nat × Nat)
/-- cells, slots, kinds, ints, references, longs (by cell, by place) -/
abbrev Mem : Type := Nat × Nat × (Nat → AKd) × (Nat → Nat → Int32) × (Nat → Nat → Option Nat) × (Nat → Nat → Int64)
abbrev GG : Type := Launch × Nat × Heap × (Nat → ClassId) × (Nat → Nat → Nat) × (Nat → ClassId) × (State → Prop)
def gl (G : GG) : Launch := G.1
def gz (G : GG) : Nat := G.2.1
def gH (G : GG) : Heap := G.2.2.1
def gC (G : GG) : Nat → ClassId := G.2.2.2.1
def gI (G : GG) : Nat → Nat → Nat := G.2.2.2.2.1
def gA (G : GG) : Nat → ClassId := G.2.2.2.2.2.1
def gP (G : GG) : State → Prop := G.2.2.2.2.2.2
abbrev capC : Nat := 600000
abbrev capS : Nat := 7302250
def aty (t : Nat) : FieldType := match t with
  | 0 => .int
  | 1 => .byte
  | 2 => .boolean
  | 3 => .object RX6
  | 4 => .object RX2
  | _ => .object "java/lang/Object"
def avl (t : Nat) (x : Int32) (r : Option Nat) : Value := if t < 3 then .int x else va_rf r
def fty (ci j : Nat) : FieldType := match ci with
  | 0 => tyJx4a65c j
  | 1 => tyX0 j
  | 2 => tyX1 j
  | 3 => tyX2 j
  | 4 => tyX3 j
  | 5 => tyX4 j
  | 6 => tyX5 j
  | 7 => tyX6 j
  | 8 => tyX7 j
  | 9 => tyX8 j
  | 10 => tyX9 j
  | _ => tyX10 j
def fvl (ty : FieldType) (x : Int32) (r : Option Nat) (y : Int64) : Value := match ty with
  | .long => .long y
  | .object _ => va_rf r
  | .array _ => va_rf r
  | _ => .int x
def nF (ci : Nat) : Nat := match vwCl[ci]? with
  | some r => r.2.2
  | none => 0
def lenK (q : AKd) : Nat := match q with
  | .inl ci => nF ci
  | .inr a => a.2
def sumF (f : Nat → Nat) : Nat → Nat
  | 0 => 0
  | n + 1 => sumF f n + f n
def objAt (G : GG) (M : Mem) (k ci : Nat) (H : Heap) : Prop := ∃ cell : Cell, H[gz G + k]? = some cell ∧ cell.cls = gC G ci ∧ cell.vm = .none ∧ cell.slots.size = nF ci ∧ ∀ j, j < nF ci → cell.slots[gI G ci j]? = some (fvl (fty ci j) (M.2.2.2.1 k j) (M.2.2.2.2.1 k j) (M.2.2.2.2.2 k j))
def arrAt (G : GG) (M : Mem) (k t len : Nat) (H : Heap) : Prop := H[gz G + k]? = some (arrV (gA G t) len (fun j => avl t (M.2.2.2.1 k j) (M.2.2.2.2.1 k j)))
def cellAt (G : GG) (M : Mem) (k : Nat) (H : Heap) : Prop := match M.2.2.1 k with
  | .inl ci => ci < 12 ∧ objAt G M k ci H
  | .inr a => a.1 < 6 ∧ arrAt G M k a.1 a.2 H
def Rel (G : GG) (M : Mem) (H : Heap) : Prop := H.size = gz G + M.1 ∧ (∀ q, q < gz G → H[q]? = (gH G)[q]?) ∧ (∀ k, k < M.1 → cellAt G M k H) ∧ sumF (fun k => lenK (M.2.2.1 k)) M.1 = M.2.1 ∧ M.1 ≤ capC ∧ M.2.1 ≤ capS
theorem cellAt_obj {G : GG} {M : Mem} {k ci : Nat} {H : Heap} (h : cellAt G M k H) (hk : M.2.2.1 k = .inl ci) : ci < 12 ∧ objAt G M k ci H := by
  unfold cellAt at h
  rw [hk] at h
  exact h
theorem cellAt_arr {G : GG} {M : Mem} {k t len : Nat} {H : Heap} (h : cellAt G M k H) (hk : M.2.2.1 k = .inr (t, len)) : t < 6 ∧ arrAt G M k t len H := by
  unfold cellAt at h
  rw [hk] at h
  exact h
theorem cellAt_size {G : GG} {M : Mem} {k : Nat} {H : Heap} (h : cellAt G M k H) : ∃ cell : Cell, H[gz G + k]? = some cell ∧ cell.slots.size = lenK (M.2.2.1 k) := by
  unfold cellAt at h
  split at h
  · rename_i ci hk
    obtain ⟨-, cell, h1, -, -, h4, -⟩ := h
    exact ⟨cell, h1, by rw [h4]; simp [lenK, hk]⟩
  · rename_i a hk
    exact ⟨_, h.2, by rw [arrV_size]; simp [lenK, hk]⟩
theorem sumF_cong {f g : Nat → Nat} : ∀ {n : Nat}, (∀ k, k < n → f k = g k) → sumF f n = sumF g n
  | 0, _ => rfl
  | n + 1, h => by rw [sumF, sumF, sumF_cong (fun k hk => h k (by omega)), h n (by omega)]
theorem sumF_split (f : Nat → Nat) (m : Nat) : ∀ n, sumF f (m + n) = sumF f m + sumF (fun k => f (m + k)) n
  | 0 => rfl
  | n + 1 => by
    have h := sumF_split f m n
    show sumF f (m + n) + f (m + n) = _
    rw [h, sumF]
    omega
theorem sumF_range (f : Nat → Nat) : ∀ n, ((List.range n).map f).sum = sumF f n
  | 0 => rfl
  | n + 1 => by
    rw [List.range_succ, List.map_append, List.sum_append, sumF_range f n]
    simp [sumF]
theorem sum_drop {H : Heap} {z n : Nat} (f : Nat → Nat) (hz : H.size = z + n) (h : ∀ k, k < n → ∃ cell : Cell, H[z + k]? = some cell ∧ cell.slots.size = f k) : ((H.toList.drop z).map (·.slots.size)).sum = sumF f n := by
  rw [← sumF_range f n]
  congr 1
  apply List.ext_getElem?
  intro i
  rw [List.getElem?_map, List.getElem?_drop, List.getElem?_map, Array.getElem?_toList]
  by_cases hi : i < n
  · obtain ⟨cell, h1, h2⟩ := h i hi
    rw [h1, List.getElem?_range hi]
    simp [h2]
  · rw [Array.getElem?_eq_none (by omega), List.getElem?_eq_none (by rw [List.length_range]; omega)]
    rfl
/-- a table word that every warmer state keeps -/
def zz_tb (w : Cond) : Bool := match w with
  | .fieldLinkNest .. => true
  | .methodLinkNest .. => true
  | .castable .. => true
  | .arrayOver (.object _) => true
  | w => goodWord w
theorem zz_warm {w : Cond} (h : zz_tb w = true) {s U : State} (hW : s.WarmedH U.vm) (hs : ∀ A, w.before A s = true) : ∀ A, w.before A U = true := by
  intro A
  by_cases hg : goodWord w = true
  · exact word_at hW (good_of_word hg) (hs #[])
  · unfold zz_tb at h
    split at h
    · exact va_Nw.use rfl (va_Nw.warmF hW (hs #[]))
    · exact va_Nw.use rfl (va_Nw.warmM hW (hs #[]))
    · exact va_Nw.use rfl (va_Nw.warmC hW (hs #[]))
    · exact va_AO.use (va_AO.moved hW.alike (va_AO.of (hs #[])))
    · exact absurd h hg
def KK (G : GG) (U : State) : Prop := (∀ (c : Nat) (q : vw_C), vwCl[c]? = some q → u_Kn U q.1 q.2.1 q.2.2 (gC G c) (gI G c)) ∧ (∀ t, t < 6 → ArrOfT U (gA G t) (aty t) ∧ va_RA U (gA G t) (aty t)) ∧ (∀ w, w ∈ lw_tbl → zz_tb w = true → ∀ A, w.before A U = true) ∧ gP G U ∧ (∀ s U' : State, s.WarmedH U'.vm → gP G s → gP G U')
theorem KK.moved {G : GG} {s U : State} (hW : s.WarmedH U.vm) (h : KK G s) : KK G U := by
  obtain ⟨h1, h2, h3, h4, h5⟩ := h
  exact ⟨fun c q hq => u_Kn_moved hW.alike (h1 c q hq), fun t ht => ⟨arrOfT_moved hW.alike (h2 t ht).1, (h2 t ht).2.moved hW.alike⟩, fun w hw hz => zz_warm hz hW (h3 w hw hz), h5 s U hW h4, h5⟩
/-- a method: name, code, locals, answer; frames and words of locals that it needs below it -/
abbrev MI : Type := MethodName × ByteArray × Nat × Option FieldType × Nat × Nat
def rmOf (y : MI) (M : Mem) : Room := { frames := y.2.2.2.2.1, cells := capC - M.1, slots := capS - M.2.1, locals := y.2.2.2.2.2 }
def AC (G : GG) (y : MI) (M0 : Mem) (p : Program) (s : State) (m : MethodId) (meth : Method) (c : Code) : Prop :=
  p.tables.exec = Jvm.exec ∧ c.code = y.2.1 ∧ meth.sig.returnType = y.2.2.2.1 ∧ c.maxLocals = y.2.2.1 ∧ s.vm.findClass y.1.cls = some m.cls ∧ meth.locks = false ∧ meth.name = y.1.name ∧ KK G s ∧ Rel G M0 s.heap
def QcOf (G : GG) (Q : Option Value → Mem → Prop) : Array Value → State → Outcome → State → Prop := fun _ st o t => ∃ (v : Option Value) (M' : Mem), o = .returned v ∧ Q v M' ∧ Rel G M' t.heap ∧ st.heap.size ≤ t.heap.size
def PcOf (G : GG) (as : List Value) (M : Mem) : Array Value → State → Prop := fun v U => v = as.toArray ∧ Rel G M U.heap ∧ KK G U
def MM (G : GG) (y : MI) (as : List Value) (M : Mem) (Q : Option Value → Mem → Prop) : Prop :=
  Met (gl G) y.1 [Cond.code y.1 y.2.1 y.2.2.1 y.2.2.2.1] (rmOf y M) (PcOf G as M) (QcOf G Q) (capC - M.1) (capS - M.2.1) (fun q => gz G ≤ q)
def AW (G : GG) (y : MI) (pc : Nat) (lv : List (Nat × Value)) (st : List Value) (M : Mem) (Q : Option Value → Mem → Prop) : Prop :=
  ∀ (M0 : Mem) (p : Program) (e : Env) (s : State) (m : MethodId) (args : Array Value) (below : List Frame) (meth : Method) (c : Code), AC G y M0 p s m meth c →
    ∀ (H : Heap) (locs : List Loc) (ls : Array Slot), Rel G M H → va_S (fun q => gz G ≤ q) s.heap H locs → lv_has ls y.2.2.1 lv →
      W p (gl G) e (rmOf y M0) s m args below meth c H locs (M.1 - M0.1) (M.2.1 - M0.2.1) (MQ below (QcOf G Q) args s (capC - M0.1) (capS - M0.2.1) (fun q => gz G ≤ q)) (F0 m pc ls st)
theorem zz_blind {G : GG} {as : List Value} {M : Mem} : FrameBlind (PcOf G as M) := fun a U g mk q => by
  obtain ⟨q0, q1, q2⟩ := q
  exact ⟨q0, q1, KK.moved (s := U) (U := U.calling g mk a) (State.WarmedH.refl U) q2⟩
/-- the counters are what the memory tells -/
theorem zz_tight {G : GG} {M M0 : Mem} {p : Program} {l : Launch} {e : Env} {R : Room} {s : State} {m : MethodId} {args : Array Value} {below : List Frame} {meth : Method} {c : Code} {T : State} {locs : List Loc} {cells slots : Nat} (X : Stand p l e R s m args below meth c T locs cells slots) (hR : Rel G M T.heap) (h0 : Rel G M0 s.heap) : Stand p l e R s m args below meth c T locs (M.1 - M0.1) (M.2.1 - M0.2.1) := by
  obtain ⟨e1, h1, h2, h3, h4, h5⟩ := X.same
  have h1' : s.heap.size ≤ T.heap.size := h1
  obtain ⟨r1, r2, r3, r4, r5, r6⟩ := hR
  obtain ⟨q1, q2, q3, q4, q5, q6⟩ := h0
  obtain ⟨d, hd⟩ : ∃ d, M.1 = M0.1 + d := ⟨M.1 - M0.1, by omega⟩
  have hsame : ∀ k, k < M0.1 → lenK (M.2.2.1 k) = lenK (M0.2.2.1 k) := by
    intro k hk
    obtain ⟨cell, a1, a2⟩ := cellAt_size (q3 k hk)
    obtain ⟨cell', b1, b2⟩ := cellAt_size (r3 k (by omega))
    obtain ⟨c', g1, -, g3, -⟩ := h5 _ _ a1
    have g1' : T.heap[gz G + k]? = some c' := g1
    rw [b1] at g1'
    cases g1'
    rw [← b2, ← a2, g3]
  have hsum : ((T.heap.toList.drop s.heap.size).map (·.slots.size)).sum = M.2.1 - M0.2.1 := by
    rw [sum_drop (n := d) (fun k => lenK (M.2.2.1 (M0.1 + k))) (by omega) (fun k hk => by
      obtain ⟨cell, a1, a2⟩ := cellAt_size (r3 (M0.1 + k) (by omega))
      exact ⟨cell, by rw [q1, Nat.add_assoc]; exact a1, a2⟩)]
    have h6 := sumF_split (fun k => lenK (M.2.2.1 k)) M0.1 d
    rw [← hd, r4, sumF_cong hsame, q4] at h6
    omega
  exact { X with same := ⟨e1, h1, by show T.heap.size ≤ _; omega, h3, by show ((T.heap.toList.drop s.heap.size).map (·.slots.size)).sum ≤ _; omega, h5⟩ }
theorem zz_Wtight {G : GG} {M M0 : Mem} {p : Program} {l : Launch} {e : Env} {R : Room} {s : State} {m : MethodId} {args : Array Value} {below : List Frame} {meth : Method} {c : Code} {H : Heap} {locs : List Loc} {cells slots : Nat} {Q : State → Prop} {g : JFrame} (hR : Rel G M H) (h0 : Rel G M0 s.heap)
    (k : W p l e R s m args below meth c H locs (M.1 - M0.1) (M.2.1 - M0.2.1) Q g) : W p l e R s m args below meth c H locs cells slots Q g := fun T hT X => k T hT (zz_tight X (by rw [hT]; exact hR) h0)
theorem mm_of {G : GG} {y : MI} {as : List Value} {M : Mem} {Q : Option Value → Mem → Prop} (hp : plainName y.1.cls = true) (lv : List (Nat × Value)) (hlv : lv_args 0 as = lv) (hL : (lg_sl as).length ≤ y.2.2.1) (h : AW G y 0 lv [] M Q) : MM G y as M Q := by
  unfold MM
  refine Met.ofW (cc := y.2.1) (maxL := y.2.2.1) (ret := y.2.2.2.1) hp rfl ?_
  intro p e s m args below meth c s₁ B hml hv
  obtain ⟨rfl, hR, hK⟩ := hv
  subst hlv
  have hl := lv_entry as (n := y.2.2.1) hL
  rw [lg_entry_eq]
  have hsz : s.heap.size = gz G + M.1 := hR.1
  have key := h M p e s m as.toArray below meth c ⟨B.exec, B.bytes, B.returns, hml, findClass_of_methodNamed B.named, B.notSynchronized, (name_of_methodNamed B.named B.method).1, hK, hR⟩ s.heap [] _ hR va_S.rf hl
  rw [Nat.sub_self, Nat.sub_self] at key
  exact key
theorem aw_lv {G : GG} {y : MI} {pc : Nat} {lv lv' : List (Nat × Value)} {st : List Value} {M : Mem} {Q : Option Value → Mem → Prop} (h : ∀ q ∈ lv', q ∈ lv) (k : AW G y pc lv' st M Q) : AW G y pc lv st M Q :=
  fun M0 p e s m args below meth c C H locs ls hR hS hl => k M0 p e s m args below meth c C H locs ls hR hS ⟨hl.1, hl.2.1, fun q hq => hl.2.2 q (h q hq)⟩
