section AWI
variable {G : GG} {y : MI} {pc : Nat} {lv : List (Nat × Value)} {st : List Value} {M : Mem} {Q : Option Value → Mem → Prop}
def lk : List (Nat × Value) → Nat → Option Value
  | [], _ => none
  | q :: r, i => if q.1 = i then some q.2 else lk r i
theorem lk_mem : ∀ {lv : List (Nat × Value)} {i : Nat} {v : Value}, lk lv i = some v → (i, v) ∈ lv
  | [], _, _, h => by cases h
  | q :: r, i, v, h => by
    unfold lk at h
    split at h
    · rename_i hq
      cases h
      subst hq
      exact List.mem_cons_self
    · exact List.mem_cons_of_mem _ (lk_mem h)
def lset (i : Nat) (v : Value) : List (Nat × Value) → List (Nat × Value)
  | [] => [(i, v)]
  | q :: r => if q.1 = i then (i, v) :: r.filter (fun q => !(q.1 == i) && !(q.1 + 1 == i && q.2.category == 2)) else if q.1 + 1 = i then (if q.2.category = 2 then lset i v r else q :: lset i v r) else q :: lset i v r
theorem lset_mem {i : Nat} {v : Value} : ∀ {lv : List (Nat × Value)} {q : Nat × Value}, q ∈ lset i v lv → q ∈ (i, v) :: lv.filter (fun q => !(q.1 == i) && !(q.1 + 1 == i && q.2.category == 2))
  | [], q, h => h
  | x :: r, q, h => by
    have key : q ∈ lset i v r → q ∈ (i, v) :: (x :: r).filter (fun q => !(q.1 == i) && !(q.1 + 1 == i && q.2.category == 2)) := fun h => by
      rcases List.mem_cons.mp (lset_mem h) with h | h
      · rw [h]; exact List.mem_cons_self
      · refine List.mem_cons_of_mem _ ?_
        rw [List.mem_filter] at h ⊢
        exact ⟨List.mem_cons_of_mem _ h.1, h.2⟩
    have key2 : x.1 ≠ i → (x.1 + 1 = i → ¬ x.2.category = 2) → q ∈ x :: lset i v r → q ∈ (i, v) :: (x :: r).filter (fun q => !(q.1 == i) && !(q.1 + 1 == i && q.2.category == 2)) := fun h1 h2 h => by
      rcases List.mem_cons.mp h with h | h
      · subst h
        refine List.mem_cons_of_mem _ (List.mem_filter.mpr ⟨List.mem_cons_self, ?_⟩)
        simp only [Bool.and_eq_true, Bool.not_eq_true', beq_eq_false_iff_ne, ne_eq, Bool.and_eq_false_imp, beq_iff_eq]
        exact ⟨h1, h2⟩
      · exact key h
    unfold lset at h
    split at h
    · rename_i hx
      rcases List.mem_cons.mp h with h | h
      · rw [h]; exact List.mem_cons_self
      · refine List.mem_cons_of_mem _ ?_
        rw [List.mem_filter] at h ⊢
        exact ⟨List.mem_cons_of_mem _ h.1, h.2⟩
    · rename_i hx
      split at h
      · rename_i hx2
        split at h
        · exact key h
        · rename_i hx3
          exact key2 hx (fun _ => hx3) h
      · rename_i hx2
        exact key2 hx (fun z => absurd z hx2) h
def lsetL (i : Nat) (v : Value) (lv : List (Nat × Value)) : List (Nat × Value) := (i, v) :: lv.filter (fun q => !(q.1 == i) && (!(q.1 == i + 1) && !(q.1 + 1 == i && q.2.category == 2)))
def isR (v : Value) : Prop := v = .null ∨ ∃ a, v = .ref a
theorem isR_ref (a : Nat) : isR (.ref a) := Or.inr ⟨a, rfl⟩
theorem isR_null : isR .null := Or.inl rfl
theorem isR_rf (r : Option Nat) : isR (va_rf r) := va_rf_or r

theorem aw_iconst {n : Int} {v : Int32} (hd : decode y.2.1 pc = .ok (.iconst n, 1)) (hv : Int32.ofInt n = v) (K : AW G y (pc + 1) lv (.int v :: st) M Q) : AW G y pc lv (st) M Q := fun M0 p e s m args below meth c C H locs ls hR hS hl => lv_iconst C.1 C.2.1 hd hv (K M0 p e s m args below meth c C H locs ls hR hS hl)
theorem aw_bipush {n : Int} {v : Int32} (hd : decode y.2.1 pc = .ok (.bipush n, 2)) (hv : (Int8.ofInt n).toInt32 = v) (K : AW G y (pc + 2) lv (.int v :: st) M Q) : AW G y pc lv (st) M Q := fun M0 p e s m args below meth c C H locs ls hR hS hl => lv_bipush C.1 C.2.1 hd hv (K M0 p e s m args below meth c C H locs ls hR hS hl)
theorem aw_sipush {n : Int} {v : Int32} (hd : decode y.2.1 pc = .ok (.sipush n, 3)) (hv : (Int16.ofInt n).toInt32 = v) (K : AW G y (pc + 3) lv (.int v :: st) M Q) : AW G y pc lv (st) M Q := fun M0 p e s m args below meth c C H locs ls hR hS hl => lv_sipush C.1 C.2.1 hd hv (K M0 p e s m args below meth c C H locs ls hR hS hl)
theorem aw_lconst {n : Fin 2} {v : Int64} (hd : decode y.2.1 pc = .ok (.lconst n, 1)) (hv : Int64.ofNat (n : Nat) = v) (K : AW G y (pc + 1) lv (.long v :: st) M Q) : AW G y pc lv (st) M Q := fun M0 p e s m args below meth c C H locs ls hR hS hl => lv_lconst C.1 C.2.1 hd hv (K M0 p e s m args below meth c C H locs ls hR hS hl)
theorem aw_null  (hd : decode y.2.1 pc = .ok (.aconst_null, 1)) (K : AW G y (pc + 1) lv (.null :: st) M Q) : AW G y pc lv (st) M Q := fun M0 p e s m args below meth c C H locs ls hR hS hl => lv_null C.1 C.2.1 hd (K M0 p e s m args below meth c C H locs ls hR hS hl)
theorem aw_iload_n {k : Fin 4} {i : Nat} {x : Int32} (hd : decode y.2.1 pc = .ok (.iload_n k, 1)) (hi : (k : Nat) = i) (hv : lk lv i = some (.int x)) (K : AW G y (pc + 1) lv (.int x :: st) M Q) : AW G y pc lv (st) M Q := fun M0 p e s m args below meth c C H locs ls hR hS hl => lv_iload_n C.1 C.2.1 hd hi (hl.2.2 _ (lk_mem hv)) (K M0 p e s m args below meth c C H locs ls hR hS hl)
theorem aw_iload {i : Nat} {x : Int32} (hd : decode y.2.1 pc = .ok (.iload i, 2)) (hv : lk lv i = some (.int x)) (K : AW G y (pc + 2) lv (.int x :: st) M Q) : AW G y pc lv (st) M Q := fun M0 p e s m args below meth c C H locs ls hR hS hl => lv_iload C.1 C.2.1 hd (hl.2.2 _ (lk_mem hv)) (K M0 p e s m args below meth c C H locs ls hR hS hl)
theorem aw_lload_n {k : Fin 4} {i : Nat} {x : Int64} (hd : decode y.2.1 pc = .ok (.lload_n k, 1)) (hi : (k : Nat) = i) (hv : lk lv i = some (.long x)) (K : AW G y (pc + 1) lv (.long x :: st) M Q) : AW G y pc lv (st) M Q := fun M0 p e s m args below meth c C H locs ls hR hS hl => lv_lload_n C.1 C.2.1 hd hi (hl.2.2 _ (lk_mem hv)) (K M0 p e s m args below meth c C H locs ls hR hS hl)
theorem aw_lload {i : Nat} {x : Int64} (hd : decode y.2.1 pc = .ok (.lload i, 2)) (hv : lk lv i = some (.long x)) (K : AW G y (pc + 2) lv (.long x :: st) M Q) : AW G y pc lv (st) M Q := fun M0 p e s m args below meth c C H locs ls hR hS hl => lv_lload C.1 C.2.1 hd (hl.2.2 _ (lk_mem hv)) (K M0 p e s m args below meth c C H locs ls hR hS hl)
theorem aw_aload_n {k : Fin 4} {i : Nat} {v : Value} (hd : decode y.2.1 pc = .ok (.aload_n k, 1)) (hi : (k : Nat) = i) (hv : lk lv i = some v) (hr : isR v) (K : AW G y (pc + 1) lv (v :: st) M Q) : AW G y pc lv st M Q := by
  intro M0 p e s m args below meth c C H locs ls hR hS hl
  rcases hr with rfl | ⟨a, rfl⟩
  · exact lv_aload_nN C.1 C.2.1 hd hi (hl.2.2 _ (lk_mem hv)) (K M0 p e s m args below meth c C H locs ls hR hS hl)
  · exact lv_aload_n C.1 C.2.1 hd hi (hl.2.2 _ (lk_mem hv)) (K M0 p e s m args below meth c C H locs ls hR hS hl)
theorem aw_aload {i : Nat} {v : Value} (hd : decode y.2.1 pc = .ok (.aload i, 2)) (hv : lk lv i = some v) (hr : isR v) (K : AW G y (pc + 2) lv (v :: st) M Q) : AW G y pc lv st M Q := by
  intro M0 p e s m args below meth c C H locs ls hR hS hl
  rcases hr with rfl | ⟨a, rfl⟩
  · exact lv_aloadN C.1 C.2.1 hd (hl.2.2 _ (lk_mem hv)) (K M0 p e s m args below meth c C H locs ls hR hS hl)
  · exact lv_aload C.1 C.2.1 hd (hl.2.2 _ (lk_mem hv)) (K M0 p e s m args below meth c C H locs ls hR hS hl)
theorem aw_istore_n {k : Fin 4} {i : Nat} {x : Int32} {lv' : List (Nat × Value)} (hd : decode y.2.1 pc = .ok (.istore_n k, 1)) (hi : (k : Nat) = i) (hn : i < y.2.2.1) (hv : lset i (.int x) lv = lv') (K : AW G y (pc + 1) lv' st M Q) : AW G y pc lv (.int x :: st) M Q := by
  subst hv
  exact fun M0 p e s m args below meth c C H locs ls hR hS hl => lv_istore_n C.1 C.2.1 hd hi hl hn rfl (fun ls1 hl1 => K M0 p e s m args below meth c C H locs ls1 hR hS ⟨hl1.1, hl1.2.1, fun q hq => hl1.2.2 q (lset_mem hq)⟩)
theorem aw_istore {i : Nat} {x : Int32} {lv' : List (Nat × Value)} (hd : decode y.2.1 pc = .ok (.istore i, 2)) (hn : i < y.2.2.1) (hv : lset i (.int x) lv = lv') (K : AW G y (pc + 2) lv' st M Q) : AW G y pc lv (.int x :: st) M Q := by
  subst hv
  exact fun M0 p e s m args below meth c C H locs ls hR hS hl => lv_istore C.1 C.2.1 hd hl hn rfl (fun ls1 hl1 => K M0 p e s m args below meth c C H locs ls1 hR hS ⟨hl1.1, hl1.2.1, fun q hq => hl1.2.2 q (lset_mem hq)⟩)
theorem aw_astore_n {k : Fin 4} {i : Nat} {x : Nat} {lv' : List (Nat × Value)} (hd : decode y.2.1 pc = .ok (.astore_n k, 1)) (hi : (k : Nat) = i) (hn : i < y.2.2.1) (hv : lset i (.ref x) lv = lv') (K : AW G y (pc + 1) lv' st M Q) : AW G y pc lv (.ref x :: st) M Q := by
  subst hv
  exact fun M0 p e s m args below meth c C H locs ls hR hS hl => lv_astore_n C.1 C.2.1 hd hi hl hn rfl (fun ls1 hl1 => K M0 p e s m args below meth c C H locs ls1 hR hS ⟨hl1.1, hl1.2.1, fun q hq => hl1.2.2 q (lset_mem hq)⟩)
theorem aw_astore {i : Nat} {x : Nat} {lv' : List (Nat × Value)} (hd : decode y.2.1 pc = .ok (.astore i, 2)) (hn : i < y.2.2.1) (hv : lset i (.ref x) lv = lv') (K : AW G y (pc + 2) lv' st M Q) : AW G y pc lv (.ref x :: st) M Q := by
  subst hv
  exact fun M0 p e s m args below meth c C H locs ls hR hS hl => lv_astore C.1 C.2.1 hd hl hn rfl (fun ls1 hl1 => K M0 p e s m args below meth c C H locs ls1 hR hS ⟨hl1.1, hl1.2.1, fun q hq => hl1.2.2 q (lset_mem hq)⟩)
theorem aw_astoreN_n {k : Fin 4} {i : Nat} {lv' : List (Nat × Value)} (hd : decode y.2.1 pc = .ok (.astore_n k, 1)) (hi : (k : Nat) = i) (hn : i < y.2.2.1) (hv : lset i .null lv = lv') (K : AW G y (pc + 1) lv' st M Q) : AW G y pc lv (.null :: st) M Q := by
  subst hv
  exact fun M0 p e s m args below meth c C H locs ls hR hS hl => lv_astore_nN C.1 C.2.1 hd hi hl hn rfl (fun ls1 hl1 => K M0 p e s m args below meth c C H locs ls1 hR hS ⟨hl1.1, hl1.2.1, fun q hq => hl1.2.2 q (lset_mem hq)⟩)
theorem aw_astoreN {i : Nat} {lv' : List (Nat × Value)} (hd : decode y.2.1 pc = .ok (.astore i, 2)) (hn : i < y.2.2.1) (hv : lset i .null lv = lv') (K : AW G y (pc + 2) lv' st M Q) : AW G y pc lv (.null :: st) M Q := by
  subst hv
  exact fun M0 p e s m args below meth c C H locs ls hR hS hl => lv_astoreN C.1 C.2.1 hd hl hn rfl (fun ls1 hl1 => K M0 p e s m args below meth c C H locs ls1 hR hS ⟨hl1.1, hl1.2.1, fun q hq => hl1.2.2 q (lset_mem hq)⟩)
theorem aw_lstore {i : Nat} {x : Int64} {lv' : List (Nat × Value)} (hd : decode y.2.1 pc = .ok (.lstore i, 2)) (hn : i + 1 < y.2.2.1) (hv : lsetL i (.long x) lv = lv') (K : AW G y (pc + 2) lv' st M Q) : AW G y pc lv (.long x :: st) M Q := by
  subst hv
  exact fun M0 p e s m args below meth c C H locs ls hR hS hl => lv_lstore C.1 C.2.1 hd hl hn rfl (fun ls1 hl1 => K M0 p e s m args below meth c C H locs ls1 hR hS hl1)
theorem aw_iinc {i : Nat} {n : Int} {x v : Int32} {lv' : List (Nat × Value)} (hd : decode y.2.1 pc = .ok (.iinc i n, 3)) (hx : lk lv i = some (.int x)) (hn : i < y.2.2.1) (hv1 : Int32.ofInt n = v) (hv : lset i (.int (x + v)) lv = lv') (K : AW G y (pc + 3) lv' st M Q) : AW G y pc lv st M Q := by
  subst hv
  subst hv1
  intro M0 p e s m args below meth c C H locs ls hR hS hl
  obtain ⟨k, hk⟩ := List.getElem?_of_mem (lk_mem hx)
  exact lv_iinc C.1 C.2.1 hd hl hk rfl hn rfl (fun ls1 hl1 => K M0 p e s m args below meth c C H locs ls1 hR hS ⟨hl1.1, hl1.2.1, fun q hq => hl1.2.2 q (lset_mem hq)⟩)
theorem aw_iadd {x z : Int32} (hd : decode y.2.1 pc = .ok (.iadd, 1)) (K : AW G y (pc + 1) lv (.int (x + z) :: st) M Q) : AW G y pc lv (.int z :: .int x :: st) M Q := fun M0 p e s m args below meth c C H locs ls hR hS hl => lv_iadd C.1 C.2.1 hd (K M0 p e s m args below meth c C H locs ls hR hS hl)
theorem aw_isub {x z : Int32} (hd : decode y.2.1 pc = .ok (.isub, 1)) (K : AW G y (pc + 1) lv (.int (x - z) :: st) M Q) : AW G y pc lv (.int z :: .int x :: st) M Q := fun M0 p e s m args below meth c C H locs ls hR hS hl => lv_isub C.1 C.2.1 hd (K M0 p e s m args below meth c C H locs ls hR hS hl)
theorem aw_imul {x z : Int32} (hd : decode y.2.1 pc = .ok (.imul, 1)) (K : AW G y (pc + 1) lv (.int (x * z) :: st) M Q) : AW G y pc lv (.int z :: .int x :: st) M Q := fun M0 p e s m args below meth c C H locs ls hR hS hl => lv_imul C.1 C.2.1 hd (K M0 p e s m args below meth c C H locs ls hR hS hl)
theorem aw_iand {x z : Int32} (hd : decode y.2.1 pc = .ok (.iand, 1)) (K : AW G y (pc + 1) lv (.int (x &&& z) :: st) M Q) : AW G y pc lv (.int z :: .int x :: st) M Q := fun M0 p e s m args below meth c C H locs ls hR hS hl => lv_iand C.1 C.2.1 hd (K M0 p e s m args below meth c C H locs ls hR hS hl)
theorem aw_ior {x z : Int32} (hd : decode y.2.1 pc = .ok (.ior, 1)) (K : AW G y (pc + 1) lv (.int (x ||| z) :: st) M Q) : AW G y pc lv (.int z :: .int x :: st) M Q := fun M0 p e s m args below meth c C H locs ls hR hS hl => lv_ior C.1 C.2.1 hd (K M0 p e s m args below meth c C H locs ls hR hS hl)
theorem aw_ishl {x z : Int32} (hd : decode y.2.1 pc = .ok (.ishl, 1)) (K : AW G y (pc + 1) lv (.int (x <<< (z &&& 31)) :: st) M Q) : AW G y pc lv (.int z :: .int x :: st) M Q := fun M0 p e s m args below meth c C H locs ls hR hS hl => lv_ishl C.1 C.2.1 hd (K M0 p e s m args below meth c C H locs ls hR hS hl)
theorem aw_ishr {x z : Int32} (hd : decode y.2.1 pc = .ok (.ishr, 1)) (K : AW G y (pc + 1) lv (.int (x >>> (z &&& 31)) :: st) M Q) : AW G y pc lv (.int z :: .int x :: st) M Q := fun M0 p e s m args below meth c C H locs ls hR hS hl => lv_ishr C.1 C.2.1 hd (K M0 p e s m args below meth c C H locs ls hR hS hl)
theorem aw_iushr {x z : Int32} (hd : decode y.2.1 pc = .ok (.iushr, 1)) (K : AW G y (pc + 1) lv (.int ((x.toUInt32 >>> (z.toUInt32 &&& Int32.toUInt32 31)).toInt32) :: st) M Q) : AW G y pc lv (.int z :: .int x :: st) M Q := fun M0 p e s m args below meth c C H locs ls hR hS hl => lv_iushr C.1 C.2.1 hd rfl (K M0 p e s m args below meth c C H locs ls hR hS hl)
theorem aw_idiv {x z : Int32} (hd : decode y.2.1 pc = .ok (.idiv, 1)) (hz : ¬ z = 0) (K : AW G y (pc + 1) lv (.int (x / z) :: st) M Q) : AW G y pc lv (.int z :: .int x :: st) M Q := fun M0 p e s m args below meth c C H locs ls hR hS hl => lv_idiv C.1 C.2.1 hd hz (K M0 p e s m args below meth c C H locs ls hR hS hl)
theorem aw_ineg {x : Int32} (hd : decode y.2.1 pc = .ok (.ineg, 1)) (K : AW G y (pc + 1) lv (.int (-x) :: st) M Q) : AW G y pc lv (.int x :: st) M Q := fun M0 p e s m args below meth c C H locs ls hR hS hl => lv_ineg C.1 C.2.1 hd (K M0 p e s m args below meth c C H locs ls hR hS hl)
theorem aw_land {x z : Int64} (hd : decode y.2.1 pc = .ok (.land, 1)) (K : AW G y (pc + 1) lv (.long (x &&& z) :: st) M Q) : AW G y pc lv (.long z :: .long x :: st) M Q := fun M0 p e s m args below meth c C H locs ls hR hS hl => lv_land C.1 C.2.1 hd (K M0 p e s m args below meth c C H locs ls hR hS hl)
theorem aw_lor {x z : Int64} (hd : decode y.2.1 pc = .ok (.lor, 1)) (K : AW G y (pc + 1) lv (.long (x ||| z) :: st) M Q) : AW G y pc lv (.long z :: .long x :: st) M Q := fun M0 p e s m args below meth c C H locs ls hR hS hl => lv_lor C.1 C.2.1 hd (K M0 p e s m args below meth c C H locs ls hR hS hl)
theorem aw_lshl {x : Int64} {z : Int32} (hd : decode y.2.1 pc = .ok (.lshl, 1)) (K : AW G y (pc + 1) lv (.long (x <<< (z.toInt64 &&& 63)) :: st) M Q) : AW G y pc lv (.int z :: .long x :: st) M Q := fun M0 p e s m args below meth c C H locs ls hR hS hl => lv_lshl C.1 C.2.1 hd rfl (K M0 p e s m args below meth c C H locs ls hR hS hl)
theorem aw_i2l {x : Int32} (hd : decode y.2.1 pc = .ok (.i2l, 1)) (K : AW G y (pc + 1) lv (.long x.toInt64 :: st) M Q) : AW G y pc lv (.int x :: st) M Q := fun M0 p e s m args below meth c C H locs ls hR hS hl => lv_i2l C.1 C.2.1 hd rfl (K M0 p e s m args below meth c C H locs ls hR hS hl)
theorem aw_i2b {x : Int32} (hd : decode y.2.1 pc = .ok (.i2b, 1)) (K : AW G y (pc + 1) lv (.int x.toInt8.toInt32 :: st) M Q) : AW G y pc lv (.int x :: st) M Q := fun M0 p e s m args below meth c C H locs ls hR hS hl => lv_i2b C.1 C.2.1 hd rfl (K M0 p e s m args below meth c C H locs ls hR hS hl)
theorem aw_dup {v : Value} (hd : decode y.2.1 pc = .ok (.dup, 1)) (hc : v.category = 1) (K : AW G y (pc + 1) lv (v :: v :: st) M Q) : AW G y pc lv (v :: st) M Q := fun M0 p e s m args below meth c C H locs ls hR hS hl => lv_dup C.1 C.2.1 hd hc (K M0 p e s m args below meth c C H locs ls hR hS hl)
theorem aw_dup_x1 {v w : Value} (hd : decode y.2.1 pc = .ok (.dup_x1, 1)) (hc : v.category = 1) (hw : w.category = 1) (K : AW G y (pc + 1) lv (v :: w :: v :: st) M Q) : AW G y pc lv (v :: w :: st) M Q := fun M0 p e s m args below meth c C H locs ls hR hS hl => lv_dup_x1 C.1 C.2.1 hd hc hw (K M0 p e s m args below meth c C H locs ls hR hS hl)
theorem aw_pop {v : Value} (hd : decode y.2.1 pc = .ok (.pop, 1)) (hc : v.category = 1) (K : AW G y (pc + 1) lv (st) M Q) : AW G y pc lv (v :: st) M Q := fun M0 p e s m args below meth c C H locs ls hR hS hl => lv_pop C.1 C.2.1 hd hc (K M0 p e s m args below meth c C H locs ls hR hS hl)
theorem aw_goto {off : Int} {tgt : Nat} (hd : decode y.2.1 pc = .ok (.goto off, 3)) (ht : (pc : Int) + off = (tgt : Int)) (K : AW G y tgt lv st M Q) : AW G y pc lv st M Q := fun M0 p e s m args below meth c C H locs ls hR hS hl => lv_goto C.1 C.2.1 hd ht (K M0 p e s m args below meth c C H locs ls hR hS hl)
theorem aw_icmp_eq {x z : Int32} {off : Int} {tgt : Nat} (hd : decode y.2.1 pc = .ok (.if_icmp .eq off, 3)) (ht : (pc : Int) + off = (tgt : Int)) (Kt : x = z → AW G y tgt lv st M Q) (Kf : ¬ x = z → AW G y (pc + 3) lv st M Q) : AW G y pc lv (.int z :: .int x :: st) M Q := fun M0 p e s m args below meth c C H locs ls hR hS hl => lv_icmp_eq C.1 C.2.1 hd ht (fun q => Kt q M0 p e s m args below meth c C H locs ls hR hS hl) (fun q => Kf q M0 p e s m args below meth c C H locs ls hR hS hl)
theorem aw_if_eq {x : Int32} {off : Int} {tgt : Nat} (hd : decode y.2.1 pc = .ok (.ifCond .eq off, 3)) (ht : (pc : Int) + off = (tgt : Int)) (Kt : x = 0 → AW G y tgt lv st M Q) (Kf : ¬ x = 0 → AW G y (pc + 3) lv st M Q) : AW G y pc lv (.int x :: st) M Q := fun M0 p e s m args below meth c C H locs ls hR hS hl => lv_if_eq C.1 C.2.1 hd ht (fun q => Kt q M0 p e s m args below meth c C H locs ls hR hS hl) (fun q => Kf q M0 p e s m args below meth c C H locs ls hR hS hl)
theorem aw_icmp_ne {x z : Int32} {off : Int} {tgt : Nat} (hd : decode y.2.1 pc = .ok (.if_icmp .ne off, 3)) (ht : (pc : Int) + off = (tgt : Int)) (Kt : ¬ x = z → AW G y tgt lv st M Q) (Kf : x = z → AW G y (pc + 3) lv st M Q) : AW G y pc lv (.int z :: .int x :: st) M Q := fun M0 p e s m args below meth c C H locs ls hR hS hl => lv_icmp_ne C.1 C.2.1 hd ht (fun q => Kt q M0 p e s m args below meth c C H locs ls hR hS hl) (fun q => Kf q M0 p e s m args below meth c C H locs ls hR hS hl)
theorem aw_if_ne {x : Int32} {off : Int} {tgt : Nat} (hd : decode y.2.1 pc = .ok (.ifCond .ne off, 3)) (ht : (pc : Int) + off = (tgt : Int)) (Kt : ¬ x = 0 → AW G y tgt lv st M Q) (Kf : x = 0 → AW G y (pc + 3) lv st M Q) : AW G y pc lv (.int x :: st) M Q := fun M0 p e s m args below meth c C H locs ls hR hS hl => lv_if_ne C.1 C.2.1 hd ht (fun q => Kt q M0 p e s m args below meth c C H locs ls hR hS hl) (fun q => Kf q M0 p e s m args below meth c C H locs ls hR hS hl)
theorem aw_icmp_lt {x z : Int32} {off : Int} {tgt : Nat} (hd : decode y.2.1 pc = .ok (.if_icmp .lt off, 3)) (ht : (pc : Int) + off = (tgt : Int)) (Kt : x < z → AW G y tgt lv st M Q) (Kf : ¬ x < z → AW G y (pc + 3) lv st M Q) : AW G y pc lv (.int z :: .int x :: st) M Q := fun M0 p e s m args below meth c C H locs ls hR hS hl => lv_icmp_lt C.1 C.2.1 hd ht (fun q => Kt q M0 p e s m args below meth c C H locs ls hR hS hl) (fun q => Kf q M0 p e s m args below meth c C H locs ls hR hS hl)
theorem aw_if_lt {x : Int32} {off : Int} {tgt : Nat} (hd : decode y.2.1 pc = .ok (.ifCond .lt off, 3)) (ht : (pc : Int) + off = (tgt : Int)) (Kt : x < 0 → AW G y tgt lv st M Q) (Kf : ¬ x < 0 → AW G y (pc + 3) lv st M Q) : AW G y pc lv (.int x :: st) M Q := fun M0 p e s m args below meth c C H locs ls hR hS hl => lv_if_lt C.1 C.2.1 hd ht (fun q => Kt q M0 p e s m args below meth c C H locs ls hR hS hl) (fun q => Kf q M0 p e s m args below meth c C H locs ls hR hS hl)
theorem aw_icmp_ge {x z : Int32} {off : Int} {tgt : Nat} (hd : decode y.2.1 pc = .ok (.if_icmp .ge off, 3)) (ht : (pc : Int) + off = (tgt : Int)) (Kt : z ≤ x → AW G y tgt lv st M Q) (Kf : ¬ z ≤ x → AW G y (pc + 3) lv st M Q) : AW G y pc lv (.int z :: .int x :: st) M Q := fun M0 p e s m args below meth c C H locs ls hR hS hl => lv_icmp_ge C.1 C.2.1 hd ht (fun q => Kt q M0 p e s m args below meth c C H locs ls hR hS hl) (fun q => Kf q M0 p e s m args below meth c C H locs ls hR hS hl)
theorem aw_if_ge {x : Int32} {off : Int} {tgt : Nat} (hd : decode y.2.1 pc = .ok (.ifCond .ge off, 3)) (ht : (pc : Int) + off = (tgt : Int)) (Kt : 0 ≤ x → AW G y tgt lv st M Q) (Kf : ¬ 0 ≤ x → AW G y (pc + 3) lv st M Q) : AW G y pc lv (.int x :: st) M Q := fun M0 p e s m args below meth c C H locs ls hR hS hl => lv_if_ge C.1 C.2.1 hd ht (fun q => Kt q M0 p e s m args below meth c C H locs ls hR hS hl) (fun q => Kf q M0 p e s m args below meth c C H locs ls hR hS hl)
theorem aw_icmp_gt {x z : Int32} {off : Int} {tgt : Nat} (hd : decode y.2.1 pc = .ok (.if_icmp .gt off, 3)) (ht : (pc : Int) + off = (tgt : Int)) (Kt : z < x → AW G y tgt lv st M Q) (Kf : ¬ z < x → AW G y (pc + 3) lv st M Q) : AW G y pc lv (.int z :: .int x :: st) M Q := fun M0 p e s m args below meth c C H locs ls hR hS hl => lv_icmp_gt C.1 C.2.1 hd ht (fun q => Kt q M0 p e s m args below meth c C H locs ls hR hS hl) (fun q => Kf q M0 p e s m args below meth c C H locs ls hR hS hl)
theorem aw_if_gt {x : Int32} {off : Int} {tgt : Nat} (hd : decode y.2.1 pc = .ok (.ifCond .gt off, 3)) (ht : (pc : Int) + off = (tgt : Int)) (Kt : 0 < x → AW G y tgt lv st M Q) (Kf : ¬ 0 < x → AW G y (pc + 3) lv st M Q) : AW G y pc lv (.int x :: st) M Q := fun M0 p e s m args below meth c C H locs ls hR hS hl => lv_if_gt C.1 C.2.1 hd ht (fun q => Kt q M0 p e s m args below meth c C H locs ls hR hS hl) (fun q => Kf q M0 p e s m args below meth c C H locs ls hR hS hl)
theorem aw_icmp_le {x z : Int32} {off : Int} {tgt : Nat} (hd : decode y.2.1 pc = .ok (.if_icmp .le off, 3)) (ht : (pc : Int) + off = (tgt : Int)) (Kt : x ≤ z → AW G y tgt lv st M Q) (Kf : ¬ x ≤ z → AW G y (pc + 3) lv st M Q) : AW G y pc lv (.int z :: .int x :: st) M Q := fun M0 p e s m args below meth c C H locs ls hR hS hl => lv_icmp_le C.1 C.2.1 hd ht (fun q => Kt q M0 p e s m args below meth c C H locs ls hR hS hl) (fun q => Kf q M0 p e s m args below meth c C H locs ls hR hS hl)
theorem aw_if_le {x : Int32} {off : Int} {tgt : Nat} (hd : decode y.2.1 pc = .ok (.ifCond .le off, 3)) (ht : (pc : Int) + off = (tgt : Int)) (Kt : x ≤ 0 → AW G y tgt lv st M Q) (Kf : ¬ x ≤ 0 → AW G y (pc + 3) lv st M Q) : AW G y pc lv (.int x :: st) M Q := fun M0 p e s m args below meth c C H locs ls hR hS hl => lv_if_le C.1 C.2.1 hd ht (fun q => Kt q M0 p e s m args below meth c C H locs ls hR hS hl) (fun q => Kf q M0 p e s m args below meth c C H locs ls hR hS hl)
theorem aw_ifnull {r : Option Nat} {off : Int} {tgt : Nat} (hd : decode y.2.1 pc = .ok (.ifnull off, 3)) (ht : (pc : Int) + off = (tgt : Int)) (Kt : r = none → AW G y tgt lv st M Q) (Kf : ∀ a, r = some a → AW G y (pc + 3) lv st M Q) : AW G y pc lv (va_rf r :: st) M Q := by
  intro M0 p e s m args below meth c C H locs ls hR hS hl
  cases r with
  | none => exact lv_ifnullN C.1 C.2.1 hd ht (Kt rfl M0 p e s m args below meth c C H locs ls hR hS hl)
  | some a => exact lv_ifnull C.1 C.2.1 hd (Kf a rfl M0 p e s m args below meth c C H locs ls hR hS hl)
theorem aw_ifnonnull {r : Option Nat} {off : Int} {tgt : Nat} (hd : decode y.2.1 pc = .ok (.ifnonnull off, 3)) (ht : (pc : Int) + off = (tgt : Int)) (Kt : ∀ a, r = some a → AW G y tgt lv st M Q) (Kf : r = none → AW G y (pc + 3) lv st M Q) : AW G y pc lv (va_rf r :: st) M Q := by
  intro M0 p e s m args below meth c C H locs ls hR hS hl
  cases r with
  | none => exact lv_ifnonnullN C.1 C.2.1 hd (Kf rfl M0 p e s m args below meth c C H locs ls hR hS hl)
  | some a => exact lv_ifnonnull C.1 C.2.1 hd ht (Kt a rfl M0 p e s m args below meth c C H locs ls hR hS hl)
theorem aw_acmp_eq {rx ry : Option Nat} {off : Int} {tgt : Nat} (hd : decode y.2.1 pc = .ok (.if_acmp .eq off, 3)) (ht : (pc : Int) + off = (tgt : Int)) (Kt : rx = ry → AW G y tgt lv st M Q) (Kf : ¬ rx = ry → AW G y (pc + 3) lv st M Q) : AW G y pc lv (va_rf ry :: va_rf rx :: st) M Q := fun M0 p e s m args below meth c C H locs ls hR hS hl => lv_acmp_eq C.1 C.2.1 hd ht (fun q => Kt q M0 p e s m args below meth c C H locs ls hR hS hl) (fun q => Kf q M0 p e s m args below meth c C H locs ls hR hS hl)
theorem aw_acmp_ne {rx ry : Option Nat} {off : Int} {tgt : Nat} (hd : decode y.2.1 pc = .ok (.if_acmp .ne off, 3)) (ht : (pc : Int) + off = (tgt : Int)) (Kt : ¬ rx = ry → AW G y tgt lv st M Q) (Kf : rx = ry → AW G y (pc + 3) lv st M Q) : AW G y pc lv (va_rf ry :: va_rf rx :: st) M Q := fun M0 p e s m args below meth c C H locs ls hR hS hl => lv_acmp_ne C.1 C.2.1 hd ht (fun q => Kt q M0 p e s m args below meth c C H locs ls hR hS hl) (fun q => Kf q M0 p e s m args below meth c C H locs ls hR hS hl)
theorem aw_lookup {dflt : Int} {ps : Array (Int × Int)} {len : Nat} {x : Int32} {off : Int} {tgt : Nat} (hd : decode y.2.1 pc = .ok (.lookupswitch dflt ps, len)) (hp : (ps.toList.zip (ps.toList.drop 1)).all (fun (a, next) => a.1 < next.1) = true) (ho : Op.lookupswitch.offset ps.toList dflt x.toInt = off) (ht : (pc : Int) + off = (tgt : Int)) (K : AW G y tgt lv st M Q) : AW G y pc lv (.int x :: st) M Q := fun M0 p e s m args below meth c C H locs ls hR hS hl => lv_lookup C.1 C.2.1 hd hp ho ht (K M0 p e s m args below meth c C H locs ls hR hS hl)
theorem aw_tableOut {dflt lo hi : Int} {offs : Array Int} {len : Nat} {x : Int32} {tgt : Nat} (hd : decode y.2.1 pc = .ok (.tableswitch dflt lo hi offs, len)) (h : x.toInt < lo ∨ hi < x.toInt) (ht : (pc : Int) + dflt = (tgt : Int)) (K : AW G y tgt lv st M Q) : AW G y pc lv (.int x :: st) M Q := fun M0 p e s m args below meth c C H locs ls hR hS hl => lv_tableOut C.1 C.2.1 hd h ht (K M0 p e s m args below meth c C H locs ls hR hS hl)
theorem aw_tableIn {dflt lo hi : Int} {offs : Array Int} {len : Nat} {x : Int32} {off : Int} {tgt : Nat} (hd : decode y.2.1 pc = .ok (.tableswitch dflt lo hi offs, len)) (h1 : ¬ x.toInt < lo) (h2 : ¬ hi < x.toInt) (ho : offs[(x.toInt - lo).toNat]? = some off) (ht : (pc : Int) + off = (tgt : Int)) (K : AW G y tgt lv st M Q) : AW G y pc lv (.int x :: st) M Q := fun M0 p e s m args below meth c C H locs ls hR hS hl => lv_tableIn C.1 C.2.1 hd h1 h2 ho ht (K M0 p e s m args below meth c C H locs ls hR hS hl)
theorem zz_room {M M0 : Mem} {H : Heap} (hR : Rel G M H) : M.1 - M0.1 ≤ capC - M0.1 ∧ M.2.1 - M0.2.1 ≤ capS - M0.2.1 := by
  have h1 := hR.2.2.2.2.1
  have h2 := hR.2.2.2.2.2
  omega
theorem aw_iret {x : Int32} {ty : FieldType} (hd : decode y.2.1 pc = .ok (.ireturn, 1)) (hr : y.2.2.2.1 = some ty) (hn : narrow ty (.int x) = .int x) (hq : Q (some (.int x)) M) : AW G y pc lv [.int x] M Q := by
  intro M0 p e s m args below meth c C H locs ls hR hS hl
  refine W.widen (zz_room hR).1 (zz_room hR).2 ?_
  exact W.zret C.1 C.2.1 (C.2.2.1.trans hr) hn (fun t ht _ => ⟨_, M, rfl, hq, by rw [ht]; exact hR, by rw [ht]; exact hS.1⟩) hS.2.2 hd C.2.2.2.2.2.1
theorem aw_vret (hd : decode y.2.1 pc = .ok (.return_, 1)) (hr : y.2.2.2.1 = none) (hq : Q none M) : AW G y pc lv [] M Q := by
  intro M0 p e s m args below meth c C H locs ls hR hS hl
  refine W.widen (zz_room hR).1 (zz_room hR).2 ?_
  exact W.vret C.1 C.2.1 (C.2.2.1.trans hr) (fun t ht _ => ⟨_, M, rfl, hq, by rw [ht]; exact hR, by rw [ht]; exact hS.1⟩) hS.2.2 hd C.2.2.2.2.2.1
theorem aw_aret {v : Value} {rt : FieldType} (hd : decode y.2.1 pc = .ok (.areturn, 1)) (hr : y.2.2.2.1 = some rt) (hrt : (∃ n, rt = .object n) ∨ ∃ t, rt = .array t) (hv : isR v) (hq : Q (some v) M) : AW G y pc lv [v] M Q := by
  intro M0 p e s m args below meth c C H locs ls hR hS hl
  refine W.widen (zz_room hR).1 (zz_room hR).2 ?_
  exact W.aret C.1 C.2.1 (C.2.2.1.trans hr) hrt hv (fun t ht _ => ⟨_, M, rfl, hq, by rw [ht]; exact hR, by rw [ht]; exact hS.1⟩) hS.2.2 hd C.2.2.2.2.2.1
/-- a boolean as the machine has it -/
def bi (b : Bool) : Int32 := match b with
  | true => nI 1
  | false => nI 0
theorem bi_nar (b : Bool) : narrow .boolean (.int (bi b)) = .int (bi b) := by cases b <;> rfl
theorem aw_mono {Q' : Option Value → Mem → Prop} (h : ∀ v M', Q' v M' → Q v M') (K : AW G y pc lv st M Q') : AW G y pc lv st M Q := by
  intro M0 p e s m args below meth c C H locs ls hR hS hl T hT XX
  obtain ⟨t, h1, o, h2, h3, ⟨v, M', g1, g2, g3⟩, h5⟩ := K M0 p e s m args below meth c C H locs ls hR hS hl T hT XX
  exact ⟨t, h1, o, h2, h3, ⟨v, M', g1, h _ _ g2, g3⟩, h5⟩
end AWI
