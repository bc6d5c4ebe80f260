section AWR
variable {G : GG} {y : MI} {pc : Nat} {lv : List (Nat × Value)} {st : List Value} {Q : Option Value → Mem → Prop}
variable {n sz : Nat} {kd : Nat → AKd} {I : Nat → Nat → Int32} {R : Nat → Nat → Option Nat} {J : Nat → Nat → Int64}
/-- an index that lies within -/
def ix (i : Int32) (j len : Nat) : Prop := i = nI j ∧ j < len ∧ len < 2 ^ 31
theorem ix.vp {i : Int32} {j len : Nat} (h : ix i j len) : vp_in i len := by rw [h.1]; exact vp_in_nI h.2.1 h.2.2
theorem ix.cl {i : Int32} {j len : Nat} (h : ix i j len) : i.toNatClampNeg = j := by rw [h.1]; exact nI_clamp (Nat.lt_trans h.2.1 h.2.2)
theorem ix.at {i : Int32} {j len : Nat} {cA : ClassId} {f : Nat → Value} (h : ix i j len) : ¬ (i < 0 ∨ (arrV cA len f).slots.size ≤ i.toNatClampNeg) := by rw [arrV_size]; exact h.vp
theorem ix.rd {i : Int32} {j len : Nat} {cA : ClassId} {f : Nat → Value} (h : ix i j len) : (arrV cA len f).slots[i.toNatClampNeg]? = some (f j) := by rw [h.cl]; exact arrV_read cA f h.2.1
theorem aw_iald {k j len : Nat} {i : Int32} (hd : decode y.2.1 pc = .ok (.iaload, 1)) (hk : kd k = .inr (0, len)) (hn : k < n) (hi : ix i j len) (K : AW G y (pc + 1) lv (.int (I k j) :: st) (n, sz, kd, I, R, J) Q) : AW G y pc lv (.int i :: .ref (gz G + k) :: st) (n, sz, kd, I, R, J) Q := by
  intro M0 p e s m args below meth c C H locs ls hR hS hl
  obtain ⟨hx, hb, hret, hml, hown, hlocks, hname, hK, h0⟩ := id C
  obtain ⟨-, q1⟩ := cellAt_arr (hR.2.2.1 k hn) hk
  exact W.iald hx hb q1 ((hK.2.1 0 (by decide)).1 _ _) (fun h => by cases h) hi.at hi.rd rfl rfl hd (K M0 p e s m args below meth c C H locs ls hR hS hl)
theorem aw_bald {k j len : Nat} {i : Int32} (hd : decode y.2.1 pc = .ok (.baload, 1)) (hk : kd k = .inr (1, len)) (hn : k < n) (hi : ix i j len) (K : AW G y (pc + 1) lv (.int (I k j) :: st) (n, sz, kd, I, R, J) Q) : AW G y pc lv (.int i :: .ref (gz G + k) :: st) (n, sz, kd, I, R, J) Q := by
  intro M0 p e s m args below meth c C H locs ls hR hS hl
  obtain ⟨hx, hb, hret, hml, hown, hlocks, hname, hK, h0⟩ := id C
  obtain ⟨-, q1⟩ := cellAt_arr (hR.2.2.1 k hn) hk
  exact W.bald hx hb q1 ((hK.2.1 1 (by decide)).1 _ _) (fun h => by cases h) hi.at hi.rd rfl rfl hd (K M0 p e s m args below meth c C H locs ls hR hS hl)
theorem aw_zald {k j len : Nat} {i : Int32} (hd : decode y.2.1 pc = .ok (.baload, 1)) (hk : kd k = .inr (2, len)) (hn : k < n) (hi : ix i j len) (K : AW G y (pc + 1) lv (.int (I k j) :: st) (n, sz, kd, I, R, J) Q) : AW G y pc lv (.int i :: .ref (gz G + k) :: st) (n, sz, kd, I, R, J) Q := by
  intro M0 p e s m args below meth c C H locs ls hR hS hl
  obtain ⟨hx, hb, hret, hml, hown, hlocks, hname, hK, h0⟩ := id C
  obtain ⟨-, q1⟩ := cellAt_arr (hR.2.2.1 k hn) hk
  exact W.zald hx hb q1 ((hK.2.1 2 (by decide)).1 _ _) (fun h => by cases h) hi.at hi.rd rfl rfl hd (K M0 p e s m args below meth c C H locs ls hR hS hl)
theorem aty_ref {t : Nat} (h : 3 ≤ t) : (aty t).isReference = true := by
  match t, h with
  | 3, _ => rfl
  | 4, _ => rfl
  | t + 5, _ => rfl
theorem avl_ref {t : Nat} (h : 3 ≤ t) (x : Int32) (r : Option Nat) : avl t x r = va_rf r := by unfold avl; rw [if_neg (by omega)]
theorem aw_aald {t k j len : Nat} {i : Int32} (hd : decode y.2.1 pc = .ok (.aaload, 1)) (ht : 3 ≤ t) (hk : kd k = .inr (t, len)) (hn : k < n) (hi : ix i j len) (K : AW G y (pc + 1) lv (va_rf (R k j) :: st) (n, sz, kd, I, R, J) Q) : AW G y pc lv (.int i :: .ref (gz G + k) :: st) (n, sz, kd, I, R, J) Q := by
  intro M0 p e s m args below meth c C H locs ls hR hS hl
  obtain ⟨hx, hb, hret, hml, hown, hlocks, hname, hK, h0⟩ := id C
  obtain ⟨ht6, q1⟩ := cellAt_arr (hR.2.2.1 k hn) hk
  refine W.aald (v := va_rf (R k j)) hx hb q1 ((hK.2.1 t ht6).1 _ _) (aty_ref ht) (fun h => by cases h) hi.at ?_ rfl rfl hd (K M0 p e s m args below meth c C H locs ls hR hS hl)
  rw [hi.rd]
  exact congrArg some (avl_ref ht _ _)
theorem aw_alen {t k len : Nat} (hd : decode y.2.1 pc = .ok (.arraylength, 1)) (hk : kd k = .inr (t, len)) (hn : k < n) (K : AW G y (pc + 1) lv (.int (nI len) :: st) (n, sz, kd, I, R, J) Q) : AW G y pc lv (.ref (gz G + k) :: st) (n, sz, kd, I, R, J) Q := by
  intro M0 p e s m args below meth c C H locs ls hR hS hl
  obtain ⟨hx, hb, hret, hml, hown, hlocks, hname, hK, h0⟩ := id C
  obtain ⟨ht6, q1⟩ := cellAt_arr (hR.2.2.1 k hn) hk
  exact W.alen hx hb q1 ((hK.2.1 t ht6).1 _ _) (by rw [arrV_size]; rfl) rfl rfl hd (K M0 p e s m args below meth c C H locs ls hR hS hl)
/-- behind a store into an array -/
theorem ar_fin {k t len j : Nat} {i : Int32} {v : Value} {M M1 : Mem} {p : Program} {e : Env} {s : State} {m : MethodId} {args : Array Value} {below : List Frame} {meth : Method} {c : Code} {M0 : Mem} {H : Heap} {locs : List Loc} {ls : Array Slot} (hi : ix i j len) (hk : M.2.2.1 k = .inr (t, len)) (hn : k < M.1) (C : AC G y M0 p s m meth c) (hR : Rel G M H) (hS : va_S (fun q => gz G ≤ q) s.heap H locs) (hl : lv_has ls y.2.2.1 lv)
    (h1 : M1.1 = M.1) (h2 : M1.2.1 = M.2.1) (h3 : M1.2.2.1 = M.2.2.1) (ho : ∀ a, a ≠ k → M1.2.2.2.1 a = M.2.2.2.1 a ∧ M1.2.2.2.2.1 a = M.2.2.2.2.1 a ∧ M1.2.2.2.2.2 a = M.2.2.2.2.2 a) (hv : ∀ b, avl t (M1.2.2.2.1 k b) (M1.2.2.2.2.1 k b) = if b = j then v else avl t (M.2.2.2.1 k b) (M.2.2.2.2.1 k b))
    (K : AW G y (pc + 1) lv st M1 Q) : ∀ H' : Heap, H'[gz G + k]? = some ((arrV (gA G t) len (fun j => avl t (M.2.2.2.1 k j) (M.2.2.2.2.1 k j))).setSlot i.toNatClampNeg v) → H'.size = H.size → (∀ q, q ≠ gz G + k → H'[q]? = H[q]?) → W p (gl G) e (rmOf y M0) s m args below meth c H' (locs ++ [⟨gz G + k, i.toNatClampNeg⟩]) (M.1 - M0.1) (M.2.1 - M0.2.1) (MQ below (QcOf G Q) args s (capC - M0.1) (capS - M0.2.1) (fun q => gz G ≤ q)) (F0 m (pc + 1) ls st) := by
  intro H' e1 e2 e3
  obtain ⟨ht6, q1⟩ := cellAt_arr (hR.2.2.1 k hn) hk
  have hR1 : Rel G M1 H' := by
    refine rel_set hR e2 e3 h1 h2 h3 ho hn ?_
    unfold cellAt
    rw [h3, hk]
    refine ⟨ht6, ?_⟩
    unfold arrAt
    rw [e1, arrV_store, hi.cl]
    congr 2
    funext b
    show updV _ j v b = _
    rw [hv b]
    by_cases hb : b = j
    · simp [updV, hb]
    · simp [updV, hb]
  have key := K M0 p e s m args below meth c C H' (locs ++ [⟨gz G + k, i.toNatClampNeg⟩]) ls hR1 (hS.put e2 e3 (Nat.le_add_right _ _)) hl
  rw [h1, h2] at key
  exact key
theorem aw_iast {k j len : Nat} {i x : Int32} (hd : decode y.2.1 pc = .ok (.iastore, 1)) (hk : kd k = .inr (0, len)) (hn : k < n) (hi : ix i j len) (K : AW G y (pc + 1) lv st (n, sz, kd, u2 I k j x, R, J) Q) : AW G y pc lv (.int x :: .int i :: .ref (gz G + k) :: st) (n, sz, kd, I, R, J) Q := by
  intro M0 p e s m args below meth c C H locs ls hR hS hl
  obtain ⟨hx, hb, hret, hml, hown, hlocks, hname, hK, h0⟩ := id C
  obtain ⟨-, q1⟩ := cellAt_arr (hR.2.2.1 k hn) hk
  refine W.iast hx hb q1 ((hK.2.1 0 (by decide)).1 _ _) (fun h => by cases h) hi.at rfl rfl hd ?_
  refine ar_fin (M1 := (n, sz, kd, u2 I k j x, R, J)) hi hk hn C hR hS hl rfl rfl rfl (fun a ha => ⟨u2_row I j x ha, rfl, rfl⟩) (fun b => ?_) K
  show Value.int (u2 I k j x k b) = if b = j then Value.int x else Value.int (I k b)
  by_cases hb2 : b = j
  · subst hb2; rw [u2_same, if_pos rfl]
  · rw [u2_col I k x hb2, if_neg hb2]
theorem aw_bast {k j len : Nat} {i x x' : Int32} (hd : decode y.2.1 pc = .ok (.bastore, 1)) (hk : kd k = .inr (1, len)) (hn : k < n) (hi : ix i j len) (hx' : narrow .byte (.int x) = .int x') (K : AW G y (pc + 1) lv st (n, sz, kd, u2 I k j x', R, J) Q) : AW G y pc lv (.int x :: .int i :: .ref (gz G + k) :: st) (n, sz, kd, I, R, J) Q := by
  intro M0 p e s m args below meth c C H locs ls hR hS hl
  obtain ⟨hx, hb, hret, hml, hown, hlocks, hname, hK, h0⟩ := id C
  obtain ⟨-, q1⟩ := cellAt_arr (hR.2.2.1 k hn) hk
  refine W.bast hx hb q1 ((hK.2.1 1 (by decide)).1 _ _) (fun h => by cases h) hi.at rfl rfl hd ?_
  rw [hx']
  refine ar_fin (M1 := (n, sz, kd, u2 I k j x', R, J)) hi hk hn C hR hS hl rfl rfl rfl (fun a ha => ⟨u2_row I j x' ha, rfl, rfl⟩) (fun b => ?_) K
  show Value.int (u2 I k j x' k b) = if b = j then Value.int x' else Value.int (I k b)
  by_cases hb2 : b = j
  · subst hb2; rw [u2_same, if_pos rfl]
  · rw [u2_col I k x' hb2, if_neg hb2]
theorem aw_zast {k j len : Nat} {i : Int32} {b0 : Bool} (hd : decode y.2.1 pc = .ok (.bastore, 1)) (hk : kd k = .inr (2, len)) (hn : k < n) (hi : ix i j len) (K : AW G y (pc + 1) lv st (n, sz, kd, u2 I k j (bi b0), R, J) Q) : AW G y pc lv (.int (bi b0) :: .int i :: .ref (gz G + k) :: st) (n, sz, kd, I, R, J) Q := by
  intro M0 p e s m args below meth c C H locs ls hR hS hl
  obtain ⟨hx, hb, hret, hml, hown, hlocks, hname, hK, h0⟩ := id C
  obtain ⟨-, q1⟩ := cellAt_arr (hR.2.2.1 k hn) hk
  refine W.zast hx hb q1 ((hK.2.1 2 (by decide)).1 _ _) (fun h => by cases h) hi.at rfl rfl hd ?_
  rw [bi_nar]
  refine ar_fin (M1 := (n, sz, kd, u2 I k j (bi b0), R, J)) hi hk hn C hR hS hl rfl rfl rfl (fun a ha => ⟨u2_row I j _ ha, rfl, rfl⟩) (fun b => ?_) K
  show Value.int (u2 I k j (bi b0) k b) = if b = j then Value.int (bi b0) else Value.int (I k b)
  by_cases hb2 : b = j
  · subst hb2; rw [u2_same, if_pos rfl]
  · rw [u2_col I k _ hb2, if_neg hb2]
/-- a new cell behind the others -/
theorem rel_push {H : Heap} {M M1 : Mem} {cell : Cell} {q : AKd} (hR : Rel G M H) (h1 : M1.1 = M.1 + 1) (h2 : M1.2.1 = M.2.1 + lenK q) (h3 : ∀ a, a < M.1 → M1.2.2.1 a = M.2.2.1 a) (h3' : M1.2.2.1 M.1 = q) (ho : ∀ a, a < M.1 → M1.2.2.2.1 a = M.2.2.2.1 a ∧ M1.2.2.2.2.1 a = M.2.2.2.2.1 a ∧ M1.2.2.2.2.2 a = M.2.2.2.2.2 a) (hc : cellAt G M1 M.1 (H.push cell)) (hcap : M.1 + 1 ≤ capC) (hcs : M.2.1 + lenK q ≤ capS) : Rel G M1 (H.push cell) := by
  obtain ⟨r1, r2, r3, r4, r5, r6⟩ := hR
  have old : ∀ q, q < H.size → (H.push cell)[q]? = H[q]? := fun q hq => by rw [Array.getElem?_push, if_neg (Nat.ne_of_lt hq)]
  refine ⟨by rw [Array.size_push, r1, h1]; omega, fun q hq => by rw [old q (by omega)]; exact r2 q hq, fun a ha => ?_, ?_, by rw [h1]; exact hcap, by rw [h2]; exact hcs⟩
  · by_cases hak : a = M.1
    · subst hak
      exact hc
    · have hlt : a < M.1 := by omega
      obtain ⟨o1, o2, o3⟩ := ho a hlt
      have hq := old (gz G + a) (by omega)
      have h4 := r3 a hlt
      unfold cellAt at h4 ⊢
      rw [h3 a hlt]
      split
      · rename_i ci hci
        rw [hci] at h4
        obtain ⟨g0, cell', g1, g2, g3, g4, g5⟩ := h4
        exact ⟨g0, cell', by rw [hq]; exact g1, g2, g3, g4, fun j hj => by rw [o1, o2, o3]; exact g5 j hj⟩
      · rename_i x hx
        rw [hx] at h4
        refine ⟨h4.1, ?_⟩
        unfold arrAt
        rw [hq, o1, o2]
        exact h4.2
  · rw [h1]
    show sumF _ M.1 + lenK (M1.2.2.1 M.1) = _
    rw [sumF_cong (g := fun k => lenK (M.2.2.1 k)) (fun k hk => by rw [h3 k hk]), r4, h3', h2]
theorem zz_cap1 {a b c : Nat} (h : a + b ≤ c) {d : Nat} (h0 : d ≤ c) : a - d + b ≤ c - d ∨ a < d := by omega
theorem zz_prim {t : Nat} (ht3 : t < 3) : defaultValue (aty t) = .int 0 ∧ componentBytes (aty t) ≤ 4 ∧ (∀ (U : State) (cA : ClassId), va_RA U cA (aty t) → U.vm.findClass ("[" ++ (aty t).toString) = some cA) := by
  match t, ht3 with
  | 0, _ => exact ⟨rfl, by decide, fun _ _ h => h⟩
  | 1, _ => exact ⟨rfl, by decide, fun _ _ h => h⟩
  | 2, _ => exact ⟨rfl, by decide, fun _ _ h => h⟩
theorem zz_below {M M0 : Mem} {H H0 : Heap} (hR : Rel G M H) (h0 : Rel G M0 H0) (hle : H0.size ≤ H.size) : M0.1 ≤ M.1 := by
  have h1 := hR.1
  have h2 := h0.1
  omega
end AWR
