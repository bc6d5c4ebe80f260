section AWN
variable {G : GG} {y : MI} {pc : Nat} {lv : List (Nat × Value)} {st : List Value} {M : Mem} {Q : Option Value → Mem → Prop}
variable {n sz : Nat} {kd : Nat → AKd} {I : Nat → Nat → Int32} {R : Nat → Nat → Option Nat} {J : Nat → Nat → Int64}
theorem aw_n_eq {x z : Int32} {a b tgt : Nat} {off : Int} (hd : decode y.2.1 pc = .ok (.if_icmp .eq off, 3)) (ht : (pc : Int) + off = (tgt : Int)) (hx : x = nI a) (hz : z = nI b) (ha : a < 2 ^ 31) (hb : b < 2 ^ 31) (Kt : a = b → AW G y tgt lv st M Q) (Kf : ¬ a = b → AW G y (pc + 3) lv st M Q) : AW G y pc lv (.int z :: .int x :: st) M Q := by
  subst hx
  subst hz
  exact aw_icmp_eq hd ht (fun q => Kt ((nI_eq ha hb).mp q)) (fun q => Kf (fun z => q ((nI_eq ha hb).mpr z)))
theorem aw_n_ne {x z : Int32} {a b tgt : Nat} {off : Int} (hd : decode y.2.1 pc = .ok (.if_icmp .ne off, 3)) (ht : (pc : Int) + off = (tgt : Int)) (hx : x = nI a) (hz : z = nI b) (ha : a < 2 ^ 31) (hb : b < 2 ^ 31) (Kt : ¬ a = b → AW G y tgt lv st M Q) (Kf : a = b → AW G y (pc + 3) lv st M Q) : AW G y pc lv (.int z :: .int x :: st) M Q := by
  subst hx
  subst hz
  exact aw_icmp_ne hd ht (fun q => Kt (fun z => q ((nI_eq ha hb).mpr z))) (fun q => Kf ((nI_eq ha hb).mp q))
theorem aw_n_lt {x z : Int32} {a b tgt : Nat} {off : Int} (hd : decode y.2.1 pc = .ok (.if_icmp .lt off, 3)) (ht : (pc : Int) + off = (tgt : Int)) (hx : x = nI a) (hz : z = nI b) (ha : a < 2 ^ 31) (hb : b < 2 ^ 31) (Kt : a < b → AW G y tgt lv st M Q) (Kf : ¬ a < b → AW G y (pc + 3) lv st M Q) : AW G y pc lv (.int z :: .int x :: st) M Q := by
  subst hx
  subst hz
  exact aw_icmp_lt hd ht (fun q => Kt ((nI_ltI ha hb).mp q)) (fun q => Kf (fun z => q ((nI_ltI ha hb).mpr z)))
theorem aw_n_ge {x z : Int32} {a b tgt : Nat} {off : Int} (hd : decode y.2.1 pc = .ok (.if_icmp .ge off, 3)) (ht : (pc : Int) + off = (tgt : Int)) (hx : x = nI a) (hz : z = nI b) (ha : a < 2 ^ 31) (hb : b < 2 ^ 31) (Kt : b ≤ a → AW G y tgt lv st M Q) (Kf : ¬ b ≤ a → AW G y (pc + 3) lv st M Q) : AW G y pc lv (.int z :: .int x :: st) M Q := by
  subst hx
  subst hz
  exact aw_icmp_ge hd ht (fun q => Kt ((nI_leI hb ha).mp q)) (fun q => Kf (fun z => q ((nI_leI hb ha).mpr z)))
theorem aw_n_gt {x z : Int32} {a b tgt : Nat} {off : Int} (hd : decode y.2.1 pc = .ok (.if_icmp .gt off, 3)) (ht : (pc : Int) + off = (tgt : Int)) (hx : x = nI a) (hz : z = nI b) (ha : a < 2 ^ 31) (hb : b < 2 ^ 31) (Kt : b < a → AW G y tgt lv st M Q) (Kf : ¬ b < a → AW G y (pc + 3) lv st M Q) : AW G y pc lv (.int z :: .int x :: st) M Q := by
  subst hx
  subst hz
  exact aw_icmp_gt hd ht (fun q => Kt ((nI_ltI hb ha).mp q)) (fun q => Kf (fun z => q ((nI_ltI hb ha).mpr z)))
theorem aw_n_le {x z : Int32} {a b tgt : Nat} {off : Int} (hd : decode y.2.1 pc = .ok (.if_icmp .le off, 3)) (ht : (pc : Int) + off = (tgt : Int)) (hx : x = nI a) (hz : z = nI b) (ha : a < 2 ^ 31) (hb : b < 2 ^ 31) (Kt : a ≤ b → AW G y tgt lv st M Q) (Kf : ¬ a ≤ b → AW G y (pc + 3) lv st M Q) : AW G y pc lv (.int z :: .int x :: st) M Q := by
  subst hx
  subst hz
  exact aw_icmp_le hd ht (fun q => Kt ((nI_leI ha hb).mp q)) (fun q => Kf (fun z => q ((nI_leI ha hb).mpr z)))
theorem nI_z {a : Nat} (ha : a < 2 ^ 31) : nI a = 0 ↔ a = 0 := nI_eq (b := 0) ha (by decide)
theorem aw_z_eq {x : Int32} {a tgt : Nat} {off : Int} (hd : decode y.2.1 pc = .ok (.ifCond .eq off, 3)) (ht : (pc : Int) + off = (tgt : Int)) (hx : x = nI a) (ha : a < 2 ^ 31) (Kt : a = 0 → AW G y tgt lv st M Q) (Kf : ¬ a = 0 → AW G y (pc + 3) lv st M Q) : AW G y pc lv (.int x :: st) M Q := by
  subst hx
  exact aw_if_eq hd ht (fun q => Kt ((nI_z ha).mp q)) (fun q => Kf (fun z => q ((nI_z ha).mpr z)))
theorem aw_z_ne {x : Int32} {a tgt : Nat} {off : Int} (hd : decode y.2.1 pc = .ok (.ifCond .ne off, 3)) (ht : (pc : Int) + off = (tgt : Int)) (hx : x = nI a) (ha : a < 2 ^ 31) (Kt : ¬ a = 0 → AW G y tgt lv st M Q) (Kf : a = 0 → AW G y (pc + 3) lv st M Q) : AW G y pc lv (.int x :: st) M Q := by
  subst hx
  exact aw_if_ne hd ht (fun q => Kt (fun z => q ((nI_z ha).mpr z))) (fun q => Kf ((nI_z ha).mp q))
theorem aw_z_lt {x : Int32} {a : Nat} {off : Int} {tgt : Nat} (hd : decode y.2.1 pc = .ok (.ifCond .lt off, 3)) (ht : (pc : Int) + off = (tgt : Int)) (hx : x = nI a) (ha : a < 2 ^ 31) (K : AW G y (pc + 3) lv st M Q) : AW G y pc lv (.int x :: st) M Q := by
  subst hx
  exact aw_if_lt (tgt := tgt) hd ht (fun q => absurd q (nI_pos ha)) (fun _ => K)
theorem bi_z (b : Bool) : bi b = 0 ↔ b = false := by cases b <;> decide
theorem aw_b_eq {x : Int32} {b : Bool} {tgt : Nat} {off : Int} (hd : decode y.2.1 pc = .ok (.ifCond .eq off, 3)) (ht : (pc : Int) + off = (tgt : Int)) (hx : x = bi b) (Kt : b = false → AW G y tgt lv st M Q) (Kf : b = true → AW G y (pc + 3) lv st M Q) : AW G y pc lv (.int x :: st) M Q := by
  subst hx
  exact aw_if_eq hd ht (fun q => Kt ((bi_z b).mp q)) (fun q => Kf (by cases b with | true => rfl | false => exact absurd rfl q))
theorem aw_b_ne {x : Int32} {b : Bool} {tgt : Nat} {off : Int} (hd : decode y.2.1 pc = .ok (.ifCond .ne off, 3)) (ht : (pc : Int) + off = (tgt : Int)) (hx : x = bi b) (Kt : b = true → AW G y tgt lv st M Q) (Kf : b = false → AW G y (pc + 3) lv st M Q) : AW G y pc lv (.int x :: st) M Q := by
  subst hx
  exact aw_if_ne hd ht (fun q => Kt (by cases b with | true => rfl | false => exact absurd rfl q)) (fun q => Kf ((bi_z b).mp q))
theorem aw_iincN {i a c : Nat} {m : Int} {lv' : List (Nat × Value)} (hd : decode y.2.1 pc = .ok (.iinc i m, 3)) (hx : lk lv i = some (.int (nI a))) (hn : i < y.2.2.1) (hv1 : Int32.ofInt m = nI c) (hv : lset i (.int (nI (a + c))) lv = lv') (K : AW G y (pc + 3) lv' st M Q) : AW G y pc lv st M Q :=
  aw_iinc (x := nI a) (v := nI c) hd hx hn hv1 (by rw [nI_add]; exact hv) K
theorem aw_iaddN {a b : Nat} (hd : decode y.2.1 pc = .ok (.iadd, 1)) (K : AW G y (pc + 1) lv (.int (nI (a + b)) :: st) M Q) : AW G y pc lv (.int (nI b) :: .int (nI a) :: st) M Q := aw_iadd hd (by rw [nI_add]; exact K)
theorem aw_imulN {a b : Nat} (hd : decode y.2.1 pc = .ok (.imul, 1)) (K : AW G y (pc + 1) lv (.int (nI (a * b)) :: st) M Q) : AW G y pc lv (.int (nI b) :: .int (nI a) :: st) M Q := aw_imul hd (by rw [pk_mul]; exact K)
theorem aw_isubN {a b : Nat} (h : b ≤ a) (hd : decode y.2.1 pc = .ok (.isub, 1)) (K : AW G y (pc + 1) lv (.int (nI (a - b)) :: st) M Q) : AW G y pc lv (.int (nI b) :: .int (nI a) :: st) M Q := aw_isub hd (by rw [pk_sub h]; exact K)
/-- another name for the number on top -/
theorem aw_top {x z : Int32} (h : x = z) (K : AW G y pc lv (.int z :: st) M Q) : AW G y pc lv (.int x :: st) M Q := by rw [h]; exact K
theorem aw_st {st' : List Value} (h : st = st') (K : AW G y pc lv st' M Q) : AW G y pc lv st M Q := by rw [h]; exact K
theorem aw_mem {M' : Mem} (h : M = M') (K : AW G y pc lv st M' Q) : AW G y pc lv st M Q := by rw [h]; exact K
theorem aw_I {I' : Nat → Nat → Int32} (h : I = I') (K : AW G y pc lv st (n, sz, kd, I', R, J) Q) : AW G y pc lv st (n, sz, kd, I, R, J) Q := by rw [h]; exact K
theorem aw_lve {lv' : List (Nat × Value)} (h : lv = lv') (K : AW G y pc lv' st M Q) : AW G y pc lv st M Q := by rw [h]; exact K
end AWN
/-- the first n all hold -/
def allT (p : Nat → Bool) : Nat → Bool
  | 0 => true
  | n + 1 => allT p n && p n
theorem allT_iff (p : Nat → Bool) : ∀ n, allT p n = true ↔ ∀ k, k < n → p k = true
  | 0 => ⟨fun _ k h => absurd h (Nat.not_lt_zero k), fun _ => rfl⟩
  | n + 1 => by
    rw [allT, Bool.and_eq_true, allT_iff p n]
    exact ⟨fun h k hk => by rcases Nat.lt_succ_iff_lt_or_eq.mp hk with q | rfl; exact h.1 k q; exact h.2, fun h => ⟨fun k hk => h k (by omega), h n (by omega)⟩⟩
theorem allT_false {p : Nat → Bool} {n k : Nat} (hk : k < n) (h : p k = false) : allT p n = false := by
  cases hh : allT p n with
  | false => rfl
  | true => rw [(allT_iff p n).mp hh k hk] at h; cases h
theorem allT_cong {p q : Nat → Bool} : ∀ {n : Nat}, (∀ k, k < n → p k = q k) → allT p n = allT q n
  | 0, _ => rfl
  | n + 1, h => by rw [allT, allT, allT_cong (fun k hk => h k (by omega)), h n (by omega)]
/-- how many of the first n hold -/
def cnt (p : Nat → Bool) : Nat → Nat
  | 0 => 0
  | n + 1 => cnt p n + (if p n then 1 else 0)
theorem cnt_le (p : Nat → Bool) : ∀ n, cnt p n ≤ n
  | 0 => Nat.le_refl _
  | n + 1 => by have h := cnt_le p n; rw [cnt]; split <;> omega
theorem cnt_cong {p q : Nat → Bool} : ∀ {n : Nat}, (∀ k, k < n → p k = q k) → cnt p n = cnt q n
  | 0, _ => rfl
  | n + 1, h => by rw [cnt, cnt, cnt_cong (fun k hk => h k (by omega)), h n (by omega)]
theorem cnt_mono (p : Nat → Bool) (m : Nat) : ∀ d, cnt p m ≤ cnt p (m + d)
  | 0 => Nat.le_refl _
  | d + 1 => by have h := cnt_mono p m d; rw [← Nat.add_assoc, cnt]; omega
