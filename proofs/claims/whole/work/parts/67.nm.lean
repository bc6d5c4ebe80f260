section NMF
variable {G : GG} {n n' sz : Nat} {kd kd' : KD} {I I' Z Zs : II} {R R' : RR} {J J' : JJ} {em K K' cap cap' hm : Nat} {u u' : Nat → Int32} {kn kn' : Nat → Nat} {key key' : Nat → Key}
theorem oI_inj {o o' : Option Nat} (h : ∀ b, o = some b → b < 2 ^ 31) (h' : ∀ b, o' = some b → b < 2 ^ 31) : oI o = oI o' ↔ o = o' := by
  constructor
  · intro e
    cases o with
    | none =>
      cases o' with
      | none => rfl
      | some b => exact absurd (show nI b < 0 by rw [show nI b = -1 from e.symm]; decide) (nI_pos (h' b rfl))
    | some a =>
      cases o' with
      | none => exact absurd (show nI a < 0 by rw [show nI a = -1 from e]; decide) (nI_pos (h a rfl))
      | some b => rw [(nI_eq (h a rfl) (h' b rfl)).mp e]
  · intro e; rw [e]
theorem tl_eq (h : KnR G em n kd I R Z u K cap kn key) {a f : Nat} {o : Option Nat} (vk : vK (a, o, f)) {i : Nat} (hi : i < K) : nmQ G kd I R kn a o f i = decide (key i = (a, o, f)) := by
  obtain ⟨-, b2, b3⟩ := h.2.2.1 i hi
  obtain ⟨c1, c2, c3, c4, c5, -⟩ := b3
  obtain ⟨v1, v2, v3⟩ := vk
  obtain ⟨w1, w2, w3⟩ := b2
  have hoc := oC_le (key i).2.1
  have e0 : cAt G kd I R (kn i) (nI 0) = nI (key i).1 := by
    unfold cAt
    rw [c4, rgl_nI (Nat.zero_le _) (by omega) (by decide)]
    exact (c5 0 (by omega)).1
  have e1 : cAt G kd I R (kn i) (nI 1) = oI (key i).2.1 := by
    unfold cAt
    rw [c4]
    cases ho : (key i).2.1 with
    | none => rfl
    | some b =>
      rw [show oC (some b) = 2 from rfl, rgl_nI (j := 1) (by decide) (by decide) (by decide)]
      have c51 := (c5 1 (by rw [ho]; exact (by decide : 1 < 2))).1
      show I (rc G R (kn i) 1) 1 = _
      rw [c51]
      unfold kcd
      rw [ho]
      rfl
  unfold nmQ cTl
  rw [e0, e1, c3, decide_eq_decide.mpr (nI_eq (a := (key i).1) (b := a) (by omega) (by have : a < 40 := v1; omega)), decide_eq_decide.mpr (oI_inj (o := (key i).2.1) (o' := o) (fun b hb => by have := w2 b hb; omega) (fun b hb => by have := v2 b hb; omega)), decide_eq_decide.mpr (nI_eq (a := (key i).2.2) (b := f) (by omega) (by have : f < 8 := v3; omega)), ← Bool.decide_and, ← Bool.decide_and]
  refine decide_eq_decide.mpr ⟨fun z => ?_, fun z => by rw [z]; exact ⟨rfl, rfl, rfl⟩⟩
  obtain ⟨z1, z2, z3⟩ := z
  rw [← z1, ← z2, ← z3]
theorem nm_eq (h : KnR G em n kd I R Z u K cap kn key) {a f : Nat} {o : Option Nat} (vk : vK (a, o, f)) : fstF (nmQ G kd I R kn a o f) K = kF key (a, o, f) K := fstF_cong (fun i hi => tl_eq h vk hi)
def notL5 (x : AKd) : Bool := match x with
  | .inl _ => true
  | .inr y_ => !decide (y_.1 = 5)
theorem notL5_c : ∀ q, q < 22 → notL5 (ctab q) = true := by decide +kernel
/-- behind the naming of a learnt RULE -/
def NmF (G : GG) (em n sz : Nat) (kd : KD) (I : II) (R : RR) (J : JJ) (Z : II) (u : Nat → Int32) (K cap hm : Nat) (Zs : II) (a : Nat) (o : Option Nat) (f r n1 sz1 : Nat) (kd1 : KD) (I1 : II) (R1 : RR) (J1 : JJ) (u' : Nat → Int32) (K' cap' : Nat) (kn' : Nat → Nat) (key' : Nat → Key) : Prop := Fr n kd I R J n1 kd1 I1 R1 J1 ∧ (∀ q, q < 52 → q ≠ 17 → I1 q = I q ∧ R1 q = R q) ∧ (∀ q, q < n → u' q = u q) ∧ UR G n1 kd1 R1 u' K' hm ∧ RlR G n1 kd1 I1 R1 r (Zs 41 (mNum a o f)) (nI f) (oC o) (kcd (a, o, f)) ∧ u' r = Zs 41 (mNum a o f) ∧ KnR G em n1 kd1 I1 R1 Zs u' K' cap' kn' key' ∧ n1 ≤ n + 3 ∧ sz1 + 4 * cap ≤ sz + 5 + 4 * cap' ∧ K ≤ K' ∧ K' ≤ K + 1
theorem nmO_ne {i : Nat} (h : i ≤ 4000) : nmO (some i) ≠ 0 := fun z => by
  have := (nI_eq (a := 100 + i) (b := 0) (by omega) (by decide)).mp z
  omega
theorem nm_fact (h : Core G em n kd I R J Z u K cap hm kn key) (hb : K ≤ 3200 ∧ hm ≤ 4000) {t : Bst} {a f : Nat} {o : Option Nat} (S : StF Z Zs t a o f) (vk : vK (a, o, f)) {v' : Option Value} {M' : Mem} (hq : QName G em n sz kd I R J K cap kn a o f v' M') : ∃ r n1 sz1 kd1 I1 R1 J1 u' K' cap' kn' key', v' = some (.ref (gz G + r)) ∧ M' = (n1, sz1, kd1, I1, R1, J1) ∧ NmF G em n sz kd I R J Z u K cap hm Zs a o f r n1 sz1 kd1 I1 R1 J1 u' K' cap' kn' key' := by
  have hn := h.shC.1
  have hkw := h.kw
  have hno := hkw.2.2.2 (a, o, f) vk
  unfold QName at hq
  rw [nm_eq hkw vk] at hq
  have s9 := S.2.2.2.2.2.2.2.2.1
  cases hk : kF key (a, o, f) K with
  | some i =>
    rw [hk] at hq hno
    obtain ⟨hi, hki, -⟩ := fstF_some hk
    have hki : key i = (a, o, f) := of_decide_eq_true hki
    rcases s9 with ⟨z1, z2, z3⟩ | ⟨z1, -, -⟩
    · obtain ⟨b1, b2, b3⟩ := hkw.2.2.1 i hi
      rw [hki] at b3
      have hno' : Zs 41 (mNum a o f) = nI (100 + i) := by rw [z2]; exact hno
      refine ⟨kn i, n, sz, kd, I, R, J, u, K, cap, kn, key, hq.1, hq.2, ⟨Nat.le_refl n, fun _ _ => rfl, fun _ _ _ _ => ⟨rfl, rfl, rfl⟩⟩, fun _ _ _ => ⟨rfl, rfl⟩, fun _ _ => rfl, h.ur, by rw [hno']; exact b3, by rw [hno']; exact b1, ?_, by omega, by omega, Nat.le_refl K, by omega⟩
      exact ⟨hkw.1, z3.trans hkw.2.1, hkw.2.2.1, fun k' hk' => by rw [z2]; exact hkw.2.2.2 k' hk'⟩
    · exact absurd (hno.symm.trans z1) (nmO_ne (by omega))
  | none =>
    rw [hk] at hq hno
    obtain ⟨hv, n1, sz1, kd1, I1, R1, J1, cap', hM, q1, q2, q3, q4, q5, q6, q7, q8, q9, q10, q11, q12, q13, q14, q15⟩ := hq
    rcases s9 with ⟨z1, -, -⟩ | ⟨z1, z2, z3⟩
    · exact absurd hno z1
    · have hnK : Z 22 21 = nI K := hkw.2.1
      have hno' : Zs 41 (mNum a o f) = nI (100 + K) := by rw [z3, if_pos rfl, hnK, nI_add]
      have F : Fr n kd I R J n1 kd1 I1 R1 J1 := ⟨by omega, fun x hx => (q4 x hx).1, fun x h1 h2 h3 => ⟨q5 x h2 (by omega), q6 x h2 (by omega) h3, (q4 x h2).2⟩⟩
      have er : rc G R1 (n + 1) 1 = n := rc_some q10
      have ec : cM G kd1 R1 (n + 1) = oC o := by unfold cM; rw [er, q8]; rfl
      have hoc := oC_le o
      have hRuO : RuO G n1 kd1 R1 (n + 1) := ⟨⟨q9, by omega⟩, by omega, ⟨by rw [er]; exact q10, by rw [er]; omega, by rw [er, ec]; exact q8, by rw [ec]; omega⟩, by rw [er]; exact hn⟩
      have hRl : RlR G n1 kd1 I1 R1 (n + 1) (nI (100 + K)) (nI f) (oC o) (kcd (a, o, f)) := ⟨hRuO, q11, q12, ec, fun j hj => by
        rw [er]
        match j with
        | 0 => exact ⟨q13, a, rfl, Or.inl vk.1⟩
        | 1 =>
          cases o with
          | none => exact absurd hj (by decide)
          | some b => exact ⟨q14 b rfl, b, rfl, Or.inl (vk.2.1 b rfl).2⟩
        | j + 2 => omega, bN_nI (by have := vk.2.2; dsimp only at this; omega)⟩
      have hu : ∀ q, q < n → va_up u (n + 1) (nI (100 + K)) q = u q := fun q hq => vz_up_ne _ _ (by omega)
      have hkd : ∀ q, q < 52 → q ≠ 17 → ∀ c, kd q ≠ .inr (5, c) := fun q h1 h2 c z => by
        have hs := h.shC
        have hm := h.shM
        by_cases hq22 : q < 22
        · rw [hs.2.1 q hq22] at z
          have z2 := notL5_c q hq22
          rw [z] at z2
          exact absurd z2 (show ¬ false = true by decide)
        · by_cases hq2 : q = 22
          · rw [hq2, hm.2.1] at z; cases z
          · obtain ⟨i, rfl⟩ : ∃ i, q = 23 + i := ⟨q - 23, by omega⟩
            rw [hm.2.2.1 i (by omega)] at z
            have key : ∀ i, i < 29 → (mtab i).1 ≠ 5 := by decide +kernel
            have z2 := Sum.inr.inj z
            exact key i (by omega) (by rw [z2])
      refine ⟨n + 1, n1, sz1, kd1, I1, R1, J1, va_up u (n + 1) (nI (100 + K)), K + 1, cap', va_up kn K (n + 1), va_up key K (a, o, f), hv, hM, F, fun q h1 h2 => ⟨q5 q (by omega) h2, q6 q (by omega) h2 (hkd q h1 h2)⟩, hu, h.ur.new F.rul (by omega) hRuO (fun r h1 h2 h3 z => ?_) (Nat.le_succ K) (Nat.le_refl hm) (Or.inl ⟨K, Nat.lt_succ_self K, rfl⟩) (fun r hr z => ?_), by rw [hno']; exact hRl, by rw [hno', vz_up_same], ⟨q15, by rw [z2, hnK, nI_add], fun i hi => ?_, fun k' hk' => ?_⟩, q2, q3, Nat.le_succ K, Nat.le_refl _⟩
      · by_cases hrn : r = n
        · rw [hrn, q8] at z; cases z
        · obtain ⟨c, hc⟩ := q7 r (by omega) h2
          rw [hc] at z; cases z
      · rcases (h.ur.1 r hr).2 with ⟨j, j1, j2⟩ | ⟨s, s1, s2⟩
        · rw [j2] at z; have := (nI_eq (by omega) (by omega)).mp z; omega
        · rw [s2] at z; have := (nI_eq (by omega) (by omega)).mp z; omega
      · by_cases hiK : i = K
        · rw [hiK, vz_up_same, vz_up_same, vz_up_same]
          exact ⟨rfl, vk, hRl⟩
        · obtain ⟨b1, b2, b3⟩ := hkw.2.2.1 i (by omega)
          rw [vz_up_ne _ _ hiK, vz_up_ne _ _ hiK, hu _ b3.1.1.2]
          exact ⟨b1, b2, b3.fr F.rul⟩
      · have ek : kF (va_up key K (a, o, f)) k' K = kF key k' K := fstF_cong (fun i hi => by rw [vz_up_ne _ _ (by omega)])
        have ek2 : kF (va_up key K (a, o, f)) k' (K + 1) = match kF key k' K with | some q => some q | none => if decide ((a, o, f) = k') = true then some K else none := by
          show fstF _ (K + 1) = _
          rw [fstF]
          rw [show fstF (fun i => decide (va_up key K (a, o, f) i = k')) K = kF key k' K from ek, vz_up_same]
          cases kF key k' K with
          | some q => rfl
          | none => rfl
        rw [ek2]
        by_cases hkk : (a, o, f) = k'
        · rw [← hkk, hno', hk]
          simp [nmO]
        · rw [z3, if_neg (fun z => hkk (num_inj hk' vk z).symm), hkw.2.2.2 k' hk', decide_eq_false hkk]
          cases kF key k' K with
          | some q => rfl
          | none => rfl
end NMF
