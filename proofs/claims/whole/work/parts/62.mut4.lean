section MUT4
variable {G : GG} {n n' sz : Nat} {kd kd' : KD} {I I' Z Z' : II} {R R' : RR} {J J' : JJ} {em K cap hm : Nat} {u u' : Nat → Int32} {kn : Nat → Nat} {key : Nat → Key}
theorem okCd_k {w v : Nat} (h4 : 4 ≤ w) (h9 : w < 9) (hv : v ≤ mostK (w - 4)) : okCd (v + baseK (w - 4)) := by
  unfold okCd
  match w, h4, h9 with
  | 4, _, _ => have hv : v ≤ 15 := hv; show v + 0 < 40 ∨ _; omega
  | 5, _, _ => have hv : v ≤ 7 := hv; show v + 16 < 40 ∨ _; omega
  | 6, _, _ => have hv : v ≤ 15 := hv; show v + 24 < 40 ∨ _; omega
  | 7, _, _ => have hv : v ≤ 999 := hv; show v + 100 < 40 ∨ (100 ≤ v + 100 ∧ v + 100 < 2100); omega
  | 8, _, _ => have hv : v ≤ 999 := hv; show v + 1100 < 40 ∨ (100 ≤ v + 1100 ∧ v + 1100 < 2100); omega
theorem pTest_ok {b : Nat → Nat} {P i t q c : Nat} (hi : i ≤ P) (h : pTest b P i t = .inr (q, c)) : q ≤ P ∧ okCd c := by
  refine ⟨(pTest_le hi h).1, ?_⟩
  have hw := wSE b hi
  unfold pTest at h
  split at h
  · cases h
  · rename_i w hc
    split at h
    · cases h
    · rename_i h4
      split at h
      · cases h
      · split at h
        · cases h
        · rename_i v q' e
          cases h
          exact okCd_k (by omega) (wcode_lt hc) (pNum_le (show wE b P i ≤ P from hw.2.2) e).2
theorem pTs_ok {b : Nat → Nat} {P : Nat} : ∀ {f i : Nat} {cs : List Nat} {q : Nat} {ds : List Nat}, i ≤ P → (∀ c ∈ cs, okCd c) → pTs b P f i cs = .inr (q, ds) → q ≤ P ∧ ∀ c ∈ ds, okCd c
  | 0, i, cs, q, ds, _, _, h => by cases h
  | f + 1, i, cs, q, ds, hi, hc, h => by
    rw [pTs] at h
    split at h
    · cases h
    · rename_i q' c e
      obtain ⟨e1, e2⟩ := pTest_ok hi e
      have h5 : ∀ d ∈ cs ++ [c], okCd d := fun d hd => by
        rw [List.mem_append, List.mem_singleton] at hd
        rcases hd with hd | hd
        · exact hc d hd
        · rw [hd]; exact e2
      split at h
      · exact pTs_ok (wSE b e1).2.2 h5 h
      · cases h
        exact ⟨e1, h5⟩
theorem pEnd_v {b : Nat → Nat} {P i : Nat} {cs ds : List Nat} {v : Nat} (hi : i ≤ P) (h : pEnd b P i cs = .inr (ds, v)) : v ≤ 7 := by
  unfold pEnd at h
  split at h
  · split at h
    · cases h
    · rename_i e
      split at h
      · cases h
      · cases h
        exact (pNum_le (wSE b hi).2.2 e).2
  · cases h
theorem pText_ok {b : Nat → Nat} {P : Nat} {cs : List Nat} {v : Nat} (h : pText b P = .inr (cs, v)) : v ≤ 7 ∧ ∀ c ∈ cs, okCd c := by
  have hw := wSE b (Nat.zero_le P)
  unfold pText at h
  split at h
  · rw [pEnd_len h]; exact ⟨pEnd_v hw.2.2 h, fun c hc => by cases hc⟩
  · split at h
    · cases h
    · rename_i e
      obtain ⟨e1, e2⟩ := pTs_ok hw.2.2 (fun c hc => by cases hc) e
      rw [pEnd_len h]
      exact ⟨pEnd_v e1 h, e2⟩
  · cases h
theorem rS_row {p : RSt} {a : Nat} (h : a ≠ 3) (h2 : a ≠ 4) : rS I p a = I a := by
  funext c
  unfold rS
  simp [h, h2]
theorem RlR.cd {r t : Nat} {nm fo : Int32} {cd cd' : Nat → Int32} (h : RlR G n kd I R r nm fo t cd) (e : ∀ j, j < t → cd' j = cd j) : RlR G n kd I R r nm fo t cd' := ⟨h.1, h.2.1, h.2.2.1, h.2.2.2.1, fun j hj => by rw [e j hj]; exact h.2.2.2.2.1 j hj, h.2.2.2.2.2⟩
/-- a RULE more -/
theorem UR.new (h : UR G n kd R u K hm) (F : FrR n kd I R n' kd' I' R') {q : Nat} (hq : n ≤ q) (hnew : RuO G n' kd' R' q) (hno : ∀ r, n ≤ r → r < n' → r ≠ q → kd' r ≠ .inl 7) {x : Int32} {K' hm' : Nat} (hK : K ≤ K') (hh : hm ≤ hm') (hx : (∃ j, j < K' ∧ x = nI (100 + j)) ∨ ∃ s, s < hm' ∧ x = nI (10000 + s)) (hne : ∀ r, iO n kd r 7 → u r ≠ x) : UR G n' kd' R' (va_up u q x) K' hm' := by
  have old : ∀ r, iO n' kd' r 7 → r ≠ q → iO n kd r 7 := fun r hr hrq => by
    have hlt : r < n := Nat.lt_of_not_le (fun z => hno r z hr.2 hrq hr.1)
    exact ⟨by rw [← F.2.1 r hlt]; exact hr.1, hlt⟩
  refine ⟨fun r hr => ?_, fun r r' hr hr' e => ?_⟩
  · by_cases hrq : r = q
    · subst hrq
      rw [vz_up_same]
      exact ⟨hnew, hx⟩
    · have o := h.1 r (old r hr hrq)
      rw [vz_up_ne _ _ hrq]
      refine ⟨(o.1.fr F).1, ?_⟩
      rcases o.2 with ⟨j, j1, j2⟩ | ⟨s, s1, s2⟩
      · exact Or.inl ⟨j, by omega, j2⟩
      · exact Or.inr ⟨s, by omega, s2⟩
  · by_cases hrq : r = q
    · by_cases hrq' : r' = q
      · omega
      · rw [hrq, vz_up_same, vz_up_ne _ _ hrq'] at e
        exact absurd e.symm (hne r' (old r' hr' hrq'))
    · by_cases hrq' : r' = q
      · rw [hrq', vz_up_same, vz_up_ne _ _ hrq] at e
        exact absurd e (hne r (old r hr hrq))
      · rw [vz_up_ne _ _ hrq, vz_up_ne _ _ hrq'] at e
        exact h.2 r r' (old r hr hrq) (old r' hr' hrq') e
theorem core_hand (h : Core G em n kd I R J Z u K cap hm kn key) (hb : K ≤ 4000 ∧ hm ≤ 4000) {k : Nat} (hk : k < 10) {cs : List Nat} {v : Nat} (hcs : cs.length ≤ 4) (hco : ∀ c ∈ cs, okCd c) (hv : v ≤ 7) {p : RSt}
    (hold : ∀ a, a < n → kd' a = kd a ∧ I' a = rS (u2 I 1 1 (nI 0)) p a ∧ R' a = R a ∧ J' a = J a) (k0 : kd' n = .inr (0, cs.length)) (k1 : kd' (n + 1) = .inl 7) (r1 : R' (n + 1) 1 = some (gz G + n)) (i0 : I' (n + 1) 0 = nI k) (i2 : I' (n + 1) 2 = nI v) (ic : ∀ j, j < cs.length → I' n j = nI (cs.getD j 0)) :
    Core G em (n + 2) kd' I' (u2 R' 6 k (some (gz G + (n + 1)))) J' (mHand Z k cs v) (va_up u (n + 1) (nI (10000 + hm))) K cap (hm + 1) kn key := by
  have hn := h.shC.1
  have rI : ∀ a, a < n → a ≠ 1 → a ≠ 3 → a ≠ 4 → I' a = I a := fun a h1 h2 h3 h4 => by rw [(hold a h1).2.1, rS_row h3 h4, u2_row _ _ _ h2]
  have rR : ∀ a, a < n → a ≠ 6 → u2 R' 6 k (some (gz G + (n + 1))) a = R a := fun a h1 h2 => by rw [u2_row _ _ _ h2, (hold a h1).2.2.1]
  have rK : ∀ a, a < n → kd' a = kd a := fun a h1 => (hold a h1).1
  have F : Fr n kd I R J (n + 2) kd' I' (u2 R' 6 k (some (gz G + (n + 1)))) J' := ⟨by omega, rK, fun a h1 h2 _ => ⟨rI a h2 (by omega) (by omega) (by omega), rR a h2 (by omega), (hold a h2).2.2.2⟩⟩
  have e15 : mHand Z k cs v 22 15 = nI (hm + 1) := by
    have e : mHand Z k cs v 22 15 = Z 22 15 + nI 1 := rfl
    rw [e, h.hm', nI_add]
  have e32 : ∀ q, mHand Z k cs v 32 q = if q = k then bi true else Z 32 q := fun q => rfl
  have e33 : ∀ q, mHand Z k cs v 33 q = if q = k then nI 10000 + Z 22 15 else Z 33 q := fun q => rfl
  have e34 : ∀ q, mHand Z k cs v 34 q = if q = k then nI cs.length else Z 34 q := fun q => rfl
  have e35 : ∀ c, mHand Z k cs v 35 c = if 4 * k ≤ c ∧ c < 4 * k + cs.length then nI (cs.getD (c - 4 * k) 0) else Z 35 c := fun q => rfl
  have e36 : ∀ q, mHand Z k cs v 36 q = if q = k then nI v else Z 36 q := fun q => rfl
  have ern : rc G (u2 R' 6 k (some (gz G + (n + 1)))) (n + 1) 1 = n := rc_some (by rw [u2_row _ _ _ (by omega)]; exact r1)
  have ecm : cM G kd' (u2 R' 6 k (some (gz G + (n + 1)))) (n + 1) = cs.length := by unfold cM; rw [ern, k0]; rfl
  have hRuO : RuO G (n + 2) kd' (u2 R' 6 k (some (gz G + (n + 1)))) (n + 1) := ⟨⟨k1, by omega⟩, by omega, ⟨by rw [ern, u2_row _ _ _ (by omega)]; exact r1, by rw [ern]; omega, by rw [ern, ecm]; exact k0, by rw [ecm]; exact hcs⟩, by rw [ern]; exact hn⟩
  have hu : ∀ r, r < n → va_up u (n + 1) (nI (10000 + hm)) r = u r := fun r hr => vz_up_ne _ _ (by omega)
  refine ⟨(h.shC.grow (n' := n + 2) (kd' := kd') (R' := R') (by omega) (fun i hi => rK i (by omega)) (fun i hi => (hold i (by omega)).2.2.1)).put k _ (by decide), h.shM.grow (by omega) (fun i hi => rK i (by omega)) (rR 22 (by omega) (by decide)), ⟨h.mb.1, h.mb.2.1, fun q hq => ?_, h.mb.2.2.2.1, bN_nI (Nat.zero_le 100), h.mb.2.2.2.2.2⟩, h.kn', h.ur.new F.rul (by omega) hRuO (fun r h1 h2 h3 z => ?_) (Nat.le_refl K) (Nat.le_succ hm) (Or.inr ⟨hm, Nat.lt_succ_self hm, rfl⟩) (fun r hr z => ?_), ⟨?_, ?_⟩, ?_, ⟨?_, fun i hi => ?_⟩, h.le.fr h.ur F (by rw [rI 8 (by omega) (by decide) (by decide) (by decide)]) (rR 9 (by omega) (by decide)) rfl rfl rfl rfl rfl rfl rfl rfl rfl rfl hu, fun q hq => ?_, h.ln.fr F.rul (by rw [rI 5 (by omega) (by decide) (by decide) (by decide)]) (rR 7 (by omega) (by decide)) rfl rfl rfl rfl rfl hu, h.kw.fr F.rul (h.kw.1.grow2 (by omega) rK (rI 17 (by omega) (by decide) (by decide) (by decide)) (rR 17 (by omega) (by decide)) (fun a h1 h2 => rR a h2 (by omega))) rfl rfl hu, e15⟩
  · rw [e34]
    split
    · exact bN_nI hcs
    · exact h.mb.2.2.1 q hq
  · rw [show r = n by omega, k0] at z
    cases z
  · rcases (h.ur.1 r hr).2 with ⟨j, j1, j2⟩ | ⟨s, s1, s2⟩
    · rw [j2] at z; have := (nI_eq (by omega) (by omega)).mp z; omega
    · rw [s2] at z; have := (nI_eq (by omega) (by omega)).mp z; omega
  · rw [(hold 1 (by omega)).2.1]
    rfl
  · obtain ⟨b, b1, b2⟩ := h.tp.2
    exact ⟨b, b1, fun i hi => by rw [rI 2 (by omega) (by decide) (by decide) (by decide)]; exact b2 i hi⟩
  · unfold CoR
    rw [rI 14 (by omega) (by decide) (by decide) (by decide), rI 15 (by omega) (by decide) (by decide) (by decide)]
    exact h.co
  · rw [rI 10 (by omega) (by decide) (by decide) (by decide)]; exact h.mv.1
  · rw [rI 11 (by omega) (by decide) (by decide) (by decide), rI 12 (by omega) (by decide) (by decide) (by decide), rI 13 (by omega) (by decide) (by decide) (by decide)]
    exact h.mv.2 i hi
  · by_cases hqk : q = k
    · subst hqk
      have e6 : u2 R' 6 q (some (gz G + (n + 1))) 6 q = some (gz G + (n + 1)) := u2_same _ _ _ _
      have er : rc G (u2 R' 6 q (some (gz G + (n + 1)))) 6 q = n + 1 := rc_some e6
      rw [thC_s e6]
      refine ⟨?_, fun _ => ⟨isC_of e6 (by omega) k1, ?_⟩⟩
      · unfold mth
        rw [e32, if_pos rfl]
        exact decide_eq_true (by decide)
      · rw [er, e33, e34, e36, if_pos rfl, if_pos rfl, if_pos rfl, h.hm', nI_add, tn_nI (by omega), vz_up_same]
        refine ⟨⟨hRuO, i0, i2, ecm, fun j hj => ?_, bN_nI hv⟩, rfl⟩
        dsimp only
        rw [ern, e35, if_pos (by omega), show 4 * q + j - 4 * q = j by omega]
        refine ⟨ic j hj, _, rfl, hco _ ?_⟩
        rw [List.getD_eq_getElem?_getD, List.getElem?_eq_getElem hj]
        exact List.getElem_mem hj
    · obtain ⟨a1, a2⟩ := h.ha q hq
      have e1 : u2 R' 6 k (some (gz G + (n + 1))) 6 q = R 6 q := by rw [u2_col _ _ _ hqk, (hold 6 (by omega)).2.2.1]
      have e2 : thC (u2 R' 6 k (some (gz G + (n + 1)))) q = thC R q := by unfold thC; rw [e1]
      have e3 : mth (mHand Z k cs v) q = mth Z q := by unfold mth; rw [e32, if_neg hqk]
      refine ⟨by rw [e2, e3]; exact a1, fun ht => ?_⟩
      rw [e2] at ht
      obtain ⟨b1, b2, b3⟩ := a2 ht
      obtain ⟨c1, c2⟩ := b1.fr (n' := n + 2) (kd' := kd') (by omega) rK e1
      have ht4 : tn (Z 34 q) ≤ 4 := (h.mb.2.2.1 q hq).le
      rw [c2, e33, e34, e36, if_neg hqk, if_neg hqk, if_neg hqk, hu _ b1.2.1]
      refine ⟨c1, (b2.fr F.rul).cd (fun j hj => ?_), b3⟩
      rw [e35, if_neg (by omega)]
end MUT4
