section LAW2
variable {G : GG} {n n' sz : Nat} {kd kd' : KD} {I I' Z Z' : II} {R R' : RR} {J J' : JJ} {em mi K cap hm : Nat} {u : Nat → Int32} {kn : Nat → Nat} {key : Nat → Key} {b L k : Nat} {xs : Nat → Int32} {Q : Option Value → Mem → Prop} {ad av : Nat → Nat} {fx : Option Nat}
theorem RsR.tr (h : RsR I Z) (h1 : I' 16 = I 16) (h2 : ∀ c, 40 ≤ c → c ≤ 45 → Z' 22 c = Z 22 c) : RsR I' Z' := by
  obtain ⟨a1, a2, a3, a4, a5, a6⟩ := h
  unfold RsR
  rw [h1, h2 _ (by decide) (by decide), h2 _ (by decide) (by decide), h2 _ (by decide) (by decide), h2 _ (by decide) (by decide), h2 _ (by decide) (by decide), h2 _ (by decide) (by decide)]
  exact ⟨a1, a2, a3, a4, a5, a6⟩
theorem RC.fin (h : Core G em n kd I R J Z u K cap hm kn key) (hr : RsR I Z) (hcl : ∀ q, q < 22 ∨ 52 ≤ q → Z q = I q) (h1 : K ≤ 6 * k) (h2 : hm ≤ k) (h3 : n ≤ 60 + 20 * k) (h4 : sz ≤ 12000 + 60 * k + 4 * cap) : RC G em k n sz kd Z R J Z := ⟨u, K, cap, hm, kn, key, h.cls hcl, hr.tr (hcl 16 (Or.inl (by decide))) (fun _ _ _ => rfl), h1, h2, h3, h4⟩
theorem lc_feed (hL : L ≤ 3072) (hX : XS G b L xs) (hkL : 6 * k + 6 ≤ L) (T : TL G em b k Q) (h : RC G em k n sz kd I R J I) : AW G mL_law 128 [(0, .ref b), (1, .ref (gz G + 0)), (2, .ref (gz G + 22)), (3, .int (nI (6 * k)))] [] (n, sz, kd, I, R, J) Q := by
  obtain ⟨u, K, cap, hm, kn, key, h0, hrs, r1, r2, r3, r4⟩ := id h
  have hC := h0.shC
  have hM := h0.shM
  have hB := h0.mb
  have hV := h0.hv
  have hLn := h0.ln.1
  have hK := h0.kv
  have hN := h0.le.1
  have hW := h0.lv
  have hb : K ≤ 4000 ∧ hm ≤ 4000 := by omega
  have hcap : cap ≤ 10 + 2 * K := h0.kw.1.2.2.1
  have hn52 := hC.1
  have hT : I 1 1 = nI (tn (I 22 31)) := h0.tp.1.trans hB.2.2.2.2.1.eq
  have hT1 : tn (I 22 31) ≤ 100 := hB.2.2.2.2.1.le
  refine aw_aload_n dL_law_128 rfl rfl (by first | exact isR_ref _ | exact isR_rf _ | exact isR_null) ?_
  refine aw_aload_n dL_law_129 rfl rfl (by first | exact isR_ref _ | exact isR_rf _ | exact isR_null) ?_
  refine aw_iload_n dL_law_130 rfl rfl ?_
  refine aw_iconst (v := nI 1) dL_law_131 (by decide) ?_
  first | refine aw_iaddN dL_law_132 ?_ | refine aw_iadd dL_law_132 ?_
  refine aw_ialdX dL_law_133 hX (ixm (by omega) (by omega)) ?_
  refine aw_aload_n dL_law_134 rfl rfl (by first | exact isR_ref _ | exact isR_rf _ | exact isR_null) ?_
  refine aw_iload_n dL_law_135 rfl rfl ?_
  refine aw_iconst (v := nI 2) dL_law_136 (by decide) ?_
  first | refine aw_iaddN dL_law_137 ?_ | refine aw_iadd dL_law_137 ?_
  refine aw_ialdX dL_law_138 hX (ixm (by omega) (by omega)) ?_
  refine aw_aload_n dL_law_139 rfl rfl (by first | exact isR_ref _ | exact isR_rf _ | exact isR_null) ?_
  refine aw_iload_n dL_law_140 rfl rfl ?_
  refine aw_iconst (v := nI 3) dL_law_141 (by decide) ?_
  first | refine aw_iaddN dL_law_142 ?_ | refine aw_iadd dL_law_142 ?_
  refine aw_ialdX dL_law_143 hX (ixm (by omega) (by omega)) ?_
  refine aw_aload_n dL_law_144 rfl rfl (by first | exact isR_ref _ | exact isR_rf _ | exact isR_null) ?_
  refine aw_iload_n dL_law_145 rfl rfl ?_
  refine aw_iconst (v := nI 4) dL_law_146 (by decide) ?_
  first | refine aw_iaddN dL_law_147 ?_ | refine aw_iadd dL_law_147 ?_
  refine aw_ialdX dL_law_148 hX (ixm (by omega) (by omega)) ?_
  refine aw_aload_n dL_law_149 rfl rfl (by first | exact isR_ref _ | exact isR_rf _ | exact isR_null) ?_
  refine aw_iload_n dL_law_150 rfl rfl ?_
  refine aw_iconst (v := nI 5) dL_law_151 (by decide) ?_
  first | refine aw_iaddN dL_law_152 ?_ | refine aw_iadd dL_law_152 ?_
  refine aw_ialdX dL_law_153 hX (ixm (by omega) (by omega)) ?_
  refine aw_cVx (as := [_, _, _, _, _]) dL_law_154 lk_L_13 cm_X9_feed vi_X9_feed (by unfold RO; decide) rfl (sC_k0 hC) (sC_n0 hC) rfl rfl rfl (Nat.le_of_ble_eq_true rfl) (c_feed hC hT hT1 _ _ _ _ _) ?_
  by_cases hP : tn (I 22 31) ≤ 80
  · rw [if_pos hP, if_pos hP]
    have hr : ∀ q, q ≠ 1 → q ≠ 2 → cFeed I (tn (I 22 31)) (xs (6 * k + 1)) (xs (6 * k + 2)) (xs (6 * k + 3)) (xs (6 * k + 4)) (xs (6 * k + 5)) q = I q := fun q h1 h2 => cFeed_row h1 h2
    have hz := h0.zc (Z' := cFeed I (tn (I 22 31)) (xs (6 * k + 1)) (xs (6 * k + 2)) (xs (6 * k + 3)) (xs (6 * k + 4)) (xs (6 * k + 5))) (fun q h1 h2 => hr q (by omega) (by omega))
    have e31 : tn (cFeed I (tn (I 22 31)) (xs (6 * k + 1)) (xs (6 * k + 2)) (xs (6 * k + 3)) (xs (6 * k + 4)) (xs (6 * k + 5)) 22 31) = tn (I 22 31) := by rw [hr 22 (by decide) (by decide)]
    have c1 := core_feed hz (by rw [e31]; exact hP) (xs (6 * k + 1)) (xs (6 * k + 2)) (xs (6 * k + 3)) (xs (6 * k + 4)) (xs (6 * k + 5))
    rw [e31] at c1
    have hB := hz.mb
    refine aw_aload_n dL_law_157 rfl rfl (by first | exact isR_ref _ | exact isR_rf _ | exact isR_null) ?_
    refine aw_aload_n dL_law_158 rfl rfl (by first | exact isR_ref _ | exact isR_rf _ | exact isR_null) ?_
    refine aw_iload_n dL_law_159 rfl rfl ?_
    refine aw_iconst (v := nI 1) dL_law_160 (by decide) ?_
    first | refine aw_iaddN dL_law_161 ?_ | refine aw_iadd dL_law_161 ?_
    refine aw_ialdX dL_law_162 hX (ixm (by omega) (by omega)) ?_
    refine aw_aload_n dL_law_163 rfl rfl (by first | exact isR_ref _ | exact isR_rf _ | exact isR_null) ?_
    refine aw_iload_n dL_law_164 rfl rfl ?_
    refine aw_iconst (v := nI 2) dL_law_165 (by decide) ?_
    first | refine aw_iaddN dL_law_166 ?_ | refine aw_iadd dL_law_166 ?_
    refine aw_ialdX dL_law_167 hX (ixm (by omega) (by omega)) ?_
    refine aw_aload_n dL_law_168 rfl rfl (by first | exact isR_ref _ | exact isR_rf _ | exact isR_null) ?_
    refine aw_iload_n dL_law_169 rfl rfl ?_
    refine aw_iconst (v := nI 3) dL_law_170 (by decide) ?_
    first | refine aw_iaddN dL_law_171 ?_ | refine aw_iadd dL_law_171 ?_
    refine aw_ialdX dL_law_172 hX (ixm (by omega) (by omega)) ?_
    refine aw_aload_n dL_law_173 rfl rfl (by first | exact isR_ref _ | exact isR_rf _ | exact isR_null) ?_
    refine aw_iload_n dL_law_174 rfl rfl ?_
    refine aw_iconst (v := nI 4) dL_law_175 (by decide) ?_
    first | refine aw_iaddN dL_law_176 ?_ | refine aw_iadd dL_law_176 ?_
    refine aw_ialdX dL_law_177 hX (ixm (by omega) (by omega)) ?_
    refine aw_aload_n dL_law_178 rfl rfl (by first | exact isR_ref _ | exact isR_rf _ | exact isR_null) ?_
    refine aw_iload_n dL_law_179 rfl rfl ?_
    refine aw_iconst (v := nI 5) dL_law_180 (by decide) ?_
    first | refine aw_iaddN dL_law_181 ?_ | refine aw_iadd dL_law_181 ?_
    refine aw_ialdX dL_law_182 hX (ixm (by omega) (by omega)) ?_
    refine aw_cVx (as := [_, _, _, _, _]) dL_law_183 lk_L_17 cm_X10_feed vi_X10_feed (by unfold RO; decide) rfl (sM_kd hM) (sM_n hM) rfl rfl rfl (Nat.le_of_ble_eq_true rfl) (m_feed hM hB _ _ _ _ _) ?_
    rw [if_pos (by rw [e31]; exact hP), if_pos (by rw [e31]; exact hP), e31]
    refine aw_icmp_eq (tgt := 678) dL_law_186 (by decide) (fun hne => ?_) (fun hne => ?_)
    · exact T _ _ _ _ _ _ (RC.fin c1 (hrs.tr (hr 16 (by decide) (by decide)) (fun c h1 h2 => by rw [mFeed_col (by omega), hr 22 (by decide) (by decide)])) (fun q hq => mFeed_row (by omega) (by omega)) (by omega) (by omega) (by omega) (by omega))
    · exact absurd rfl hne
  · rw [if_neg hP, if_neg hP]
    refine aw_aload_n dL_law_157 rfl rfl (by first | exact isR_ref _ | exact isR_rf _ | exact isR_null) ?_
    refine aw_aload_n dL_law_158 rfl rfl (by first | exact isR_ref _ | exact isR_rf _ | exact isR_null) ?_
    refine aw_iload_n dL_law_159 rfl rfl ?_
    refine aw_iconst (v := nI 1) dL_law_160 (by decide) ?_
    first | refine aw_iaddN dL_law_161 ?_ | refine aw_iadd dL_law_161 ?_
    refine aw_ialdX dL_law_162 hX (ixm (by omega) (by omega)) ?_
    refine aw_aload_n dL_law_163 rfl rfl (by first | exact isR_ref _ | exact isR_rf _ | exact isR_null) ?_
    refine aw_iload_n dL_law_164 rfl rfl ?_
    refine aw_iconst (v := nI 2) dL_law_165 (by decide) ?_
    first | refine aw_iaddN dL_law_166 ?_ | refine aw_iadd dL_law_166 ?_
    refine aw_ialdX dL_law_167 hX (ixm (by omega) (by omega)) ?_
    refine aw_aload_n dL_law_168 rfl rfl (by first | exact isR_ref _ | exact isR_rf _ | exact isR_null) ?_
    refine aw_iload_n dL_law_169 rfl rfl ?_
    refine aw_iconst (v := nI 3) dL_law_170 (by decide) ?_
    first | refine aw_iaddN dL_law_171 ?_ | refine aw_iadd dL_law_171 ?_
    refine aw_ialdX dL_law_172 hX (ixm (by omega) (by omega)) ?_
    refine aw_aload_n dL_law_173 rfl rfl (by first | exact isR_ref _ | exact isR_rf _ | exact isR_null) ?_
    refine aw_iload_n dL_law_174 rfl rfl ?_
    refine aw_iconst (v := nI 4) dL_law_175 (by decide) ?_
    first | refine aw_iaddN dL_law_176 ?_ | refine aw_iadd dL_law_176 ?_
    refine aw_ialdX dL_law_177 hX (ixm (by omega) (by omega)) ?_
    refine aw_aload_n dL_law_178 rfl rfl (by first | exact isR_ref _ | exact isR_rf _ | exact isR_null) ?_
    refine aw_iload_n dL_law_179 rfl rfl ?_
    refine aw_iconst (v := nI 5) dL_law_180 (by decide) ?_
    first | refine aw_iaddN dL_law_181 ?_ | refine aw_iadd dL_law_181 ?_
    refine aw_ialdX dL_law_182 hX (ixm (by omega) (by omega)) ?_
    refine aw_cVx (as := [_, _, _, _, _]) dL_law_183 lk_L_17 cm_X10_feed vi_X10_feed (by unfold RO; decide) rfl (sM_kd hM) (sM_n hM) rfl rfl rfl (Nat.le_of_ble_eq_true rfl) (m_feed hM hB _ _ _ _ _) ?_
    rw [if_neg hP, if_neg hP]
    refine aw_icmp_eq (tgt := 678) dL_law_186 (by decide) (fun hne => ?_) (fun hne => ?_)
    · exact T n sz kd I R J h.next
    · exact absurd rfl hne
theorem lc_end (hL : L ≤ 3072) (hX : XS G b L xs) (hkL : 6 * k + 6 ≤ L) (T : TL G em b k Q) (h : RC G em k n sz kd I R J I) : AW G mL_law 191 [(0, .ref b), (1, .ref (gz G + 0)), (2, .ref (gz G + 22)), (3, .int (nI (6 * k)))] [] (n, sz, kd, I, R, J) Q := by
  obtain ⟨u, K, cap, hm, kn, key, h0, hrs, r1, r2, r3, r4⟩ := id h
  have hC := h0.shC
  have hM := h0.shM
  have hB := h0.mb
  have hV := h0.hv
  have hLn := h0.ln.1
  have hK := h0.kv
  have hN := h0.le.1
  have hW := h0.lv
  have hb : K ≤ 4000 ∧ hm ≤ 4000 := by omega
  have hcap : cap ≤ 10 + 2 * K := h0.kw.1.2.2.1
  have hn52 := hC.1
  have hT : I 1 1 = nI (tn (I 22 31)) := h0.tp.1.trans hB.2.2.2.2.1.eq
  have hT1 : tn (I 22 31) ≤ 100 := hB.2.2.2.2.1.le
  refine aw_aload_n dL_law_191 rfl rfl (by first | exact isR_ref _ | exact isR_rf _ | exact isR_null) ?_
  refine aw_aload_n dL_law_192 rfl rfl (by first | exact isR_ref _ | exact isR_rf _ | exact isR_null) ?_
  refine aw_iload_n dL_law_193 rfl rfl ?_
  refine aw_iconst (v := nI 1) dL_law_194 (by decide) ?_
  first | refine aw_iaddN dL_law_195 ?_ | refine aw_iadd dL_law_195 ?_
  refine aw_ialdX dL_law_196 hX (ixm (by omega) (by omega)) ?_
  cases hx : rgl (xs (6 * k + 1)) 0 (tn (I 22 31) + 1) with
  | none =>
    refine aw_cVx (as := [_]) dL_law_197 lk_L_18 cm_X9_end vi_X9_end (by unfold RO; decide) rfl (sC_k0 hC) (sC_n0 hC) rfl rfl rfl (Nat.le_of_ble_eq_true rfl) (c_end hC hT hT1 _) ?_
    rw [hx]
    refine aw_aload_n dL_law_200 rfl rfl (by first | exact isR_ref _ | exact isR_rf _ | exact isR_null) ?_
    refine aw_aload_n dL_law_201 rfl rfl (by first | exact isR_ref _ | exact isR_rf _ | exact isR_null) ?_
    refine aw_iload_n dL_law_202 rfl rfl ?_
    refine aw_iconst (v := nI 1) dL_law_203 (by decide) ?_
    first | refine aw_iaddN dL_law_204 ?_ | refine aw_iadd dL_law_204 ?_
    refine aw_ialdX dL_law_205 hX (ixm (by omega) (by omega)) ?_
    refine aw_cVx (as := [_]) dL_law_206 lk_L_22 cm_X10_end vi_X10_end (by unfold RO; decide) rfl (sM_kd hM) (sM_n hM) rfl rfl rfl (Nat.le_of_ble_eq_true rfl) (m_end hM hB _) ?_
    rw [hx]
    refine aw_icmp_eq (tgt := 678) dL_law_209 (by decide) (fun hne => ?_) (fun hne => ?_)
    · exact T n sz kd I R J h.next
    · exact absurd rfl hne
  | some j =>
    obtain ⟨ex, -, hj⟩ := rgl_some hx
    refine aw_cVx (as := [_]) dL_law_197 lk_L_18 cm_X9_end vi_X9_end (by unfold RO; decide) rfl (sC_k0 hC) (sC_n0 hC) rfl rfl rfl (Nat.le_of_ble_eq_true rfl) (c_end hC hT hT1 _) ?_
    rw [hx]
    have hz : Core G em n kd I R J (u2 I 1 1 (xs (6 * k + 1))) u K cap hm kn key := h0.zc (fun q h1 h2 => u2_row _ _ _ (by omega))
    have hB := hz.mb
    refine aw_aload_n dL_law_200 rfl rfl (by first | exact isR_ref _ | exact isR_rf _ | exact isR_null) ?_
    refine aw_aload_n dL_law_201 rfl rfl (by first | exact isR_ref _ | exact isR_rf _ | exact isR_null) ?_
    refine aw_iload_n dL_law_202 rfl rfl ?_
    refine aw_iconst (v := nI 1) dL_law_203 (by decide) ?_
    first | refine aw_iaddN dL_law_204 ?_ | refine aw_iadd dL_law_204 ?_
    refine aw_ialdX dL_law_205 hX (ixm (by omega) (by omega)) ?_
    refine aw_cVx (as := [_]) dL_law_206 lk_L_22 cm_X10_end vi_X10_end (by unfold RO; decide) rfl (sM_kd hM) (sM_n hM) rfl rfl rfl (Nat.le_of_ble_eq_true rfl) (m_end hM hB _) ?_
    rw [show rgl (xs (6 * k + 1)) 0 (tn (u2 I 1 1 (xs (6 * k + 1)) 22 31) + 1) = some j from hx]
    dsimp only
    refine aw_icmp_eq (tgt := 678) dL_law_209 (by decide) (fun hne => ?_) (fun hne => ?_)
    · exact T _ _ _ _ _ _ (RC.fin (core_end hz ⟨j, by omega, ex⟩) (hrs.tr (u2_row _ _ _ (by decide)) (fun c h1 h2 => by rw [u2_col _ _ _ (by omega), u2_row _ _ _ (by decide)])) (fun q hq => u2_row _ _ _ (by omega)) (by omega) (by omega) (by omega) (by omega))
    · exact absurd rfl hne
theorem lc_drop (hL : L ≤ 3072) (hX : XS G b L xs) (hkL : 6 * k + 6 ≤ L) (T : TL G em b k Q) (h : RC G em k n sz kd I R J I) : AW G mL_law 227 [(0, .ref b), (1, .ref (gz G + 0)), (2, .ref (gz G + 22)), (3, .int (nI (6 * k)))] [] (n, sz, kd, I, R, J) Q := by
  obtain ⟨u, K, cap, hm, kn, key, h0, hrs, r1, r2, r3, r4⟩ := id h
  have hC := h0.shC
  have hM := h0.shM
  have hB := h0.mb
  have hV := h0.hv
  have hLn := h0.ln.1
  have hK := h0.kv
  have hN := h0.le.1
  have hW := h0.lv
  have hb : K ≤ 4000 ∧ hm ≤ 4000 := by omega
  have hcap : cap ≤ 10 + 2 * K := h0.kw.1.2.2.1
  have hn52 := hC.1
  refine aw_aload_n dL_law_227 rfl rfl (by first | exact isR_ref _ | exact isR_rf _ | exact isR_null) ?_
  refine aw_aload_n dL_law_228 rfl rfl (by first | exact isR_ref _ | exact isR_rf _ | exact isR_null) ?_
  refine aw_iload_n dL_law_229 rfl rfl ?_
  refine aw_iconst (v := nI 1) dL_law_230 (by decide) ?_
  first | refine aw_iaddN dL_law_231 ?_ | refine aw_iadd dL_law_231 ?_
  refine aw_ialdX dL_law_232 hX (ixm (by omega) (by omega)) ?_
  cases hx : rgl (xs (6 * k + 1)) 0 10 with
  | none =>
    refine aw_cVx (as := [_]) dL_law_233 lk_L_28 cm_X9_drop vi_X9_drop (by unfold RO; decide) rfl (sC_k0 hC) (sC_n0 hC) rfl rfl rfl (Nat.le_of_ble_eq_true rfl) (c_drop hC _) ?_
    rw [hx]
    refine aw_aload_n dL_law_236 rfl rfl (by first | exact isR_ref _ | exact isR_rf _ | exact isR_null) ?_
    refine aw_aload_n dL_law_237 rfl rfl (by first | exact isR_ref _ | exact isR_rf _ | exact isR_null) ?_
    refine aw_iload_n dL_law_238 rfl rfl ?_
    refine aw_iconst (v := nI 1) dL_law_239 (by decide) ?_
    first | refine aw_iaddN dL_law_240 ?_ | refine aw_iadd dL_law_240 ?_
    refine aw_ialdX dL_law_241 hX (ixm (by omega) (by omega)) ?_
    refine aw_cVx (as := [_]) dL_law_242 lk_L_32 cm_X10_drop vi_X10_drop (by unfold RO; decide) rfl (sM_kd hM) (sM_n hM) rfl rfl rfl (Nat.le_of_ble_eq_true rfl) (m_drop hM _) ?_
    have ho : okDrop I (xs (6 * k + 1)) = false := by unfold okDrop; rw [hx]
    rw [ho]
    refine aw_icmp_eq (tgt := 678) dL_law_245 (by decide) (fun hne => ?_) (fun hne => ?_)
    · exact T n sz kd I R J h.next
    · exact absurd rfl hne
  | some j =>
    obtain ⟨ex, -, hj⟩ := rgl_some hx
    refine aw_cVx (as := [_]) dL_law_233 lk_L_28 cm_X9_drop vi_X9_drop (by unfold RO; decide) rfl (sC_k0 hC) (sC_n0 hC) rfl rfl rfl (Nat.le_of_ble_eq_true rfl) (c_drop hC _) ?_
    rw [hx]
    dsimp only
    have ho : okDrop I (xs (6 * k + 1)) = thC R j := by unfold okDrop; rw [hx]; exact (th_eq h0.row hj).symm
    cases ht : thC R j with
    | false =>
      rw [ht] at ho
      rw [if_neg (by decide)]
      refine aw_aload_n dL_law_236 rfl rfl (by first | exact isR_ref _ | exact isR_rf _ | exact isR_null) ?_
      refine aw_aload_n dL_law_237 rfl rfl (by first | exact isR_ref _ | exact isR_rf _ | exact isR_null) ?_
      refine aw_iload_n dL_law_238 rfl rfl ?_
      refine aw_iconst (v := nI 1) dL_law_239 (by decide) ?_
      first | refine aw_iaddN dL_law_240 ?_ | refine aw_iadd dL_law_240 ?_
      refine aw_ialdX dL_law_241 hX (ixm (by omega) (by omega)) ?_
      refine aw_cVx (as := [_]) dL_law_242 lk_L_32 cm_X10_drop vi_X10_drop (by unfold RO; decide) rfl (sM_kd hM) (sM_n hM) rfl rfl rfl (Nat.le_of_ble_eq_true rfl) (m_drop hM _) ?_
      rw [ho]
      refine aw_icmp_eq (tgt := 678) dL_law_245 (by decide) (fun hne => ?_) (fun hne => ?_)
      · exact T n sz kd I R J h.next
      · exact absurd rfl hne
    | true =>
      rw [ht] at ho
      rw [if_pos rfl]
      have c1 := core_drop h0 hj
      have hM := c1.shM
      refine aw_aload_n dL_law_236 rfl rfl (by first | exact isR_ref _ | exact isR_rf _ | exact isR_null) ?_
      refine aw_aload_n dL_law_237 rfl rfl (by first | exact isR_ref _ | exact isR_rf _ | exact isR_null) ?_
      refine aw_iload_n dL_law_238 rfl rfl ?_
      refine aw_iconst (v := nI 1) dL_law_239 (by decide) ?_
      first | refine aw_iaddN dL_law_240 ?_ | refine aw_iadd dL_law_240 ?_
      refine aw_ialdX dL_law_241 hX (ixm (by omega) (by omega)) ?_
      refine aw_cVx (as := [_]) dL_law_242 lk_L_32 cm_X10_drop vi_X10_drop (by unfold RO; decide) rfl (sM_kd hM) (sM_n hM) rfl rfl rfl (Nat.le_of_ble_eq_true rfl) (m_drop hM _) ?_
      rw [ho, if_pos rfl, ex, tn_nI (by omega)]
      refine aw_icmp_eq (tgt := 678) dL_law_245 (by decide) (fun hne => ?_) (fun hne => ?_)
      · exact T _ _ _ _ _ _ (RC.fin c1 (hrs.tr rfl (fun c h1 h2 => rfl)) (fun q hq => u2_row _ _ _ (by omega)) (by omega) (by omega) (by omega) (by omega))
      · exact absurd rfl hne
theorem lc_cost (hL : L ≤ 3072) (hX : XS G b L xs) (hkL : 6 * k + 6 ≤ L) (T : TL G em b k Q) (h : RC G em k n sz kd I R J I) : AW G mL_law 349 [(0, .ref b), (1, .ref (gz G + 0)), (2, .ref (gz G + 22)), (3, .int (nI (6 * k)))] [] (n, sz, kd, I, R, J) Q := by
  obtain ⟨u, K, cap, hm, kn, key, h0, hrs, r1, r2, r3, r4⟩ := id h
  have hC := h0.shC
  have hM := h0.shM
  have hB := h0.mb
  have hV := h0.hv
  have hLn := h0.ln.1
  have hK := h0.kv
  have hN := h0.le.1
  have hW := h0.lv
  have hb : K ≤ 4000 ∧ hm ≤ 4000 := by omega
  have hcap : cap ≤ 10 + 2 * K := h0.kw.1.2.2.1
  have hn52 := hC.1
  refine aw_aload_n dL_law_349 rfl rfl (by first | exact isR_ref _ | exact isR_rf _ | exact isR_null) ?_
  refine aw_aload_n dL_law_350 rfl rfl (by first | exact isR_ref _ | exact isR_rf _ | exact isR_null) ?_
  refine aw_iload_n dL_law_351 rfl rfl ?_
  refine aw_iconst (v := nI 1) dL_law_352 (by decide) ?_
  first | refine aw_iaddN dL_law_353 ?_ | refine aw_iadd dL_law_353 ?_
  refine aw_ialdX dL_law_354 hX (ixm (by omega) (by omega)) ?_
  refine aw_aload_n dL_law_355 rfl rfl (by first | exact isR_ref _ | exact isR_rf _ | exact isR_null) ?_
  refine aw_iload_n dL_law_356 rfl rfl ?_
  refine aw_iconst (v := nI 2) dL_law_357 (by decide) ?_
  first | refine aw_iaddN dL_law_358 ?_ | refine aw_iadd dL_law_358 ?_
  refine aw_ialdX dL_law_359 hX (ixm (by omega) (by omega)) ?_
  refine aw_cVx (as := [_, _]) dL_law_360 lk_L_47 cm_X9_cost vi_X9_cost (by unfold RO; decide) rfl (sC_k0 hC) (sC_n0 hC) rfl rfl rfl (Nat.le_of_ble_eq_true rfl) (c_cost hC _ _) ?_
  have hrow : ∀ q, q ≠ 14 → q ≠ 15 → (cCost I (xs (6 * k + 1)) (xs (6 * k + 2))).2 q = I q := fun q h1 h2 => by
    unfold cCost
    split
    · split
      · exact u2_row _ _ _ h1
      · rfl
    · split
      · split
        · exact u2_row _ _ _ h1
        · rfl
      · split
        · rfl
        · split
          · exact u2_row _ _ _ h2
          · rfl
  have hz := h0.zc (Z' := (cCost I (xs (6 * k + 1)) (xs (6 * k + 2))).2) (fun q h1 h2 => hrow q (by omega) (by omega))
  obtain ⟨e1, c1⟩ := core_cost hz (xs (6 * k + 1)) (xs (6 * k + 2))
  generalize (cCost I (xs (6 * k + 1)) (xs (6 * k + 2))).1 = v at e1 ⊢
  generalize hIe : (cCost I (xs (6 * k + 1)) (xs (6 * k + 2))).2 = I1 at hrow hz c1 e1 ⊢
  have mrow : ∀ q, q ≠ 22 → q ≠ 42 → (mCost I1 (xs (6 * k + 1)) (xs (6 * k + 2))).2 q = I1 q := fun q h1 h2 => by
    unfold mCost
    split
    · split
      · exact u2_row _ _ _ h1
      · rfl
    · split
      · split
        · exact u2_row _ _ _ h1
        · rfl
      · split
        · rfl
        · split
          · exact u2_row _ _ _ h2
          · rfl
  have mcol : ∀ c, 40 ≤ c → (mCost I1 (xs (6 * k + 1)) (xs (6 * k + 2))).2 22 c = I1 22 c := fun c h1 => by
    unfold mCost
    split
    · split
      · exact u2_col I1 22 _ (show c ≠ 23 by omega)
      · rfl
    · split
      · split
        · exact u2_col I1 22 _ (show c ≠ 24 by omega)
        · rfl
      · split
        · rfl
        · split
          · rfl
          · rfl
  refine aw_aload_n dL_law_363 rfl rfl (by first | exact isR_ref _ | exact isR_rf _ | exact isR_null) ?_
  refine aw_aload_n dL_law_364 rfl rfl (by first | exact isR_ref _ | exact isR_rf _ | exact isR_null) ?_
  refine aw_iload_n dL_law_365 rfl rfl ?_
  refine aw_iconst (v := nI 1) dL_law_366 (by decide) ?_
  first | refine aw_iaddN dL_law_367 ?_ | refine aw_iadd dL_law_367 ?_
  refine aw_ialdX dL_law_368 hX (ixm (by omega) (by omega)) ?_
  refine aw_aload_n dL_law_369 rfl rfl (by first | exact isR_ref _ | exact isR_rf _ | exact isR_null) ?_
  refine aw_iload_n dL_law_370 rfl rfl ?_
  refine aw_iconst (v := nI 2) dL_law_371 (by decide) ?_
  first | refine aw_iaddN dL_law_372 ?_ | refine aw_iadd dL_law_372 ?_
  refine aw_ialdX dL_law_373 hX (ixm (by omega) (by omega)) ?_
  refine aw_cVx (as := [_, _]) dL_law_374 lk_L_51 cm_X10_cost vi_X10_cost (by unfold RO; decide) rfl (sM_kd hM) (sM_n hM) rfl rfl rfl (Nat.le_of_ble_eq_true rfl) (m_cost hM _ _) ?_
  refine aw_icmp_eq (tgt := 678) dL_law_377 (by decide) (fun hne => ?_) (fun hne => ?_)
  · exact T _ _ _ _ _ _ (RC.fin c1 (hrs.tr (hrow 16 (by decide) (by decide)) (fun c h1 h2 => by rw [mcol c h1, hrow 22 (by decide) (by decide)])) (fun q hq => mrow q (by omega) (by omega)) (by omega) (by omega) (by omega) (by omega))
  · exact absurd e1 hne
end LAW2
