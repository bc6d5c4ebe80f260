section MOD13
variable {G : GG} {n sz : Nat} {kd : Nat → AKd} {I : Nat → Nat → Int32} {R : Nat → Nat → Option Nat} {J : Nat → Nat → Int64}
def fdP (I : Nat → Nat → Int32) (f k : Nat) : Bool := decide (mSorted I (I 37 k) f = 0) || decide (mJudged I (I 37 k) (I 40 k) true < mJudged I (I 37 k) (I 40 k) false)
def cp1 (I : Nat → Nat → Int32) (k l : Nat) : Nat → Nat → Int32 := u2 I 37 l (I 37 k)
def cp2 (I : Nat → Nat → Int32) (k l : Nat) : Nat → Nat → Int32 := u2 I 38 l (I 38 k)
def cp3 (I : Nat → Nat → Int32) (k l : Nat) : Nat → Nat → Int32 := u2 I 39 (2 * l) (I 39 (2 * k))
def cp4 (I : Nat → Nat → Int32) (k l : Nat) : Nat → Nat → Int32 := u2 I 39 (2 * l + 1) (I 39 (2 * k + 1))
def cp5 (I : Nat → Nat → Int32) (k l : Nat) : Nat → Nat → Int32 := u2 I 40 l (I 40 k)
def cpy (I : Nat → Nat → Int32) (k l : Nat) : Nat → Nat → Int32 := cp5 (cp4 (cp3 (cp2 (cp1 I k l) k l) k l) k l) k l
def mFS (I : Nat → Nat → Int32) (f : Nat) : Nat → (Nat → Nat → Int32) × Nat
  | 0 => (I, 0)
  | k + 1 => if fdP (mFS I f k).1 f k then mFS I f k else (cpy (mFS I f k).1 k (mFS I f k).2, (mFS I f k).2 + 1)
theorem cpy_B (hB : MB I) {k l : Nat} (hk : k < 6) : MB (cpy I k l) := by
  obtain ⟨b1, b2, b3, b4, b5, b6, b7, b8⟩ := hB
  refine ⟨b1, b2, b3, fun j hj => ?_, b5, b6, b7, b8⟩
  show bN (u2 I 38 l (I 38 k) 38 j) 2
  by_cases h : j = l
  · subst h; rw [u2_same]; exact b4 k hk
  · rw [u2_col _ _ _ h]; exact b4 j hj
theorem mFS_ok (hB : MB I) (f : Nat) : ∀ k, k ≤ 6 → MB (mFS I f k).1 ∧ (mFS I f k).2 ≤ k ∧ (∀ c, (mFS I f k).1 22 c = I 22 c)
  | 0, _ => ⟨hB, Nat.le_refl _, fun _ => rfl⟩
  | k + 1, h => by
    obtain ⟨h1, h2, h3⟩ := mFS_ok hB f k (by omega)
    rw [mFS]
    split
    · exact ⟨h1, by omega, h3⟩
    · exact ⟨cpy_B h1 (by omega), by show _ + 1 ≤ _; omega, fun c => h3 c⟩
def mFade (I : Nat → Nat → Int32) (m : Nat) : Int32 × (Nat → Nat → Int32) := (nI (mL I - (mFS I (mN I - m) (mL I)).2), u2 (mFS I (mN I - m) (mL I)).1 22 16 (nI (mFS I (mN I - m) (mL I)).2))
def mFadeX (I : Nat → Nat → Int32) (x : Int32) : Int32 × (Nat → Nat → Int32) := match rgl x 1 101 with
  | none => (-1, I)
  | some m => mFade I m
theorem m_fade (hM : ShM G n kd R) (hB : MB I) (x : Int32) : EX G mX10_fade [.ref (gz G + 22), .int x] (n, sz, kd, I, R, J) (some (.int (mFadeX I x).1)) (n, sz, kd, (mFadeX I x).2, R, J) := by
  refine mm_of rfl [(0, .ref (gz G + 22)), (1, .int x)] rfl (Nat.le_of_ble_eq_true rfl) ?_
  have hN : I 22 0 = nI (mN I) := hB.1.eq
  have hN1 : mN I ≤ 100 := hB.1.le
  have hL : I 22 16 = nI (mL I) := hB.2.1.eq
  have hL6 : mL I ≤ 6 := hB.2.1.le
  refine aw_iload_n dX10_fade_0 rfl rfl ?_
  refine aw_iconst (v := nI 1) dX10_fade_1 (by decide) ?_
  refine aw_bipush (v := nI 100) dX10_fade_2 (by decide) ?_
  refine aw_cSx (as := [_, _, _]) dX10_fade_4 lk_X10_156 cm_X10_in sm_X10_in (by unfold RO; decide) rfl rfl (Nat.le_of_ble_eq_true rfl) (m_inN _) ?_
  refine aw_b_ne (tgt := 12) dX10_fade_7 (by decide) rfl (fun h1 => ?_) (fun h1 => ?_)
  · obtain ⟨m, hm⟩ := Option.isSome_iff_exists.mp h1
    obtain ⟨rfl, hm1, hm2⟩ := rgl_some hm
    have ea : mFadeX I (nI m) = mFade I m := by unfold mFadeX; rw [show rgl (nI m) 1 101 = some m from hm]
    rw [ea]
    have body : ∀ y, y = nI (mN I - m) → AW G mX10_fade 30 [(0, .ref (gz G + 22)), (1, .int (nI m))] [.int y] (n, sz, kd, I, R, J) (fun v' M' => v' = some (.int (mFade I m).1) ∧ M' = (n, sz, kd, (mFade I m).2, R, J)) := by
      intro y hy
      subst hy
      generalize hf : mN I - m = f
      refine aw_istore_n (lv' := [(0, _), (1, _), (2, _)]) dX10_fade_30 rfl (by decide) rfl ?_
      refine aw_iconst (v := nI 0) dX10_fade_31 (by decide) ?_
      refine aw_istore_n (lv' := [(0, _), (1, _), (2, _), (3, _)]) dX10_fade_32 rfl (by decide) rfl ?_
      refine aw_iconst (v := nI 0) dX10_fade_33 (by decide) ?_
      refine aw_istore (lv' := [(0, _), (1, _), (2, _), (3, _), (4, _)]) dX10_fade_34 (by decide) rfl ?_
      refine aw_iconst (v := nI 0) dX10_fade_36 (by decide) ?_
      refine aw_istore (lv' := [(0, _), (1, _), (2, _), (3, _), (4, _), (5, _)]) dX10_fade_37 (by decide) rfl ?_
      have loop : ∀ d i, i + d = mL I → AW G mX10_fade 39 [(0, .ref (gz G + 22)), (1, .int (nI m)), (2, .int (nI f)), (3, .int (nI (mFS I f i).2)), (4, .int (nI (i - (mFS I f i).2))), (5, .int (nI i))] [] (n, sz, kd, (mFS I f i).1, R, J) (fun v' M' => v' = some (.int (mFade I m).1) ∧ M' = (n, sz, kd, (mFade I m).2, R, J)) := by
        intro d
        induction d with
        | zero =>
          intro i hi
          obtain ⟨s1, s2, s3⟩ := mFS_ok hB f i (by omega)
          have hLi : (mFS I f i).1 22 16 = nI (mL I) := (s3 _).trans hL
          refine aw_iload dX10_fade_39 rfl ?_
          refine aw_aload_n dX10_fade_41 rfl rfl (by first | exact isR_ref _ | exact isR_rf _ | exact isR_null) ?_
          refine aw_get dX10_fade_42 fl_X10_163 (sM_kd hM) (sM_n hM) (congrArg Value.int hLi) ?_
          refine aw_n_ge (tgt := 208) dX10_fade_45 (by decide) rfl rfl (by omega) (by omega) (fun h => ?_) (fun h => ?_)
          · refine aw_aload_n dX10_fade_208 rfl rfl (by first | exact isR_ref _ | exact isR_rf _ | exact isR_null) ?_
            refine aw_iload_n dX10_fade_209 rfl rfl ?_
            refine aw_putI dX10_fade_210 fl_X10_163 (Or.inl rfl) rfl (sM_kd hM) (sM_n hM) ?_
            refine aw_iload dX10_fade_213 rfl ?_
            refine aw_iret dX10_fade_215 rfl rfl ?_
            unfold mFade
            rw [hf, show mL I = i by omega]
            exact ⟨rfl, rfl⟩
          · exact absurd h (by omega)
        | succ d ih =>
          intro i hi
          have ih' := ih (i + 1) (by omega)
          obtain ⟨s1, s2, s3⟩ := mFS_ok hB f i (by omega)
          have hLi : (mFS I f i).1 22 16 = nI (mL I) := (s3 _).trans hL
          have hNi : mN (mFS I f i).1 = mN I := congrArg tn (s3 _)
          have es : mFS I f (i + 1) = if fdP (mFS I f i).1 f i then mFS I f i else (cpy (mFS I f i).1 i (mFS I f i).2, (mFS I f i).2 + 1) := rfl
          generalize mFS I f i = s at s1 s2 hLi hNi es ih'
          obtain ⟨Is, l⟩ := s
          have s1 : MB Is := s1
          have s2 : l ≤ i := s2
          have hLi : Is 22 16 = nI (mL I) := hLi
          have hNi : mN Is = mN I := hNi
          show AW G mX10_fade 39 [(0, .ref (gz G + 22)), (1, .int (nI m)), (2, .int (nI f)), (3, .int (nI l)), (4, .int (nI (i - l))), (5, .int (nI i))] [] (n, sz, kd, Is, R, J) _
          have after : ∀ b, b = fdP Is f i → AW G mX10_fade 109 [(0, .ref (gz G + 22)), (1, .int (nI m)), (2, .int (nI f)), (3, .int (nI l)), (4, .int (nI (i - l))), (5, .int (nI i))] [.int (bi b)] (n, sz, kd, Is, R, J) (fun v' M' => v' = some (.int (mFade I m).1) ∧ M' = (n, sz, kd, (mFade I m).2, R, J)) := by
            intro b hb
            refine aw_istore (lv' := [(0, _), (1, _), (2, _), (3, _), (4, _), (5, _), (6, _)]) dX10_fade_109 (by decide) rfl ?_
            refine aw_iload dX10_fade_111 rfl ?_
            refine aw_b_eq (tgt := 122) dX10_fade_113 (by decide) rfl (fun h3 => ?_) (fun h3 => ?_)
            · have e1 : mFS I f (i + 1) = (cpy Is i l, l + 1) := by rw [es, show fdP Is f i = false by rw [← hb]; exact h3]; rfl
              rw [e1] at ih'
              refine aw_aload_n dX10_fade_122 rfl rfl (by first | exact isR_ref _ | exact isR_rf _ | exact isR_null) ?_
              refine aw_get dX10_fade_123 fl_X10_53 (sM_kd hM) (sM_n hM) (sM_r_learntName hM _ _) ?_
              refine aw_iload_n dX10_fade_126 rfl rfl ?_
              refine aw_aload_n dX10_fade_127 rfl rfl (by first | exact isR_ref _ | exact isR_rf _ | exact isR_null) ?_
              refine aw_get dX10_fade_128 fl_X10_53 (sM_kd hM) (sM_n hM) (sM_r_learntName hM _ _) ?_
              refine aw_iload dX10_fade_131 rfl ?_
              refine aw_iald dX10_fade_133 (sM_k_learntName hM) (sM_l_learntName hM) (ixm (by omega)) ?_
              refine aw_iast dX10_fade_134 (sM_k_learntName hM) (sM_l_learntName hM) (ixm (by omega)) ?_
              refine aw_aload_n dX10_fade_135 rfl rfl (by first | exact isR_ref _ | exact isR_rf _ | exact isR_null) ?_
              refine aw_get dX10_fade_136 fl_X10_56 (sM_kd hM) (sM_n hM) (sM_r_learntTests hM _ _) ?_
              refine aw_iload_n dX10_fade_139 rfl rfl ?_
              refine aw_aload_n dX10_fade_140 rfl rfl (by first | exact isR_ref _ | exact isR_rf _ | exact isR_null) ?_
              refine aw_get dX10_fade_141 fl_X10_56 (sM_kd hM) (sM_n hM) (sM_r_learntTests hM _ _) ?_
              refine aw_iload dX10_fade_144 rfl ?_
              refine aw_iald dX10_fade_146 (sM_k_learntTests hM) (sM_l_learntTests hM) (ixm (by omega)) ?_
              refine aw_iast dX10_fade_147 (sM_k_learntTests hM) (sM_l_learntTests hM) (ixm (by omega)) ?_
              refine aw_aload_n dX10_fade_148 rfl rfl (by first | exact isR_ref _ | exact isR_rf _ | exact isR_null) ?_
              refine aw_get dX10_fade_149 fl_X10_59 (sM_kd hM) (sM_n hM) (sM_r_learntCode hM _ _) ?_
              refine aw_iconst (v := nI 2) dX10_fade_152 (by decide) ?_
              refine aw_iload_n dX10_fade_153 rfl rfl ?_
              first | refine aw_imulN dX10_fade_154 ?_ | refine aw_imul dX10_fade_154 ?_
              refine aw_aload_n dX10_fade_155 rfl rfl (by first | exact isR_ref _ | exact isR_rf _ | exact isR_null) ?_
              refine aw_get dX10_fade_156 fl_X10_59 (sM_kd hM) (sM_n hM) (sM_r_learntCode hM _ _) ?_
              refine aw_iconst (v := nI 2) dX10_fade_159 (by decide) ?_
              refine aw_iload dX10_fade_160 rfl ?_
              first | refine aw_imulN dX10_fade_162 ?_ | refine aw_imul dX10_fade_162 ?_
              refine aw_iald dX10_fade_163 (sM_k_learntCode hM) (sM_l_learntCode hM) (ixm (by omega)) ?_
              refine aw_iast dX10_fade_164 (sM_k_learntCode hM) (sM_l_learntCode hM) (ixm (by omega)) ?_
              refine aw_aload_n dX10_fade_165 rfl rfl (by first | exact isR_ref _ | exact isR_rf _ | exact isR_null) ?_
              refine aw_get dX10_fade_166 fl_X10_59 (sM_kd hM) (sM_n hM) (sM_r_learntCode hM _ _) ?_
              refine aw_iconst (v := nI 2) dX10_fade_169 (by decide) ?_
              refine aw_iload_n dX10_fade_170 rfl rfl ?_
              first | refine aw_imulN dX10_fade_171 ?_ | refine aw_imul dX10_fade_171 ?_
              refine aw_iconst (v := nI 1) dX10_fade_172 (by decide) ?_
              first | refine aw_iaddN dX10_fade_173 ?_ | refine aw_iadd dX10_fade_173 ?_
              refine aw_aload_n dX10_fade_174 rfl rfl (by first | exact isR_ref _ | exact isR_rf _ | exact isR_null) ?_
              refine aw_get dX10_fade_175 fl_X10_59 (sM_kd hM) (sM_n hM) (sM_r_learntCode hM _ _) ?_
              refine aw_iconst (v := nI 2) dX10_fade_178 (by decide) ?_
              refine aw_iload dX10_fade_179 rfl ?_
              first | refine aw_imulN dX10_fade_181 ?_ | refine aw_imul dX10_fade_181 ?_
              refine aw_iconst (v := nI 1) dX10_fade_182 (by decide) ?_
              first | refine aw_iaddN dX10_fade_183 ?_ | refine aw_iadd dX10_fade_183 ?_
              refine aw_iald dX10_fade_184 (sM_k_learntCode hM) (sM_l_learntCode hM) (ixm (by omega)) ?_
              refine aw_iast dX10_fade_185 (sM_k_learntCode hM) (sM_l_learntCode hM) (ixm (by omega)) ?_
              refine aw_aload_n dX10_fade_186 rfl rfl (by first | exact isR_ref _ | exact isR_rf _ | exact isR_null) ?_
              refine aw_get dX10_fade_187 fl_X10_62 (sM_kd hM) (sM_n hM) (sM_r_learntFolder hM _ _) ?_
              refine aw_iload_n dX10_fade_190 rfl rfl ?_
              refine aw_aload_n dX10_fade_191 rfl rfl (by first | exact isR_ref _ | exact isR_rf _ | exact isR_null) ?_
              refine aw_get dX10_fade_192 fl_X10_62 (sM_kd hM) (sM_n hM) (sM_r_learntFolder hM _ _) ?_
              refine aw_iload dX10_fade_195 rfl ?_
              refine aw_iald dX10_fade_197 (sM_k_learntFolder hM) (sM_l_learntFolder hM) (ixm (by omega)) ?_
              refine aw_iast dX10_fade_198 (sM_k_learntFolder hM) (sM_l_learntFolder hM) (ixm (by omega)) ?_
              refine aw_I (I' := cpy Is i l) rfl ?_
              first | refine aw_iincN (c := 1) (lv' := [(0, _), (1, _), (2, _), (3, _), (4, _), (5, _), (6, _)]) dX10_fade_199 rfl (by decide) rfl rfl ?_ | refine aw_iinc (v := 1) (lv' := [(0, _), (1, _), (2, _), (3, _), (4, _), (5, _), (6, _)]) dX10_fade_199 rfl (by decide) (by decide) rfl ?_
              first | refine aw_iincN (c := 1) (lv' := [(0, _), (1, _), (2, _), (3, _), (4, _), (5, _), (6, _)]) dX10_fade_202 rfl (by decide) rfl rfl ?_ | refine aw_iinc (v := 1) (lv' := [(0, _), (1, _), (2, _), (3, _), (4, _), (5, _), (6, _)]) dX10_fade_202 rfl (by decide) (by decide) rfl ?_
              refine aw_goto (tgt := 39) dX10_fade_205 (by decide) ?_
              rw [show i + 1 - (cpy Is i l, l + 1).2 = i - l by show i + 1 - (l + 1) = _; omega] at ih'
              exact aw_app (ex := [_]) ih'
            · have e1 : mFS I f (i + 1) = (Is, l) := by rw [es, show fdP Is f i = true by rw [← hb]; exact h3]; rfl
              rw [e1] at ih'
              first | refine aw_iincN (c := 1) (lv' := [(0, _), (1, _), (2, _), (3, _), (4, _), (5, _), (6, _)]) dX10_fade_116 rfl (by decide) rfl rfl ?_ | refine aw_iinc (v := 1) (lv' := [(0, _), (1, _), (2, _), (3, _), (4, _), (5, _), (6, _)]) dX10_fade_116 rfl (by decide) (by decide) rfl ?_
              refine aw_goto (tgt := 202) dX10_fade_119 (by decide) ?_
              first | refine aw_iincN (c := 1) (lv' := [(0, _), (1, _), (2, _), (3, _), (4, _), (5, _), (6, _)]) dX10_fade_202 rfl (by decide) rfl rfl ?_ | refine aw_iinc (v := 1) (lv' := [(0, _), (1, _), (2, _), (3, _), (4, _), (5, _), (6, _)]) dX10_fade_202 rfl (by decide) (by decide) rfl ?_
              refine aw_goto (tgt := 39) dX10_fade_205 (by decide) ?_
              rw [show i + 1 - (Is, l).2 = i - l + 1 by show i + 1 - l = _; omega] at ih'
              exact aw_app (ex := [_]) ih'
          refine aw_iload dX10_fade_39 rfl ?_
          refine aw_aload_n dX10_fade_41 rfl rfl (by first | exact isR_ref _ | exact isR_rf _ | exact isR_null) ?_
          refine aw_get dX10_fade_42 fl_X10_163 (sM_kd hM) (sM_n hM) (congrArg Value.int hLi) ?_
          refine aw_n_ge (tgt := 208) dX10_fade_45 (by decide) rfl rfl (by omega) (by omega) (fun h => ?_) (fun h => ?_)
          · exact absurd h (by omega)
          · refine aw_aload_n dX10_fade_48 rfl rfl (by first | exact isR_ref _ | exact isR_rf _ | exact isR_null) ?_
            refine aw_aload_n dX10_fade_49 rfl rfl (by first | exact isR_ref _ | exact isR_rf _ | exact isR_null) ?_
            refine aw_get dX10_fade_50 fl_X10_53 (sM_kd hM) (sM_n hM) (sM_r_learntName hM _ _) ?_
            refine aw_iload dX10_fade_53 rfl ?_
            refine aw_iald dX10_fade_55 (sM_k_learntName hM) (sM_l_learntName hM) (ixm (by omega)) ?_
            refine aw_iload_n dX10_fade_56 rfl rfl ?_
            refine aw_cVx (as := [_, _]) dX10_fade_57 lk_X10_265 cm_X10_sortedBy vi_X10_sortedBy (by unfold RO; decide) rfl (sM_kd hM) (sM_n hM) rfl rfl rfl (Nat.le_of_ble_eq_true rfl) (m_sortedBy hM s1 _ (by rw [hNi]; omega)) ?_
            have hc1 := Nat.le_trans (cnt_le (mSortedP Is (Is 37 i) f) (mN Is)) (s1.1.le : mN Is ≤ 100)
            have hc2 := Nat.le_trans (cnt_le (mJudgedP Is (Is 37 i) (Is 40 i) false) (mN Is)) (s1.1.le : mN Is ≤ 100)
            have hc3 := Nat.le_trans (cnt_le (mJudgedP Is (Is 37 i) (Is 40 i) true) (mN Is)) (s1.1.le : mN Is ≤ 100)
            refine aw_z_eq (tgt := 104) dX10_fade_60 (by decide) rfl (by unfold mSorted; omega) (fun h2 => ?_) (fun h2 => ?_)
            · refine aw_iconst (v := nI 1) dX10_fade_104 (by decide) ?_
              refine aw_goto (tgt := 109) dX10_fade_105 (by decide) ?_
              exact after true (by simp [fdP, h2])
            · refine aw_aload_n dX10_fade_63 rfl rfl (by first | exact isR_ref _ | exact isR_rf _ | exact isR_null) ?_
              refine aw_aload_n dX10_fade_64 rfl rfl (by first | exact isR_ref _ | exact isR_rf _ | exact isR_null) ?_
              refine aw_get dX10_fade_65 fl_X10_53 (sM_kd hM) (sM_n hM) (sM_r_learntName hM _ _) ?_
              refine aw_iload dX10_fade_68 rfl ?_
              refine aw_iald dX10_fade_70 (sM_k_learntName hM) (sM_l_learntName hM) (ixm (by omega)) ?_
              refine aw_aload_n dX10_fade_71 rfl rfl (by first | exact isR_ref _ | exact isR_rf _ | exact isR_null) ?_
              refine aw_get dX10_fade_72 fl_X10_62 (sM_kd hM) (sM_n hM) (sM_r_learntFolder hM _ _) ?_
              refine aw_iload dX10_fade_75 rfl ?_
              refine aw_iald dX10_fade_77 (sM_k_learntFolder hM) (sM_l_learntFolder hM) (ixm (by omega)) ?_
              refine aw_iconst (v := nI 0) dX10_fade_78 (by decide) ?_
              refine aw_cVx (as := [_, _, _]) dX10_fade_79 lk_X10_268 cm_X10_judged vi_X10_judged (by unfold RO; decide) rfl (sM_kd hM) (sM_n hM) rfl rfl rfl (Nat.le_of_ble_eq_true rfl) (m_judged hM s1 _ _ false) ?_
              refine aw_aload_n dX10_fade_82 rfl rfl (by first | exact isR_ref _ | exact isR_rf _ | exact isR_null) ?_
              refine aw_aload_n dX10_fade_83 rfl rfl (by first | exact isR_ref _ | exact isR_rf _ | exact isR_null) ?_
              refine aw_get dX10_fade_84 fl_X10_53 (sM_kd hM) (sM_n hM) (sM_r_learntName hM _ _) ?_
              refine aw_iload dX10_fade_87 rfl ?_
              refine aw_iald dX10_fade_89 (sM_k_learntName hM) (sM_l_learntName hM) (ixm (by omega)) ?_
              refine aw_aload_n dX10_fade_90 rfl rfl (by first | exact isR_ref _ | exact isR_rf _ | exact isR_null) ?_
              refine aw_get dX10_fade_91 fl_X10_62 (sM_kd hM) (sM_n hM) (sM_r_learntFolder hM _ _) ?_
              refine aw_iload dX10_fade_94 rfl ?_
              refine aw_iald dX10_fade_96 (sM_k_learntFolder hM) (sM_l_learntFolder hM) (ixm (by omega)) ?_
              refine aw_iconst (v := nI 1) dX10_fade_97 (by decide) ?_
              refine aw_cVx (as := [_, _, _]) dX10_fade_98 lk_X10_268 cm_X10_judged vi_X10_judged (by unfold RO; decide) rfl (sM_kd hM) (sM_n hM) rfl rfl rfl (Nat.le_of_ble_eq_true rfl) (m_judged hM s1 _ _ true) ?_
              refine aw_n_le (tgt := 108) dX10_fade_101 (by decide) rfl rfl (by unfold mJudged; omega) (by unfold mJudged; omega) (fun h3 => ?_) (fun h3 => ?_)
              · refine aw_iconst (v := nI 0) dX10_fade_108 (by decide) ?_
                exact after false (by simp [fdP, h2]; omega)
              · refine aw_iconst (v := nI 1) dX10_fade_104 (by decide) ?_
                refine aw_goto (tgt := 109) dX10_fade_105 (by decide) ?_
                exact after true (by simp [fdP]; omega)
      exact loop (mL I) 0 (by omega)
    refine aw_aload_n dX10_fade_12 rfl rfl (by first | exact isR_ref _ | exact isR_rf _ | exact isR_null) ?_
    refine aw_get dX10_fade_13 fl_X10_182 (sM_kd hM) (sM_n hM) (congrArg Value.int hN) ?_
    refine aw_iload_n dX10_fade_16 rfl rfl ?_
    refine aw_n_le (tgt := 29) dX10_fade_17 (by decide) rfl rfl (by omega) (by omega) (fun h2 => ?_) (fun h2 => ?_)
    · refine aw_iconst (v := nI 0) dX10_fade_29 (by decide) ?_
      exact body _ (by rw [show mN I - m = 0 by omega])
    · refine aw_aload_n dX10_fade_20 rfl rfl (by first | exact isR_ref _ | exact isR_rf _ | exact isR_null) ?_
      refine aw_get dX10_fade_21 fl_X10_182 (sM_kd hM) (sM_n hM) (congrArg Value.int hN) ?_
      refine aw_iload_n dX10_fade_24 rfl rfl ?_
      refine aw_isubN (by omega) dX10_fade_25 ?_
      refine aw_goto (tgt := 30) dX10_fade_26 (by decide) ?_
      exact body _ rfl
  · refine aw_iconst (v := (-1)) dX10_fade_10 (by decide) ?_
    refine aw_iret dX10_fade_11 rfl rfl ?_
    have ea : mFadeX I x = (-1, I) := by unfold mFadeX; rw [show rgl x 1 101 = none from isSome_f h1]
    rw [ea]
    exact ⟨rfl, rfl⟩
end MOD13
