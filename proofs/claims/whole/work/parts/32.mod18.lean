section MOD18
variable {G : GG} {n sz : Nat} {kd : Nat → AKd} {I : Nat → Nat → Int32} {R : Nat → Nat → Option Nat} {J : Nat → Nat → Int64}
/-- the WORD at i, blanks ahead of it: where it starts -/
def wS (b : Nat → Nat) (P i : Nat) : Nat := run (isBl b) P i
def wE (b : Nat → Nat) (P i : Nat) : Nat := run (isLt b) P (wS b P i)
def wC (b : Nat → Nat) (P i : Nat) : Option Nat := wcode b (wS b P i) (wE b P i)
theorem wSE (b : Nat → Nat) {P i : Nat} (h : i ≤ P) : i ≤ wS b P i ∧ wS b P i ≤ wE b P i ∧ wE b P i ≤ P := by
  have h1 := run_le (q := isBl b) h
  have h2 := run_le (q := isLt b) h1.2
  exact ⟨h1.1, h2.1, h2.2⟩
theorem wS_idem (b : Nat → Nat) {P i : Nat} (h : i ≤ P) : wS b P (wS b P i) = wS b P i := run_idem h
theorem wE_idem (b : Nat → Nat) {P i : Nat} (h : i ≤ P) : wE b P (wS b P i) = wE b P i := by unfold wE; rw [wS_idem b h]
theorem wC_idem (b : Nat → Nat) {P i : Nat} (h : i ≤ P) : wC b P (wS b P i) = wC b P i := by unfold wC; rw [wS_idem b h, wE_idem b h]
/-- TESTS from i on, those read so far ahead of them: where they end, all CODES; or the FAULT -/
def pTs (b : Nat → Nat) (P : Nat) : Nat → Nat → List Nat → Nat ⊕ (Nat × List Nat)
  | 0, _, _ => .inl 0
  | f + 1, i, cs => match pTest b P i cs.length with
    | .inl x => .inl x
    | .inr (q, c) => if wC b P q = some 2 then pTs b P f (wE b P q) (cs ++ [c]) else .inr (q, cs ++ [c])
def pEnd (b : Nat → Nat) (P i : Nat) (cs : List Nat) : Nat ⊕ (List Nat × Nat) :=
  if wC b P i = some 3 then match pNum b P (wE b P i) 7 with
    | .inl f => .inl f
    | .inr (v, q) => if wS b P q < P then .inl (1 + 8 * wS b P q + 3) else .inr (cs, v)
  else .inl (1 + 8 * wS b P i)
/-- a HAND RULE: its CODES, its FOLDER; or the FAULT -/
def pText (b : Nat → Nat) (P : Nat) : Nat ⊕ (List Nat × Nat) := match wC b P 0 with
  | some 0 => pEnd b P (wE b P 0) []
  | some 1 => match pTs b P 5 (wE b P 0) [] with
    | .inl x => .inl x
    | .inr (i, cs) => pEnd b P i cs
  | _ => .inl (1 + 8 * wS b P 0)
def rdOf (rd : Nat → Int32) (cs : List Nat) : Prop := ∀ j, j < cs.length → rd j = nI (cs.getD j 0)
theorem rdOf_app {rd : Nat → Int32} {cs : List Nat} (h : rdOf rd cs) (c : Nat) : rdOf (fun j => if j = cs.length then nI c else rd j) (cs ++ [c]) := by
  intro j hj
  rw [List.length_append, List.length_singleton] at hj
  by_cases e : j = cs.length
  · subst e; simp
  · simp only [if_neg e]
    rw [h j (by omega), List.getD_eq_getElem?_getD, List.getD_eq_getElem?_getD, List.getElem?_append_left (by omega)]
def QText (n sz : Nat) (kd : Nat → AKd) (I : Nat → Nat → Int32) (R : Nat → Nat → Option Nat) (J : Nat → Nat → Int64) (o : Nat ⊕ (List Nat × Nat)) (v' : Option Value) (M' : Mem) : Prop := match o with
  | .inl f => v' = some (.int (bi false)) ∧ ∃ nx ws sd ts rf rd, M' = (n, sz, kd, pS I (nx, ws, nI f, sd, ts, rf, rd), R, J)
  | .inr (cs, v) => v' = some (.int (bi true)) ∧ ∃ nx ws ft sd rd, rdOf rd cs ∧ M' = (n, sz, kd, pS I (nx, ws, ft, sd, nI cs.length, nI v, rd), R, J)
theorem m_text (hM : ShM G n kd R) {b : Nat → Nat} (hT : TB I b) (hK : KN I) {P : Nat} (hP : I 22 31 = nI P) (hP1 : P ≤ 100) (ws sd rf : Int32) (rd : Nat → Int32) : MM G mX10_text [.ref (gz G + 22)] (n, sz, kd, pS I (nI 0, ws, nI 0, sd, nI 0, rf, rd), R, J) (QText n sz kd I R J (pText b P)) := by
  refine mm_of rfl [(0, .ref (gz G + 22))] rfl (Nat.le_of_ble_eq_true rfl) ?_
  refine aw_aload_n dX10_text_0 rfl rfl (by first | exact isR_ref _ | exact isR_rf _ | exact isR_null) ?_
  refine aw_cVx (as := []) dX10_text_1 lk_X10_133 cm_X10_wordHere vi_X10_wordHere (by unfold RO; decide) rfl (sM_kd hM) (sM_n hM) rfl rfl rfl (Nat.le_of_ble_eq_true rfl) (m_wordHere hM hT hK hP hP1 (Nat.zero_le _) _ _ _ _ _ _) ?_
  refine aw_I (I' := pS I (nI (wS b P 0), nI (wE b P 0 - wS b P 0), nI 0, sd, nI 0, rf, rd)) rfl ?_
  refine aw_top (show _ = oI (wC b P 0) from rfl) ?_
  have hw := wSE b (Nat.zero_le P)
  refine aw_istore_n (lv' := [(0, _), (1, _)]) dX10_text_4 rfl (by decide) rfl ?_
  refine aw_iload_n dX10_text_5 rfl rfl ?_
  -- from 'to' on
  have ends : ∀ (i j : Nat) (cs : List Nat) (ws sd : Int32) (rd : Nat → Int32) (lv : List (Nat × Value)), i ≤ P → j ≤ P → wS b P j = wS b P i → rdOf rd cs → pText b P = pEnd b P i cs → AW G mX10_text 95 ([(0, .ref (gz G + 22))] ++ lv) [] (n, sz, kd, pS I (nI j, ws, nI 0, sd, nI cs.length, rf, rd), R, J) (QText n sz kd I R J (pText b P)) := by
    intro i j cs ws sd rd lv hi hj hji hrd hpt
    have hjE : wE b P j = wE b P i := by unfold wE; rw [hji]
    have hjC : wC b P j = wC b P i := by unfold wC; rw [hji, hjE]
    refine aw_app ?_
    have hw := wSE b hi
    refine aw_aload_n dX10_text_95 rfl rfl (by first | exact isR_ref _ | exact isR_rf _ | exact isR_null) ?_
    refine aw_cVx (as := []) dX10_text_96 lk_X10_133 cm_X10_wordHere vi_X10_wordHere (by unfold RO; decide) rfl (sM_kd hM) (sM_n hM) rfl rfl rfl (Nat.le_of_ble_eq_true rfl) (m_wordHere hM hT hK hP hP1 hj _ _ _ _ _ _) ?_
    refine aw_I (I' := pS I (nI (wS b P i), nI (wE b P i - wS b P i), nI 0, sd, nI cs.length, rf, rd)) (by
      show pS I (nI (wS b P j), nI (wE b P j - wS b P j), nI 0, sd, nI cs.length, rf, rd) = _
      rw [hji, hjE]) ?_
    refine aw_top (show _ = oI (wC b P i) from congrArg oI hjC) ?_
    refine aw_iconst (v := nI 3) dX10_text_99 (by decide) ?_
    by_cases hc : wC b P i = some 3
    · rw [hc]
      have hpe : pText b P = match pNum b P (wE b P i) 7 with
        | .inl f => .inl f
        | .inr (v, q) => if wS b P q < P then .inl (1 + 8 * wS b P q + 3) else .inr (cs, v) := by rw [hpt]; unfold pEnd; rw [if_pos hc]
      refine aw_n_eq (tgt := 113) dX10_text_100 (by decide) rfl rfl (by omega) (by omega) (fun h1 => ?_) (fun h1 => ?_)
      · refine aw_aload_n dX10_text_113 rfl rfl (by first | exact isR_ref _ | exact isR_rf _ | exact isR_null) ?_
        refine aw_dup dX10_text_114 rfl ?_
        refine aw_get dX10_text_115 fl_X10_116 (sM_kd hM) (sM_n hM) (show _ = Value.int (nI (wS b P i)) from rfl) ?_
        refine aw_aload_n dX10_text_118 rfl rfl (by first | exact isR_ref _ | exact isR_rf _ | exact isR_null) ?_
        refine aw_get dX10_text_119 fl_X10_123 (sM_kd hM) (sM_n hM) (show _ = Value.int (nI (wE b P i - wS b P i)) from rfl) ?_
        first | refine aw_iaddN dX10_text_122 ?_ | refine aw_iadd dX10_text_122 ?_
        refine aw_putI dX10_text_123 fl_X10_116 (Or.inl rfl) rfl (sM_kd hM) (sM_n hM) ?_
        rw [pS_nx, show wS b P i + (wE b P i - wS b P i) = wE b P i by omega]
        refine aw_aload_n dX10_text_126 rfl rfl (by first | exact isR_ref _ | exact isR_rf _ | exact isR_null) ?_
        refine aw_bipush (v := nI 7) dX10_text_127 (by decide) ?_
        refine aw_callV (as := [_]) dX10_text_129 lk_X10_139 cm_X10_number vi_X10_number (by unfold RO; decide) rfl (sM_kd hM) (sM_n hM) rfl rfl rfl (Nat.le_of_ble_eq_true rfl) (m_number hM hT (by decide) hP hP1 hw.2.2 _ _ _ _ _) ?_
        intro v' M' hq
        cases hpn : pNum b P (wE b P i) 7 with
        | inl f =>
          rw [hpn] at hq hpe
          obtain ⟨rfl, nx, sd', rfl⟩ := hq
          show AW G mX10_text (129 + 3) [(0, .ref (gz G + 22))] [.int (bi false)] _ _
          refine aw_b_ne (tgt := 137) dX10_text_132 (by decide) rfl (fun h3 => ?_) (fun h3 => ?_)
          · cases h3
          · refine aw_iconst (v := nI 0) dX10_text_135 (by decide) ?_
            refine aw_iret dX10_text_136 rfl rfl ?_
            rw [hpe]
            exact ⟨rfl, _, _, _, _, _, _, rfl⟩
        | inr vq =>
          obtain ⟨v, q⟩ := vq
          have hq2 := pNum_le hw.2.2 hpn
          rw [hpn] at hq hpe
          obtain ⟨rfl, rfl⟩ := hq
          have hwq := wSE b hq2.1
          show AW G mX10_text (129 + 3) [(0, .ref (gz G + 22))] [.int (bi true)] _ _
          refine aw_b_ne (tgt := 137) dX10_text_132 (by decide) rfl (fun h3 => ?_) (fun h3 => ?_)
          · refine aw_aload_n dX10_text_137 rfl rfl (by first | exact isR_ref _ | exact isR_rf _ | exact isR_null) ?_
            refine aw_aload_n dX10_text_138 rfl rfl (by first | exact isR_ref _ | exact isR_rf _ | exact isR_null) ?_
            refine aw_get dX10_text_139 fl_X10_130 (sM_kd hM) (sM_n hM) (show _ = Value.int (nI v) from rfl) ?_
            refine aw_putI dX10_text_142 fl_X10_147 (Or.inl rfl) rfl (sM_kd hM) (sM_n hM) ?_
            rw [pS_rf]
            refine aw_aload_n dX10_text_145 rfl rfl (by first | exact isR_ref _ | exact isR_rf _ | exact isR_null) ?_
            refine aw_cVx (as := []) dX10_text_146 lk_X10_119 cm_X10_see vi_X10_see (by unfold RO; decide) rfl (sM_kd hM) (sM_n hM) rfl rfl rfl (Nat.le_of_ble_eq_true rfl) (m_see hM hT hP hP1 hq2.1 _ _ _ _ _ _) ?_
            refine aw_I (I' := pS I (nI (wS b P q), nI (wE b P i - wS b P i), nI 0, nI v, nI cs.length, nI v, rd)) rfl ?_
            refine aw_top (show _ = seeV b P (wS b P q) from rfl) ?_
            refine aw_iconst (v := (-1)) dX10_text_149 (by decide) ?_
            dsimp only at hpe
            by_cases hz : wS b P q < P
            · rw [if_pos hz] at hpe
              refine aw_icmp_eq (tgt := 165) dX10_text_150 (by decide) (fun z => ?_) (fun _ => ?_)
              · rw [seeV, if_pos hz] at z
                have := nI_pos (n := b (wS b P q)) (by have := (hT (wS b P q) (by omega)).1; omega)
                rw [z] at this
                exact absurd (by decide : (-1 : Int32) < 0) this
              · refine aw_aload_n dX10_text_153 rfl rfl (by first | exact isR_ref _ | exact isR_rf _ | exact isR_null) ?_
                refine aw_iconst (v := nI 3) dX10_text_154 (by decide) ?_
                refine aw_aload_n dX10_text_155 rfl rfl (by first | exact isR_ref _ | exact isR_rf _ | exact isR_null) ?_
                refine aw_get dX10_text_156 fl_X10_116 (sM_kd hM) (sM_n hM) (show _ = Value.int (nI (wS b P q)) from rfl) ?_
                refine aw_cVx (as := [_, _]) dX10_text_159 lk_X10_126 cm_X10_fails vi_X10_fails (by unfold RO; decide) rfl (sM_kd hM) (sM_n hM) rfl rfl rfl (Nat.le_of_ble_eq_true rfl) (m_failsP hM _ _ _ _ _ _) ?_
                refine aw_b_eq (tgt := 169) dX10_text_162 (by decide) rfl (fun h5 => ?_) (fun h5 => ?_)
                · refine aw_iconst (v := nI 0) dX10_text_169 (by decide) ?_
                  refine aw_iret dX10_text_170 rfl rfl ?_
                  rw [hpe]
                  exact ⟨rfl, _, _, _, _, _, _, rfl⟩
                · cases h5
            · rw [if_neg hz] at hpe
              refine aw_icmp_eq (tgt := 165) dX10_text_150 (by decide) (fun _ => ?_) (fun z => absurd (by rw [seeV, if_neg hz]) z)
              refine aw_iconst (v := nI 1) dX10_text_165 (by decide) ?_
              refine aw_goto (tgt := 170) dX10_text_166 (by decide) ?_
              refine aw_iret dX10_text_170 rfl rfl ?_
              rw [hpe]
              exact ⟨rfl, _, _, _, _, _, hrd, rfl⟩
          · cases h3
      · exact absurd rfl h1
    · have hpe : pText b P = .inl (1 + 8 * wS b P i) := by rw [hpt]; unfold pEnd; rw [if_neg hc]
      refine aw_icmp_eq (tgt := 113) dX10_text_100 (by decide) (fun z => ?_) (fun _ => ?_)
      · exfalso
        cases hx : wC b P i with
        | none => rw [hx] at z; exact absurd z (by decide)
        | some w =>
          rw [hx] at z hc
          have h9 := wcode_lt hx
          have := (nI_eq (by omega) (by decide)).mp z
          exact hc (by rw [this])
      · refine aw_aload_n dX10_text_103 rfl rfl (by first | exact isR_ref _ | exact isR_rf _ | exact isR_null) ?_
        refine aw_iconst (v := nI 0) dX10_text_104 (by decide) ?_
        refine aw_aload_n dX10_text_105 rfl rfl (by first | exact isR_ref _ | exact isR_rf _ | exact isR_null) ?_
        refine aw_get dX10_text_106 fl_X10_116 (sM_kd hM) (sM_n hM) (show _ = Value.int (nI (wS b P i)) from rfl) ?_
        refine aw_cVx (as := [_, _]) dX10_text_109 lk_X10_126 cm_X10_fails vi_X10_fails (by unfold RO; decide) rfl (sM_kd hM) (sM_n hM) rfl rfl rfl (Nat.le_of_ble_eq_true rfl) (m_failsP hM _ _ _ _ _ _) ?_
        refine aw_iret dX10_text_112 rfl rfl ?_
        rw [hpe]
        exact ⟨rfl, _, _, _, _, _, _, rfl⟩
  -- the tests
  have tests : ∀ (f i : Nat) (cs : List Nat) (ws sd : Int32) (rd : Nat → Int32) (x : Int32), i ≤ P → cs.length + f = 5 → cs.length ≤ 4 → rdOf rd cs → (pText b P = match pTs b P f i cs with | .inl x => .inl x | .inr (i, cs) => pEnd b P i cs) → AW G mX10_text 48 [(0, .ref (gz G + 22)), (1, .int x), (2, .int (nI 1))] [] (n, sz, kd, pS I (nI i, ws, nI 0, sd, nI cs.length, rf, rd), R, J) (QText n sz kd I R J (pText b P)) := by
    intro f
    induction f with
    | zero =>
      intro i cs ws sd rd x hi hf hle hrd hpt
      exact absurd hf (by omega)
    | succ f ih =>
      intro i cs ws sd rd x hi hf hle hrd hpt
      refine aw_iload_n dX10_text_48 rfl rfl ?_
      refine aw_z_eq (tgt := 95) dX10_text_49 (by decide) rfl (by omega) (fun h1 => ?_) (fun h1 => ?_)
      · exact absurd h1 (by decide)
      · refine aw_aload_n dX10_text_52 rfl rfl (by first | exact isR_ref _ | exact isR_rf _ | exact isR_null) ?_
        refine aw_callV (as := []) dX10_text_53 lk_X10_143 cm_X10_test vi_X10_test (by unfold RO; decide) rfl (sM_kd hM) (sM_n hM) rfl rfl rfl (Nat.le_of_ble_eq_true rfl) (m_test hM hT hK (t := cs.length) (by omega) hP hP1 hi _ _ _ _) ?_
        intro v' M' hq
        rw [pTs] at hpt
        cases hpn : pTest b P i cs.length with
        | inl g =>
          rw [hpn] at hq hpt
          obtain ⟨rfl, nx, ws', sd', rfl⟩ := hq
          show AW G mX10_text (53 + 3) [(0, .ref (gz G + 22)), (1, .int x), (2, .int (nI 1))] [.int (bi false)] _ _
          refine aw_b_ne (tgt := 61) dX10_text_56 (by decide) rfl (fun h3 => ?_) (fun h3 => ?_)
          · cases h3
          · refine aw_iconst (v := nI 0) dX10_text_59 (by decide) ?_
            refine aw_iret dX10_text_60 rfl rfl ?_
            rw [hpt]
            exact ⟨rfl, _, _, _, _, _, _, rfl⟩
        | inr qc =>
          obtain ⟨q, c⟩ := qc
          rw [hpn] at hq hpt
          obtain ⟨rfl, ws', sd', rfl⟩ := hq
          have hq2 : q ≤ P ∧ cs.length < 4 := by
            unfold pTest at hpn
            split at hpn
            · cases hpn
            · split at hpn
              · cases hpn
              · split at hpn
                · cases hpn
                · split at hpn
                  · cases hpn
                  · rename_i hx
                    cases hpn
                    exact ⟨(pNum_le (wSE b hi).2.2 hx).1, by omega⟩
          have hwq := wSE b hq2.1
          have hrd' := rdOf_app hrd c
          have hlen : cs.length + 1 = (cs ++ [c]).length := by simp
          show AW G mX10_text (53 + 3) [(0, .ref (gz G + 22)), (1, .int x), (2, .int (nI 1))] [.int (bi true)] _ _
          refine aw_b_ne (tgt := 61) dX10_text_56 (by decide) rfl (fun h3 => ?_) (fun h3 => ?_)
          · refine aw_aload_n dX10_text_61 rfl rfl (by first | exact isR_ref _ | exact isR_rf _ | exact isR_null) ?_
            refine aw_cVx (as := []) dX10_text_62 lk_X10_133 cm_X10_wordHere vi_X10_wordHere (by unfold RO; decide) rfl (sM_kd hM) (sM_n hM) rfl rfl rfl (Nat.le_of_ble_eq_true rfl) (m_wordHere hM hT hK hP hP1 hq2.1 _ _ _ _ _ _) ?_
            refine aw_I (I' := pS I (nI (wS b P q), nI (wE b P q - wS b P q), nI 0, sd', nI (cs ++ [c]).length, rf, fun j => if j = cs.length then nI c else rd j)) (by rw [← hlen]; rfl) ?_
            refine aw_top (show _ = oI (wC b P q) from rfl) ?_
            refine aw_iconst (v := nI 2) dX10_text_65 (by decide) ?_
            dsimp only at hpt
            by_cases hc : wC b P q = some 2
            · rw [if_pos hc] at hpt
              rw [hc]
              refine aw_n_ne (tgt := 73) dX10_text_66 (by decide) rfl rfl (by omega) (by omega) (fun h4 => ?_) (fun h4 => ?_)
              · exact absurd rfl h4
              · refine aw_iconst (v := nI 1) dX10_text_69 (by decide) ?_
                refine aw_goto (tgt := 74) dX10_text_70 (by decide) ?_
                refine aw_istore_n (lv' := [(0, _), (1, _), (2, _)]) dX10_text_74 rfl (by decide) rfl ?_
                refine aw_iload_n dX10_text_75 rfl rfl ?_
                refine aw_z_eq (tgt := 48) dX10_text_76 (by decide) rfl (by omega) (fun h5 => ?_) (fun h5 => ?_)
                · exact absurd h5 (by decide)
                · refine aw_aload_n dX10_text_79 rfl rfl (by first | exact isR_ref _ | exact isR_rf _ | exact isR_null) ?_
                  refine aw_dup dX10_text_80 rfl ?_
                  refine aw_get dX10_text_81 fl_X10_116 (sM_kd hM) (sM_n hM) (show _ = Value.int (nI (wS b P q)) from rfl) ?_
                  refine aw_aload_n dX10_text_84 rfl rfl (by first | exact isR_ref _ | exact isR_rf _ | exact isR_null) ?_
                  refine aw_get dX10_text_85 fl_X10_123 (sM_kd hM) (sM_n hM) (show _ = Value.int (nI (wE b P q - wS b P q)) from rfl) ?_
                  first | refine aw_iaddN dX10_text_88 ?_ | refine aw_iadd dX10_text_88 ?_
                  refine aw_putI dX10_text_89 fl_X10_116 (Or.inl rfl) rfl (sM_kd hM) (sM_n hM) ?_
                  rw [pS_nx, show wS b P q + (wE b P q - wS b P q) = wE b P q by omega]
                  refine aw_goto (tgt := 48) dX10_text_92 (by decide) ?_
                  exact ih (wE b P q) (cs ++ [c]) _ _ _ _ hwq.2.2 (by rw [← hlen]; omega) (by rw [← hlen]; omega) hrd' hpt
            · rw [if_neg hc] at hpt
              refine aw_icmp_ne (tgt := 73) dX10_text_66 (by decide) (fun _ => ?_) (fun z => ?_)
              · refine aw_iconst (v := nI 0) dX10_text_73 (by decide) ?_
                refine aw_istore_n (lv' := [(0, _), (1, _), (2, _)]) dX10_text_74 rfl (by decide) rfl ?_
                refine aw_iload_n dX10_text_75 rfl rfl ?_
                refine aw_z_eq (tgt := 48) dX10_text_76 (by decide) rfl (by omega) (fun h5 => ?_) (fun h5 => ?_)
                · refine aw_iload_n dX10_text_48 rfl rfl ?_
                  refine aw_z_eq (tgt := 95) dX10_text_49 (by decide) rfl (by omega) (fun h6 => ?_) (fun h6 => ?_)
                  · exact ends q (wS b P q) (cs ++ [c]) _ _ _ [_, _] hq2.1 (by omega) (wS_idem b hq2.1) hrd' hpt
                  · exact absurd rfl h6
                · exact absurd rfl h5
              · exfalso
                cases hx : wC b P q with
                | none => rw [hx] at z; exact absurd z (by decide)
                | some w =>
                  rw [hx] at z hc
                  have h9 := wcode_lt hx
                  have := (nI_eq (by omega) (by decide)).mp z
                  exact hc (by rw [this])
          · cases h3
  have hpt0 : pText b P = match wC b P 0 with
    | some 0 => pEnd b P (wE b P 0) []
    | some 1 => match pTs b P 5 (wE b P 0) [] with
      | .inl x => .inl x
      | .inr (i, cs) => pEnd b P i cs
    | _ => .inl (1 + 8 * wS b P 0) := rfl
  have bad : ∀ x, pText b P = .inl (1 + 8 * wS b P 0) → AW G mX10_text 14 [(0, .ref (gz G + 22)), (1, .int x)] [] (n, sz, kd, pS I (nI (wS b P 0), nI (wE b P 0 - wS b P 0), nI 0, sd, nI 0, rf, rd), R, J) (QText n sz kd I R J (pText b P)) := by
    intro x hx
    refine aw_aload_n dX10_text_14 rfl rfl (by first | exact isR_ref _ | exact isR_rf _ | exact isR_null) ?_
    refine aw_iconst (v := nI 0) dX10_text_15 (by decide) ?_
    refine aw_aload_n dX10_text_16 rfl rfl (by first | exact isR_ref _ | exact isR_rf _ | exact isR_null) ?_
    refine aw_get dX10_text_17 fl_X10_116 (sM_kd hM) (sM_n hM) (show _ = Value.int (nI (wS b P 0)) from rfl) ?_
    refine aw_cVx (as := [_, _]) dX10_text_20 lk_X10_126 cm_X10_fails vi_X10_fails (by unfold RO; decide) rfl (sM_kd hM) (sM_n hM) rfl rfl rfl (Nat.le_of_ble_eq_true rfl) (m_failsP hM _ _ _ _ _ _) ?_
    refine aw_iret dX10_text_23 rfl rfl ?_
    rw [hx]
    exact ⟨rfl, _, _, _, _, _, _, rfl⟩
  cases hc : wC b P 0 with
  | none =>
    rw [hc] at hpt0
    refine aw_if_eq (tgt := 24) dX10_text_6 (by decide) (fun z => absurd z (by decide)) (fun _ => ?_)
    refine aw_iload_n dX10_text_9 rfl rfl ?_
    refine aw_iconst (v := nI 1) dX10_text_10 (by decide) ?_
    refine aw_icmp_eq (tgt := 24) dX10_text_11 (by decide) (fun h2 => ?_) (fun h2 => ?_)
    · exact absurd h2 (by decide)
    · exact bad _ hpt0
  | some w =>
    rw [hc] at hpt0
    have h9 := wcode_lt hc
    have hrd0 : rdOf rd [] := fun j hj => by cases hj
    refine aw_z_eq (tgt := 24) dX10_text_6 (by decide) rfl (by omega) (fun h1 => ?_) (fun h1 => ?_)
    · subst h1
      refine aw_aload_n dX10_text_24 rfl rfl (by first | exact isR_ref _ | exact isR_rf _ | exact isR_null) ?_
      refine aw_dup dX10_text_25 rfl ?_
      refine aw_get dX10_text_26 fl_X10_116 (sM_kd hM) (sM_n hM) (show _ = Value.int (nI (wS b P 0)) from rfl) ?_
      refine aw_aload_n dX10_text_29 rfl rfl (by first | exact isR_ref _ | exact isR_rf _ | exact isR_null) ?_
      refine aw_get dX10_text_30 fl_X10_123 (sM_kd hM) (sM_n hM) (show _ = Value.int (nI (wE b P 0 - wS b P 0)) from rfl) ?_
      first | refine aw_iaddN dX10_text_33 ?_ | refine aw_iadd dX10_text_33 ?_
      refine aw_putI dX10_text_34 fl_X10_116 (Or.inl rfl) rfl (sM_kd hM) (sM_n hM) ?_
      rw [pS_nx, show wS b P 0 + (wE b P 0 - wS b P 0) = wE b P 0 by omega]
      refine aw_iload_n dX10_text_37 rfl rfl ?_
      refine aw_iconst (v := nI 1) dX10_text_38 (by decide) ?_
      refine aw_n_ne (tgt := 46) dX10_text_39 (by decide) rfl rfl (by omega) (by omega) (fun h2 => ?_) (fun h2 => ?_)
      · refine aw_iconst (v := nI 0) dX10_text_46 (by decide) ?_
        refine aw_istore_n (lv' := [(0, _), (1, _), (2, _)]) dX10_text_47 rfl (by decide) rfl ?_
        refine aw_iload_n dX10_text_48 rfl rfl ?_
        refine aw_z_eq (tgt := 95) dX10_text_49 (by decide) rfl (by omega) (fun h3 => ?_) (fun h3 => ?_)
        · exact ends (wE b P 0) (wE b P 0) [] _ _ _ [_, _] hw.2.2 hw.2.2 rfl hrd0 hpt0
        · exact absurd rfl h3
      · exact absurd h2 (by decide)
    · refine aw_iload_n dX10_text_9 rfl rfl ?_
      refine aw_iconst (v := nI 1) dX10_text_10 (by decide) ?_
      refine aw_n_eq (tgt := 24) dX10_text_11 (by decide) rfl rfl (by omega) (by omega) (fun h2 => ?_) (fun h2 => ?_)
      · subst h2
        refine aw_aload_n dX10_text_24 rfl rfl (by first | exact isR_ref _ | exact isR_rf _ | exact isR_null) ?_
        refine aw_dup dX10_text_25 rfl ?_
        refine aw_get dX10_text_26 fl_X10_116 (sM_kd hM) (sM_n hM) (show _ = Value.int (nI (wS b P 0)) from rfl) ?_
        refine aw_aload_n dX10_text_29 rfl rfl (by first | exact isR_ref _ | exact isR_rf _ | exact isR_null) ?_
        refine aw_get dX10_text_30 fl_X10_123 (sM_kd hM) (sM_n hM) (show _ = Value.int (nI (wE b P 0 - wS b P 0)) from rfl) ?_
        first | refine aw_iaddN dX10_text_33 ?_ | refine aw_iadd dX10_text_33 ?_
        refine aw_putI dX10_text_34 fl_X10_116 (Or.inl rfl) rfl (sM_kd hM) (sM_n hM) ?_
        rw [pS_nx, show wS b P 0 + (wE b P 0 - wS b P 0) = wE b P 0 by omega]
        refine aw_iload_n dX10_text_37 rfl rfl ?_
        refine aw_iconst (v := nI 1) dX10_text_38 (by decide) ?_
        refine aw_n_ne (tgt := 46) dX10_text_39 (by decide) rfl rfl (by omega) (by omega) (fun h3 => ?_) (fun h3 => ?_)
        · exact absurd rfl h3
        · refine aw_iconst (v := nI 1) dX10_text_42 (by decide) ?_
          refine aw_goto (tgt := 47) dX10_text_43 (by decide) ?_
          refine aw_istore_n (lv' := [(0, _), (1, _), (2, _)]) dX10_text_47 rfl (by decide) rfl ?_
          exact tests 5 (wE b P 0) [] _ _ _ _ hw.2.2 rfl (by decide) hrd0 hpt0
      · have hpt1 : pText b P = .inl (1 + 8 * wS b P 0) := by
          rw [hpt0]
          match w, h1, h2 with
          | 0, h1, _ => exact absurd rfl h1
          | 1, _, h2 => exact absurd rfl h2
          | w + 2, _, _ => rfl
        exact bad _ hpt1
end MOD18
