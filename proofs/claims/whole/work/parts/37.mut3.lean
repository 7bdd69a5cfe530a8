/-! ===== one state copied over another ===== -/
def ot_cp (I A : jv_I) (y y2 w : Nat) (P : Nat → Nat → Prop) : Prop := (∀ q, (q < y ∨ y + w < q) → A q = I q) ∧ ∀ j c, P j c → A (y + j) c = I (y2 + j) c
theorem ot_cp_0 {I : jv_I} {y y2 w : Nat} : ot_cp I I y y2 w (fun _ _ => False) := ⟨fun _ _ => rfl, fun _ _ h => h.elim⟩
theorem ot_cp_arr {I A : jv_I} {y y2 w j0 n : Nat} {P : Nat → Nat → Prop} (h : ot_cp I A y y2 w P) (hd : y + w < y2 ∨ y2 + w < y) (hj : j0 ≤ w) : ot_cp I (jv_pa A (y + j0) (va_cpy (A (y2 + j0)) (A (y + j0)) 0 0 n)) y y2 w (fun j c => P j c ∨ (j = j0 ∧ c < n)) := by
  refine ⟨fun q hq => ?_, fun j c hP => ?_⟩
  · show (if q = y + j0 then _ else A q) = I q
    rw [if_neg (by omega)]
    exact h.1 q hq
  · show (if y + j = y + j0 then _ else A (y + j)) c = _
    by_cases hjj : j = j0
    · subst hjj
      rw [if_pos rfl]
      unfold va_cpy
      by_cases hc : c < n
      · rw [if_pos ⟨by omega, by omega⟩, Nat.zero_add, Nat.sub_zero, h.1 (y2 + j) (by omega)]
      · rw [if_neg (by omega)]
        rcases hP with hP | hP
        · exact h.2 j c hP
        · exact absurd hP.2 hc
    · rw [if_neg (by omega)]
      rcases hP with hP | hP
      · exact h.2 j c hP
      · exact absurd hP.1 hjj
theorem ot_cp_int {I A : jv_I} {y y2 w k : Nat} {P : Nat → Nat → Prop} (h : ot_cp I A y y2 w P) (hd : y + w < y2 ∨ y2 + w < y) : ot_cp I (jv_up A y k (A y2 k)) y y2 w (fun j c => P j c ∨ (j = 0 ∧ c = k)) := by
  refine ⟨fun q hq => ?_, fun j c hP => ?_⟩
  · rw [jv_up_ne _ _ _ (by omega)]
    exact h.1 q hq
  · rw [jv_up_def]
    by_cases hj : j = 0
    · subst hj
      rw [Nat.add_zero, Nat.add_zero, if_pos rfl]
      by_cases hc : c = k
      · subst hc
        rw [if_pos rfl, h.1 y2 (by omega)]
      · rw [if_neg hc]
        rcases hP with hP | hP
        · have := h.2 0 c hP
          rw [Nat.add_zero, Nat.add_zero] at this
          exact this
        · exact absurd hP.2 hc
    · rw [if_neg (by omega)]
      rcases hP with hP | hP
      · exact h.2 j c hP
      · exact absurd hP.1 hj
set_option maxRecDepth 20000 in
theorem ot_takeOverM {G : jv_Gr} {I : jv_I} {J : jv_J} {y y2 : Nat} {Y : ot_Y} (hG : ot_YG G y) (hG2 : ot_YG G y2) (hR : ot_YR I y2 Y) (hW : ot_YW Y) (hd : y + 11 < y2 ∨ y2 + 11 < y) : ∃ I2, jv_C 1 mX3_takeOver [.ref y, .ref y2] G I J none G I2 J ∧ ot_YR I2 y Y ∧ ot_fr I I2 y (y + 11) := by
  have bn := yw_n hW
  have bc := yw_c hW
  have bw := yw_w hW
  obtain ⟨A1, e1⟩ : ∃ A, A = jv_up I y 0 (I y2 0) := ⟨_, rfl⟩
  have c1 := ot_cp_int (k := 0) (ot_cp_0 (I := I) (y := y) (y2 := y2) (w := 11)) hd
  rw [← e1] at c1
  obtain ⟨A2, e2⟩ : ∃ A, A = jv_pa A1 (y + 1) (va_cpy (A1 (y2 + 1)) (A1 (y + 1)) 0 0 14) := ⟨_, rfl⟩
  have c2 := ot_cp_arr (j0 := 1) (n := 14) c1 hd (by decide)
  rw [← e2] at c2
  obtain ⟨A3, e3⟩ : ∃ A, A = jv_pa A2 (y + 2) (va_cpy (A2 (y2 + 2)) (A2 (y + 2)) 0 0 14) := ⟨_, rfl⟩
  have c3 := ot_cp_arr (j0 := 2) (n := 14) c2 hd (by decide)
  rw [← e3] at c3
  obtain ⟨A4, e4⟩ : ∃ A, A = jv_pa A3 (y + 3) (va_cpy (A3 (y2 + 3)) (A3 (y + 3)) 0 0 14) := ⟨_, rfl⟩
  have c4 := ot_cp_arr (j0 := 3) (n := 14) c3 hd (by decide)
  rw [← e4] at c4
  obtain ⟨A5, e5⟩ : ∃ A, A = jv_pa A4 (y + 4) (va_cpy (A4 (y2 + 4)) (A4 (y + 4)) 0 0 14) := ⟨_, rfl⟩
  have c5 := ot_cp_arr (j0 := 4) (n := 14) c4 hd (by decide)
  rw [← e5] at c5
  obtain ⟨A6, e6⟩ : ∃ A, A = jv_up A5 y 5 (A5 y2 5) := ⟨_, rfl⟩
  have c6 := ot_cp_int (k := 5) (c5) hd
  rw [← e6] at c6
  obtain ⟨A7, e7⟩ : ∃ A, A = jv_pa A6 (y + 5) (va_cpy (A6 (y2 + 5)) (A6 (y + 5)) 0 0 6) := ⟨_, rfl⟩
  have c7 := ot_cp_arr (j0 := 5) (n := 6) c6 hd (by decide)
  rw [← e7] at c7
  obtain ⟨A8, e8⟩ : ∃ A, A = jv_pa A7 (y + 6) (va_cpy (A7 (y2 + 6)) (A7 (y + 6)) 0 0 6) := ⟨_, rfl⟩
  have c8 := ot_cp_arr (j0 := 6) (n := 6) c7 hd (by decide)
  rw [← e8] at c8
  obtain ⟨A9, e9⟩ : ∃ A, A = jv_pa A8 (y + 7) (va_cpy (A8 (y2 + 7)) (A8 (y + 7)) 0 0 6) := ⟨_, rfl⟩
  have c9 := ot_cp_arr (j0 := 7) (n := 6) c8 hd (by decide)
  rw [← e9] at c9
  obtain ⟨A10, e10⟩ : ∃ A, A = jv_up A9 y 9 (A9 y2 9) := ⟨_, rfl⟩
  have c10 := ot_cp_int (k := 9) (c9) hd
  rw [← e10] at c10
  obtain ⟨A11, e11⟩ : ∃ A, A = jv_pa A10 (y + 8) (va_cpy (A10 (y2 + 8)) (A10 (y + 8)) 0 0 20) := ⟨_, rfl⟩
  have c11 := ot_cp_arr (j0 := 8) (n := 20) c10 hd (by decide)
  rw [← e11] at c11
  obtain ⟨A12, e12⟩ : ∃ A, A = jv_pa A11 (y + 9) (va_cpy (A11 (y2 + 9)) (A11 (y + 9)) 0 0 20) := ⟨_, rfl⟩
  have c12 := ot_cp_arr (j0 := 9) (n := 20) c11 hd (by decide)
  rw [← e12] at c12
  obtain ⟨A13, e13⟩ : ∃ A, A = jv_pa A12 (y + 10) (va_cpy (A12 (y2 + 10)) (A12 (y + 10)) 0 0 20) := ⟨_, rfl⟩
  have c13 := ot_cp_arr (j0 := 10) (n := 20) c12 hd (by decide)
  rw [← e13] at c13
  obtain ⟨A14, e14⟩ : ∃ A, A = jv_pa A13 (y + 11) (va_cpy (A13 (y2 + 11)) (A13 (y + 11)) 0 0 20) := ⟨_, rfl⟩
  have c14 := ot_cp_arr (j0 := 11) (n := 20) c13 hd (by decide)
  rw [← e14] at c14
  obtain ⟨A15, e15⟩ : ∃ A, A = jv_up A14 y 14 (A14 y2 14) := ⟨_, rfl⟩
  have c15 := ot_cp_int (k := 14) (c14) hd
  rw [← e15] at c15
  refine ⟨A15, ?_, ?_, c15.1⟩
  · refine jv_enter okX3_takeOver (L := [.ref y, .ref y2]) rfl (Nat.le_of_ble_eq_true rfl) ?_
    refine jv_aload0 dX3_takeOver_0 ?_
    refine jv_aload1 dX3_takeOver_1 ?_
    refine jv_getI dX3_takeOver_2 flX3_9 rfl (yk hG2) rfl ?_
    refine jv_putI dX3_takeOver_5 flX3_9 rfl (yk hG) rfl rfl ?_
    rw [← e1]
    refine jv_aload1 dX3_takeOver_8 ?_
    refine jv_getR dX3_takeOver_9 flX3_15 rfl (yk hG2) (yr_strong hG2) ?_
    refine jv_iconst dX3_takeOver_12 jv_c_iconst_0 ?_
    refine jv_aload0 dX3_takeOver_13 ?_
    refine jv_getR dX3_takeOver_14 flX3_15 rfl (yk hG) (yr_strong hG) ?_
    refine jv_iconst dX3_takeOver_17 jv_c_iconst_0 ?_
    refine jv_bipush dX3_takeOver_18 jv_c_bipush_14 ?_
    refine jv_copyI dX3_takeOver_20 mlX3_58 nat_copy st_copy ini_sys (yk_strong hG2) (yk_strong hG) rfl rfl rfl (by decide) (by decide) (by decide) (by decide) (Nat.le_of_ble_eq_true rfl) (by decide) ?_
    rw [← e2]
    refine jv_aload1 dX3_takeOver_23 ?_
    refine jv_getR dX3_takeOver_24 flX3_19 rfl (yk hG2) (yr_step hG2) ?_
    refine jv_iconst dX3_takeOver_27 jv_c_iconst_0 ?_
    refine jv_aload0 dX3_takeOver_28 ?_
    refine jv_getR dX3_takeOver_29 flX3_19 rfl (yk hG) (yr_step hG) ?_
    refine jv_iconst dX3_takeOver_32 jv_c_iconst_0 ?_
    refine jv_bipush dX3_takeOver_33 jv_c_bipush_14 ?_
    refine jv_copyI dX3_takeOver_35 mlX3_58 nat_copy st_copy ini_sys (yk_step hG2) (yk_step hG) rfl rfl rfl (by decide) (by decide) (by decide) (by decide) (Nat.le_of_ble_eq_true rfl) (by decide) ?_
    rw [← e3]
    refine jv_aload1 dX3_takeOver_38 ?_
    refine jv_getR dX3_takeOver_39 flX3_22 rfl (yk hG2) (yr_where hG2) ?_
    refine jv_iconst dX3_takeOver_42 jv_c_iconst_0 ?_
    refine jv_aload0 dX3_takeOver_43 ?_
    refine jv_getR dX3_takeOver_44 flX3_22 rfl (yk hG) (yr_where hG) ?_
    refine jv_iconst dX3_takeOver_47 jv_c_iconst_0 ?_
    refine jv_bipush dX3_takeOver_48 jv_c_bipush_14 ?_
    refine jv_copyI dX3_takeOver_50 mlX3_58 nat_copy st_copy ini_sys (yk_where hG2) (yk_where hG) rfl rfl rfl (by decide) (by decide) (by decide) (by decide) (Nat.le_of_ble_eq_true rfl) (by decide) ?_
    rw [← e4]
    refine jv_aload1 dX3_takeOver_53 ?_
    refine jv_getR dX3_takeOver_54 flX3_25 rfl (yk hG2) (yr_who hG2) ?_
    refine jv_iconst dX3_takeOver_57 jv_c_iconst_0 ?_
    refine jv_aload0 dX3_takeOver_58 ?_
    refine jv_getR dX3_takeOver_59 flX3_25 rfl (yk hG) (yr_who hG) ?_
    refine jv_iconst dX3_takeOver_62 jv_c_iconst_0 ?_
    refine jv_bipush dX3_takeOver_63 jv_c_bipush_14 ?_
    refine jv_copyI dX3_takeOver_65 mlX3_58 nat_copy st_copy ini_sys (yk_who hG2) (yk_who hG) rfl rfl rfl (by decide) (by decide) (by decide) (by decide) (Nat.le_of_ble_eq_true rfl) (by decide) ?_
    rw [← e5]
    refine jv_aload0 dX3_takeOver_68 ?_
    refine jv_aload1 dX3_takeOver_69 ?_
    refine jv_getI dX3_takeOver_70 flX3_28 rfl (yk hG2) rfl ?_
    refine jv_putI dX3_takeOver_73 flX3_28 rfl (yk hG) rfl rfl ?_
    rw [← e6]
    refine jv_aload1 dX3_takeOver_76 ?_
    refine jv_getR dX3_takeOver_77 flX3_31 rfl (yk hG2) (yr_kinds hG2) ?_
    refine jv_iconst dX3_takeOver_80 jv_c_iconst_0 ?_
    refine jv_aload0 dX3_takeOver_81 ?_
    refine jv_getR dX3_takeOver_82 flX3_31 rfl (yk hG) (yr_kinds hG) ?_
    refine jv_iconst dX3_takeOver_85 jv_c_iconst_0 ?_
    refine jv_bipush dX3_takeOver_86 jv_c_bipush_6 ?_
    refine jv_copyI dX3_takeOver_88 mlX3_58 nat_copy st_copy ini_sys (yk_kinds hG2) (yk_kinds hG) rfl rfl rfl (by decide) (by decide) (by decide) (by decide) (Nat.le_of_ble_eq_true rfl) (by decide) ?_
    rw [← e7]
    refine jv_aload1 dX3_takeOver_91 ?_
    refine jv_getR dX3_takeOver_92 flX3_34 rfl (yk hG2) (yr_teams hG2) ?_
    refine jv_iconst dX3_takeOver_95 jv_c_iconst_0 ?_
    refine jv_aload0 dX3_takeOver_96 ?_
    refine jv_getR dX3_takeOver_97 flX3_34 rfl (yk hG) (yr_teams hG) ?_
    refine jv_iconst dX3_takeOver_100 jv_c_iconst_0 ?_
    refine jv_bipush dX3_takeOver_101 jv_c_bipush_6 ?_
    refine jv_copyI dX3_takeOver_103 mlX3_58 nat_copy st_copy ini_sys (yk_teams hG2) (yk_teams hG) rfl rfl rfl (by decide) (by decide) (by decide) (by decide) (Nat.le_of_ble_eq_true rfl) (by decide) ?_
    rw [← e8]
    refine jv_aload1 dX3_takeOver_106 ?_
    refine jv_getR dX3_takeOver_107 flX3_37 rfl (yk hG2) (yr_slips hG2) ?_
    refine jv_iconst dX3_takeOver_110 jv_c_iconst_0 ?_
    refine jv_aload0 dX3_takeOver_111 ?_
    refine jv_getR dX3_takeOver_112 flX3_37 rfl (yk hG) (yr_slips hG) ?_
    refine jv_iconst dX3_takeOver_115 jv_c_iconst_0 ?_
    refine jv_bipush dX3_takeOver_116 jv_c_bipush_6 ?_
    refine jv_copyI dX3_takeOver_118 mlX3_58 nat_copy st_copy ini_sys (yk_slips hG2) (yk_slips hG) rfl rfl rfl (by decide) (by decide) (by decide) (by decide) (Nat.le_of_ble_eq_true rfl) (by decide) ?_
    rw [← e9]
    refine jv_aload0 dX3_takeOver_121 ?_
    refine jv_aload1 dX3_takeOver_122 ?_
    refine jv_getI dX3_takeOver_123 flX3_40 rfl (yk hG2) rfl ?_
    refine jv_putI dX3_takeOver_126 flX3_40 rfl (yk hG) rfl rfl ?_
    rw [← e10]
    refine jv_aload1 dX3_takeOver_129 ?_
    refine jv_getR dX3_takeOver_130 flX3_43 rfl (yk hG2) (yr_firsts hG2) ?_
    refine jv_iconst dX3_takeOver_133 jv_c_iconst_0 ?_
    refine jv_aload0 dX3_takeOver_134 ?_
    refine jv_getR dX3_takeOver_135 flX3_43 rfl (yk hG) (yr_firsts hG) ?_
    refine jv_iconst dX3_takeOver_138 jv_c_iconst_0 ?_
    refine jv_bipush dX3_takeOver_139 jv_c_bipush_20 ?_
    refine jv_copyI dX3_takeOver_141 mlX3_58 nat_copy st_copy ini_sys (yk_firsts hG2) (yk_firsts hG) rfl rfl rfl (by decide) (by decide) (by decide) (by decide) (Nat.le_of_ble_eq_true rfl) (by decide) ?_
    rw [← e11]
    refine jv_aload1 dX3_takeOver_144 ?_
    refine jv_getR dX3_takeOver_145 flX3_46 rfl (yk hG2) (yr_seconds hG2) ?_
    refine jv_iconst dX3_takeOver_148 jv_c_iconst_0 ?_
    refine jv_aload0 dX3_takeOver_149 ?_
    refine jv_getR dX3_takeOver_150 flX3_46 rfl (yk hG) (yr_seconds hG) ?_
    refine jv_iconst dX3_takeOver_153 jv_c_iconst_0 ?_
    refine jv_bipush dX3_takeOver_154 jv_c_bipush_20 ?_
    refine jv_copyI dX3_takeOver_156 mlX3_58 nat_copy st_copy ini_sys (yk_seconds hG2) (yk_seconds hG) rfl rfl rfl (by decide) (by decide) (by decide) (by decide) (Nat.le_of_ble_eq_true rfl) (by decide) ?_
    rw [← e12]
    refine jv_aload1 dX3_takeOver_159 ?_
    refine jv_getR dX3_takeOver_160 flX3_49 rfl (yk hG2) (yr_together hG2) ?_
    refine jv_iconst dX3_takeOver_163 jv_c_iconst_0 ?_
    refine jv_aload0 dX3_takeOver_164 ?_
    refine jv_getR dX3_takeOver_165 flX3_49 rfl (yk hG) (yr_together hG) ?_
    refine jv_iconst dX3_takeOver_168 jv_c_iconst_0 ?_
    refine jv_bipush dX3_takeOver_169 jv_c_bipush_20 ?_
    refine jv_copyI dX3_takeOver_171 mlX3_58 nat_copy st_copy ini_sys (yk_together hG2) (yk_together hG) rfl rfl rfl (by decide) (by decide) (by decide) (by decide) (Nat.le_of_ble_eq_true rfl) (by decide) ?_
    rw [← e13]
    refine jv_aload1 dX3_takeOver_174 ?_
    refine jv_getR dX3_takeOver_175 flX3_52 rfl (yk hG2) (yr_worths hG2) ?_
    refine jv_iconst dX3_takeOver_178 jv_c_iconst_0 ?_
    refine jv_aload0 dX3_takeOver_179 ?_
    refine jv_getR dX3_takeOver_180 flX3_52 rfl (yk hG) (yr_worths hG) ?_
    refine jv_iconst dX3_takeOver_183 jv_c_iconst_0 ?_
    refine jv_bipush dX3_takeOver_184 jv_c_bipush_20 ?_
    refine jv_copyI dX3_takeOver_186 mlX3_58 nat_copy st_copy ini_sys (yk_worths hG2) (yk_worths hG) rfl rfl rfl (by decide) (by decide) (by decide) (by decide) (Nat.le_of_ble_eq_true rfl) (by decide) ?_
    rw [← e14]
    refine jv_aload0 dX3_takeOver_189 ?_
    refine jv_aload1 dX3_takeOver_190 ?_
    refine jv_getI dX3_takeOver_191 flX3_55 rfl (yk hG2) rfl ?_
    refine jv_putI dX3_takeOver_194 flX3_55 rfl (yk hG) rfl rfl ?_
    rw [← e15]
    exact jv_vret dX3_takeOver_197 rfl rfl rfl rfl
  · have g := c15.2
    have g0 := fun k h => g 0 k h
    simp only [Nat.add_zero] at g0
    obtain ⟨⟨r1, r2, r3, r4⟩, g1, g2, g3⟩ := hR
    refine ⟨⟨?_, ?_, ?_, ?_⟩, fun c hc => ?_, fun c hc => ?_, fun c hc => ?_⟩
    · rw [g0 0 (by simp)]; exact r1
    · rw [g0 5 (by simp)]; exact r2
    · rw [g0 9 (by simp)]; exact r3
    · rw [g0 14 (by simp)]; exact r4
    · have hp := (yw_child hW hc).2.2.2
      rw [g 1 c (by simp; omega), g 2 c (by simp; omega), g 3 c (by simp; omega), g 4 (Y 2 c) (by simp; omega)]
      exact g1 c hc
    · rw [g 5 c (by simp; omega), g 6 c (by simp; omega), g 7 c (by simp; omega)]
      exact g2 c hc
    · rw [g 8 c (by simp; omega), g 9 c (by simp; omega), g 10 c (by simp; omega), g 11 c (by simp; omega)]
      exact g3 c hc
def ot_pick (s n : Nat) : Nat := s / 65536 % n
theorem ot_next_lt (s : Nat) : ot_next s < 4294967296 := Nat.mod_lt _ (by decide)
theorem ot_ushr16 {s : Nat} (hs : s < 4294967296) : ((nI s).toUInt32 >>> ((nI 16).toUInt32 &&& Int32.toUInt32 31)).toInt32 = nI (s / 65536) := pk_ushrN (n := s) (by omega) (nI 16) 16 (by decide)
set_option maxRecDepth 20000 in
theorem ot_draw0 {G : jv_Gr} {I : jv_I} {J : jv_J} {y : Nat} {Y : ot_Y} (hG : ot_YG G y) (hR : ot_YR I y Y) (hW : ot_YW Y) {n : Nat} (hn : 0 < n) (hn2 : n < 100) : jv_C 1 mX3_draw [.ref y, .int (nI n)] G I J (some (.int (nI (ot_pick (ot_next (Y 10 3)) n)))) G (jv_up I y 14 (nI (ot_next (Y 10 3)))) J := by
  refine jv_enter okX3_draw (L := [.ref y, .int (nI n)]) rfl (Nat.le_of_ble_eq_true rfl) ?_
  have bn := yw_n hW
  have bc := yw_c hW
  have bw := yw_w hW
  refine jv_aload0 dX3_draw_0 ?_
  refine jv_aload0 dX3_draw_1 ?_
  refine jv_getI dX3_draw_2 flX3_55 rfl (yk hG) (yi_seed hR) ?_
  refine jv_ldc dX3_draw_5 (v := nI 1103515245) (show Cond.constant RX3 97 (nI 1103515245) ∈ lw_tg from cnX3_97) ?_
  refine jv_imul dX3_draw_7 ?_
  refine jv_sipush dX3_draw_8 jv_c_sipush_12345 ?_
  refine jv_iadd dX3_draw_11 ?_
  rw [ot_nextI]
  refine jv_putI dX3_draw_12 flX3_55 rfl (yk hG) rfl rfl ?_
  refine jv_iload1 dX3_draw_15 ?_
  refine jv_if_leN dX3_draw_16 (tgt := 31) (by decide) (by omega) (fun h16 => by omega) (fun h16 => ?_)
  refine jv_aload0 dX3_draw_19 ?_
  refine jv_getI dX3_draw_20 flX3_55 rfl (yk hG) (jv_up_at _ _ _ _) ?_
  refine jv_bipush dX3_draw_23 jv_c_bipush_16 ?_
  refine jv_iushr dX3_draw_25 (ot_ushr16 (ot_next_lt _)) ?_
  refine jv_iload1 dX3_draw_26 ?_
  refine jv_iremN dX3_draw_27 (by omega) (by have := ot_next_lt (Y 10 3); omega) (by omega) ?_
  refine jv_goto dX3_draw_28 (tgt := 32) (by decide) ?_
  exact jv_iret dX3_draw_32 rfl rfl rfl rfl rfl
theorem ot_YR_seed {I : jv_I} {y : Nat} {Y : ot_Y} (hR : ot_YR I y Y) (s : Nat) {v : Int32} (hv : v = nI s) : ot_YR (jv_up I y 14 v) y (ot_seed Y s) := by
  subst hv
  obtain ⟨⟨r1, r2, r3, r4⟩, g1, g2, g3⟩ := hR
  refine ⟨⟨?_, ?_, ?_, ?_⟩, fun c hc => ?_, fun c hc => ?_, fun c hc => ?_⟩
  · simpa [jv_up, ot_seed, ot_put, ot_set] using r1
  · simpa [jv_up, ot_seed, ot_put, ot_set] using r2
  · simpa [jv_up, ot_seed, ot_put, ot_set] using r3
  · simp [jv_up, ot_seed, ot_put, ot_set]
  · have := g1 c (by simpa [ot_seed, ot_put, ot_set] using hc)
    simpa [jv_up, ot_seed, ot_put, ot_set] using this
  · have := g2 c (by simpa [ot_seed, ot_put, ot_set] using hc)
    simpa [jv_up, ot_seed, ot_put, ot_set] using this
  · have := g3 c (by simpa [ot_seed, ot_put, ot_set] using hc)
    simpa [jv_up, ot_seed, ot_put, ot_set] using this
/-! ===== the last one goes ===== -/
def ot_fc (p : Nat → Bool) : Nat → Nat
  | 0 => 0
  | n + 1 => ot_fc p n + (if p n = true then 1 else 0)
def ot_ff (p : Nat → Bool) (f : Nat → Nat) : Nat → Nat → Nat
  | 0 => f
  | n + 1 => if p n = true then ot_set (ot_ff p f n) (ot_fc p n) (f n) else ot_ff p f n
theorem ot_fc_le (p : Nat → Bool) : ∀ n, ot_fc p n ≤ n
  | 0 => Nat.le_refl _
  | n + 1 => by
    have := ot_fc_le p n
    rw [ot_fc]
    split <;> omega
theorem ot_ff_ge (p : Nat → Bool) (f : Nat → Nat) : ∀ n j, ot_fc p n ≤ j → ot_ff p f n j = f j
  | 0, _, _ => rfl
  | n + 1, j, h => by
    rw [ot_fc] at h
    rw [ot_ff]
    by_cases hp : p n = true
    · rw [if_pos hp] at h ⊢
      unfold ot_set
      rw [if_neg (by omega)]
      exact ot_ff_ge p f n j (by omega)
    · rw [if_neg hp] at h ⊢
      exact ot_ff_ge p f n j (by omega)
theorem ot_ff_at (p : Nat → Bool) : ∀ n i, i < ot_fc p n → ∃ k, k < n ∧ p k = true ∧ ∀ f, ot_ff p f n i = f k
  | 0, _, h => absurd h (Nat.not_lt_zero _)
  | n + 1, i, h => by
    rw [ot_fc] at h
    by_cases hp : p n = true
    · rw [if_pos hp] at h
      by_cases hi : i = ot_fc p n
      · refine ⟨n, by omega, hp, fun f => ?_⟩
        rw [ot_ff, if_pos hp]
        unfold ot_set
        rw [if_pos hi]
      · obtain ⟨k, h1, h2, h3⟩ := ot_ff_at p n i (by omega)
        refine ⟨k, by omega, h2, fun f => ?_⟩
        rw [ot_ff, if_pos hp]
        unfold ot_set
        rw [if_neg hi]
        exact h3 f
    · rw [if_neg hp] at h
      obtain ⟨k, h1, h2, h3⟩ := ot_ff_at p n i (by omega)
      refine ⟨k, by omega, h2, fun f => ?_⟩
      rw [ot_ff, if_neg hp]
      exact h3 f
def ot_stay (Y : ot_Y) (c i : Nat) : Bool := decide (¬ Y 6 i = c ∧ ¬ Y 7 i = c)
def ot_leave (Y : ot_Y) : ot_Y := fun j i => if j = 10 ∧ i = 0 then Y 10 0 - 1 else if j = 10 ∧ i = 2 then ot_fc (ot_stay Y (Y 10 0 - 1)) (Y 10 2) else if j = 2 then ot_moveF (Y 2) (Y 10 0 - 1) (Y 10 0 - 1) i else if 6 ≤ j ∧ j ≤ 9 then ot_ff (ot_stay Y (Y 10 0 - 1)) (Y j) (Y 10 2) i else Y j i
theorem ot_YW_leave {Y : ot_Y} (hW : ot_YW Y) (h0 : 0 < Y 10 0) : ot_YW (ot_leave Y) := by
  have hm := ot_YW_move hW (show Y 10 0 - 1 < Y 10 0 by omega) (show Y 10 0 - 1 < Y 10 0 by omega)
  have n1 : ot_leave Y 10 0 = Y 10 0 - 1 := by simp [ot_leave]
  have n2 : ot_leave Y 10 1 = Y 10 1 := by simp [ot_leave]
  have n3 : ot_leave Y 10 2 = ot_fc (ot_stay Y (Y 10 0 - 1)) (Y 10 2) := by simp [ot_leave]
  have l3 := ot_fc_le (ot_stay Y (Y 10 0 - 1)) (Y 10 2)
  obtain ⟨⟨a1, a2, a3⟩, b, c, e, f⟩ := hW
  have hpl : ∀ i, i < Y 10 0 - 1 → ot_moveF (Y 2) (Y 10 0 - 1) (Y 10 0 - 1) i < Y 10 0 - 1 := fun i hi => by
    have h1 : ot_moveF (Y 2) (Y 10 0 - 1) (Y 10 0 - 1) i < Y 10 0 := (yw_child hm (show i < ot_move Y (Y 10 0 - 1) (Y 10 0 - 1) 10 0 from (by show i < Y 10 0; omega))).2.2.2
    have h2 : ot_moveF (Y 2) (Y 10 0 - 1) (Y 10 0 - 1) i ≠ Y 10 0 - 1 := fun z => by
      have := yw_inj hm (c := i) (e := Y 10 0 - 1) (show i < Y 10 0 by omega) (show Y 10 0 - 1 < Y 10 0 by omega) (by show ot_moveF (Y 2) _ _ i = ot_moveF (Y 2) _ _ (Y 10 0 - 1); rw [z, ot_moveF_self])
      omega
    omega
  refine ⟨⟨by omega, by omega, by omega⟩, fun i hi => ?_, fun i j hi hj q => ?_, fun i hi => ?_, fun i hi => ?_⟩
  · rw [n1] at hi ⊢
    have h1 := b i (by omega)
    have h2 := hpl i hi
    simp [ot_leave]
    omega
  · rw [n1] at hi hj
    have q' : ot_moveF (Y 2) (Y 10 0 - 1) (Y 10 0 - 1) i = ot_moveF (Y 2) (Y 10 0 - 1) (Y 10 0 - 1) j := by simpa [ot_leave] using q
    exact yw_inj hm (show i < Y 10 0 by omega) (show j < Y 10 0 by omega) q'
  · rw [n2] at hi
    have := e i hi
    simpa [ot_leave] using this
  · rw [n3] at hi
    rw [n1]
    obtain ⟨k, k1, k2, k3⟩ := ot_ff_at _ _ _ hi
    have := f k k1
    have k2' : ¬ Y 6 k = Y 10 0 - 1 ∧ ¬ Y 7 k = Y 10 0 - 1 := by simpa [ot_stay] using k2
    simp [ot_leave, k3]
    omega
set_option maxRecDepth 20000 in
theorem ot_dropLastM {G : jv_Gr} {I : jv_I} {J : jv_J} {y : Nat} {Y : ot_Y} (hG : ot_YG G y) (hR : ot_YR I y Y) (hW : ot_YW Y) (h0 : 0 < Y 10 0) : ∃ I2, jv_C 3 mX3_dropLast [.ref y] G I J none G I2 J ∧ ot_YR I2 y (ot_leave Y) ∧ ot_fr I I2 y (y + 11) := by
  have bn := yw_n hW
  have bc := yw_c hW
  have bw := yw_w hW
  obtain ⟨Is, hCs, hRs, hFs⟩ := ot_shiftM (J := J) hG hR hW (c := Y 10 0 - 1) (t := Y 10 0 - 1) (by omega) (by omega)
  have loop : ∀ (n i : Nat) (A : jv_I), Y 10 2 + 1 ≤ i + n → i ≤ Y 10 2 → A y 9 = nI (Y 10 2) → (∀ j, j < Y 10 2 → A (y + 8) j = nI (ot_ff (ot_stay Y (Y 10 0 - 1)) (Y 6) i j) ∧ A (y + 9) j = nI (ot_ff (ot_stay Y (Y 10 0 - 1)) (Y 7) i j) ∧ A (y + 10) j = nI (ot_ff (ot_stay Y (Y 10 0 - 1)) (Y 8) i j) ∧ A (y + 11) j = nI (ot_ff (ot_stay Y (Y 10 0 - 1)) (Y 9) i j)) → (∀ q, q ≠ y + 8 → q ≠ y + 9 → q ≠ y + 10 → q ≠ y + 11 → A q = jv_up Is y 0 (nI (Y 10 0 - 1)) q) → ∃ I2, jv_V 3 mX3_dropLast 22 [.ref y, .int (nI (Y 10 0 - 1)), .int (nI (ot_fc (ot_stay Y (Y 10 0 - 1)) i)), .int (nI i)] [] G A J none G I2 J ∧ ot_YR I2 y (ot_leave Y) ∧ ot_fr I I2 y (y + 11) := by
    intro n
    induction n with
    | zero => intro i A b1 b2; omega
    | succ n ih =>
      intro i A b1 b2 hw hv hF
      have fl := ot_fc_le (ot_stay Y (Y 10 0 - 1)) i
      by_cases hi : i < Y 10 2
      · by_cases hp : ¬ Y 6 i = Y 10 0 - 1 ∧ ¬ Y 7 i = Y 10 0 - 1
        · have hp2 : (ot_stay Y (Y 10 0 - 1)) i = true := by simpa [ot_stay] using hp
          have qi := yw_wish hW hi
          obtain ⟨I2, hV, hR2, hF2⟩ := ih (i + 1) (jv_up (jv_up (jv_up (jv_up A (y + 8) (ot_fc (ot_stay Y (Y 10 0 - 1)) i) (nI (Y 6 i))) (y + 9) (ot_fc (ot_stay Y (Y 10 0 - 1)) i) (nI (Y 7 i))) (y + 10) (ot_fc (ot_stay Y (Y 10 0 - 1)) i) (nI (Y 8 i))) (y + 11) (ot_fc (ot_stay Y (Y 10 0 - 1)) i) (nI (Y 9 i))) (by omega) (by omega) (by rw [jv_up_ne _ _ _ (by omega), jv_up_ne _ _ _ (by omega), jv_up_ne _ _ _ (by omega), jv_up_ne _ _ _ (by omega)]; exact hw) (fun j hj => by
            have := hv j hj
            rw [ot_ff, if_pos hp2, ot_ff, if_pos hp2, ot_ff, if_pos hp2, ot_ff, if_pos hp2]
            unfold ot_set
            by_cases hjf : j = ot_fc (ot_stay Y (Y 10 0 - 1)) i
            · simp [jv_up, hjf]
            · simpa [jv_up, hjf] using this) (fun q q1 q2 q3 q4 => by rw [jv_up_ne _ _ _ q4, jv_up_ne _ _ _ q3, jv_up_ne _ _ _ q2, jv_up_ne _ _ _ q1]; exact hF q q1 q2 q3 q4)
          refine ⟨I2, ?_, hR2, hF2⟩
          refine jv_iload3 dX3_dropLast_22 ?_
          refine jv_aload0 dX3_dropLast_23 ?_
          refine jv_getI dX3_dropLast_24 flX3_40 rfl (yk hG) hw ?_
          refine jv_icmp_geN dX3_dropLast_27 (tgt := 107) (by decide) (by omega) (by omega) (fun h27 => by omega) (fun h27 => ?_)
          refine jv_aload0 dX3_dropLast_30 ?_
          refine jv_getR dX3_dropLast_31 flX3_43 rfl (yk hG) (yr_firsts hG) ?_
          refine jv_iload3 dX3_dropLast_34 ?_
          refine jv_ialdN dX3_dropLast_35 (yk_firsts hG) (by omega) (by decide) (hv i (by omega)).1 ?_
          rw [ot_ff_ge _ _ _ _ fl]
          refine jv_iload1 dX3_dropLast_36 ?_
          refine jv_icmp_eqN dX3_dropLast_37 (tgt := 101) (by decide) (by omega) (by omega) (fun h37 => absurd h37 hp.1) (fun h37 => ?_)
          refine jv_aload0 dX3_dropLast_40 ?_
          refine jv_getR dX3_dropLast_41 flX3_46 rfl (yk hG) (yr_seconds hG) ?_
          refine jv_iload3 dX3_dropLast_44 ?_
          refine jv_ialdN dX3_dropLast_45 (yk_seconds hG) (by omega) (by decide) (hv i (by omega)).2.1 ?_
          rw [ot_ff_ge _ _ _ _ fl]
          refine jv_iload1 dX3_dropLast_46 ?_
          refine jv_icmp_eqN dX3_dropLast_47 (tgt := 101) (by decide) (by omega) (by omega) (fun h47 => absurd h47 hp.2) (fun h47 => ?_)
          refine jv_aload0 dX3_dropLast_50 ?_
          refine jv_getR dX3_dropLast_51 flX3_43 rfl (yk hG) (yr_firsts hG) ?_
          refine jv_iload2 dX3_dropLast_54 ?_
          refine jv_aload0 dX3_dropLast_55 ?_
          refine jv_getR dX3_dropLast_56 flX3_43 rfl (yk hG) (yr_firsts hG) ?_
          refine jv_iload3 dX3_dropLast_59 ?_
          refine jv_ialdN dX3_dropLast_60 (yk_firsts hG) (by omega) (by decide) (hv i (by omega)).1 ?_
          rw [ot_ff_ge _ _ _ _ fl]
          refine jv_iastN dX3_dropLast_61 (yk_firsts hG) (by omega) (by decide) ?_
          refine jv_aload0 dX3_dropLast_62 ?_
          refine jv_getR dX3_dropLast_63 flX3_46 rfl (yk hG) (yr_seconds hG) ?_
          refine jv_iload2 dX3_dropLast_66 ?_
          refine jv_aload0 dX3_dropLast_67 ?_
          refine jv_getR dX3_dropLast_68 flX3_46 rfl (yk hG) (yr_seconds hG) ?_
          refine jv_iload3 dX3_dropLast_71 ?_
          refine jv_ialdN dX3_dropLast_72 (yk_seconds hG) (by omega) (by decide) ((congrFun (jv_up_ne _ _ _ (by omega)) i).trans (hv i (by omega)).2.1) ?_
          rw [ot_ff_ge _ _ _ _ fl]
          refine jv_iastN dX3_dropLast_73 (yk_seconds hG) (by omega) (by decide) ?_
          refine jv_aload0 dX3_dropLast_74 ?_
          refine jv_getR dX3_dropLast_75 flX3_49 rfl (yk hG) (yr_together hG) ?_
          refine jv_iload2 dX3_dropLast_78 ?_
          refine jv_aload0 dX3_dropLast_79 ?_
          refine jv_getR dX3_dropLast_80 flX3_49 rfl (yk hG) (yr_together hG) ?_
          refine jv_iload3 dX3_dropLast_83 ?_
          refine jv_ialdN dX3_dropLast_84 (yk_together hG) (by omega) (by decide) ((congrFun ((jv_up_ne _ _ _ (by omega)).trans (jv_up_ne _ _ _ (by omega))) i).trans (hv i (by omega)).2.2.1) ?_
          rw [ot_ff_ge _ _ _ _ fl]
          refine jv_iastN dX3_dropLast_85 (yk_together hG) (by omega) (by decide) ?_
          refine jv_aload0 dX3_dropLast_86 ?_
          refine jv_getR dX3_dropLast_87 flX3_52 rfl (yk hG) (yr_worths hG) ?_
          refine jv_iload2 dX3_dropLast_90 ?_
          refine jv_aload0 dX3_dropLast_91 ?_
          refine jv_getR dX3_dropLast_92 flX3_52 rfl (yk hG) (yr_worths hG) ?_
          refine jv_iload3 dX3_dropLast_95 ?_
          refine jv_ialdN dX3_dropLast_96 (yk_worths hG) (by omega) (by decide) ((congrFun (((jv_up_ne _ _ _ (by omega)).trans (jv_up_ne _ _ _ (by omega))).trans (jv_up_ne _ _ _ (by omega))) i).trans (hv i (by omega)).2.2.2) ?_
          rw [ot_ff_ge _ _ _ _ fl]
          refine jv_iastN dX3_dropLast_97 (yk_worths hG) (by omega) (by decide) ?_
          refine jv_iinc2N dX3_dropLast_98 rfl ?_
          rw [show ot_fc (ot_stay Y (Y 10 0 - 1)) i + 1 = ot_fc (ot_stay Y (Y 10 0 - 1)) (i + 1) by rw [ot_fc, if_pos hp2]]
          refine jv_iinc3N dX3_dropLast_101 rfl ?_
          refine jv_goto dX3_dropLast_104 (tgt := 22) (by decide) ?_
          exact hV
        · have hp2 : ¬ (ot_stay Y (Y 10 0 - 1)) i = true := fun z => hp (by simpa [ot_stay] using z)
          have qi := yw_wish hW hi
          obtain ⟨I2, hV, hR2, hF2⟩ := ih (i + 1) A (by omega) (by omega) hw (fun j hj => by
            have := hv j hj
            rw [ot_ff, if_neg hp2, ot_ff, if_neg hp2, ot_ff, if_neg hp2, ot_ff, if_neg hp2]
            exact this) hF
          refine ⟨I2, ?_, hR2, hF2⟩
          refine jv_iload3 dX3_dropLast_22 ?_
          refine jv_aload0 dX3_dropLast_23 ?_
          refine jv_getI dX3_dropLast_24 flX3_40 rfl (yk hG) hw ?_
          refine jv_icmp_geN dX3_dropLast_27 (tgt := 107) (by decide) (by omega) (by omega) (fun h27 => by omega) (fun h27 => ?_)
          refine jv_aload0 dX3_dropLast_30 ?_
          refine jv_getR dX3_dropLast_31 flX3_43 rfl (yk hG) (yr_firsts hG) ?_
          refine jv_iload3 dX3_dropLast_34 ?_
          refine jv_ialdN dX3_dropLast_35 (yk_firsts hG) (by omega) (by decide) (hv i (by omega)).1 ?_
          rw [ot_ff_ge _ _ _ _ fl]
          refine jv_iload1 dX3_dropLast_36 ?_
          refine jv_icmp_eqN dX3_dropLast_37 (tgt := 101) (by decide) (by omega) (by omega) (fun h37 => ?_) (fun h37 => ?_)
          · refine jv_iinc3N dX3_dropLast_101 rfl ?_
            refine jv_goto dX3_dropLast_104 (tgt := 22) (by decide) ?_
            rw [show ot_fc (ot_stay Y (Y 10 0 - 1)) i = ot_fc (ot_stay Y (Y 10 0 - 1)) (i + 1) by rw [ot_fc, if_neg hp2]; rfl]
            exact hV
          · refine jv_aload0 dX3_dropLast_40 ?_
            refine jv_getR dX3_dropLast_41 flX3_46 rfl (yk hG) (yr_seconds hG) ?_
            refine jv_iload3 dX3_dropLast_44 ?_
            refine jv_ialdN dX3_dropLast_45 (yk_seconds hG) (by omega) (by decide) (hv i (by omega)).2.1 ?_
            rw [ot_ff_ge _ _ _ _ fl]
            refine jv_iload1 dX3_dropLast_46 ?_
            refine jv_icmp_eqN dX3_dropLast_47 (tgt := 101) (by decide) (by omega) (by omega) (fun h47 => ?_) (fun h47 => absurd ⟨h37, h47⟩ hp)
            refine jv_iinc3N dX3_dropLast_101 rfl ?_
            refine jv_goto dX3_dropLast_104 (tgt := 22) (by decide) ?_
            rw [show ot_fc (ot_stay Y (Y 10 0 - 1)) i = ot_fc (ot_stay Y (Y 10 0 - 1)) (i + 1) by rw [ot_fc, if_neg hp2]; rfl]
            exact hV
      · have ei : i = Y 10 2 := by omega
        subst ei
        refine ⟨jv_up A y 9 (nI (ot_fc (ot_stay Y (Y 10 0 - 1)) (Y 10 2))), ?_, ?_, fun q hq => ?_⟩
        · refine jv_iload3 dX3_dropLast_22 ?_
          refine jv_aload0 dX3_dropLast_23 ?_
          refine jv_getI dX3_dropLast_24 flX3_40 rfl (yk hG) hw ?_
          refine jv_icmp_geN dX3_dropLast_27 (tgt := 107) (by decide) (by omega) (by omega) (fun h27 => ?_) (fun h27 => by omega)
          refine jv_aload0 dX3_dropLast_107 ?_
          refine jv_iload2 dX3_dropLast_108 ?_
          refine jv_putI dX3_dropLast_109 flX3_40 rfl (yk hG) rfl rfl ?_
          exact jv_vret dX3_dropLast_112 rfl rfl rfl rfl
        · have fl2 := ot_fc_le (ot_stay Y (Y 10 0 - 1)) (Y 10 2)
          have e : ∀ q, q ≠ y → q ≠ y + 8 → q ≠ y + 9 → q ≠ y + 10 → q ≠ y + 11 → jv_up A y 9 (nI (ot_fc (ot_stay Y (Y 10 0 - 1)) (Y 10 2))) q = Is q := fun q q0 q1 q2 q3 q4 => by
            rw [jv_up_ne _ _ _ q0, hF q q1 q2 q3 q4, jv_up_ne _ _ _ q0]
          have e0 : ∀ k, k ≠ 9 → k ≠ 0 → jv_up A y 9 (nI (ot_fc (ot_stay Y (Y 10 0 - 1)) (Y 10 2))) y k = Is y k := fun k k1 k2 => by
            rw [jv_up_at_ne _ _ _ k1, hF y (by omega) (by omega) (by omega) (by omega), jv_up_at_ne _ _ _ k2]
          obtain ⟨⟨r1, r2, r3, r4⟩, g1, g2, g3⟩ := hRs
          have n1 : ot_leave Y 10 0 = Y 10 0 - 1 := by simp [ot_leave]
          have n3 : ot_leave Y 10 2 = ot_fc (ot_stay Y (Y 10 0 - 1)) (Y 10 2) := by simp [ot_leave]
          refine ⟨⟨?_, ?_, ?_, ?_⟩, fun c hc => ?_, fun c hc => ?_, fun c hc => ?_⟩
          · rw [n1, jv_up_at_ne _ _ _ (by omega), hF y (by omega) (by omega) (by omega) (by omega), jv_up_at]
          · rw [e0 5 (by omega) (by omega)]
            simpa [ot_leave, ot_move, ot_put] using r2
          · rw [n3, jv_up_at]
          · rw [e0 14 (by omega) (by omega)]
            simpa [ot_leave, ot_move, ot_put] using r4
          · rw [n1] at hc
            have := g1 c (show c < Y 10 0 by omega)
            rw [e (y + 1) (by omega) (by omega) (by omega) (by omega) (by omega), e (y + 2) (by omega) (by omega) (by omega) (by omega) (by omega), e (y + 3) (by omega) (by omega) (by omega) (by omega) (by omega), e (y + 4) (by omega) (by omega) (by omega) (by omega) (by omega)]
            simpa [ot_leave, ot_move, ot_put] using this
          · have := g2 c (by simpa [ot_leave, ot_move, ot_put] using hc)
            rw [e (y + 5) (by omega) (by omega) (by omega) (by omega) (by omega), e (y + 6) (by omega) (by omega) (by omega) (by omega) (by omega), e (y + 7) (by omega) (by omega) (by omega) (by omega) (by omega)]
            simpa [ot_leave, ot_move, ot_put] using this
          · rw [n3] at hc
            have := hv c (by omega)
            rw [jv_up_ne _ _ _ (by omega), jv_up_ne _ _ _ (by omega), jv_up_ne _ _ _ (by omega), jv_up_ne _ _ _ (by omega)]
            simpa [ot_leave] using this
        · rw [jv_up_ne _ _ _ (by omega), hF q (by omega) (by omega) (by omega) (by omega), jv_up_ne _ _ _ (by omega)]
          exact hFs q (by omega) (by omega)
  obtain ⟨⟨r1, r2, r3, r4⟩, g1, g2, g3⟩ := id hRs
  obtain ⟨I2, hV, hR2, hF2⟩ := loop (Y 10 2 + 1) 0 (jv_up Is y 0 (nI (Y 10 0 - 1))) (by omega) (by omega) (by rw [jv_up_at_ne _ _ _ (by omega)]; exact r3) (fun j hj => by
    have := g3 j hj
    rw [jv_up_ne _ _ _ (by omega), jv_up_ne _ _ _ (by omega), jv_up_ne _ _ _ (by omega), jv_up_ne _ _ _ (by omega)]
    exact this) (fun _ _ _ _ _ => rfl)
  refine ⟨I2, ?_, hR2, hF2⟩
  refine jv_enter okX3_dropLast (L := [.ref y, .null, .null, .null]) rfl (Nat.le_of_ble_eq_true rfl) ?_
  refine jv_aload0 dX3_dropLast_0 ?_
  refine jv_getI dX3_dropLast_1 flX3_9 rfl (yk hG) (yi_children hR) ?_
  refine jv_iconst dX3_dropLast_4 jv_c_iconst_1 ?_
  refine jv_isubN dX3_dropLast_5 (by omega) ?_
  refine jv_istore1 dX3_dropLast_6 rfl ?_
  refine jv_aload0 dX3_dropLast_7 ?_
  refine jv_iload1 dX3_dropLast_8 ?_
  refine jv_iload1 dX3_dropLast_9 ?_
  refine jv_v20 dX3_dropLast_10 okX3_shift inX3_shift seX3_shift mlX3_79 (ci := 3) (T := TX3) (N := 15) rfl (yk hG) hCs (by decide) (Nat.le_of_ble_eq_true rfl) ?_
  refine jv_aload0 dX3_dropLast_13 ?_
  refine jv_iload1 dX3_dropLast_14 ?_
  refine jv_putI dX3_dropLast_15 flX3_9 rfl (yk hG) rfl rfl ?_
  refine jv_iconst dX3_dropLast_18 jv_c_iconst_0 ?_
  refine jv_istore2 dX3_dropLast_19 rfl ?_
  refine jv_iconst dX3_dropLast_20 jv_c_iconst_0 ?_
  refine jv_istore3 dX3_dropLast_21 rfl ?_
  exact hV
