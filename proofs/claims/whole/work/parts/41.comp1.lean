/-! ===== the component: shelves read, refusals, and what the face leans on ===== -/
section OTT
variable {Y Z : ot_Y} {s : Nat}
theorem ot_thing_0 (h : Z 0 s = 0) : ot_thing Z s = -1 := if_pos h
theorem ot_thing_1 (h : Z 0 s = 1) : ot_thing Z s = nI (Z 1 s) := by unfold ot_thing; rw [if_neg (by omega), if_pos h]
theorem ot_thing_2 (h : Z 0 s = 2) : ot_thing Z s = nI (10 + Z 3 s) := by unfold ot_thing; rw [if_neg (by omega), if_neg (by omega)]
theorem ot_thing_row (hZ : ot_ZW Y Z) (hW : ot_YW Y) (hs : s < 8) : (nI 0 ≤ ot_thing Z s ∧ ot_thing Z s ≤ nI 4) ↔ Z 0 s = 1 := by
  have bc := yw_c hW
  obtain ⟨z1, z2, z3⟩ := hZ.1 s hs
  rcases (show Z 0 s = 0 ∨ Z 0 s = 1 ∨ Z 0 s = 2 by omega) with e | e | e
  · rw [ot_thing_0 e]
    constructor
    · intro q; exact absurd q.1 (by decide)
    · intro q; omega
  · rw [ot_thing_1 e, nI_leI (by decide) (by omega), nI_leI (by omega) (by decide)]
    omega
  · rw [ot_thing_2 e, nI_leI (by decide) (by omega), nI_leI (by omega) (by decide)]
    omega
theorem ot_thing_count (hZ : ot_ZW Y Z) (hW : ot_YW Y) (hs : s < 8) : ¬ ot_thing Z s < nI 10 ↔ Z 0 s = 2 := by
  have bc := yw_c hW
  obtain ⟨z1, z2, z3⟩ := hZ.1 s hs
  rcases (show Z 0 s = 0 ∨ Z 0 s = 1 ∨ Z 0 s = 2 by omega) with e | e | e
  · rw [ot_thing_0 e]
    constructor
    · intro q; exact absurd (by decide) q
    · intro q; omega
  · rw [ot_thing_1 e, nI_ltI (by omega) (by decide)]
    omega
  · rw [ot_thing_2 e, nI_ltI (by omega) (by decide)]
    omega
end OTT
set_option linter.unusedVariables false in
set_option maxRecDepth 20000 in
theorem oc_isRow {G : jv_Gr} {I : jv_I} {J : jv_J} {Y Z : ot_Y} {E : ot_E} {K : Option ot_Y} (h : ot_C G I J Y Z E K) {s : Nat} (hs : s < 8) : jv_C 2 mX1_isRow [.ref (48 + 2 * s)] G I J (some (.int (jv_b (Z 0 s = 1)))) G I J := by
  refine jv_enter okX1_isRow (L := [.ref (48 + 2 * s)]) rfl (Nat.le_of_ble_eq_true rfl) ?_
  refine jv_aload0 dX1_isRow_0 ?_
  refine jv_getI dX1_isRow_1 flX1_9 rfl (sk h.g hs) (si_thing h.s hs) ?_
  refine jv_iconst dX1_isRow_4 jv_c_iconst_0 ?_
  refine jv_iconst dX1_isRow_5 jv_c_iconst_4 ?_
  refine jv_sn31 dX1_isRow_6 okX4_within stX4_within nlX1_22 (ot_within (ot_thing Z s) (nI 0) (nI 4)) (by decide) (Nat.le_of_ble_eq_true rfl) ?_
  exact jv_iret dX1_isRow_9 rfl jv_b_n (jv_b_iff (ot_thing_row h.z h.w hs)) rfl rfl
set_option maxRecDepth 20000 in
theorem oc_isCount {G : jv_Gr} {I : jv_I} {J : jv_J} {Y Z : ot_Y} {E : ot_E} {K : Option ot_Y} (h : ot_C G I J Y Z E K) {s : Nat} (hs : s < 8) : jv_C 1 mX1_isCount [.ref (48 + 2 * s)] G I J (some (.int (jv_b (Z 0 s = 2)))) G I J := by
  refine jv_enter okX1_isCount (L := [.ref (48 + 2 * s)]) rfl (Nat.le_of_ble_eq_true rfl) ?_
  refine jv_aload0 dX1_isCount_0 ?_
  refine jv_getI dX1_isCount_1 flX1_9 rfl (sk h.g hs) (si_thing h.s hs) ?_
  refine jv_bipush dX1_isCount_4 jv_c_bipush_10 ?_
  refine jv_icmp_lt dX1_isCount_6 (tgt := 13) (by decide) (fun h6 => ?_) (fun h6 => ?_)
  · refine jv_iconst dX1_isCount_13 jv_c_iconst_0 ?_
    exact jv_iret dX1_isCount_14 rfl (by decide) (ot_b0 (fun q => (ot_thing_count h.z h.w hs).mpr q h6)) rfl rfl
  · refine jv_iconst dX1_isCount_9 jv_c_iconst_1 ?_
    refine jv_goto dX1_isCount_10 (tgt := 14) (by decide) ?_
    exact jv_iret dX1_isCount_14 rfl (by decide) (ot_b1 ((ot_thing_count h.z h.w hs).mp h6)) rfl rfl
set_option maxRecDepth 20000 in
theorem oc_countNumber {G : jv_Gr} {I : jv_I} {J : jv_J} {Y Z : ot_Y} {E : ot_E} {K : Option ot_Y} (h : ot_C G I J Y Z E K) {s : Nat} (hs : s < 8) (h2 : Z 0 s = 2) : jv_C 2 mX1_countNumber [.ref (48 + 2 * s)] G I J (some (.int (nI (Z 3 s)))) G I J := by
  refine jv_enter okX1_countNumber (L := [.ref (48 + 2 * s)]) rfl (Nat.le_of_ble_eq_true rfl) ?_
  refine jv_aload0 dX1_countNumber_0 ?_
  refine jv_v01 dX1_countNumber_1 okX1_isCount inX1_isCount seX1_isCount mlX1_26 (ci := 1) (T := TX1) (N := 3) rfl (sk h.g hs) (oc_isCount h hs) (by decide) (Nat.le_of_ble_eq_true rfl) ?_
  refine jv_if_eqB dX1_countNumber_4 (tgt := 17) (by decide) (fun h4 => absurd h2 h4) (fun h4 => ?_)
  refine jv_aload0 dX1_countNumber_7 ?_
  refine jv_getI dX1_countNumber_8 flX1_9 rfl (sk h.g hs) ((si_thing h.s hs).trans (ot_thing_2 h2)) ?_
  refine jv_bipush dX1_countNumber_11 jv_c_bipush_10 ?_
  refine jv_isubN dX1_countNumber_13 (by omega) ?_
  refine jv_goto dX1_countNumber_14 (tgt := 18) (by decide) ?_
  exact jv_iret dX1_countNumber_18 rfl rfl (by rw [Nat.add_sub_cancel_left]) rfl rfl
set_option maxRecDepth 20000 in
theorem oc_countNone {G : jv_Gr} {I : jv_I} {J : jv_J} {Y Z : ot_Y} {E : ot_E} {K : Option ot_Y} (h : ot_C G I J Y Z E K) {s : Nat} (hs : s < 8) (h2 : Z 0 s ≠ 2) : jv_C 2 mX1_countNumber [.ref (48 + 2 * s)] G I J (some (.int (-1))) G I J := by
  refine jv_enter okX1_countNumber (L := [.ref (48 + 2 * s)]) rfl (Nat.le_of_ble_eq_true rfl) ?_
  refine jv_aload0 dX1_countNumber_0 ?_
  refine jv_v01 dX1_countNumber_1 okX1_isCount inX1_isCount seX1_isCount mlX1_26 (ci := 1) (T := TX1) (N := 3) rfl (sk h.g hs) (oc_isCount h hs) (by decide) (Nat.le_of_ble_eq_true rfl) ?_
  refine jv_if_eqB dX1_countNumber_4 (tgt := 17) (by decide) (fun h4 => ?_) (fun h4 => absurd h4 h2)
  refine jv_iconst dX1_countNumber_17 jv_c_iconst_m1 ?_
  exact jv_iret dX1_countNumber_18 rfl rfl rfl rfl rfl
set_option maxRecDepth 20000 in
theorem oc_hasElement {G : jv_Gr} {I : jv_I} {J : jv_J} {Y Z : ot_Y} {E : ot_E} {K : Option ot_Y} (h : ot_C G I J Y Z E K) {s : Nat} (hs : s < 8) (v : Int32) : jv_C 2 mX1_hasElement [.ref (48 + 2 * s), .int v] G I J (some (.int (jv_b (0 ≤ v.toInt ∧ v.toInt < ot_slen Z s)))) G I J := by
  refine jv_enter okX1_hasElement (L := [.ref (48 + 2 * s), .int v]) rfl (Nat.le_of_ble_eq_true rfl) ?_
  have bl : ot_slen Z s ≤ 40 := by
    obtain ⟨z1, z2, z3⟩ := h.z.1 s hs
    unfold ot_slen
    split <;> omega
  refine jv_iload1 dX1_hasElement_0 ?_
  refine jv_iconst dX1_hasElement_1 jv_c_iconst_0 ?_
  refine jv_aload0 dX1_hasElement_2 ?_
  refine jv_getI dX1_hasElement_3 flX1_15 rfl (sk h.g hs) (si_length h.s hs) ?_
  refine jv_iconst dX1_hasElement_6 jv_c_iconst_1 ?_
  refine jv_isub dX1_hasElement_7 ?_
  refine jv_sn31 dX1_hasElement_8 okX4_within stX4_within nlX1_22 (ot_within v (nI 0) (nI (ot_slen Z s) - nI 1)) (by decide) (Nat.le_of_ble_eq_true rfl) ?_
  exact jv_iret dX1_hasElement_11 rfl jv_b_n (jv_b_iff (by rw [ot_le0, ot_le_pred v (by omega)])) rfl rfl
set_option maxRecDepth 20000 in
theorem oc_hasStretch {G : jv_Gr} {I : jv_I} {J : jv_J} {Y Z : ot_Y} {E : ot_E} {K : Option ot_Y} (h : ot_C G I J Y Z E K) {s : Nat} (hs : s < 8) (v n : Int32) : jv_C 2 mX1_hasStretch [.ref (48 + 2 * s), .int v, .int n] G I J (some (.int (jv_b ((0 ≤ v.toInt ∧ v.toInt ≤ ot_slen Z s) ∧ 0 ≤ n.toInt ∧ n.toInt ≤ ot_slen Z s - v.toInt)))) G I J := by
  refine jv_enter okX1_hasStretch (L := [.ref (48 + 2 * s), .int v, .int n]) rfl (Nat.le_of_ble_eq_true rfl) ?_
  have bl : ot_slen Z s ≤ 40 := by
    obtain ⟨z1, z2, z3⟩ := h.z.1 s hs
    unfold ot_slen
    split <;> omega
  refine jv_iload1 dX1_hasStretch_0 ?_
  refine jv_iconst dX1_hasStretch_1 jv_c_iconst_0 ?_
  refine jv_aload0 dX1_hasStretch_2 ?_
  refine jv_getI dX1_hasStretch_3 flX1_15 rfl (sk h.g hs) (si_length h.s hs) ?_
  refine jv_sn31 dX1_hasStretch_6 okX4_within stX4_within nlX1_22 (ot_within v (nI 0) (nI (ot_slen Z s))) (by decide) (Nat.le_of_ble_eq_true rfl) ?_
  refine jv_if_eqB dX1_hasStretch_9 (tgt := 30) (by decide) (fun h9 => ?_) (fun h9 => ?_)
  · rw [ot_le0, ot_leN v (by omega)] at h9
    refine jv_iconst dX1_hasStretch_30 jv_c_iconst_0 ?_
    exact jv_iret dX1_hasStretch_31 rfl (by decide) (ot_b0 (fun q => h9 q.1)) rfl rfl
  · rw [ot_le0, ot_leN v (by omega)] at h9
    obtain ⟨j, hj, rfl⟩ := ot_of (n := ot_slen Z s + 1) (show 0 ≤ v.toInt ∧ v.toInt < ((ot_slen Z s + 1 : Nat) : Int) by omega) (by omega)
    rw [nI_toInt (by omega)] at h9 ⊢
    refine jv_iload2 dX1_hasStretch_12 ?_
    refine jv_iconst dX1_hasStretch_13 jv_c_iconst_0 ?_
    refine jv_aload0 dX1_hasStretch_14 ?_
    refine jv_getI dX1_hasStretch_15 flX1_15 rfl (sk h.g hs) (si_length h.s hs) ?_
    refine jv_iload1 dX1_hasStretch_18 ?_
    refine jv_isubN dX1_hasStretch_19 (by omega) ?_
    refine jv_sn31 dX1_hasStretch_20 okX4_within stX4_within nlX1_22 (ot_within n (nI 0) (nI (ot_slen Z s - j))) (by decide) (Nat.le_of_ble_eq_true rfl) ?_
    refine jv_if_eqB dX1_hasStretch_23 (tgt := 30) (by decide) (fun h23 => ?_) (fun h23 => ?_)
    · rw [ot_le0, ot_leN n (by omega)] at h23
      refine jv_iconst dX1_hasStretch_30 jv_c_iconst_0 ?_
      exact jv_iret dX1_hasStretch_31 rfl (by decide) (ot_b0 (by omega)) rfl rfl
    · rw [ot_le0, ot_leN n (by omega)] at h23
      refine jv_iconst dX1_hasStretch_26 jv_c_iconst_1 ?_
      refine jv_goto dX1_hasStretch_27 (tgt := 31) (by decide) ?_
      exact jv_iret dX1_hasStretch_31 rfl (by decide) (ot_b1 (by omega)) rfl rfl
set_option maxRecDepth 20000 in
theorem oc_refuse20 {G : jv_Gr} {I : jv_I} {J : jv_J} {Y Z : ot_Y} {E : ot_E} {K : Option ot_Y} (h : ot_C G I J Y Z E K) : jv_C 2 mX4_refuse [.ref 1, .int (-2)] G I J (some (.int (-2))) G (jv_up I 47 0 (nI (Z 6 0 + 1))) J := by
  refine jv_enter okX4_refuse (L := [.ref 1, .int (-2), .null]) rfl (Nat.le_of_ble_eq_true rfl) ?_
  refine jv_bipush dX4_refuse_0 jv_c_bipush_m2 ?_
  refine jv_iload1 dX4_refuse_2 ?_
  refine jv_isub dX4_refuse_3 ?_
  rw [show (-2 : Int32) - (-2) = nI 0 by decide]
  refine jv_istore2 dX4_refuse_4 rfl ?_
  refine jv_iload2 dX4_refuse_5 ?_
  refine jv_iconst dX4_refuse_6 jv_c_iconst_0 ?_
  refine jv_iconst dX4_refuse_7 jv_c_iconst_4 ?_
  refine jv_s31 dX4_refuse_8 okX4_within stX4_within mlX4_57 (ot_within (nI 0) (nI 0) (nI 4)) (by decide) (Nat.le_of_ble_eq_true rfl) ?_
  refine jv_if_eqB dX4_refuse_11 (tgt := 24) (by decide) (fun h11 => absurd (by decide) h11) (fun h11 => ?_)
  refine jv_aload0 dX4_refuse_14 ?_
  refine jv_getR dX4_refuse_15 flX4_44 rfl (ck h.g) (cr_refusals h.g) ?_
  refine jv_iload2 dX4_refuse_18 ?_
  refine jv_dup2 dX4_refuse_19 rfl rfl ?_
  refine jv_ialdN dX4_refuse_20 (ck_refusals h.g) (by decide) (by decide) (ce_refusals h.s (show 0 < 5 by decide)) ?_
  refine jv_iconst dX4_refuse_21 jv_c_iconst_1 ?_
  refine jv_iaddN dX4_refuse_22 ?_
  refine jv_iastN dX4_refuse_23 (ck_refusals h.g) (by decide) (by decide) ?_
  refine jv_iload1 dX4_refuse_24 ?_
  exact jv_iret dX4_refuse_25 rfl rfl rfl rfl rfl
theorem oc_refuse2 {G : jv_Gr} {I : jv_I} {J : jv_J} {Y Z : ot_Y} {E : ot_E} {K : Option ot_Y} (h : ot_C G I J Y Z E K) : ∃ I2, jv_C 2 mX4_refuse [.ref 1, .int (-2)] G I J (some (.int (-2))) G I2 J ∧ ot_C G I2 J Y (ot_ref Z 0) E K ∧ ot_hi I I2 J J := ⟨_, oc_refuse20 h, ot_C_ref h (by decide), fun q hq => ⟨jv_up_ne _ _ _ (by omega), rfl⟩⟩
set_option maxRecDepth 20000 in
theorem oc_refuse30 {G : jv_Gr} {I : jv_I} {J : jv_J} {Y Z : ot_Y} {E : ot_E} {K : Option ot_Y} (h : ot_C G I J Y Z E K) : jv_C 2 mX4_refuse [.ref 1, .int (-3)] G I J (some (.int (-3))) G (jv_up I 47 1 (nI (Z 6 1 + 1))) J := by
  refine jv_enter okX4_refuse (L := [.ref 1, .int (-3), .null]) rfl (Nat.le_of_ble_eq_true rfl) ?_
  refine jv_bipush dX4_refuse_0 jv_c_bipush_m2 ?_
  refine jv_iload1 dX4_refuse_2 ?_
  refine jv_isub dX4_refuse_3 ?_
  rw [show (-2 : Int32) - (-3) = nI 1 by decide]
  refine jv_istore2 dX4_refuse_4 rfl ?_
  refine jv_iload2 dX4_refuse_5 ?_
  refine jv_iconst dX4_refuse_6 jv_c_iconst_0 ?_
  refine jv_iconst dX4_refuse_7 jv_c_iconst_4 ?_
  refine jv_s31 dX4_refuse_8 okX4_within stX4_within mlX4_57 (ot_within (nI 1) (nI 0) (nI 4)) (by decide) (Nat.le_of_ble_eq_true rfl) ?_
  refine jv_if_eqB dX4_refuse_11 (tgt := 24) (by decide) (fun h11 => absurd (by decide) h11) (fun h11 => ?_)
  refine jv_aload0 dX4_refuse_14 ?_
  refine jv_getR dX4_refuse_15 flX4_44 rfl (ck h.g) (cr_refusals h.g) ?_
  refine jv_iload2 dX4_refuse_18 ?_
  refine jv_dup2 dX4_refuse_19 rfl rfl ?_
  refine jv_ialdN dX4_refuse_20 (ck_refusals h.g) (by decide) (by decide) (ce_refusals h.s (show 1 < 5 by decide)) ?_
  refine jv_iconst dX4_refuse_21 jv_c_iconst_1 ?_
  refine jv_iaddN dX4_refuse_22 ?_
  refine jv_iastN dX4_refuse_23 (ck_refusals h.g) (by decide) (by decide) ?_
  refine jv_iload1 dX4_refuse_24 ?_
  exact jv_iret dX4_refuse_25 rfl rfl rfl rfl rfl
theorem oc_refuse3 {G : jv_Gr} {I : jv_I} {J : jv_J} {Y Z : ot_Y} {E : ot_E} {K : Option ot_Y} (h : ot_C G I J Y Z E K) : ∃ I2, jv_C 2 mX4_refuse [.ref 1, .int (-3)] G I J (some (.int (-3))) G I2 J ∧ ot_C G I2 J Y (ot_ref Z 1) E K ∧ ot_hi I I2 J J := ⟨_, oc_refuse30 h, ot_C_ref h (by decide), fun q hq => ⟨jv_up_ne _ _ _ (by omega), rfl⟩⟩
set_option maxRecDepth 20000 in
theorem oc_refuse40 {G : jv_Gr} {I : jv_I} {J : jv_J} {Y Z : ot_Y} {E : ot_E} {K : Option ot_Y} (h : ot_C G I J Y Z E K) : jv_C 2 mX4_refuse [.ref 1, .int (-4)] G I J (some (.int (-4))) G (jv_up I 47 2 (nI (Z 6 2 + 1))) J := by
  refine jv_enter okX4_refuse (L := [.ref 1, .int (-4), .null]) rfl (Nat.le_of_ble_eq_true rfl) ?_
  refine jv_bipush dX4_refuse_0 jv_c_bipush_m2 ?_
  refine jv_iload1 dX4_refuse_2 ?_
  refine jv_isub dX4_refuse_3 ?_
  rw [show (-2 : Int32) - (-4) = nI 2 by decide]
  refine jv_istore2 dX4_refuse_4 rfl ?_
  refine jv_iload2 dX4_refuse_5 ?_
  refine jv_iconst dX4_refuse_6 jv_c_iconst_0 ?_
  refine jv_iconst dX4_refuse_7 jv_c_iconst_4 ?_
  refine jv_s31 dX4_refuse_8 okX4_within stX4_within mlX4_57 (ot_within (nI 2) (nI 0) (nI 4)) (by decide) (Nat.le_of_ble_eq_true rfl) ?_
  refine jv_if_eqB dX4_refuse_11 (tgt := 24) (by decide) (fun h11 => absurd (by decide) h11) (fun h11 => ?_)
  refine jv_aload0 dX4_refuse_14 ?_
  refine jv_getR dX4_refuse_15 flX4_44 rfl (ck h.g) (cr_refusals h.g) ?_
  refine jv_iload2 dX4_refuse_18 ?_
  refine jv_dup2 dX4_refuse_19 rfl rfl ?_
  refine jv_ialdN dX4_refuse_20 (ck_refusals h.g) (by decide) (by decide) (ce_refusals h.s (show 2 < 5 by decide)) ?_
  refine jv_iconst dX4_refuse_21 jv_c_iconst_1 ?_
  refine jv_iaddN dX4_refuse_22 ?_
  refine jv_iastN dX4_refuse_23 (ck_refusals h.g) (by decide) (by decide) ?_
  refine jv_iload1 dX4_refuse_24 ?_
  exact jv_iret dX4_refuse_25 rfl rfl rfl rfl rfl
theorem oc_refuse4 {G : jv_Gr} {I : jv_I} {J : jv_J} {Y Z : ot_Y} {E : ot_E} {K : Option ot_Y} (h : ot_C G I J Y Z E K) : ∃ I2, jv_C 2 mX4_refuse [.ref 1, .int (-4)] G I J (some (.int (-4))) G I2 J ∧ ot_C G I2 J Y (ot_ref Z 2) E K ∧ ot_hi I I2 J J := ⟨_, oc_refuse40 h, ot_C_ref h (by decide), fun q hq => ⟨jv_up_ne _ _ _ (by omega), rfl⟩⟩
set_option maxRecDepth 20000 in
theorem oc_refuse50 {G : jv_Gr} {I : jv_I} {J : jv_J} {Y Z : ot_Y} {E : ot_E} {K : Option ot_Y} (h : ot_C G I J Y Z E K) : jv_C 2 mX4_refuse [.ref 1, .int (-5)] G I J (some (.int (-5))) G (jv_up I 47 3 (nI (Z 6 3 + 1))) J := by
  refine jv_enter okX4_refuse (L := [.ref 1, .int (-5), .null]) rfl (Nat.le_of_ble_eq_true rfl) ?_
  refine jv_bipush dX4_refuse_0 jv_c_bipush_m2 ?_
  refine jv_iload1 dX4_refuse_2 ?_
  refine jv_isub dX4_refuse_3 ?_
  rw [show (-2 : Int32) - (-5) = nI 3 by decide]
  refine jv_istore2 dX4_refuse_4 rfl ?_
  refine jv_iload2 dX4_refuse_5 ?_
  refine jv_iconst dX4_refuse_6 jv_c_iconst_0 ?_
  refine jv_iconst dX4_refuse_7 jv_c_iconst_4 ?_
  refine jv_s31 dX4_refuse_8 okX4_within stX4_within mlX4_57 (ot_within (nI 3) (nI 0) (nI 4)) (by decide) (Nat.le_of_ble_eq_true rfl) ?_
  refine jv_if_eqB dX4_refuse_11 (tgt := 24) (by decide) (fun h11 => absurd (by decide) h11) (fun h11 => ?_)
  refine jv_aload0 dX4_refuse_14 ?_
  refine jv_getR dX4_refuse_15 flX4_44 rfl (ck h.g) (cr_refusals h.g) ?_
  refine jv_iload2 dX4_refuse_18 ?_
  refine jv_dup2 dX4_refuse_19 rfl rfl ?_
  refine jv_ialdN dX4_refuse_20 (ck_refusals h.g) (by decide) (by decide) (ce_refusals h.s (show 3 < 5 by decide)) ?_
  refine jv_iconst dX4_refuse_21 jv_c_iconst_1 ?_
  refine jv_iaddN dX4_refuse_22 ?_
  refine jv_iastN dX4_refuse_23 (ck_refusals h.g) (by decide) (by decide) ?_
  refine jv_iload1 dX4_refuse_24 ?_
  exact jv_iret dX4_refuse_25 rfl rfl rfl rfl rfl
theorem oc_refuse5 {G : jv_Gr} {I : jv_I} {J : jv_J} {Y Z : ot_Y} {E : ot_E} {K : Option ot_Y} (h : ot_C G I J Y Z E K) : ∃ I2, jv_C 2 mX4_refuse [.ref 1, .int (-5)] G I J (some (.int (-5))) G I2 J ∧ ot_C G I2 J Y (ot_ref Z 3) E K ∧ ot_hi I I2 J J := ⟨_, oc_refuse50 h, ot_C_ref h (by decide), fun q hq => ⟨jv_up_ne _ _ _ (by omega), rfl⟩⟩
set_option maxRecDepth 20000 in
theorem oc_refuse60 {G : jv_Gr} {I : jv_I} {J : jv_J} {Y Z : ot_Y} {E : ot_E} {K : Option ot_Y} (h : ot_C G I J Y Z E K) : jv_C 2 mX4_refuse [.ref 1, .int (-6)] G I J (some (.int (-6))) G (jv_up I 47 4 (nI (Z 6 4 + 1))) J := by
  refine jv_enter okX4_refuse (L := [.ref 1, .int (-6), .null]) rfl (Nat.le_of_ble_eq_true rfl) ?_
  refine jv_bipush dX4_refuse_0 jv_c_bipush_m2 ?_
  refine jv_iload1 dX4_refuse_2 ?_
  refine jv_isub dX4_refuse_3 ?_
  rw [show (-2 : Int32) - (-6) = nI 4 by decide]
  refine jv_istore2 dX4_refuse_4 rfl ?_
  refine jv_iload2 dX4_refuse_5 ?_
  refine jv_iconst dX4_refuse_6 jv_c_iconst_0 ?_
  refine jv_iconst dX4_refuse_7 jv_c_iconst_4 ?_
  refine jv_s31 dX4_refuse_8 okX4_within stX4_within mlX4_57 (ot_within (nI 4) (nI 0) (nI 4)) (by decide) (Nat.le_of_ble_eq_true rfl) ?_
  refine jv_if_eqB dX4_refuse_11 (tgt := 24) (by decide) (fun h11 => absurd (by decide) h11) (fun h11 => ?_)
  refine jv_aload0 dX4_refuse_14 ?_
  refine jv_getR dX4_refuse_15 flX4_44 rfl (ck h.g) (cr_refusals h.g) ?_
  refine jv_iload2 dX4_refuse_18 ?_
  refine jv_dup2 dX4_refuse_19 rfl rfl ?_
  refine jv_ialdN dX4_refuse_20 (ck_refusals h.g) (by decide) (by decide) (ce_refusals h.s (show 4 < 5 by decide)) ?_
  refine jv_iconst dX4_refuse_21 jv_c_iconst_1 ?_
  refine jv_iaddN dX4_refuse_22 ?_
  refine jv_iastN dX4_refuse_23 (ck_refusals h.g) (by decide) (by decide) ?_
  refine jv_iload1 dX4_refuse_24 ?_
  exact jv_iret dX4_refuse_25 rfl rfl rfl rfl rfl
theorem oc_refuse6 {G : jv_Gr} {I : jv_I} {J : jv_J} {Y Z : ot_Y} {E : ot_E} {K : Option ot_Y} (h : ot_C G I J Y Z E K) : ∃ I2, jv_C 2 mX4_refuse [.ref 1, .int (-6)] G I J (some (.int (-6))) G I2 J ∧ ot_C G I2 J Y (ot_ref Z 4) E K ∧ ot_hi I I2 J J := ⟨_, oc_refuse60 h, ot_C_ref h (by decide), fun q hq => ⟨jv_up_ne _ _ _ (by omega), rfl⟩⟩
set_option maxRecDepth 20000 in
theorem oc_areTwo {G : jv_Gr} {I : jv_I} {J : jv_J} {Y Z : ot_Y} {E : ot_E} {K : Option ot_Y} (h : ot_C G I J Y Z E K) (a b : Int32) : jv_C 3 mX4_areTwo [.ref 1, .int a, .int b] G I J (some (.int (jv_b ((0 ≤ a.toInt ∧ a.toInt < Y 10 0) ∧ (0 ≤ b.toInt ∧ b.toInt < Y 10 0) ∧ a ≠ b)))) G I J := by
  refine jv_enter okX4_areTwo (L := [.ref 1, .int a, .int b]) rfl (Nat.le_of_ble_eq_true rfl) ?_
  refine jv_aload0 dX4_areTwo_0 ?_
  refine jv_getR dX4_areTwo_1 flX4_10 rfl (ck h.g) (cr_now h.g) ?_
  refine jv_iload1 dX4_areTwo_4 ?_
  refine jv_v11 dX4_areTwo_5 okX3_hasChild inX3_hasChild seX3_hasChild mlX4_166 (ci := 3) (T := TX3) (N := 15) rfl (yk (cg_now h.g)) (ot_hasChild (cg_now h.g) h.r h.w a) (by decide) (Nat.le_of_ble_eq_true rfl) ?_
  refine jv_if_eqB dX4_areTwo_8 (tgt := 31) (by decide) (fun h8 => ?_) (fun h8 => ?_)
  · refine jv_iconst dX4_areTwo_31 jv_c_iconst_0 ?_
    exact jv_iret dX4_areTwo_32 rfl (by decide) (ot_b0 (by first | exact fun q => h8 q.1 | exact fun q => h19 q.2.1)) rfl rfl
  · refine jv_aload0 dX4_areTwo_11 ?_
    refine jv_getR dX4_areTwo_12 flX4_10 rfl (ck h.g) (cr_now h.g) ?_
    refine jv_iload2 dX4_areTwo_15 ?_
    refine jv_v11 dX4_areTwo_16 okX3_hasChild inX3_hasChild seX3_hasChild mlX4_166 (ci := 3) (T := TX3) (N := 15) rfl (yk (cg_now h.g)) (ot_hasChild (cg_now h.g) h.r h.w b) (by decide) (Nat.le_of_ble_eq_true rfl) ?_
    refine jv_if_eqB dX4_areTwo_19 (tgt := 31) (by decide) (fun h19 => ?_) (fun h19 => ?_)
    · refine jv_iconst dX4_areTwo_31 jv_c_iconst_0 ?_
      exact jv_iret dX4_areTwo_32 rfl (by decide) (ot_b0 (by first | exact fun q => h8 q.1 | exact fun q => h19 q.2.1)) rfl rfl
    · refine jv_iload1 dX4_areTwo_22 ?_
      refine jv_iload2 dX4_areTwo_23 ?_
      refine jv_icmp_eq dX4_areTwo_24 (tgt := 31) (by decide) (fun h24 => ?_) (fun h24 => ?_)
      · refine jv_iconst dX4_areTwo_31 jv_c_iconst_0 ?_
        exact jv_iret dX4_areTwo_32 rfl (by decide) (ot_b0 (fun q => q.2.2 h24)) rfl rfl
      · refine jv_iconst dX4_areTwo_27 jv_c_iconst_1 ?_
        refine jv_goto dX4_areTwo_28 (tgt := 32) (by decide) ?_
        exact jv_iret dX4_areTwo_32 rfl (by decide) (ot_b1 ⟨h8, h19, h24⟩) rfl rfl
