/-! ===== copy ===== -/
def ot_ct (Z : ot_Y) (p q : Int32) : Nat := if (0 ≤ p.toInt ∧ p.toInt < 8) ∧ (0 ≤ q.toInt ∧ q.toInt < 8) then (if Z 0 (ot_n p) = 2 ∨ Z 0 (ot_n q) = 2 then 3 else if Z 0 (ot_n p) = 0 ∨ Z 0 (ot_n q) = 0 then 4 else if Z 1 (ot_n p) = Z 1 (ot_n q) then 0 else 3) else 2
theorem ot_ct_cases {Y Z : ot_Y} (hZ : ot_ZW Y Z) (p q : Int32) : (ot_ct Z p q = 0 ∧ ∃ s t, s < 8 ∧ t < 8 ∧ p = nI s ∧ q = nI t ∧ Z 0 s = 1 ∧ Z 0 t = 1 ∧ Z 1 s = Z 1 t) ∨ (ot_ct Z p q = 2 ∧ ¬ ((0 ≤ p.toInt ∧ p.toInt < 8) ∧ (0 ≤ q.toInt ∧ q.toInt < 8))) ∨ (ot_ct Z p q = 3 ∧ ∃ s t, s < 8 ∧ t < 8 ∧ p = nI s ∧ q = nI t ∧ (Z 0 s = 2 ∨ Z 0 t = 2)) ∨ (ot_ct Z p q = 4 ∧ ∃ s t, s < 8 ∧ t < 8 ∧ p = nI s ∧ q = nI t ∧ (Z 0 s ≠ 2 ∧ Z 0 t ≠ 2) ∧ (Z 0 s = 0 ∨ Z 0 t = 0)) ∨ (ot_ct Z p q = 3 ∧ ∃ s t, s < 8 ∧ t < 8 ∧ p = nI s ∧ q = nI t ∧ Z 0 s = 1 ∧ Z 0 t = 1 ∧ Z 1 s ≠ Z 1 t) := by
  unfold ot_ct
  by_cases h : (0 ≤ p.toInt ∧ p.toInt < 8) ∧ (0 ≤ q.toInt ∧ q.toInt < 8)
  · obtain ⟨s, hs, rfl⟩ := ot_of (n := 8) h.1 (by decide)
    obtain ⟨t, ht, rfl⟩ := ot_of (n := 8) h.2 (by decide)
    rw [if_pos h, ot_n_nI (show s < 2 ^ 30 by omega), ot_n_nI (show t < 2 ^ 30 by omega)]
    have z1 := (hZ.1 s hs).1
    have z2 := (hZ.1 t ht).1
    by_cases h2 : Z 0 s = 2 ∨ Z 0 t = 2
    · rw [if_pos h2]; exact .inr (.inr (.inl ⟨rfl, s, t, hs, ht, rfl, rfl, h2⟩))
    · rw [if_neg h2]
      by_cases h0 : Z 0 s = 0 ∨ Z 0 t = 0
      · rw [if_pos h0]; exact .inr (.inr (.inr (.inl ⟨rfl, s, t, hs, ht, rfl, rfl, ⟨by omega, by omega⟩, h0⟩)))
      · rw [if_neg h0]
        by_cases h1 : Z 1 s = Z 1 t
        · rw [if_pos h1]; exact .inl ⟨rfl, s, t, hs, ht, rfl, rfl, by omega, by omega, h1⟩
        · rw [if_neg h1]; exact .inr (.inr (.inr (.inr ⟨rfl, s, t, hs, ht, rfl, rfl, by omega, by omega, h1⟩)))
  · rw [if_neg h]; exact .inr (.inl ⟨rfl, h⟩)
set_option maxRecDepth 20000 in
theorem oc_copyT {G : jv_Gr} {I : jv_I} {J : jv_J} {Y Z : ot_Y} {E : ot_E} {K : Option ot_Y} (h : ot_C G I J Y Z E K) (p q : Int32) : jv_C 3 mX4_copyTrouble [.ref 1, .int p, .int q] G I J (some (.int (ot_ans (ot_ct Z p q) (nI 0)))) G I J := by
  refine jv_enter okX4_copyTrouble (L := [.ref 1, .int p, .int q]) rfl (Nat.le_of_ble_eq_true rfl) ?_
  rcases ot_ct_cases h.z p q with ⟨e, s, t, hs, ht, rfl, rfl, a1, a2, a3⟩ | ⟨e, hn⟩ | ⟨e, s, t, hs, ht, rfl, rfl, a1⟩ | ⟨e, s, t, hs, ht, rfl, rfl, a1, a2⟩ | ⟨e, s, t, hs, ht, rfl, rfl, a1, a2, a3⟩
  · rw [e]
    have hz1 := (h.z.1 s hs).2.1 a1
    have hz2 := (h.z.1 t ht).2.1 a2
    refine jv_iload1 dX4_copyTrouble_0 ?_
    refine jv_s11 dX4_copyTrouble_1 okX4_isShelf stX4_isShelf mlX4_53 (ot_isShelf _) (by decide) (Nat.le_of_ble_eq_true rfl) ?_
    refine jv_if_eqB dX4_copyTrouble_4 (tgt := 14) (by decide) (fun h4 => absurd (ot_8 hs) h4) (fun h4 => ?_)
    refine jv_iload2 dX4_copyTrouble_7 ?_
    refine jv_s11 dX4_copyTrouble_8 okX4_isShelf stX4_isShelf mlX4_53 (ot_isShelf _) (by decide) (Nat.le_of_ble_eq_true rfl) ?_
    refine jv_if_neB dX4_copyTrouble_11 (tgt := 17) (by decide) (fun h11 => ?_) (fun h11 => absurd (ot_8 ht) h11)
    refine jv_aload0 dX4_copyTrouble_17 ?_
    refine jv_getR dX4_copyTrouble_18 flX4_40 rfl (ck h.g) (cr_shelves h.g) ?_
    refine jv_iload1 dX4_copyTrouble_21 ?_
    refine jv_aald2N dX4_copyTrouble_22 (ck_shelves h.g) (by omega) (by decide) (cr_shelf h.g hs) ?_
    refine jv_v01 dX4_copyTrouble_23 okX1_isCount inX1_isCount seX1_isCount mlX4_301 (ci := 1) (T := TX1) (N := 3) rfl (sk h.g hs) (oc_isCount h hs) (by decide) (Nat.le_of_ble_eq_true rfl) ?_
    refine jv_if_neB dX4_copyTrouble_26 (tgt := 41) (by decide) (fun h26 => by omega) (fun h26 => ?_)
    refine jv_aload0 dX4_copyTrouble_29 ?_
    refine jv_getR dX4_copyTrouble_30 flX4_40 rfl (ck h.g) (cr_shelves h.g) ?_
    refine jv_iload2 dX4_copyTrouble_33 ?_
    refine jv_aald2N dX4_copyTrouble_34 (ck_shelves h.g) (by omega) (by decide) (cr_shelf h.g ht) ?_
    refine jv_v01 dX4_copyTrouble_35 okX1_isCount inX1_isCount seX1_isCount mlX4_301 (ci := 1) (T := TX1) (N := 3) rfl (sk h.g ht) (oc_isCount h ht) (by decide) (Nat.le_of_ble_eq_true rfl) ?_
    refine jv_if_eqB dX4_copyTrouble_38 (tgt := 44) (by decide) (fun h38 => ?_) (fun h38 => by omega)
    refine jv_aload0 dX4_copyTrouble_44 ?_
    refine jv_getR dX4_copyTrouble_45 flX4_40 rfl (ck h.g) (cr_shelves h.g) ?_
    refine jv_iload1 dX4_copyTrouble_48 ?_
    refine jv_aald2N dX4_copyTrouble_49 (ck_shelves h.g) (by omega) (by decide) (cr_shelf h.g hs) ?_
    refine jv_v01 dX4_copyTrouble_50 okX1_isRow inX1_isRow seX1_isRow mlX4_111 (ci := 1) (T := TX1) (N := 3) rfl (sk h.g hs) (oc_isRow h hs) (by decide) (Nat.le_of_ble_eq_true rfl) ?_
    refine jv_if_eqB dX4_copyTrouble_53 (tgt := 68) (by decide) (fun h53 => absurd a1 h53) (fun h53 => ?_)
    refine jv_aload0 dX4_copyTrouble_56 ?_
    refine jv_getR dX4_copyTrouble_57 flX4_40 rfl (ck h.g) (cr_shelves h.g) ?_
    refine jv_iload2 dX4_copyTrouble_60 ?_
    refine jv_aald2N dX4_copyTrouble_61 (ck_shelves h.g) (by omega) (by decide) (cr_shelf h.g ht) ?_
    refine jv_v01 dX4_copyTrouble_62 okX1_isRow inX1_isRow seX1_isRow mlX4_111 (ci := 1) (T := TX1) (N := 3) rfl (sk h.g ht) (oc_isRow h ht) (by decide) (Nat.le_of_ble_eq_true rfl) ?_
    refine jv_if_neB dX4_copyTrouble_65 (tgt := 71) (by decide) (fun h65 => ?_) (fun h65 => absurd a2 h65)
    refine jv_aload0 dX4_copyTrouble_71 ?_
    refine jv_getR dX4_copyTrouble_72 flX4_40 rfl (ck h.g) (cr_shelves h.g) ?_
    refine jv_iload1 dX4_copyTrouble_75 ?_
    refine jv_aald2N dX4_copyTrouble_76 (ck_shelves h.g) (by omega) (by decide) (cr_shelf h.g hs) ?_
    refine jv_getI dX4_copyTrouble_77 flX4_97 rfl (sk h.g hs) ((si_thing h.s hs).trans (ot_thing_1 a1)) ?_
    refine jv_aload0 dX4_copyTrouble_80 ?_
    refine jv_getR dX4_copyTrouble_81 flX4_40 rfl (ck h.g) (cr_shelves h.g) ?_
    refine jv_iload2 dX4_copyTrouble_84 ?_
    refine jv_aald2N dX4_copyTrouble_85 (ck_shelves h.g) (by omega) (by decide) (cr_shelf h.g ht) ?_
    refine jv_getI dX4_copyTrouble_86 flX4_97 rfl (sk h.g ht) ((si_thing h.s ht).trans (ot_thing_1 a2)) ?_
    refine jv_icmp_neN dX4_copyTrouble_89 (tgt := 96) (by decide) (by omega) (by omega) (fun h89 => absurd a3 h89) (fun h89 => ?_)
    refine jv_iconst dX4_copyTrouble_92 jv_c_iconst_0 ?_
    refine jv_goto dX4_copyTrouble_93 (tgt := 98) (by decide) ?_
    exact jv_iret dX4_copyTrouble_98 rfl rfl rfl rfl rfl
  · rw [e]
    refine jv_iload1 dX4_copyTrouble_0 ?_
    refine jv_s11 dX4_copyTrouble_1 okX4_isShelf stX4_isShelf mlX4_53 (ot_isShelf _) (by decide) (Nat.le_of_ble_eq_true rfl) ?_
    refine jv_if_eqB dX4_copyTrouble_4 (tgt := 14) (by decide) (fun h4 => ?_) (fun h4 => ?_)
    · refine jv_bipush dX4_copyTrouble_14 jv_c_bipush_m2 ?_
      exact jv_iret dX4_copyTrouble_16 rfl rfl rfl rfl rfl
    · refine jv_iload2 dX4_copyTrouble_7 ?_
      refine jv_s11 dX4_copyTrouble_8 okX4_isShelf stX4_isShelf mlX4_53 (ot_isShelf _) (by decide) (Nat.le_of_ble_eq_true rfl) ?_
      refine jv_if_neB dX4_copyTrouble_11 (tgt := 17) (by decide) (fun h11 => absurd ⟨h4, h11⟩ hn) (fun h11 => ?_)
      refine jv_bipush dX4_copyTrouble_14 jv_c_bipush_m2 ?_
      exact jv_iret dX4_copyTrouble_16 rfl rfl rfl rfl rfl
  · rw [e]
    refine jv_iload1 dX4_copyTrouble_0 ?_
    refine jv_s11 dX4_copyTrouble_1 okX4_isShelf stX4_isShelf mlX4_53 (ot_isShelf _) (by decide) (Nat.le_of_ble_eq_true rfl) ?_
    refine jv_if_eqB dX4_copyTrouble_4 (tgt := 14) (by decide) (fun h4 => absurd (ot_8 hs) h4) (fun h4 => ?_)
    refine jv_iload2 dX4_copyTrouble_7 ?_
    refine jv_s11 dX4_copyTrouble_8 okX4_isShelf stX4_isShelf mlX4_53 (ot_isShelf _) (by decide) (Nat.le_of_ble_eq_true rfl) ?_
    refine jv_if_neB dX4_copyTrouble_11 (tgt := 17) (by decide) (fun h11 => ?_) (fun h11 => absurd (ot_8 ht) h11)
    refine jv_aload0 dX4_copyTrouble_17 ?_
    refine jv_getR dX4_copyTrouble_18 flX4_40 rfl (ck h.g) (cr_shelves h.g) ?_
    refine jv_iload1 dX4_copyTrouble_21 ?_
    refine jv_aald2N dX4_copyTrouble_22 (ck_shelves h.g) (by omega) (by decide) (cr_shelf h.g hs) ?_
    refine jv_v01 dX4_copyTrouble_23 okX1_isCount inX1_isCount seX1_isCount mlX4_301 (ci := 1) (T := TX1) (N := 3) rfl (sk h.g hs) (oc_isCount h hs) (by decide) (Nat.le_of_ble_eq_true rfl) ?_
    refine jv_if_neB dX4_copyTrouble_26 (tgt := 41) (by decide) (fun h26 => ?_) (fun h26 => ?_)
    · refine jv_bipush dX4_copyTrouble_41 jv_c_bipush_m3 ?_
      exact jv_iret dX4_copyTrouble_43 rfl rfl rfl rfl rfl
    · refine jv_aload0 dX4_copyTrouble_29 ?_
      refine jv_getR dX4_copyTrouble_30 flX4_40 rfl (ck h.g) (cr_shelves h.g) ?_
      refine jv_iload2 dX4_copyTrouble_33 ?_
      refine jv_aald2N dX4_copyTrouble_34 (ck_shelves h.g) (by omega) (by decide) (cr_shelf h.g ht) ?_
      refine jv_v01 dX4_copyTrouble_35 okX1_isCount inX1_isCount seX1_isCount mlX4_301 (ci := 1) (T := TX1) (N := 3) rfl (sk h.g ht) (oc_isCount h ht) (by decide) (Nat.le_of_ble_eq_true rfl) ?_
      refine jv_if_eqB dX4_copyTrouble_38 (tgt := 44) (by decide) (fun h38 => by omega) (fun h38 => ?_)
      refine jv_bipush dX4_copyTrouble_41 jv_c_bipush_m3 ?_
      exact jv_iret dX4_copyTrouble_43 rfl rfl rfl rfl rfl
  · rw [e]
    refine jv_iload1 dX4_copyTrouble_0 ?_
    refine jv_s11 dX4_copyTrouble_1 okX4_isShelf stX4_isShelf mlX4_53 (ot_isShelf _) (by decide) (Nat.le_of_ble_eq_true rfl) ?_
    refine jv_if_eqB dX4_copyTrouble_4 (tgt := 14) (by decide) (fun h4 => absurd (ot_8 hs) h4) (fun h4 => ?_)
    refine jv_iload2 dX4_copyTrouble_7 ?_
    refine jv_s11 dX4_copyTrouble_8 okX4_isShelf stX4_isShelf mlX4_53 (ot_isShelf _) (by decide) (Nat.le_of_ble_eq_true rfl) ?_
    refine jv_if_neB dX4_copyTrouble_11 (tgt := 17) (by decide) (fun h11 => ?_) (fun h11 => absurd (ot_8 ht) h11)
    refine jv_aload0 dX4_copyTrouble_17 ?_
    refine jv_getR dX4_copyTrouble_18 flX4_40 rfl (ck h.g) (cr_shelves h.g) ?_
    refine jv_iload1 dX4_copyTrouble_21 ?_
    refine jv_aald2N dX4_copyTrouble_22 (ck_shelves h.g) (by omega) (by decide) (cr_shelf h.g hs) ?_
    refine jv_v01 dX4_copyTrouble_23 okX1_isCount inX1_isCount seX1_isCount mlX4_301 (ci := 1) (T := TX1) (N := 3) rfl (sk h.g hs) (oc_isCount h hs) (by decide) (Nat.le_of_ble_eq_true rfl) ?_
    refine jv_if_neB dX4_copyTrouble_26 (tgt := 41) (by decide) (fun h26 => by omega) (fun h26 => ?_)
    refine jv_aload0 dX4_copyTrouble_29 ?_
    refine jv_getR dX4_copyTrouble_30 flX4_40 rfl (ck h.g) (cr_shelves h.g) ?_
    refine jv_iload2 dX4_copyTrouble_33 ?_
    refine jv_aald2N dX4_copyTrouble_34 (ck_shelves h.g) (by omega) (by decide) (cr_shelf h.g ht) ?_
    refine jv_v01 dX4_copyTrouble_35 okX1_isCount inX1_isCount seX1_isCount mlX4_301 (ci := 1) (T := TX1) (N := 3) rfl (sk h.g ht) (oc_isCount h ht) (by decide) (Nat.le_of_ble_eq_true rfl) ?_
    refine jv_if_eqB dX4_copyTrouble_38 (tgt := 44) (by decide) (fun h38 => ?_) (fun h38 => by omega)
    refine jv_aload0 dX4_copyTrouble_44 ?_
    refine jv_getR dX4_copyTrouble_45 flX4_40 rfl (ck h.g) (cr_shelves h.g) ?_
    refine jv_iload1 dX4_copyTrouble_48 ?_
    refine jv_aald2N dX4_copyTrouble_49 (ck_shelves h.g) (by omega) (by decide) (cr_shelf h.g hs) ?_
    refine jv_v01 dX4_copyTrouble_50 okX1_isRow inX1_isRow seX1_isRow mlX4_111 (ci := 1) (T := TX1) (N := 3) rfl (sk h.g hs) (oc_isRow h hs) (by decide) (Nat.le_of_ble_eq_true rfl) ?_
    refine jv_if_eqB dX4_copyTrouble_53 (tgt := 68) (by decide) (fun h53 => ?_) (fun h53 => ?_)
    · refine jv_bipush dX4_copyTrouble_68 jv_c_bipush_m4 ?_
      exact jv_iret dX4_copyTrouble_70 rfl rfl rfl rfl rfl
    · refine jv_aload0 dX4_copyTrouble_56 ?_
      refine jv_getR dX4_copyTrouble_57 flX4_40 rfl (ck h.g) (cr_shelves h.g) ?_
      refine jv_iload2 dX4_copyTrouble_60 ?_
      refine jv_aald2N dX4_copyTrouble_61 (ck_shelves h.g) (by omega) (by decide) (cr_shelf h.g ht) ?_
      refine jv_v01 dX4_copyTrouble_62 okX1_isRow inX1_isRow seX1_isRow mlX4_111 (ci := 1) (T := TX1) (N := 3) rfl (sk h.g ht) (oc_isRow h ht) (by decide) (Nat.le_of_ble_eq_true rfl) ?_
      refine jv_if_neB dX4_copyTrouble_65 (tgt := 71) (by decide) (fun h65 => by omega) (fun h65 => ?_)
      refine jv_bipush dX4_copyTrouble_68 jv_c_bipush_m4 ?_
      exact jv_iret dX4_copyTrouble_70 rfl rfl rfl rfl rfl
  · rw [e]
    have hz1 := (h.z.1 s hs).2.1 a1
    have hz2 := (h.z.1 t ht).2.1 a2
    refine jv_iload1 dX4_copyTrouble_0 ?_
    refine jv_s11 dX4_copyTrouble_1 okX4_isShelf stX4_isShelf mlX4_53 (ot_isShelf _) (by decide) (Nat.le_of_ble_eq_true rfl) ?_
    refine jv_if_eqB dX4_copyTrouble_4 (tgt := 14) (by decide) (fun h4 => absurd (ot_8 hs) h4) (fun h4 => ?_)
    refine jv_iload2 dX4_copyTrouble_7 ?_
    refine jv_s11 dX4_copyTrouble_8 okX4_isShelf stX4_isShelf mlX4_53 (ot_isShelf _) (by decide) (Nat.le_of_ble_eq_true rfl) ?_
    refine jv_if_neB dX4_copyTrouble_11 (tgt := 17) (by decide) (fun h11 => ?_) (fun h11 => absurd (ot_8 ht) h11)
    refine jv_aload0 dX4_copyTrouble_17 ?_
    refine jv_getR dX4_copyTrouble_18 flX4_40 rfl (ck h.g) (cr_shelves h.g) ?_
    refine jv_iload1 dX4_copyTrouble_21 ?_
    refine jv_aald2N dX4_copyTrouble_22 (ck_shelves h.g) (by omega) (by decide) (cr_shelf h.g hs) ?_
    refine jv_v01 dX4_copyTrouble_23 okX1_isCount inX1_isCount seX1_isCount mlX4_301 (ci := 1) (T := TX1) (N := 3) rfl (sk h.g hs) (oc_isCount h hs) (by decide) (Nat.le_of_ble_eq_true rfl) ?_
    refine jv_if_neB dX4_copyTrouble_26 (tgt := 41) (by decide) (fun h26 => by omega) (fun h26 => ?_)
    refine jv_aload0 dX4_copyTrouble_29 ?_
    refine jv_getR dX4_copyTrouble_30 flX4_40 rfl (ck h.g) (cr_shelves h.g) ?_
    refine jv_iload2 dX4_copyTrouble_33 ?_
    refine jv_aald2N dX4_copyTrouble_34 (ck_shelves h.g) (by omega) (by decide) (cr_shelf h.g ht) ?_
    refine jv_v01 dX4_copyTrouble_35 okX1_isCount inX1_isCount seX1_isCount mlX4_301 (ci := 1) (T := TX1) (N := 3) rfl (sk h.g ht) (oc_isCount h ht) (by decide) (Nat.le_of_ble_eq_true rfl) ?_
    refine jv_if_eqB dX4_copyTrouble_38 (tgt := 44) (by decide) (fun h38 => ?_) (fun h38 => by omega)
    refine jv_aload0 dX4_copyTrouble_44 ?_
    refine jv_getR dX4_copyTrouble_45 flX4_40 rfl (ck h.g) (cr_shelves h.g) ?_
    refine jv_iload1 dX4_copyTrouble_48 ?_
    refine jv_aald2N dX4_copyTrouble_49 (ck_shelves h.g) (by omega) (by decide) (cr_shelf h.g hs) ?_
    refine jv_v01 dX4_copyTrouble_50 okX1_isRow inX1_isRow seX1_isRow mlX4_111 (ci := 1) (T := TX1) (N := 3) rfl (sk h.g hs) (oc_isRow h hs) (by decide) (Nat.le_of_ble_eq_true rfl) ?_
    refine jv_if_eqB dX4_copyTrouble_53 (tgt := 68) (by decide) (fun h53 => absurd a1 h53) (fun h53 => ?_)
    refine jv_aload0 dX4_copyTrouble_56 ?_
    refine jv_getR dX4_copyTrouble_57 flX4_40 rfl (ck h.g) (cr_shelves h.g) ?_
    refine jv_iload2 dX4_copyTrouble_60 ?_
    refine jv_aald2N dX4_copyTrouble_61 (ck_shelves h.g) (by omega) (by decide) (cr_shelf h.g ht) ?_
    refine jv_v01 dX4_copyTrouble_62 okX1_isRow inX1_isRow seX1_isRow mlX4_111 (ci := 1) (T := TX1) (N := 3) rfl (sk h.g ht) (oc_isRow h ht) (by decide) (Nat.le_of_ble_eq_true rfl) ?_
    refine jv_if_neB dX4_copyTrouble_65 (tgt := 71) (by decide) (fun h65 => ?_) (fun h65 => absurd a2 h65)
    refine jv_aload0 dX4_copyTrouble_71 ?_
    refine jv_getR dX4_copyTrouble_72 flX4_40 rfl (ck h.g) (cr_shelves h.g) ?_
    refine jv_iload1 dX4_copyTrouble_75 ?_
    refine jv_aald2N dX4_copyTrouble_76 (ck_shelves h.g) (by omega) (by decide) (cr_shelf h.g hs) ?_
    refine jv_getI dX4_copyTrouble_77 flX4_97 rfl (sk h.g hs) ((si_thing h.s hs).trans (ot_thing_1 a1)) ?_
    refine jv_aload0 dX4_copyTrouble_80 ?_
    refine jv_getR dX4_copyTrouble_81 flX4_40 rfl (ck h.g) (cr_shelves h.g) ?_
    refine jv_iload2 dX4_copyTrouble_84 ?_
    refine jv_aald2N dX4_copyTrouble_85 (ck_shelves h.g) (by omega) (by decide) (cr_shelf h.g ht) ?_
    refine jv_getI dX4_copyTrouble_86 flX4_97 rfl (sk h.g ht) ((si_thing h.s ht).trans (ot_thing_1 a2)) ?_
    refine jv_icmp_neN dX4_copyTrouble_89 (tgt := 96) (by decide) (by omega) (by omega) (fun h89 => ?_) (fun h89 => absurd h89 a3)
    refine jv_bipush dX4_copyTrouble_96 jv_c_bipush_m3 ?_
    exact jv_iret dX4_copyTrouble_98 rfl rfl rfl rfl rfl
