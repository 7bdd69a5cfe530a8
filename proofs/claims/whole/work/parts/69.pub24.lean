/-! ===== copy ===== -/
def ot_ct (Z : ot_Y) (p q : Int32) : Nat := if (0 ≤ p.toInt ∧ p.toInt < 8) ∧ (0 ≤ q.toInt ∧ q.toInt < 8) then (if Z 0 (ot_n p) = 2 ∨ Z 0 (ot_n q) = 2 then 3 else if Z 0 (ot_n p) = 0 ∨ Z 0 (ot_n q) = 0 then 4 else if Z 1 (ot_n p) = Z 1 (ot_n q) then 0 else 3) else 2
theorem ot_ct_cases {Y Z : ot_Y} (hZ : ot_ZW Y Z) (p q : Int32) : (ot_ct Z p q = 0 ∧ ∃ s t, s < 8 ∧ t < 8 ∧ p = nI s ∧ q = nI t ∧ Z 0 s = 1 ∧ Z 0 t = 1 ∧ Z 1 s = Z 1 t) ∨ (ot_ct Z p q = 2 ∧ ¬ ((0 ≤ p.toInt ∧ p.toInt < 8) ∧ (0 ≤ q.toInt ∧ q.toInt < 8))) ∨ (ot_ct Z p q = 3 ∧ ∃ s t, s < 8 ∧ t < 8 ∧ p = nI s ∧ q = nI t ∧ (Z 0 s = 2 ∨ Z 0 t = 2)) ∨ (ot_ct Z p q = 4 ∧ ∃ s t, s < 8 ∧ t < 8 ∧ p = nI s ∧ q = nI t ∧ (Z 0 s ≠ 2 ∧ Z 0 t ≠ 2) ∧ (Z 0 s = 0 ∨ Z 0 t = 0)) ∨ (ot_ct Z p q = 3 ∧ ∃ s t, s < 8 ∧ t < 8 ∧ p = nI s ∧ q = nI t ∧ Z 0 s = 1 ∧ Z 0 t = 1 ∧ Z 1 s ≠ Z 1 t) := by
  unfold ot_ct
  by_cases h : (0 ≤ p.toInt ∧ p.toInt < 8) ∧ (0 ≤ q.toInt ∧ q.toInt < 8)
  · obtain ⟨s, hs, rfl⟩ := ot_of (n := 8) h.1 (by decide)
    obtain ⟨t, ht, rfl⟩ := ot_of (n := 8) h.2 (by decide)
    rw [if_pos h, ot_n_nI (show s < 2 ^ 30 by omega), ot_n_nI (show t < 2 ^ 30 by omega)]
    have z1 := (hZ.1 s hs).1
    have z2 := (hZ.1 t ht).1
    by_cases h2 : Z 0 s = 2 ∨ Z 0 t = 2
    · rw [if_pos h2]; exact .inr (.inr (.inl ⟨rfl, s, t, hs, ht, rfl, rfl, h2⟩))
    · rw [if_neg h2]
      by_cases h0 : Z 0 s = 0 ∨ Z 0 t = 0
      · rw [if_pos h0]; exact .inr (.inr (.inr (.inl ⟨rfl, s, t, hs, ht, rfl, rfl, ⟨by omega, by omega⟩, h0⟩)))
      · rw [if_neg h0]
        by_cases h1 : Z 1 s = Z 1 t
        · rw [if_pos h1]; exact .inl ⟨rfl, s, t, hs, ht, rfl, rfl, by omega, by omega, h1⟩
        · rw [if_neg h1]; exact .inr (.inr (.inr (.inr ⟨rfl, s, t, hs, ht, rfl, rfl, by omega, by omega, h1⟩)))
  · rw [if_neg h]; exact .inr (.inl ⟨rfl, h⟩)
set_option maxRecDepth 20000 in
theorem oc_copyT {G : jv_Gr} {I : jv_I} {J : jv_J} {Y Z : ot_Y} {E : ot_E} {K : Option ot_Y} (h : ot_C G I J Y Z E K) (p q : Int32) : jv_C 3 mX4_copyTrouble [.ref 1, .int p, .int q] G I J (some (.int (ot_ans (ot_ct Z p q) (nI 0)))) G I J := by
  refine jv_enter okX4_copyTrouble (L := [.ref 1, .int p, .int q]) rfl (Nat.le_of_ble_eq_true rfl) ?_
  rcases ot_ct_cases h.z p q with ⟨e, s, t, hs, ht, rfl, rfl, a1, a2, a3⟩ | ⟨e, hn⟩ | ⟨e, s, t, hs, ht, rfl, rfl, a1⟩ | ⟨e, s, t, hs, ht, rfl, rfl, a1, a2⟩ | ⟨e, s, t, hs, ht, rfl, rfl, a1, a2, a3⟩
  · rw [e]
    have hz1 := (h.z.1 s hs).2.1 a1
    have hz2 := (h.z.1 t ht).2.1 a2
    refine jv_iload1 dX4_copyTrouble_0 ?_
    refine jv_s11 dX4_copyTrouble_1 okX4_isShelf stX4_isShelf mlX4_53 (ot_isShelf _) (by decide) (Nat.le_of_ble_eq_true rfl) ?_
    refine jv_if_eqB dX4_copyTrouble_4 (tgt := 14) (by decide) (fun h4 => absurd (ot_8 hs) h4) (fun h4 => ?_)
    refine jv_iload2 dX4_copyTrouble_7 ?_
    refine jv_s11 dX4_copyTrouble_8 okX4_isShelf stX4_isShelf mlX4_53 (ot_isShelf _) (by decide) (Nat.le_of_ble_eq_true rfl) ?_
    refine jv_if_neB dX4_copyTrouble_11 (tgt := 17) (by decide) (fun h11 => ?_) (fun h11 => absurd (ot_8 ht) h11)
    refine jv_aload0 dX4_copyTrouble_17 ?_
    refine jv_getR dX4_copyTrouble_18 flX4_40 rfl (ck h.g) (cr_shelves h.g) ?_
    refine jv_iload1 dX4_copyTrouble_21 ?_
    refine jv_aald2N dX4_copyTrouble_22 (ck_shelves h.g) (by omega) (by decide) (cr_shelf h.g hs) ?_
    refine jv_v01 dX4_copyTrouble_23 okX1_isCount inX1_isCount seX1_isCount mlX4_301 (ci := 1) (T := TX1) (N := 3) rfl (sk h.g hs) (oc_isCount h hs) (by decide) (Nat.le_of_ble_eq_true rfl) ?_
    refine jv_if_neB dX4_copyTrouble_26 (tgt := 41) (by decide) (fun h26 => by omega) (fun h26 => ?_)
    refine jv_aload0 dX4_copyTrouble_29 ?_
    refine jv_getR dX4_copyTrouble_30 flX4_40 rfl (ck h.g) (cr_shelves h.g) ?_
    refine jv_iload2 dX4_copyTrouble_33 ?_
    refine jv_aald2N dX4_copyTrouble_34 (ck_shelves h.g) (by omega) (by decide) (cr_shelf h.g ht) ?_
    refine jv_v01 dX4_copyTrouble_35 okX1_isCount inX1_isCount seX1_isCount mlX4_301 (ci := 1) (T := TX1) (N := 3) rfl (sk h.g ht) (oc_isCount h ht) (by decide) (Nat.le_of_ble_eq_true rfl) ?_
    refine jv_if_eqB dX4_copyTrouble_38 (tgt := 44) (by decide) (fun h38 => ?_) (fun h38 => by omega)
    refine jv_aload0 dX4_copyTrouble_44 ?_
    refine jv_getR dX4_copyTrouble_45 flX4_40 rfl (ck h.g) (cr_shelves h.g) ?_
    refine jv_iload1 dX4_copyTrouble_48 ?_
    refine jv_aald2N dX4_copyTrouble_49 (ck_shelves h.g) (by omega) (by decide) (cr_shelf h.g hs) ?_
    refine jv_v01 dX4_copyTrouble_50 okX1_isRow inX1_isRow seX1_isRow mlX4_111 (ci := 1) (T := TX1) (N := 3) rfl (sk h.g hs) (oc_isRow h hs) (by decide) (Nat.le_of_ble_eq_true rfl) ?_
    refine jv_if_eqB dX4_copyTrouble_53 (tgt := 68) (by decide) (fun h53 => absurd a1 h53) (fun h53 => ?_)
    refine jv_aload0 dX4_copyTrouble_56 ?_
    refine jv_getR dX4_copyTrouble_57 flX4_40 rfl (ck h.g) (cr_shelves h.g) ?_
    refine jv_iload2 dX4_copyTrouble_60 ?_
    refine jv_aald2N dX4_copyTrouble_61 (ck_shelves h.g) (by omega) (by decide) (cr_shelf h.g ht) ?_
    refine jv_v01 dX4_copyTrouble_62 okX1_isRow inX1_isRow seX1_isRow mlX4_111 (ci := 1) (T := TX1) (N := 3) rfl (sk h.g ht) (oc_isRow h ht) (by decide) (Nat.le_of_ble_eq_true rfl) ?_
    refine jv_if_neB dX4_copyTrouble_65 (tgt := 71) (by decide) (fun h65 => ?_) (fun h65 => absurd a2 h65)
    refine jv_aload0 dX4_copyTrouble_71 ?_
    refine jv_getR dX4_copyTrouble_72 flX4_40 rfl (ck h.g) (cr_shelves h.g) ?_
    refine jv_iload1 dX4_copyTrouble_75 ?_
    refine jv_aald2N dX4_copyTrouble_76 (ck_shelves h.g) (by omega) (by decide) (cr_shelf h.g hs) ?_
    refine jv_getI dX4_copyTrouble_77 flX4_97 rfl (sk h.g hs) ((si_thing h.s hs).trans (ot_thing_1 a1)) ?_
    refine jv_aload0 dX4_copyTrouble_80 ?_
    refine jv_getR dX4_copyTrouble_81 flX4_40 rfl (ck h.g) (cr_shelves h.g) ?_
    refine jv_iload2 dX4_copyTrouble_84 ?_
    refine jv_aald2N dX4_copyTrouble_85 (ck_shelves h.g) (by omega) (by decide) (cr_shelf h.g ht) ?_
    refine jv_getI dX4_copyTrouble_86 flX4_97 rfl (sk h.g ht) ((si_thing h.s ht).trans (ot_thing_1 a2)) ?_
    refine jv_icmp_neN dX4_copyTrouble_89 (tgt := 96) (by decide) (by omega) (by omega) (fun h89 => absurd a3 h89) (fun h89 => ?_)
    refine jv_iconst dX4_copyTrouble_92 jv_c_iconst_0 ?_
    refine jv_goto dX4_copyTrouble_93 (tgt := 98) (by decide) ?_
    exact jv_iret dX4_copyTrouble_98 rfl rfl rfl rfl rfl
  · rw [e]
    refine jv_iload1 dX4_copyTrouble_0 ?_
    refine jv_s11 dX4_copyTrouble_1 okX4_isShelf stX4_isShelf mlX4_53 (ot_isShelf _) (by decide) (Nat.le_of_ble_eq_true rfl) ?_
    refine jv_if_eqB dX4_copyTrouble_4 (tgt := 14) (by decide) (fun h4 => ?_) (fun h4 => ?_)
    · refine jv_bipush dX4_copyTrouble_14 jv_c_bipush_m2 ?_
      exact jv_iret dX4_copyTrouble_16 rfl rfl rfl rfl rfl
    · refine jv_iload2 dX4_copyTrouble_7 ?_
      refine jv_s11 dX4_copyTrouble_8 okX4_isShelf stX4_isShelf mlX4_53 (ot_isShelf _) (by decide) (Nat.le_of_ble_eq_true rfl) ?_
      refine jv_if_neB dX4_copyTrouble_11 (tgt := 17) (by decide) (fun h11 => absurd ⟨h4, h11⟩ hn) (fun h11 => ?_)
      refine jv_bipush dX4_copyTrouble_14 jv_c_bipush_m2 ?_
      exact jv_iret dX4_copyTrouble_16 rfl rfl rfl rfl rfl
  · rw [e]
    refine jv_iload1 dX4_copyTrouble_0 ?_
    refine jv_s11 dX4_copyTrouble_1 okX4_isShelf stX4_isShelf mlX4_53 (ot_isShelf _) (by decide) (Nat.le_of_ble_eq_true rfl) ?_
    refine jv_if_eqB dX4_copyTrouble_4 (tgt := 14) (by decide) (fun h4 => absurd (ot_8 hs) h4) (fun h4 => ?_)
    refine jv_iload2 dX4_copyTrouble_7 ?_
    refine jv_s11 dX4_copyTrouble_8 okX4_isShelf stX4_isShelf mlX4_53 (ot_isShelf _) (by decide) (Nat.le_of_ble_eq_true rfl) ?_
    refine jv_if_neB dX4_copyTrouble_11 (tgt := 17) (by decide) (fun h11 => ?_) (fun h11 => absurd (ot_8 ht) h11)
    refine jv_aload0 dX4_copyTrouble_17 ?_
    refine jv_getR dX4_copyTrouble_18 flX4_40 rfl (ck h.g) (cr_shelves h.g) ?_
    refine jv_iload1 dX4_copyTrouble_21 ?_
    refine jv_aald2N dX4_copyTrouble_22 (ck_shelves h.g) (by omega) (by decide) (cr_shelf h.g hs) ?_
    refine jv_v01 dX4_copyTrouble_23 okX1_isCount inX1_isCount seX1_isCount mlX4_301 (ci := 1) (T := TX1) (N := 3) rfl (sk h.g hs) (oc_isCount h hs) (by decide) (Nat.le_of_ble_eq_true rfl) ?_
    refine jv_if_neB dX4_copyTrouble_26 (tgt := 41) (by decide) (fun h26 => ?_) (fun h26 => ?_)
    · refine jv_bipush dX4_copyTrouble_41 jv_c_bipush_m3 ?_
      exact jv_iret dX4_copyTrouble_43 rfl rfl rfl rfl rfl
    · refine jv_aload0 dX4_copyTrouble_29 ?_
      refine jv_getR dX4_copyTrouble_30 flX4_40 rfl (ck h.g) (cr_shelves h.g) ?_
      refine jv_iload2 dX4_copyTrouble_33 ?_
      refine jv_aald2N dX4_copyTrouble_34 (ck_shelves h.g) (by omega) (by decide) (cr_shelf h.g ht) ?_
      refine jv_v01 dX4_copyTrouble_35 okX1_isCount inX1_isCount seX1_isCount mlX4_301 (ci := 1) (T := TX1) (N := 3) rfl (sk h.g ht) (oc_isCount h ht) (by decide) (Nat.le_of_ble_eq_true rfl) ?_
      refine jv_if_eqB dX4_copyTrouble_38 (tgt := 44) (by decide) (fun h38 => by omega) (fun h38 => ?_)
      refine jv_bipush dX4_copyTrouble_41 jv_c_bipush_m3 ?_
      exact jv_iret dX4_copyTrouble_43 rfl rfl rfl rfl rfl
  · rw [e]
    refine jv_iload1 dX4_copyTrouble_0 ?_
    refine jv_s11 dX4_copyTrouble_1 okX4_isShelf stX4_isShelf mlX4_53 (ot_isShelf _) (by decide) (Nat.le_of_ble_eq_true rfl) ?_
    refine jv_if_eqB dX4_copyTrouble_4 (tgt := 14) (by decide) (fun h4 => absurd (ot_8 hs) h4) (fun h4 => ?_)
    refine jv_iload2 dX4_copyTrouble_7 ?_
    refine jv_s11 dX4_copyTrouble_8 okX4_isShelf stX4_isShelf mlX4_53 (ot_isShelf _) (by decide) (Nat.le_of_ble_eq_true rfl) ?_
    refine jv_if_neB dX4_copyTrouble_11 (tgt := 17) (by decide) (fun h11 => ?_) (fun h11 => absurd (ot_8 ht) h11)
    refine jv_aload0 dX4_copyTrouble_17 ?_
    refine jv_getR dX4_copyTrouble_18 flX4_40 rfl (ck h.g) (cr_shelves h.g) ?_
    refine jv_iload1 dX4_copyTrouble_21 ?_
    refine jv_aald2N dX4_copyTrouble_22 (ck_shelves h.g) (by omega) (by decide) (cr_shelf h.g hs) ?_
    refine jv_v01 dX4_copyTrouble_23 okX1_isCount inX1_isCount seX1_isCount mlX4_301 (ci := 1) (T := TX1) (N := 3) rfl (sk h.g hs) (oc_isCount h hs) (by decide) (Nat.le_of_ble_eq_true rfl) ?_
    refine jv_if_neB dX4_copyTrouble_26 (tgt := 41) (by decide) (fun h26 => by omega) (fun h26 => ?_)
    refine jv_aload0 dX4_copyTrouble_29 ?_
    refine jv_getR dX4_copyTrouble_30 flX4_40 rfl (ck h.g) (cr_shelves h.g) ?_
    refine jv_iload2 dX4_copyTrouble_33 ?_
    refine jv_aald2N dX4_copyTrouble_34 (ck_shelves h.g) (by omega) (by decide) (cr_shelf h.g ht) ?_
    refine jv_v01 dX4_copyTrouble_35 okX1_isCount inX1_isCount seX1_isCount mlX4_301 (ci := 1) (T := TX1) (N := 3) rfl (sk h.g ht) (oc_isCount h ht) (by decide) (Nat.le_of_ble_eq_true rfl) ?_
    refine jv_if_eqB dX4_copyTrouble_38 (tgt := 44) (by decide) (fun h38 => ?_) (fun h38 => by omega)
    refine jv_aload0 dX4_copyTrouble_44 ?_
    refine jv_getR dX4_copyTrouble_45 flX4_40 rfl (ck h.g) (cr_shelves h.g) ?_
    refine jv_iload1 dX4_copyTrouble_48 ?_
    refine jv_aald2N dX4_copyTrouble_49 (ck_shelves h.g) (by omega) (by decide) (cr_shelf h.g hs) ?_
    refine jv_v01 dX4_copyTrouble_50 okX1_isRow inX1_isRow seX1_isRow mlX4_111 (ci := 1) (T := TX1) (N := 3) rfl (sk h.g hs) (oc_isRow h hs) (by decide) (Nat.le_of_ble_eq_true rfl) ?_
    refine jv_if_eqB dX4_copyTrouble_53 (tgt := 68) (by decide) (fun h53 => ?_) (fun h53 => ?_)
    · refine jv_bipush dX4_copyTrouble_68 jv_c_bipush_m4 ?_
      exact jv_iret dX4_copyTrouble_70 rfl rfl rfl rfl rfl
    · refine jv_aload0 dX4_copyTrouble_56 ?_
      refine jv_getR dX4_copyTrouble_57 flX4_40 rfl (ck h.g) (cr_shelves h.g) ?_
      refine jv_iload2 dX4_copyTrouble_60 ?_
      refine jv_aald2N dX4_copyTrouble_61 (ck_shelves h.g) (by omega) (by decide) (cr_shelf h.g ht) ?_
      refine jv_v01 dX4_copyTrouble_62 okX1_isRow inX1_isRow seX1_isRow mlX4_111 (ci := 1) (T := TX1) (N := 3) rfl (sk h.g ht) (oc_isRow h ht) (by decide) (Nat.le_of_ble_eq_true rfl) ?_
      refine jv_if_neB dX4_copyTrouble_65 (tgt := 71) (by decide) (fun h65 => by omega) (fun h65 => ?_)
      refine jv_bipush dX4_copyTrouble_68 jv_c_bipush_m4 ?_
      exact jv_iret dX4_copyTrouble_70 rfl rfl rfl rfl rfl
  · rw [e]
    have hz1 := (h.z.1 s hs).2.1 a1
    have hz2 := (h.z.1 t ht).2.1 a2
    refine jv_iload1 dX4_copyTrouble_0 ?_
    refine jv_s11 dX4_copyTrouble_1 okX4_isShelf stX4_isShelf mlX4_53 (ot_isShelf _) (by decide) (Nat.le_of_ble_eq_true rfl) ?_
    refine jv_if_eqB dX4_copyTrouble_4 (tgt := 14) (by decide) (fun h4 => absurd (ot_8 hs) h4) (fun h4 => ?_)
    refine jv_iload2 dX4_copyTrouble_7 ?_
    refine jv_s11 dX4_copyTrouble_8 okX4_isShelf stX4_isShelf mlX4_53 (ot_isShelf _) (by decide) (Nat.le_of_ble_eq_true rfl) ?_
    refine jv_if_neB dX4_copyTrouble_11 (tgt := 17) (by decide) (fun h11 => ?_) (fun h11 => absurd (ot_8 ht) h11)
    refine jv_aload0 dX4_copyTrouble_17 ?_
    refine jv_getR dX4_copyTrouble_18 flX4_40 rfl (ck h.g) (cr_shelves h.g) ?_
    refine jv_iload1 dX4_copyTrouble_21 ?_
    refine jv_aald2N dX4_copyTrouble_22 (ck_shelves h.g) (by omega) (by decide) (cr_shelf h.g hs) ?_
    refine jv_v01 dX4_copyTrouble_23 okX1_isCount inX1_isCount seX1_isCount mlX4_301 (ci := 1) (T := TX1) (N := 3) rfl (sk h.g hs) (oc_isCount h hs) (by decide) (Nat.le_of_ble_eq_true rfl) ?_
    refine jv_if_neB dX4_copyTrouble_26 (tgt := 41) (by decide) (fun h26 => by omega) (fun h26 => ?_)
    refine jv_aload0 dX4_copyTrouble_29 ?_
    refine jv_getR dX4_copyTrouble_30 flX4_40 rfl (ck h.g) (cr_shelves h.g) ?_
    refine jv_iload2 dX4_copyTrouble_33 ?_
    refine jv_aald2N dX4_copyTrouble_34 (ck_shelves h.g) (by omega) (by decide) (cr_shelf h.g ht) ?_
    refine jv_v01 dX4_copyTrouble_35 okX1_isCount inX1_isCount seX1_isCount mlX4_301 (ci := 1) (T := TX1) (N := 3) rfl (sk h.g ht) (oc_isCount h ht) (by decide) (Nat.le_of_ble_eq_true rfl) ?_
    refine jv_if_eqB dX4_copyTrouble_38 (tgt := 44) (by decide) (fun h38 => ?_) (fun h38 => by omega)
    refine jv_aload0 dX4_copyTrouble_44 ?_
    refine jv_getR dX4_copyTrouble_45 flX4_40 rfl (ck h.g) (cr_shelves h.g) ?_
    refine jv_iload1 dX4_copyTrouble_48 ?_
    refine jv_aald2N dX4_copyTrouble_49 (ck_shelves h.g) (by omega) (by decide) (cr_shelf h.g hs) ?_
    refine jv_v01 dX4_copyTrouble_50 okX1_isRow inX1_isRow seX1_isRow mlX4_111 (ci := 1) (T := TX1) (N := 3) rfl (sk h.g hs) (oc_isRow h hs) (by decide) (Nat.le_of_ble_eq_true rfl) ?_
    refine jv_if_eqB dX4_copyTrouble_53 (tgt := 68) (by decide) (fun h53 => absurd a1 h53) (fun h53 => ?_)
    refine jv_aload0 dX4_copyTrouble_56 ?_
    refine jv_getR dX4_copyTrouble_57 flX4_40 rfl (ck h.g) (cr_shelves h.g) ?_
    refine jv_iload2 dX4_copyTrouble_60 ?_
    refine jv_aald2N dX4_copyTrouble_61 (ck_shelves h.g) (by omega) (by decide) (cr_shelf h.g ht) ?_
    refine jv_v01 dX4_copyTrouble_62 okX1_isRow inX1_isRow seX1_isRow mlX4_111 (ci := 1) (T := TX1) (N := 3) rfl (sk h.g ht) (oc_isRow h ht) (by decide) (Nat.le_of_ble_eq_true rfl) ?_
    refine jv_if_neB dX4_copyTrouble_65 (tgt := 71) (by decide) (fun h65 => ?_) (fun h65 => absurd a2 h65)
    refine jv_aload0 dX4_copyTrouble_71 ?_
    refine jv_getR dX4_copyTrouble_72 flX4_40 rfl (ck h.g) (cr_shelves h.g) ?_
    refine jv_iload1 dX4_copyTrouble_75 ?_
    refine jv_aald2N dX4_copyTrouble_76 (ck_shelves h.g) (by omega) (by decide) (cr_shelf h.g hs) ?_
    refine jv_getI dX4_copyTrouble_77 flX4_97 rfl (sk h.g hs) ((si_thing h.s hs).trans (ot_thing_1 a1)) ?_
    refine jv_aload0 dX4_copyTrouble_80 ?_
    refine jv_getR dX4_copyTrouble_81 flX4_40 rfl (ck h.g) (cr_shelves h.g) ?_
    refine jv_iload2 dX4_copyTrouble_84 ?_
    refine jv_aald2N dX4_copyTrouble_85 (ck_shelves h.g) (by omega) (by decide) (cr_shelf h.g ht) ?_
    refine jv_getI dX4_copyTrouble_86 flX4_97 rfl (sk h.g ht) ((si_thing h.s ht).trans (ot_thing_1 a2)) ?_
    refine jv_icmp_neN dX4_copyTrouble_89 (tgt := 96) (by decide) (by omega) (by omega) (fun h89 => ?_) (fun h89 => absurd h89 a3)
    refine jv_bipush dX4_copyTrouble_96 jv_c_bipush_m3 ?_
    exact jv_iret dX4_copyTrouble_98 rfl rfl rfl rfl rfl
def ot_stz (Z : ot_Y) (p q i j n : Int32) : Prop := (0 ≤ i.toInt ∧ 0 ≤ n.toInt ∧ i.toInt + n.toInt ≤ Z 2 (ot_n p)) ∧ (0 ≤ j.toInt ∧ j.toInt + n.toInt ≤ Z 2 (ot_n q))
def ot_stb (Z : ot_Y) (p q i j n : Int32) : Bool := decide ((0 ≤ i.toInt ∧ 0 ≤ n.toInt ∧ i.toInt + n.toInt ≤ Z 2 (ot_n p)) ∧ (0 ≤ j.toInt ∧ j.toInt + n.toInt ≤ Z 2 (ot_n q)))
def ot_rcc (Z : ot_Y) (p q i j n : Int32) : Nat := if ot_ct Z p q = 0 then (if ot_stb Z p q i j n = true then 0 else 2) else ot_ct Z p q
def ot_cpE (E : ot_E) (s t i j n : Nat) : ot_E := ot_es E t (fun x => if j ≤ x ∧ x < j + n then E s (i + (x - j)) else E t x)
set_option maxRecDepth 20000 in
theorem pc_copy {G : jv_Gr} {I : jv_I} {J : jv_J} {Y Z : ot_Y} {E : ot_E} {K : Option ot_Y} (h : ot_C G I J Y Z E K) (p : Int32) (q : Int32) (i : Int32) (j : Int32) (n : Int32) : ot_cc 8 mX4_copy [.ref 1, .int p, .int q, .int i, .int j, .int n] G I J (ot_ans (ot_rcc Z p q i j n) n) Y (ot_zr Z (ot_rcc Z p q i j n)) (ot_pk (ot_rcc Z p q i j n) (ot_cpE E (ot_n p) (ot_n q) (ot_n i) (ot_n j) (ot_n n)) E) K := by
  have bn := yw_n h.w
  have bc := yw_c h.w
  have bw := yw_w h.w
  rcases ot_ct_cases h.z p q with ⟨e, s, t, hs, ht, rfl, rfl, a1, a2, a3⟩ | ⟨e, hn⟩ | ⟨e, s, t, hs, ht, rfl, rfl, a1⟩ | ⟨e, s, t, hs, ht, rfl, rfl, a1, a2⟩ | ⟨e, s, t, hs, ht, rfl, rfl, a1, a2, a3⟩
  · have z1 := (h.z.1 s hs).2.1 a1
    have z2 := (h.z.1 t ht).2.1 a2
    have hT := oc_copyT h (nI s) (nI t)
    rw [e] at hT
    have hT : jv_C 3 mX4_copyTrouble _ G I J (some (.int (nI 0))) G I J := hT
    unfold ot_rcc
    rw [e]
    rw [if_pos rfl]
    have es1 := ot_slen_1 a1
    have es2 := ot_slen_1 a2
    by_cases hst : ot_stb Z (nI s) (nI t) i j n = true
    · have hb := hst
      unfold ot_stb at hb
      rw [decide_eq_true_eq, ot_n_nI (show s < 2 ^ 30 by omega), ot_n_nI (show t < 2 ^ 30 by omega)] at hb
      rw [if_pos hst]
      obtain ⟨x, hx, rfl⟩ := ot_of (n := 41) (show 0 ≤ i.toInt ∧ i.toInt < ((41 : Nat) : Int) by omega) (by decide)
      obtain ⟨y, hy, rfl⟩ := ot_of (n := 41) (show 0 ≤ j.toInt ∧ j.toInt < ((41 : Nat) : Int) by omega) (by decide)
      obtain ⟨u, hu, rfl⟩ := ot_of (n := 41) (show 0 ≤ n.toInt ∧ n.toInt < ((41 : Nat) : Int) by omega) (by decide)
      rw [nI_toInt (show x < 2 ^ 31 by omega), nI_toInt (show y < 2 ^ 31 by omega), nI_toInt (show u < 2 ^ 31 by omega)] at hb
      have ex := nI_toInt (show x < 2 ^ 31 by omega)
      have ey := nI_toInt (show y < 2 ^ 31 by omega)
      have eu := nI_toInt (show u < 2 ^ 31 by omega)
      rw [ot_n_nI (show s < 2 ^ 30 by omega), ot_n_nI (show t < 2 ^ 30 by omega), ot_n_nI (show x < 2 ^ 30 by omega), ot_n_nI (show y < 2 ^ 30 by omega), ot_n_nI (show u < 2 ^ 30 by omega)]
      have hs2 := ot_C_els (s := t) (J2 := (jv_pa J (49 + 2 * t) (va_cpy (J (49 + 2 * s)) (J (49 + 2 * t)) x y u))) (f := fun v => if y ≤ v ∧ v < y + u then E s (x + (v - y)) else E t v) h ht (fun q hq => if_neg hq) (fun _ v hv => by
        show (if 49 + 2 * t = 49 + 2 * t then va_cpy (J (49 + 2 * s)) (J (49 + 2 * t)) x y u else J (49 + 2 * t)) v = _
        rw [if_pos rfl]
        unfold va_cpy
        by_cases hc : y ≤ v ∧ v < y + u
        · rw [if_pos hc, if_pos hc]; exact (h.s.1 s hs).2.2 a1 _ (by omega)
        · rw [if_neg hc, if_neg hc]; exact (h.s.1 t ht).2.2 a2 v hv)
      refine ⟨I, (jv_pa J (49 + 2 * t) (va_cpy (J (49 + 2 * s)) (J (49 + 2 * t)) x y u)), ?_, hs2, fun q hq => ⟨rfl, if_neg (by omega)⟩⟩
      refine jv_enter okX4_copy (L := [.ref 1, .int (nI s), .int (nI t), .int (nI x), .int (nI y), .int (nI u), .null]) rfl (Nat.le_of_ble_eq_true rfl) ?_
      refine jv_aload0 dX4_copy_0 ?_
      refine jv_iload1 dX4_copy_1 ?_
      refine jv_iload2 dX4_copy_2 ?_
      refine jv_v21 dX4_copy_3 okX4_copyTrouble inX4_copyTrouble seX4_copyTrouble mlX4_79 (ci := 4) (T := TX4) (N := 8) rfl (ck h.g) hT (by decide) (Nat.le_of_ble_eq_true rfl) ?_
      refine jv_istore6 dX4_copy_6 rfl ?_
      refine jv_iload6 dX4_copy_8 ?_
      refine jv_if_eqN dX4_copy_10 (tgt := 20) (by decide) (by omega) (fun hc10 => ?_) (fun hc10 => by omega)
      refine jv_aload0 dX4_copy_20 ?_
      refine jv_getR dX4_copy_21 flX4_40 rfl (ck h.g) (cr_shelves h.g) ?_
      refine jv_iload1 dX4_copy_24 ?_
      refine jv_aald2N dX4_copy_25 (ck_shelves h.g) (by omega) (by decide) (cr_shelf h.g hs) ?_
      refine jv_iload3 dX4_copy_26 ?_
      refine jv_iload5 dX4_copy_27 ?_
      refine jv_v21 dX4_copy_29 okX1_hasStretch inX1_hasStretch seX1_hasStretch mlX4_83 (ci := 1) (T := TX1) (N := 3) rfl (sk h.g hs) (oc_hasStretch h hs _ _) (by decide) (Nat.le_of_ble_eq_true rfl) ?_
      refine jv_if_eqB dX4_copy_32 (tgt := 51) (by decide) (fun h32 => absurd (by omega) h32) (fun h32 => ?_)
      refine jv_aload0 dX4_copy_35 ?_
      refine jv_getR dX4_copy_36 flX4_40 rfl (ck h.g) (cr_shelves h.g) ?_
      refine jv_iload2 dX4_copy_39 ?_
      refine jv_aald2N dX4_copy_40 (ck_shelves h.g) (by omega) (by decide) (cr_shelf h.g ht) ?_
      refine jv_iload4 dX4_copy_41 ?_
      refine jv_iload5 dX4_copy_43 ?_
      refine jv_v21 dX4_copy_45 okX1_hasStretch inX1_hasStretch seX1_hasStretch mlX4_83 (ci := 1) (T := TX1) (N := 3) rfl (sk h.g ht) (oc_hasStretch h ht _ _) (by decide) (Nat.le_of_ble_eq_true rfl) ?_
      refine jv_if_neB dX4_copy_48 (tgt := 58) (by decide) (fun h48 => ?_) (fun h48 => absurd (by omega) h48)
      refine jv_aload0 dX4_copy_58 ?_
      refine jv_getR dX4_copy_59 flX4_40 rfl (ck h.g) (cr_shelves h.g) ?_
      refine jv_iload1 dX4_copy_62 ?_
      refine jv_aald2N dX4_copy_63 (ck_shelves h.g) (by omega) (by decide) (cr_shelf h.g hs) ?_
      refine jv_getR dX4_copy_64 flX4_87 rfl (sk h.g hs) (sr_elements h.g hs) ?_
      refine jv_iload3 dX4_copy_67 ?_
      refine jv_aload0 dX4_copy_68 ?_
      refine jv_getR dX4_copy_69 flX4_40 rfl (ck h.g) (cr_shelves h.g) ?_
      refine jv_iload2 dX4_copy_72 ?_
      refine jv_aald2N dX4_copy_73 (ck_shelves h.g) (by omega) (by decide) (cr_shelf h.g ht) ?_
      refine jv_getR dX4_copy_74 flX4_87 rfl (sk h.g ht) (sr_elements h.g ht) ?_
      refine jv_iload4 dX4_copy_77 ?_
      refine jv_iload5 dX4_copy_79 ?_
      refine jv_copyJ dX4_copy_81 mlX4_91 nat_copy st_copy ini_sys (sk_elements h.g hs) (sk_elements h.g ht) rfl rfl rfl (by omega) (by omega) (by decide) (by decide) (Nat.le_of_ble_eq_true rfl) (by decide) ?_
      refine jv_iload5 dX4_copy_84 ?_
      exact jv_iret dX4_copy_86 rfl rfl rfl rfl rfl
    · have hb : ¬ ((0 ≤ i.toInt ∧ 0 ≤ n.toInt ∧ i.toInt + n.toInt ≤ Z 2 s) ∧ (0 ≤ j.toInt ∧ j.toInt + n.toInt ≤ Z 2 t)) := fun z => hst (by unfold ot_stb; rw [decide_eq_true_eq, ot_n_nI (show s < 2 ^ 30 by omega), ot_n_nI (show t < 2 ^ 30 by omega)]; exact z)
      rw [if_neg hst]
      obtain ⟨I2, hC, h2, h3⟩ := oc_refuse2 h
      refine ⟨I2, J, ?_, h2, h3⟩
      refine jv_enter okX4_copy (L := [.ref 1, .int (nI s), .int (nI t), .int i, .int j, .int n, .null]) rfl (Nat.le_of_ble_eq_true rfl) ?_
      refine jv_aload0 dX4_copy_0 ?_
      refine jv_iload1 dX4_copy_1 ?_
      refine jv_iload2 dX4_copy_2 ?_
      refine jv_v21 dX4_copy_3 okX4_copyTrouble inX4_copyTrouble seX4_copyTrouble mlX4_79 (ci := 4) (T := TX4) (N := 8) rfl (ck h.g) hT (by decide) (Nat.le_of_ble_eq_true rfl) ?_
      refine jv_istore6 dX4_copy_6 rfl ?_
      refine jv_iload6 dX4_copy_8 ?_
      refine jv_if_eqN dX4_copy_10 (tgt := 20) (by decide) (by omega) (fun hc10 => ?_) (fun hc10 => by omega)
      refine jv_aload0 dX4_copy_20 ?_
      refine jv_getR dX4_copy_21 flX4_40 rfl (ck h.g) (cr_shelves h.g) ?_
      refine jv_iload1 dX4_copy_24 ?_
      refine jv_aald2N dX4_copy_25 (ck_shelves h.g) (by omega) (by decide) (cr_shelf h.g hs) ?_
      refine jv_iload3 dX4_copy_26 ?_
      refine jv_iload5 dX4_copy_27 ?_
      refine jv_v21 dX4_copy_29 okX1_hasStretch inX1_hasStretch seX1_hasStretch mlX4_83 (ci := 1) (T := TX1) (N := 3) rfl (sk h.g hs) (oc_hasStretch h hs _ _) (by decide) (Nat.le_of_ble_eq_true rfl) ?_
      refine jv_if_eqB dX4_copy_32 (tgt := 51) (by decide) (fun h32 => ?_) (fun h32 => ?_)
      · refine jv_aload0 dX4_copy_51 ?_
        refine jv_bipush dX4_copy_52 jv_c_bipush_m2 ?_
        refine jv_v11 dX4_copy_54 okX4_refuse inX4_refuse seX4_refuse mlX4_61 (ci := 4) (T := TX4) (N := 8) rfl (ck h.g) hC (by decide) (Nat.le_of_ble_eq_true rfl) ?_
        exact jv_iret dX4_copy_57 rfl rfl rfl rfl rfl
      · refine jv_aload0 dX4_copy_35 ?_
        refine jv_getR dX4_copy_36 flX4_40 rfl (ck h.g) (cr_shelves h.g) ?_
        refine jv_iload2 dX4_copy_39 ?_
        refine jv_aald2N dX4_copy_40 (ck_shelves h.g) (by omega) (by decide) (cr_shelf h.g ht) ?_
        refine jv_iload4 dX4_copy_41 ?_
        refine jv_iload5 dX4_copy_43 ?_
        refine jv_v21 dX4_copy_45 okX1_hasStretch inX1_hasStretch seX1_hasStretch mlX4_83 (ci := 1) (T := TX1) (N := 3) rfl (sk h.g ht) (oc_hasStretch h ht _ _) (by decide) (Nat.le_of_ble_eq_true rfl) ?_
        refine jv_if_neB dX4_copy_48 (tgt := 58) (by decide) (fun h48 => absurd (by omega) hb) (fun h48 => ?_)
        refine jv_aload0 dX4_copy_51 ?_
        refine jv_bipush dX4_copy_52 jv_c_bipush_m2 ?_
        refine jv_v11 dX4_copy_54 okX4_refuse inX4_refuse seX4_refuse mlX4_61 (ci := 4) (T := TX4) (N := 8) rfl (ck h.g) hC (by decide) (Nat.le_of_ble_eq_true rfl) ?_
        exact jv_iret dX4_copy_57 rfl rfl rfl rfl rfl
  · have hT := oc_copyT h p q
    rw [e] at hT
    have hT : jv_C 3 mX4_copyTrouble _ G I J (some (.int (-2))) G I J := hT
    unfold ot_rcc
    rw [e]
    rw [if_neg (by decide)]
    obtain ⟨I2, hC, h2, h3⟩ := oc_refuse2 h
    refine ⟨I2, J, ?_, h2, h3⟩
    refine jv_enter okX4_copy (L := [.ref 1, .int p, .int q, .int i, .int j, .int n, .null]) rfl (Nat.le_of_ble_eq_true rfl) ?_
    refine jv_aload0 dX4_copy_0 ?_
    refine jv_iload1 dX4_copy_1 ?_
    refine jv_iload2 dX4_copy_2 ?_
    refine jv_v21 dX4_copy_3 okX4_copyTrouble inX4_copyTrouble seX4_copyTrouble mlX4_79 (ci := 4) (T := TX4) (N := 8) rfl (ck h.g) hT (by decide) (Nat.le_of_ble_eq_true rfl) ?_
    refine jv_istore6 dX4_copy_6 rfl ?_
    refine jv_iload6 dX4_copy_8 ?_
    refine jv_if_eq dX4_copy_10 (tgt := 20) (by decide) (fun h10 => absurd h10 (by decide)) (fun h10 => ?_)
    refine jv_aload0 dX4_copy_13 ?_
    refine jv_iload6 dX4_copy_14 ?_
    refine jv_v11 dX4_copy_16 okX4_refuse inX4_refuse seX4_refuse mlX4_61 (ci := 4) (T := TX4) (N := 8) rfl (ck h.g) hC (by decide) (Nat.le_of_ble_eq_true rfl) ?_
    exact jv_iret dX4_copy_19 rfl rfl rfl rfl rfl
  · have hT := oc_copyT h (nI s) (nI t)
    rw [e] at hT
    have hT : jv_C 3 mX4_copyTrouble _ G I J (some (.int (-3))) G I J := hT
    unfold ot_rcc
    rw [e]
    rw [if_neg (by decide)]
    obtain ⟨I2, hC, h2, h3⟩ := oc_refuse3 h
    refine ⟨I2, J, ?_, h2, h3⟩
    refine jv_enter okX4_copy (L := [.ref 1, .int (nI s), .int (nI t), .int i, .int j, .int n, .null]) rfl (Nat.le_of_ble_eq_true rfl) ?_
    refine jv_aload0 dX4_copy_0 ?_
    refine jv_iload1 dX4_copy_1 ?_
    refine jv_iload2 dX4_copy_2 ?_
    refine jv_v21 dX4_copy_3 okX4_copyTrouble inX4_copyTrouble seX4_copyTrouble mlX4_79 (ci := 4) (T := TX4) (N := 8) rfl (ck h.g) hT (by decide) (Nat.le_of_ble_eq_true rfl) ?_
    refine jv_istore6 dX4_copy_6 rfl ?_
    refine jv_iload6 dX4_copy_8 ?_
    refine jv_if_eq dX4_copy_10 (tgt := 20) (by decide) (fun h10 => absurd h10 (by decide)) (fun h10 => ?_)
    refine jv_aload0 dX4_copy_13 ?_
    refine jv_iload6 dX4_copy_14 ?_
    refine jv_v11 dX4_copy_16 okX4_refuse inX4_refuse seX4_refuse mlX4_61 (ci := 4) (T := TX4) (N := 8) rfl (ck h.g) hC (by decide) (Nat.le_of_ble_eq_true rfl) ?_
    exact jv_iret dX4_copy_19 rfl rfl rfl rfl rfl
  · have hT := oc_copyT h (nI s) (nI t)
    rw [e] at hT
    have hT : jv_C 3 mX4_copyTrouble _ G I J (some (.int (-4))) G I J := hT
    unfold ot_rcc
    rw [e]
    rw [if_neg (by decide)]
    obtain ⟨I2, hC, h2, h3⟩ := oc_refuse4 h
    refine ⟨I2, J, ?_, h2, h3⟩
    refine jv_enter okX4_copy (L := [.ref 1, .int (nI s), .int (nI t), .int i, .int j, .int n, .null]) rfl (Nat.le_of_ble_eq_true rfl) ?_
    refine jv_aload0 dX4_copy_0 ?_
    refine jv_iload1 dX4_copy_1 ?_
    refine jv_iload2 dX4_copy_2 ?_
    refine jv_v21 dX4_copy_3 okX4_copyTrouble inX4_copyTrouble seX4_copyTrouble mlX4_79 (ci := 4) (T := TX4) (N := 8) rfl (ck h.g) hT (by decide) (Nat.le_of_ble_eq_true rfl) ?_
    refine jv_istore6 dX4_copy_6 rfl ?_
    refine jv_iload6 dX4_copy_8 ?_
    refine jv_if_eq dX4_copy_10 (tgt := 20) (by decide) (fun h10 => absurd h10 (by decide)) (fun h10 => ?_)
    refine jv_aload0 dX4_copy_13 ?_
    refine jv_iload6 dX4_copy_14 ?_
    refine jv_v11 dX4_copy_16 okX4_refuse inX4_refuse seX4_refuse mlX4_61 (ci := 4) (T := TX4) (N := 8) rfl (ck h.g) hC (by decide) (Nat.le_of_ble_eq_true rfl) ?_
    exact jv_iret dX4_copy_19 rfl rfl rfl rfl rfl
  · have hT := oc_copyT h (nI s) (nI t)
    rw [e] at hT
    have hT : jv_C 3 mX4_copyTrouble _ G I J (some (.int (-3))) G I J := hT
    unfold ot_rcc
    rw [e]
    rw [if_neg (by decide)]
    obtain ⟨I2, hC, h2, h3⟩ := oc_refuse3 h
    refine ⟨I2, J, ?_, h2, h3⟩
    refine jv_enter okX4_copy (L := [.ref 1, .int (nI s), .int (nI t), .int i, .int j, .int n, .null]) rfl (Nat.le_of_ble_eq_true rfl) ?_
    refine jv_aload0 dX4_copy_0 ?_
    refine jv_iload1 dX4_copy_1 ?_
    refine jv_iload2 dX4_copy_2 ?_
    refine jv_v21 dX4_copy_3 okX4_copyTrouble inX4_copyTrouble seX4_copyTrouble mlX4_79 (ci := 4) (T := TX4) (N := 8) rfl (ck h.g) hT (by decide) (Nat.le_of_ble_eq_true rfl) ?_
    refine jv_istore6 dX4_copy_6 rfl ?_
    refine jv_iload6 dX4_copy_8 ?_
    refine jv_if_eq dX4_copy_10 (tgt := 20) (by decide) (fun h10 => absurd h10 (by decide)) (fun h10 => ?_)
    refine jv_aload0 dX4_copy_13 ?_
    refine jv_iload6 dX4_copy_14 ?_
    refine jv_v11 dX4_copy_16 okX4_refuse inX4_refuse seX4_refuse mlX4_61 (ci := 4) (T := TX4) (N := 8) rfl (ck h.g) hC (by decide) (Nat.le_of_ble_eq_true rfl) ?_
    exact jv_iret dX4_copy_19 rfl rfl rfl rfl rfl
