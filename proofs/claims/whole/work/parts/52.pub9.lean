/-! ===== the face: group 9 (shelves) ===== -/
theorem ot_es_self (E : ot_E) (s : Nat) : ot_es E s (E s) = E := by funext t; unfold ot_es; by_cases e : t = s; rw [if_pos e, e]; rw [if_neg e]
def ot_holds (Z : ot_Y) (v : Int32) : Int32 := if 0 ≤ v.toInt ∧ v.toInt < 8 then ot_thing Z (ot_n v) else -1
theorem ot_8 {t : Nat} (ht : t < 8) : 0 ≤ (nI t).toInt ∧ (nI t).toInt < 8 := by rw [nI_toInt (by omega)]; omega
theorem ot_7 {t : Nat} (ht : t < 8) : (0 : Int) ≤ (nI t).toInt ∧ (nI t).toInt ≤ 7 := by rw [nI_toInt (by omega)]; omega
set_option maxRecDepth 20000 in
theorem pc_holds {G : jv_Gr} {I : jv_I} {J : jv_J} {Y Z : ot_Y} {E : ot_E} {K : Option ot_Y} (h : ot_C G I J Y Z E K) (s : Int32) : ot_cc 8 mX4_holds [.ref 1, .int s] G I J (ot_holds Z s) Y Z E K := by
  have bn := yw_n h.w
  have bc := yw_c h.w
  have bw := yw_w h.w
  unfold ot_holds
  by_cases hv : 0 ≤ s.toInt ∧ s.toInt < 8
  · rw [if_pos hv]
    obtain ⟨t, ht, rfl⟩ := ot_of (n := 8) hv (by decide)
    rw [ot_n_nI (show t < 2 ^ 30 by omega)]
    refine ⟨I, J, ?_, h, ot_hi.rf⟩
    refine jv_enter okX4_holds (L := [.ref 1, .int (nI t)]) rfl (Nat.le_of_ble_eq_true rfl) ?_
    refine jv_iload1 dX4_holds_0 ?_
    refine jv_s11 dX4_holds_1 okX4_isShelf stX4_isShelf mlX4_53 (ot_isShelf _) (by decide) (Nat.le_of_ble_eq_true rfl) ?_
    refine jv_if_eqB dX4_holds_4 (tgt := 19) (by decide) (fun hq4 => absurd hv hq4) (fun hq4 => ?_)
    refine jv_aload0 dX4_holds_7 ?_
    refine jv_getR dX4_holds_8 flX4_40 rfl (ck h.g) (cr_shelves h.g) ?_
    refine jv_iload1 dX4_holds_11 ?_
    refine jv_aald2N dX4_holds_12 (ck_shelves h.g) (by omega) (by decide) (cr_shelf h.g ht) ?_
    refine jv_getI dX4_holds_13 flX4_97 rfl (sk h.g ht) (si_thing h.s ht) ?_
    refine jv_goto dX4_holds_16 (tgt := 20) (by decide) ?_
    exact jv_iret dX4_holds_20 rfl rfl rfl rfl rfl
  · rw [if_neg hv]
    refine ⟨I, J, ?_, h, ot_hi.rf⟩
    refine jv_enter okX4_holds (L := [.ref 1, .int s]) rfl (Nat.le_of_ble_eq_true rfl) ?_
    refine jv_iload1 dX4_holds_0 ?_
    refine jv_s11 dX4_holds_1 okX4_isShelf stX4_isShelf mlX4_53 (ot_isShelf _) (by decide) (Nat.le_of_ble_eq_true rfl) ?_
    refine jv_if_eqB dX4_holds_4 (tgt := 19) (by decide) (fun hq4 => ?_) (fun hq4 => absurd hq4 hv)
    refine jv_iconst dX4_holds_19 jv_c_iconst_m1 ?_
    exact jv_iret dX4_holds_20 rfl rfl rfl rfl rfl
set_option maxRecDepth 20000 in
theorem pm_holds {G : jv_Gr} {I : jv_I} {J : jv_J} {Y Z : ot_Y} {E : ot_E} {K : Option ot_Y} (h : ot_M G I J Y Z E K) (s : Int32) : ot_mm 8 mX5_holds [.ref 64, .int s] G I J (ot_holds Z s) Y Z E K := by
  have bn := yw_n h.w
  have bc := yw_c h.w
  have bw := yw_w h.w
  unfold ot_holds
  by_cases hv : 0 ≤ s.toInt ∧ s.toInt < 8
  · rw [if_pos hv]
    obtain ⟨t, ht, rfl⟩ := ot_of (n := 8) hv (by decide)
    rw [ot_n_nI (show t < 2 ^ 30 by omega)]
    obtain ⟨z1, z2, z3⟩ := h.z.1 t ht
    rcases (show Z 0 t = 0 ∨ Z 0 t = 1 ∨ Z 0 t = 2 by omega) with h0s | h1s | h2s
    · rw [ot_thing_0 h0s]
      refine ⟨G, I, J, ?_, h, ot_lo.rf, ot_gx.rf⟩
      refine jv_enter okX5_holds (L := [.ref 64, .int (nI t)]) rfl (Nat.le_of_ble_eq_true rfl) ?_
      refine jv_iload1 dX5_holds_0 ?_
      refine jv_i2l dX5_holds_1 rfl ?_
      refine jv_lconst dX5_holds_2 (v := lN 0) rfl ?_
      refine jv_ldc2 dX5_holds_3 cnX5_98 ?_
      refine jv_s31 dX5_holds_6 okX5_in stX5_in mlX5_83 (om_inC _ (a := 0) (b := 7) (by decide) (by decide)) (by decide) (Nat.le_of_ble_eq_true rfl) ?_
      refine jv_if_eqB dX5_holds_9 (tgt := 21) (by decide) (fun hq9 => absurd (ot_7 ht) hq9) (fun hq9 => ?_)
      refine jv_aload0 dX5_holds_12 ?_
      refine jv_getR dX5_holds_13 flX5_7 rfl (mk h.g) (mr_shelf h.g) ?_
      refine jv_iload1 dX5_holds_16 ?_
      refine jv_ialdN dX5_holds_17 (mk_shelf h.g) (by omega) (by decide) ((nr_tag h.s ht).trans (by rw [h0s])) ?_
      refine jv_if_neN dX5_holds_18 (tgt := 23) (by decide) (by omega) (fun h18 => by omega) (fun h18 => ?_)
      refine jv_iconst dX5_holds_21 jv_c_iconst_m1 ?_
      exact jv_iret dX5_holds_22 rfl rfl rfl rfl rfl
    · rw [ot_thing_1 h1s]
      refine ⟨G, I, J, ?_, h, ot_lo.rf, ot_gx.rf⟩
      refine jv_enter okX5_holds (L := [.ref 64, .int (nI t)]) rfl (Nat.le_of_ble_eq_true rfl) ?_
      refine jv_iload1 dX5_holds_0 ?_
      refine jv_i2l dX5_holds_1 rfl ?_
      refine jv_lconst dX5_holds_2 (v := lN 0) rfl ?_
      refine jv_ldc2 dX5_holds_3 cnX5_98 ?_
      refine jv_s31 dX5_holds_6 okX5_in stX5_in mlX5_83 (om_inC _ (a := 0) (b := 7) (by decide) (by decide)) (by decide) (Nat.le_of_ble_eq_true rfl) ?_
      refine jv_if_eqB dX5_holds_9 (tgt := 21) (by decide) (fun hq9 => absurd (ot_7 ht) hq9) (fun hq9 => ?_)
      refine jv_aload0 dX5_holds_12 ?_
      refine jv_getR dX5_holds_13 flX5_7 rfl (mk h.g) (mr_shelf h.g) ?_
      refine jv_iload1 dX5_holds_16 ?_
      refine jv_ialdN dX5_holds_17 (mk_shelf h.g) (by omega) (by decide) ((nr_tag h.s ht).trans (by rw [h1s])) ?_
      refine jv_if_neN dX5_holds_18 (tgt := 23) (by decide) (by omega) (fun h18 => ?_) (fun h18 => by omega)
      refine jv_aload0 dX5_holds_23 ?_
      refine jv_getR dX5_holds_24 flX5_7 rfl (mk h.g) (mr_shelf h.g) ?_
      refine jv_iload1 dX5_holds_27 ?_
      refine jv_ialdN dX5_holds_28 (mk_shelf h.g) (by omega) (by decide) ((nr_tag h.s ht).trans (by rw [h1s])) ?_
      refine jv_iconst dX5_holds_29 jv_c_iconst_1 ?_
      refine jv_icmp_neN dX5_holds_30 (tgt := 42) (by decide) (by omega) (by omega) (fun h30 => by omega) (fun h30 => ?_)
      refine jv_aload0 dX5_holds_33 ?_
      refine jv_getR dX5_holds_34 flX5_13 rfl (mk h.g) (mr_rowSort h.g) ?_
      refine jv_iload1 dX5_holds_37 ?_
      refine jv_ialdN dX5_holds_38 (mk_rowSort h.g) (by omega) (by decide) (nr_sort h.s ht h1s) ?_
      refine jv_goto dX5_holds_39 (tgt := 51) (by decide) ?_
      exact jv_iret dX5_holds_51 rfl rfl rfl rfl rfl
    · rw [ot_thing_2 h2s]
      refine ⟨G, I, J, ?_, h, ot_lo.rf, ot_gx.rf⟩
      refine jv_enter okX5_holds (L := [.ref 64, .int (nI t)]) rfl (Nat.le_of_ble_eq_true rfl) ?_
      refine jv_iload1 dX5_holds_0 ?_
      refine jv_i2l dX5_holds_1 rfl ?_
      refine jv_lconst dX5_holds_2 (v := lN 0) rfl ?_
      refine jv_ldc2 dX5_holds_3 cnX5_98 ?_
      refine jv_s31 dX5_holds_6 okX5_in stX5_in mlX5_83 (om_inC _ (a := 0) (b := 7) (by decide) (by decide)) (by decide) (Nat.le_of_ble_eq_true rfl) ?_
      refine jv_if_eqB dX5_holds_9 (tgt := 21) (by decide) (fun hq9 => absurd (ot_7 ht) hq9) (fun hq9 => ?_)
      refine jv_aload0 dX5_holds_12 ?_
      refine jv_getR dX5_holds_13 flX5_7 rfl (mk h.g) (mr_shelf h.g) ?_
      refine jv_iload1 dX5_holds_16 ?_
      refine jv_ialdN dX5_holds_17 (mk_shelf h.g) (by omega) (by decide) ((nr_tag h.s ht).trans (by rw [h2s])) ?_
      refine jv_if_neN dX5_holds_18 (tgt := 23) (by decide) (by omega) (fun h18 => ?_) (fun h18 => by omega)
      refine jv_aload0 dX5_holds_23 ?_
      refine jv_getR dX5_holds_24 flX5_7 rfl (mk h.g) (mr_shelf h.g) ?_
      refine jv_iload1 dX5_holds_27 ?_
      refine jv_ialdN dX5_holds_28 (mk_shelf h.g) (by omega) (by decide) ((nr_tag h.s ht).trans (by rw [h2s])) ?_
      refine jv_iconst dX5_holds_29 jv_c_iconst_1 ?_
      refine jv_icmp_neN dX5_holds_30 (tgt := 42) (by decide) (by omega) (by omega) (fun h30 => ?_) (fun h30 => by omega)
      refine jv_bipush dX5_holds_42 jv_c_bipush_10 ?_
      refine jv_aload0 dX5_holds_44 ?_
      refine jv_getR dX5_holds_45 flX5_28 rfl (mk h.g) (mr_shown h.g) ?_
      refine jv_iload1 dX5_holds_48 ?_
      refine jv_ialdN dX5_holds_49 (mk_shown h.g) (by omega) (by decide) (nr_shown h.s ht h2s) ?_
      refine jv_iaddN dX5_holds_50 ?_
      exact jv_iret dX5_holds_51 rfl rfl rfl rfl rfl
  · rw [if_neg hv]
    refine ⟨G, I, J, ?_, h, ot_lo.rf, ot_gx.rf⟩
    refine jv_enter okX5_holds (L := [.ref 64, .int s]) rfl (Nat.le_of_ble_eq_true rfl) ?_
    refine jv_iload1 dX5_holds_0 ?_
    refine jv_i2l dX5_holds_1 rfl ?_
    refine jv_lconst dX5_holds_2 (v := lN 0) rfl ?_
    refine jv_ldc2 dX5_holds_3 cnX5_98 ?_
    refine jv_s31 dX5_holds_6 okX5_in stX5_in mlX5_83 (om_inC _ (a := 0) (b := 7) (by decide) (by decide)) (by decide) (Nat.le_of_ble_eq_true rfl) ?_
    refine jv_if_eqB dX5_holds_9 (tgt := 21) (by decide) (fun hq9 => ?_) (fun hq9 => absurd ⟨hq9.1, by omega⟩ hv)
    refine jv_iconst dX5_holds_21 jv_c_iconst_m1 ?_
    exact jv_iret dX5_holds_22 rfl rfl rfl rfl rfl
set_option maxRecDepth 20000 in
theorem pc_show {G : jv_Gr} {I : jv_I} {J : jv_J} {Y Z : ot_Y} {E : ot_E} {K : Option ot_Y} (h : ot_C G I J Y Z E K) (s : Int32) (k : Int32) : ot_cc 8 mX4_show [.ref 1, .int s, .int k] G I J (ot_ans (ot_rc ((0 ≤ s.toInt ∧ s.toInt < 8) ∧ (k = -1 ∨ (0 ≤ k.toInt ∧ k.toInt < Y 10 1)))) (nI 1)) Y (ot_pk (ot_rc ((0 ≤ s.toInt ∧ s.toInt < 8) ∧ (k = -1 ∨ (0 ≤ k.toInt ∧ k.toInt < Y 10 1)))) (if k = -1 then ot_zs Z (ot_n s) 0 0 0 0 else ot_zs Z (ot_n s) 2 0 0 (ot_n k)) (ot_zr Z (ot_rc ((0 ≤ s.toInt ∧ s.toInt < 8) ∧ (k = -1 ∨ (0 ≤ k.toInt ∧ k.toInt < Y 10 1)))))) E K := by
  have bn := yw_n h.w
  have bc := yw_c h.w
  have bw := yw_w h.w
  refine ot_rc_split (motive := fun rc => ot_cc 8 mX4_show [.ref 1, .int s, .int k] G I J (ot_ans rc (nI 1)) Y (ot_pk rc (if k = -1 then ot_zs Z (ot_n s) 0 0 0 0 else ot_zs Z (ot_n s) 2 0 0 (ot_n k)) (ot_zr Z rc)) E K) (fun hv => ?_) (fun hv => ?_)
  · obtain ⟨t, ht, rfl⟩ := ot_of (n := 8) hv.1 (by decide)
    rw [ot_n_nI (show t < 2 ^ 30 by omega)]
    by_cases hk : k = -1
    · subst hk
      rw [if_pos rfl]
      have hs2 := ot_C_shelf (I2 := (jv_up (jv_up I (48 + 2 * t) 0 (-1)) (48 + 2 * t) 1 (nI 0))) (J2 := J) (tg := 0) (so := 0) (si := 0) (sh := 0) (f := E t) h ht (by decide) (fun q => absurd q (by decide)) (fun q => absurd q (by decide)) (fun q hq => (jv_up_ne _ _ _ hq).trans (jv_up_ne _ _ _ hq)) (fun _ _ => rfl) (by rw [jv_up_at_ne _ _ _ (by decide), jv_up_at, ot_thing_0 ot_zs_0]) (by rw [jv_up_at]; unfold ot_slen; rw [ot_zs_0, if_neg (by decide)]) (fun q => absurd q (by decide))
      rw [ot_es_self] at hs2
      refine ⟨(jv_up (jv_up I (48 + 2 * t) 0 (-1)) (48 + 2 * t) 1 (nI 0)), J, ?_, hs2, fun q hq => ⟨(jv_up_ne _ _ _ (by omega)).trans (jv_up_ne _ _ _ (by omega)), rfl⟩⟩
      refine jv_enter okX4_show (L := [.ref 1, .int (nI t), .int (-1)]) rfl (Nat.le_of_ble_eq_true rfl) ?_
      refine jv_iload1 dX4_show_0 ?_
      refine jv_s11 dX4_show_1 okX4_isShelf stX4_isShelf mlX4_53 (ot_isShelf _) (by decide) (Nat.le_of_ble_eq_true rfl) ?_
      refine jv_if_eqB dX4_show_4 (tgt := 23) (by decide) (fun hq4 => absurd hv.1 hq4) (fun hq4 => ?_)
      refine jv_iload2 dX4_show_7 ?_
      refine jv_iconst dX4_show_8 jv_c_iconst_m1 ?_
      refine jv_icmp_eq dX4_show_9 (tgt := 30) (by decide) (fun hc9 => ?_) (fun hc9 => absurd rfl hc9)
      refine jv_iload2 dX4_show_30 ?_
      refine jv_iconst dX4_show_31 jv_c_iconst_m1 ?_
      refine jv_icmp_ne dX4_show_32 (tgt := 47) (by decide) (fun h32 => absurd rfl h32) (fun h32 => ?_)
      refine jv_aload0 dX4_show_35 ?_
      refine jv_getR dX4_show_36 flX4_40 rfl (ck h.g) (cr_shelves h.g) ?_
      refine jv_iload1 dX4_show_39 ?_
      refine jv_aald2N dX4_show_40 (ck_shelves h.g) (by omega) (by decide) (cr_shelf h.g ht) ?_
      refine jv_v00 dX4_show_41 okX1_takeNothing inX1_takeNothing seX1_takeNothing mlX4_104 (ci := 1) (T := TX1) (N := 3) rfl (sk h.g ht) (oc_takeNothing h ht) (by decide) (Nat.le_of_ble_eq_true rfl) ?_
      refine jv_goto dX4_show_44 (tgt := 57) (by decide) ?_
      refine jv_iconst dX4_show_57 jv_c_iconst_1 ?_
      exact jv_iret dX4_show_58 rfl rfl rfl rfl rfl
    · have hvk := hv.2.resolve_left hk
      obtain ⟨u, hu, rfl⟩ := ot_of hvk (by omega)
      rw [ot_n_nI (show u < 2 ^ 30 by omega), if_neg hk]
      have hs2 := ot_C_shelf (I2 := (jv_up (jv_up I (48 + 2 * t) 0 (nI (10 + u))) (48 + 2 * t) 1 (nI 0))) (J2 := J) (tg := 2) (so := 0) (si := 0) (sh := u) (f := E t) h ht (by decide) (fun q => absurd q (by decide)) (fun _ => hu) (fun q hq => (jv_up_ne _ _ _ hq).trans (jv_up_ne _ _ _ hq)) (fun _ _ => rfl) (by rw [jv_up_at_ne _ _ _ (by decide), jv_up_at, ot_thing_2 ot_zs_0, ot_zs_3]) (by rw [jv_up_at]; unfold ot_slen; rw [ot_zs_0, if_neg (by decide)]) (fun q => absurd q (by decide))
      rw [ot_es_self] at hs2
      refine ⟨(jv_up (jv_up I (48 + 2 * t) 0 (nI (10 + u))) (48 + 2 * t) 1 (nI 0)), J, ?_, hs2, fun q hq => ⟨(jv_up_ne _ _ _ (by omega)).trans (jv_up_ne _ _ _ (by omega)), rfl⟩⟩
      refine jv_enter okX4_show (L := [.ref 1, .int (nI t), .int (nI u)]) rfl (Nat.le_of_ble_eq_true rfl) ?_
      refine jv_iload1 dX4_show_0 ?_
      refine jv_s11 dX4_show_1 okX4_isShelf stX4_isShelf mlX4_53 (ot_isShelf _) (by decide) (Nat.le_of_ble_eq_true rfl) ?_
      refine jv_if_eqB dX4_show_4 (tgt := 23) (by decide) (fun hq4 => absurd hv.1 hq4) (fun hq4 => ?_)
      refine jv_iload2 dX4_show_7 ?_
      refine jv_iconst dX4_show_8 jv_c_iconst_m1 ?_
      refine jv_icmp_eq dX4_show_9 (tgt := 30) (by decide) (fun h9 => absurd h9 hk) (fun h9 => ?_)
      refine jv_aload0 dX4_show_12 ?_
      refine jv_getR dX4_show_13 flX4_10 rfl (ck h.g) (cr_now h.g) ?_
      refine jv_iload2 dX4_show_16 ?_
      refine jv_v11 dX4_show_17 okX3_hasCount inX3_hasCount seX3_hasCount mlX4_101 (ci := 3) (T := TX3) (N := 15) rfl (yk (cg_now h.g)) (ot_hasCount (cg_now h.g) h.r h.w _) (by decide) (Nat.le_of_ble_eq_true rfl) ?_
      refine jv_if_neB dX4_show_20 (tgt := 30) (by decide) (fun h20 => ?_) (fun h20 => absurd hvk h20)
      refine jv_iload2 dX4_show_30 ?_
      refine jv_iconst dX4_show_31 jv_c_iconst_m1 ?_
      refine jv_icmp_ne dX4_show_32 (tgt := 47) (by decide) (fun h32 => ?_) (fun h32 => absurd h32 hk)
      refine jv_aload0 dX4_show_47 ?_
      refine jv_getR dX4_show_48 flX4_40 rfl (ck h.g) (cr_shelves h.g) ?_
      refine jv_iload1 dX4_show_51 ?_
      refine jv_aald2N dX4_show_52 (ck_shelves h.g) (by omega) (by decide) (cr_shelf h.g ht) ?_
      refine jv_iload2 dX4_show_53 ?_
      refine jv_v10 dX4_show_54 okX1_takeCount inX1_takeCount seX1_takeCount mlX4_107 (ci := 1) (T := TX1) (N := 3) rfl (sk h.g ht) (oc_takeCount h ht) (by decide) (Nat.le_of_ble_eq_true rfl) ?_
      refine jv_iconst dX4_show_57 jv_c_iconst_1 ?_
      exact jv_iret dX4_show_58 rfl rfl rfl rfl rfl
  · obtain ⟨I2, hC, h2, h3⟩ := oc_refuse2 h
    refine ⟨I2, J, ?_, h2, h3⟩
    refine jv_enter okX4_show (L := [.ref 1, .int s, .int k]) rfl (Nat.le_of_ble_eq_true rfl) ?_
    refine jv_iload1 dX4_show_0 ?_
    refine jv_s11 dX4_show_1 okX4_isShelf stX4_isShelf mlX4_53 (ot_isShelf _) (by decide) (Nat.le_of_ble_eq_true rfl) ?_
    refine jv_if_eqB dX4_show_4 (tgt := 23) (by decide) (fun g4 => ?_) (fun g4 => ?_)
    · refine jv_aload0 dX4_show_23 ?_
      refine jv_bipush dX4_show_24 jv_c_bipush_m2 ?_
      refine jv_v11 dX4_show_26 okX4_refuse inX4_refuse seX4_refuse mlX4_61 (ci := 4) (T := TX4) (N := 8) rfl (ck h.g) hC (by decide) (Nat.le_of_ble_eq_true rfl) ?_
      exact jv_iret dX4_show_29 rfl rfl rfl rfl rfl
    · refine jv_iload2 dX4_show_7 ?_
      refine jv_iconst dX4_show_8 jv_c_iconst_m1 ?_
      refine jv_icmp_eq dX4_show_9 (tgt := 30) (by decide) (fun g9 => ?_) (fun g9 => ?_)
      · exact absurd ⟨g4, .inl g9⟩ hv
      · refine jv_aload0 dX4_show_12 ?_
        refine jv_getR dX4_show_13 flX4_10 rfl (ck h.g) (cr_now h.g) ?_
        refine jv_iload2 dX4_show_16 ?_
        refine jv_v11 dX4_show_17 okX3_hasCount inX3_hasCount seX3_hasCount mlX4_101 (ci := 3) (T := TX3) (N := 15) rfl (yk (cg_now h.g)) (ot_hasCount (cg_now h.g) h.r h.w _) (by decide) (Nat.le_of_ble_eq_true rfl) ?_
        refine jv_if_neB dX4_show_20 (tgt := 30) (by decide) (fun g20 => ?_) (fun g20 => ?_)
        · exact absurd ⟨g4, .inr g20⟩ hv
        · refine jv_aload0 dX4_show_23 ?_
          refine jv_bipush dX4_show_24 jv_c_bipush_m2 ?_
          refine jv_v11 dX4_show_26 okX4_refuse inX4_refuse seX4_refuse mlX4_61 (ci := 4) (T := TX4) (N := 8) rfl (ck h.g) hC (by decide) (Nat.le_of_ble_eq_true rfl) ?_
          exact jv_iret dX4_show_29 rfl rfl rfl rfl rfl
set_option maxRecDepth 20000 in
theorem pm_show {G : jv_Gr} {I : jv_I} {J : jv_J} {Y Z : ot_Y} {E : ot_E} {K : Option ot_Y} (h : ot_M G I J Y Z E K) (s : Int32) (k : Int32) : ot_mm 8 mX5_show [.ref 64, .int s, .int k] G I J (ot_ans (ot_rc ((0 ≤ s.toInt ∧ s.toInt < 8) ∧ (k = -1 ∨ (0 ≤ k.toInt ∧ k.toInt < Y 10 1)))) (nI 1)) Y (ot_pk (ot_rc ((0 ≤ s.toInt ∧ s.toInt < 8) ∧ (k = -1 ∨ (0 ≤ k.toInt ∧ k.toInt < Y 10 1)))) (if k = -1 then ot_zs Z (ot_n s) 0 0 0 0 else ot_zs Z (ot_n s) 2 0 0 (ot_n k)) (ot_zr Z (ot_rc ((0 ≤ s.toInt ∧ s.toInt < 8) ∧ (k = -1 ∨ (0 ≤ k.toInt ∧ k.toInt < Y 10 1)))))) E K := by
  have bn := yw_n h.w
  have bc := yw_c h.w
  have bw := yw_w h.w
  refine ot_rc_split (motive := fun rc => ot_mm 8 mX5_show [.ref 64, .int s, .int k] G I J (ot_ans rc (nI 1)) Y (ot_pk rc (if k = -1 then ot_zs Z (ot_n s) 0 0 0 0 else ot_zs Z (ot_n s) 2 0 0 (ot_n k)) (ot_zr Z rc)) E K) (fun hv => ?_) (fun hv => ?_)
  · obtain ⟨t, ht, rfl⟩ := ot_of (n := 8) hv.1 (by decide)
    rw [ot_n_nI (show t < 2 ^ 30 by omega)]
    by_cases hk : k = -1
    · subst hk
      rw [if_pos rfl]
      have hs2 := ot_M_shelf (I2 := (jv_up (jv_up I (64 + 1) t (nI 0)) (64 + 14) t (-1))) (J2 := J) (tg := 0) (so := 0) (si := 0) (sh := 0) (f := E t) h ht (by decide) (fun q => absurd q (by decide)) (fun q => absurd q (by decide)) (fun q q1 q2 q3 q4 => (jv_up_ne _ _ _ (by omega)).trans (jv_up_ne _ _ _ (by omega))) (fun q u hu => by simp [jv_up, hu]) (fun _ _ => rfl) (by simp [jv_up]) (fun q => absurd q (by decide)) (fun q => absurd q (by decide)) (fun q => absurd q (by decide))
      rw [ot_es_self] at hs2
      refine ⟨G, (jv_up (jv_up I (64 + 1) t (nI 0)) (64 + 14) t (-1)), J, ?_, hs2, fun q hq => ⟨(jv_up_ne _ _ _ (by omega)).trans (jv_up_ne _ _ _ (by omega)), rfl⟩, ot_gx.rf⟩
      refine jv_enter okX5_show (L := [.ref 64, .int (nI t), .int (-1)]) rfl (Nat.le_of_ble_eq_true rfl) ?_
      refine jv_iload1 dX5_show_0 ?_
      refine jv_i2l dX5_show_1 rfl ?_
      refine jv_lconst dX5_show_2 (v := lN 0) rfl ?_
      refine jv_ldc2 dX5_show_3 cnX5_98 ?_
      refine jv_s31 dX5_show_6 okX5_in stX5_in mlX5_83 (om_inC _ (a := 0) (b := 7) (by decide) (by decide)) (by decide) (Nat.le_of_ble_eq_true rfl) ?_
      refine jv_if_eqB dX5_show_9 (tgt := 25) (by decide) (fun hq9 => absurd (ot_7 ht) hq9) (fun hq9 => ?_)
      refine jv_iload2 dX5_show_12 ?_
      refine jv_iconst dX5_show_13 jv_c_iconst_m1 ?_
      refine jv_icmp_eq dX5_show_14 (tgt := 32) (by decide) (fun hc14 => ?_) (fun hc14 => absurd rfl hc14)
      refine jv_aload0 dX5_show_32 ?_
      refine jv_getR dX5_show_33 flX5_7 rfl (mk h.g) (mr_shelf h.g) ?_
      refine jv_iload1 dX5_show_36 ?_
      refine jv_iload2 dX5_show_37 ?_
      refine jv_iconst dX5_show_38 jv_c_iconst_m1 ?_
      refine jv_icmp_ne dX5_show_39 (tgt := 46) (by decide) (fun h32 => absurd rfl h32) (fun h32 => ?_)
      refine jv_iconst dX5_show_42 jv_c_iconst_0 ?_
      refine jv_goto dX5_show_43 (tgt := 47) (by decide) ?_
      refine jv_iastN dX5_show_47 (mk_shelf h.g) (by omega) (by decide) ?_
      refine jv_aload0 dX5_show_48 ?_
      refine jv_getR dX5_show_49 flX5_28 rfl (mk h.g) (mr_shown h.g) ?_
      refine jv_iload1 dX5_show_52 ?_
      refine jv_iload2 dX5_show_53 ?_
      refine jv_iastN dX5_show_54 (mk_shown h.g) (by omega) (by decide) ?_
      refine jv_iconst dX5_show_55 jv_c_iconst_1 ?_
      exact jv_iret dX5_show_56 rfl rfl rfl rfl rfl
    · have hvk := hv.2.resolve_left hk
      obtain ⟨u, hu, rfl⟩ := ot_of hvk (by omega)
      rw [ot_n_nI (show u < 2 ^ 30 by omega), if_neg hk]
      have hs2 := ot_M_shelf (I2 := (jv_up (jv_up I (64 + 1) t (nI 2)) (64 + 14) t (nI u))) (J2 := J) (tg := 2) (so := 0) (si := 0) (sh := u) (f := E t) h ht (by decide) (fun q => absurd q (by decide)) (fun _ => hu) (fun q q1 q2 q3 q4 => (jv_up_ne _ _ _ (by omega)).trans (jv_up_ne _ _ _ (by omega))) (fun q u hu => by simp [jv_up, hu]) (fun _ _ => rfl) (by simp [jv_up]) (fun q => absurd q (by decide)) (fun _ => by simp [jv_up]) (fun q => absurd q (by decide))
      rw [ot_es_self] at hs2
      refine ⟨G, (jv_up (jv_up I (64 + 1) t (nI 2)) (64 + 14) t (nI u)), J, ?_, hs2, fun q hq => ⟨(jv_up_ne _ _ _ (by omega)).trans (jv_up_ne _ _ _ (by omega)), rfl⟩, ot_gx.rf⟩
      refine jv_enter okX5_show (L := [.ref 64, .int (nI t), .int (nI u)]) rfl (Nat.le_of_ble_eq_true rfl) ?_
      refine jv_iload1 dX5_show_0 ?_
      refine jv_i2l dX5_show_1 rfl ?_
      refine jv_lconst dX5_show_2 (v := lN 0) rfl ?_
      refine jv_ldc2 dX5_show_3 cnX5_98 ?_
      refine jv_s31 dX5_show_6 okX5_in stX5_in mlX5_83 (om_inC _ (a := 0) (b := 7) (by decide) (by decide)) (by decide) (Nat.le_of_ble_eq_true rfl) ?_
      refine jv_if_eqB dX5_show_9 (tgt := 25) (by decide) (fun hq9 => absurd (ot_7 ht) hq9) (fun hq9 => ?_)
      refine jv_iload2 dX5_show_12 ?_
      refine jv_iconst dX5_show_13 jv_c_iconst_m1 ?_
      refine jv_icmp_eq dX5_show_14 (tgt := 32) (by decide) (fun h9 => absurd h9 hk) (fun h9 => ?_)
      refine jv_aload0 dX5_show_17 ?_
      refine jv_iload2 dX5_show_18 ?_
      refine jv_v11 dX5_show_19 okX5_isCount inX5_isCount seX5_isCount mlX5_94 (ci := 5) (T := TX5) (N := 35) rfl (mk h.g) (om_isCount h.g h.r h.w _) (by decide) (Nat.le_of_ble_eq_true rfl) ?_
      refine jv_if_neB dX5_show_22 (tgt := 32) (by decide) (fun h20 => ?_) (fun h20 => absurd hvk h20)
      refine jv_aload0 dX5_show_32 ?_
      refine jv_getR dX5_show_33 flX5_7 rfl (mk h.g) (mr_shelf h.g) ?_
      refine jv_iload1 dX5_show_36 ?_
      refine jv_iload2 dX5_show_37 ?_
      refine jv_iconst dX5_show_38 jv_c_iconst_m1 ?_
      refine jv_icmp_ne dX5_show_39 (tgt := 46) (by decide) (fun h32 => ?_) (fun h32 => absurd h32 hk)
      refine jv_iconst dX5_show_46 jv_c_iconst_2 ?_
      refine jv_iastN dX5_show_47 (mk_shelf h.g) (by omega) (by decide) ?_
      refine jv_aload0 dX5_show_48 ?_
      refine jv_getR dX5_show_49 flX5_28 rfl (mk h.g) (mr_shown h.g) ?_
      refine jv_iload1 dX5_show_52 ?_
      refine jv_iload2 dX5_show_53 ?_
      refine jv_iastN dX5_show_54 (mk_shown h.g) (by omega) (by decide) ?_
      refine jv_iconst dX5_show_55 jv_c_iconst_1 ?_
      exact jv_iret dX5_show_56 rfl rfl rfl rfl rfl
  · obtain ⟨I2, hC, h2, h3⟩ := om_refuse2 h
    refine ⟨G, I2, J, ?_, h2, h3, ot_gx.rf⟩
    refine jv_enter okX5_show (L := [.ref 64, .int s, .int k]) rfl (Nat.le_of_ble_eq_true rfl) ?_
    refine jv_iload1 dX5_show_0 ?_
    refine jv_i2l dX5_show_1 rfl ?_
    refine jv_lconst dX5_show_2 (v := lN 0) rfl ?_
    refine jv_ldc2 dX5_show_3 cnX5_98 ?_
    refine jv_s31 dX5_show_6 okX5_in stX5_in mlX5_83 (om_inC _ (a := 0) (b := 7) (by decide) (by decide)) (by decide) (Nat.le_of_ble_eq_true rfl) ?_
    refine jv_if_eqB dX5_show_9 (tgt := 25) (by decide) (fun g4 => ?_) (fun g4 => ?_)
    · refine jv_aload0 dX5_show_25 ?_
      refine jv_bipush dX5_show_26 jv_c_bipush_m2 ?_
      refine jv_v11 dX5_show_28 okX5_refuse inX5_refuse seX5_refuse mlX5_104 (ci := 5) (T := TX5) (N := 35) rfl (mk h.g) hC (by decide) (Nat.le_of_ble_eq_true rfl) ?_
      exact jv_iret dX5_show_31 rfl rfl rfl rfl rfl
    · refine jv_iload2 dX5_show_12 ?_
      refine jv_iconst dX5_show_13 jv_c_iconst_m1 ?_
      refine jv_icmp_eq dX5_show_14 (tgt := 32) (by decide) (fun g9 => ?_) (fun g9 => ?_)
      · exact absurd ⟨⟨g4.1, by omega⟩, .inl g9⟩ hv
      · refine jv_aload0 dX5_show_17 ?_
        refine jv_iload2 dX5_show_18 ?_
        refine jv_v11 dX5_show_19 okX5_isCount inX5_isCount seX5_isCount mlX5_94 (ci := 5) (T := TX5) (N := 35) rfl (mk h.g) (om_isCount h.g h.r h.w _) (by decide) (Nat.le_of_ble_eq_true rfl) ?_
        refine jv_if_neB dX5_show_22 (tgt := 32) (by decide) (fun g20 => ?_) (fun g20 => ?_)
        · exact absurd ⟨⟨g4.1, by omega⟩, .inr g20⟩ hv
        · refine jv_aload0 dX5_show_25 ?_
          refine jv_bipush dX5_show_26 jv_c_bipush_m2 ?_
          refine jv_v11 dX5_show_28 okX5_refuse inX5_refuse seX5_refuse mlX5_104 (ci := 5) (T := TX5) (N := 35) rfl (mk h.g) hC (by decide) (Nat.le_of_ble_eq_true rfl) ?_
          exact jv_iret dX5_show_31 rfl rfl rfl rfl rfl
def ot_fit (so : Nat) (v : Int64) : Int64 := match so with
  | 0 => v.toInt32.toInt8.toInt32.toInt64
  | 1 => v.toInt32.toInt16.toInt32.toInt64
  | 2 => v.toInt32.toInt64
  | 3 => v
  | _ => if v = lN 0 then lN 0 else lN 1
set_option maxRecDepth 20000 in
theorem oc_put0 {G : jv_Gr} {I : jv_I} {J : jv_J} {Y Z : ot_Y} {E : ot_E} {K : Option ot_Y} (h : ot_C G I J Y Z E K) {s i : Nat} (hs : s < 8) (h1s : Z 0 s = 1) (hi : i < 40) (v : Int64) (hso : Z 1 s = 0) : jv_C 1 mX1_put [.ref (48 + 2 * s), .int (nI i), .long v] G I J none G I (jv_up J (49 + 2 * s) i (ot_fit 0 v)) := by
  refine jv_enter okX1_put (L := [.ref (48 + 2 * s), .int (nI i), .long v, .null]) rfl (Nat.le_of_ble_eq_true rfl) ?_
  refine jv_aload0 dX1_put_0 ?_
  refine jv_getI dX1_put_1 flX1_9 rfl (sk h.g hs) ((si_thing h.s hs).trans ((ot_thing_1 h1s).trans (by rw [hso]))) ?_
  refine jv_tableIn dX1_put_4 (off := 36) (tgt := 40) (by decide) (by decide) (by decide) (by decide) ?_
  refine jv_aload0 dX1_put_40 ?_
  refine jv_getR dX1_put_41 flX1_18 rfl (sk h.g hs) (sr_elements h.g hs) ?_
  refine jv_iload1 dX1_put_44 ?_
  refine jv_lload2 dX1_put_45 ?_
  refine jv_l2i dX1_put_46 rfl ?_
  refine jv_i2b dX1_put_47 rfl ?_
  refine jv_i2l dX1_put_48 rfl ?_
  refine jv_lastN dX1_put_49 (sk_elements h.g hs) (by omega) (by decide) ?_
  refine jv_goto dX1_put_50 (tgt := 105) (by decide) ?_
  exact jv_vret dX1_put_105 rfl rfl rfl rfl
set_option maxRecDepth 20000 in
theorem oc_put1 {G : jv_Gr} {I : jv_I} {J : jv_J} {Y Z : ot_Y} {E : ot_E} {K : Option ot_Y} (h : ot_C G I J Y Z E K) {s i : Nat} (hs : s < 8) (h1s : Z 0 s = 1) (hi : i < 40) (v : Int64) (hso : Z 1 s = 1) : jv_C 1 mX1_put [.ref (48 + 2 * s), .int (nI i), .long v] G I J none G I (jv_up J (49 + 2 * s) i (ot_fit 1 v)) := by
  refine jv_enter okX1_put (L := [.ref (48 + 2 * s), .int (nI i), .long v, .null]) rfl (Nat.le_of_ble_eq_true rfl) ?_
  refine jv_aload0 dX1_put_0 ?_
  refine jv_getI dX1_put_1 flX1_9 rfl (sk h.g hs) ((si_thing h.s hs).trans ((ot_thing_1 h1s).trans (by rw [hso]))) ?_
  refine jv_tableIn dX1_put_4 (off := 49) (tgt := 53) (by decide) (by decide) (by decide) (by decide) ?_
  refine jv_aload0 dX1_put_53 ?_
  refine jv_getR dX1_put_54 flX1_18 rfl (sk h.g hs) (sr_elements h.g hs) ?_
  refine jv_iload1 dX1_put_57 ?_
  refine jv_lload2 dX1_put_58 ?_
  refine jv_l2i dX1_put_59 rfl ?_
  refine jv_i2s dX1_put_60 rfl ?_
  refine jv_i2l dX1_put_61 rfl ?_
  refine jv_lastN dX1_put_62 (sk_elements h.g hs) (by omega) (by decide) ?_
  refine jv_goto dX1_put_63 (tgt := 105) (by decide) ?_
  exact jv_vret dX1_put_105 rfl rfl rfl rfl
set_option maxRecDepth 20000 in
theorem oc_put2 {G : jv_Gr} {I : jv_I} {J : jv_J} {Y Z : ot_Y} {E : ot_E} {K : Option ot_Y} (h : ot_C G I J Y Z E K) {s i : Nat} (hs : s < 8) (h1s : Z 0 s = 1) (hi : i < 40) (v : Int64) (hso : Z 1 s = 2) : jv_C 1 mX1_put [.ref (48 + 2 * s), .int (nI i), .long v] G I J none G I (jv_up J (49 + 2 * s) i (ot_fit 2 v)) := by
  refine jv_enter okX1_put (L := [.ref (48 + 2 * s), .int (nI i), .long v, .null]) rfl (Nat.le_of_ble_eq_true rfl) ?_
  refine jv_aload0 dX1_put_0 ?_
  refine jv_getI dX1_put_1 flX1_9 rfl (sk h.g hs) ((si_thing h.s hs).trans ((ot_thing_1 h1s).trans (by rw [hso]))) ?_
  refine jv_tableIn dX1_put_4 (off := 62) (tgt := 66) (by decide) (by decide) (by decide) (by decide) ?_
  refine jv_aload0 dX1_put_66 ?_
  refine jv_getR dX1_put_67 flX1_18 rfl (sk h.g hs) (sr_elements h.g hs) ?_
  refine jv_iload1 dX1_put_70 ?_
  refine jv_lload2 dX1_put_71 ?_
  refine jv_l2i dX1_put_72 rfl ?_
  refine jv_i2l dX1_put_73 rfl ?_
  refine jv_lastN dX1_put_74 (sk_elements h.g hs) (by omega) (by decide) ?_
  refine jv_goto dX1_put_75 (tgt := 105) (by decide) ?_
  exact jv_vret dX1_put_105 rfl rfl rfl rfl
set_option maxRecDepth 20000 in
theorem oc_put3 {G : jv_Gr} {I : jv_I} {J : jv_J} {Y Z : ot_Y} {E : ot_E} {K : Option ot_Y} (h : ot_C G I J Y Z E K) {s i : Nat} (hs : s < 8) (h1s : Z 0 s = 1) (hi : i < 40) (v : Int64) (hso : Z 1 s = 3) : jv_C 1 mX1_put [.ref (48 + 2 * s), .int (nI i), .long v] G I J none G I (jv_up J (49 + 2 * s) i (ot_fit 3 v)) := by
  refine jv_enter okX1_put (L := [.ref (48 + 2 * s), .int (nI i), .long v, .null]) rfl (Nat.le_of_ble_eq_true rfl) ?_
  refine jv_aload0 dX1_put_0 ?_
  refine jv_getI dX1_put_1 flX1_9 rfl (sk h.g hs) ((si_thing h.s hs).trans ((ot_thing_1 h1s).trans (by rw [hso]))) ?_
  refine jv_tableIn dX1_put_4 (off := 94) (tgt := 98) (by decide) (by decide) (by decide) (by decide) ?_
  refine jv_aload0 dX1_put_98 ?_
  refine jv_getR dX1_put_99 flX1_18 rfl (sk h.g hs) (sr_elements h.g hs) ?_
  refine jv_iload1 dX1_put_102 ?_
  refine jv_lload2 dX1_put_103 ?_
  refine jv_lastN dX1_put_104 (sk_elements h.g hs) (by omega) (by decide) ?_
  exact jv_vret dX1_put_105 rfl rfl rfl rfl
set_option maxRecDepth 20000 in
theorem oc_put4 {G : jv_Gr} {I : jv_I} {J : jv_J} {Y Z : ot_Y} {E : ot_E} {K : Option ot_Y} (h : ot_C G I J Y Z E K) {s i : Nat} (hs : s < 8) (h1s : Z 0 s = 1) (hi : i < 40) (v : Int64) (hso : Z 1 s = 4) : jv_C 1 mX1_put [.ref (48 + 2 * s), .int (nI i), .long v] G I J none G I (jv_up J (49 + 2 * s) i (ot_fit 4 v)) := by
  refine jv_enter okX1_put (L := [.ref (48 + 2 * s), .int (nI i), .long v, .null]) rfl (Nat.le_of_ble_eq_true rfl) ?_
  refine jv_aload0 dX1_put_0 ?_
  refine jv_getI dX1_put_1 flX1_9 rfl (sk h.g hs) ((si_thing h.s hs).trans ((ot_thing_1 h1s).trans (by rw [hso]))) ?_
  refine jv_tableIn dX1_put_4 (off := 74) (tgt := 78) (by decide) (by decide) (by decide) (by decide) ?_
  refine jv_aload0 dX1_put_78 ?_
  refine jv_getR dX1_put_79 flX1_18 rfl (sk h.g hs) (sr_elements h.g hs) ?_
  refine jv_iload1 dX1_put_82 ?_
  refine jv_lload2 dX1_put_83 ?_
  refine jv_lconst dX1_put_84 (v := lN 0) rfl ?_
  refine jv_lcmp dX1_put_85 ?_
  refine jv_if_eq dX1_put_86 (tgt := 93) (by decide) (fun h86 => ?_) (fun h86 => ?_)
  · refine jv_lconst dX1_put_93 (v := lN 0) rfl ?_
    refine jv_lastN dX1_put_94 (sk_elements h.g hs) (by omega) (by decide) ?_
    refine jv_goto dX1_put_95 (tgt := 105) (by decide) ?_
    exact jv_vret dX1_put_105 rfl rfl rfl (by unfold ot_fit; rw [if_pos ((lg_cmp_eq _ _).mp h86)]; rfl)
  · refine jv_lconst dX1_put_89 (v := lN 1) rfl ?_
    refine jv_goto dX1_put_90 (tgt := 94) (by decide) ?_
    refine jv_lastN dX1_put_94 (sk_elements h.g hs) (by omega) (by decide) ?_
    refine jv_goto dX1_put_95 (tgt := 105) (by decide) ?_
    exact jv_vret dX1_put_105 rfl rfl rfl (by unfold ot_fit; rw [if_neg (fun q => h86 ((lg_cmp_eq _ _).mpr q))]; rfl)
theorem oc_putS {G : jv_Gr} {I : jv_I} {J : jv_J} {Y Z : ot_Y} {E : ot_E} {K : Option ot_Y} (h : ot_C G I J Y Z E K) {s i : Nat} (hs : s < 8) (h1s : Z 0 s = 1) (hi : i < 40) (v : Int64) : jv_C 1 mX1_put [.ref (48 + 2 * s), .int (nI i), .long v] G I J none G I (jv_up J (49 + 2 * s) i (ot_fit (Z 1 s) v)) := by
  have hz := (h.z.1 s hs).2.1 h1s
  rcases (show Z 1 s = 0 ∨ Z 1 s = 1 ∨ Z 1 s = 2 ∨ Z 1 s = 3 ∨ Z 1 s = 4 by omega) with e | e | e | e | e
  · rw [e]; exact oc_put0 h hs h1s hi v e
  · rw [e]; exact oc_put1 h hs h1s hi v e
  · rw [e]; exact oc_put2 h hs h1s hi v e
  · rw [e]; exact oc_put3 h hs h1s hi v e
  · rw [e]; exact oc_put4 h hs h1s hi v e
set_option maxRecDepth 20000 in
theorem om_fit {G : jv_Gr} {I : jv_I} {J : jv_J} {so : Nat} (hso : so ≤ 4) (v : Int64) : jv_C 1 mX5_fit [.int (nI so), .long v] G I J (some (.long (ot_fit so v))) G I J := by
  refine jv_enter okX5_fit (L := [.int (nI so), .long v, .null]) rfl (Nat.le_of_ble_eq_true rfl) ?_
  rcases (show so = 0 ∨ so = 1 ∨ so = 2 ∨ so = 3 ∨ so = 4 by omega) with rfl | rfl | rfl | rfl | rfl
  · refine jv_iload0 dX5_fit_0 ?_
    refine jv_tableIn dX5_fit_1 (off := 31) (tgt := 32) (by decide) (by decide) (by decide) (by decide) ?_
    refine jv_lload1 dX5_fit_32 ?_
    refine jv_l2i dX5_fit_33 rfl ?_
    refine jv_i2b dX5_fit_34 rfl ?_
    refine jv_i2l dX5_fit_35 rfl ?_
    exact jv_lret dX5_fit_36 rfl rfl rfl rfl
  · refine jv_iload0 dX5_fit_0 ?_
    refine jv_tableIn dX5_fit_1 (off := 36) (tgt := 37) (by decide) (by decide) (by decide) (by decide) ?_
    refine jv_lload1 dX5_fit_37 ?_
    refine jv_l2i dX5_fit_38 rfl ?_
    refine jv_i2s dX5_fit_39 rfl ?_
    refine jv_i2l dX5_fit_40 rfl ?_
    exact jv_lret dX5_fit_41 rfl rfl rfl rfl
  · refine jv_iload0 dX5_fit_0 ?_
    refine jv_tableIn dX5_fit_1 (off := 41) (tgt := 42) (by decide) (by decide) (by decide) (by decide) ?_
    refine jv_lload1 dX5_fit_42 ?_
    refine jv_l2i dX5_fit_43 rfl ?_
    refine jv_i2l dX5_fit_44 rfl ?_
    exact jv_lret dX5_fit_45 rfl rfl rfl rfl
  · refine jv_iload0 dX5_fit_0 ?_
    refine jv_tableIn dX5_fit_1 (off := 45) (tgt := 46) (by decide) (by decide) (by decide) (by decide) ?_
    refine jv_lload1 dX5_fit_46 ?_
    exact jv_lret dX5_fit_47 rfl rfl rfl rfl
  · refine jv_iload0 dX5_fit_0 ?_
    refine jv_tableOut dX5_fit_1 (tgt := 48) (by decide) (by decide) ?_
    refine jv_lload1 dX5_fit_48 ?_
    refine jv_lconst dX5_fit_49 (v := lN 0) rfl ?_
    refine jv_lcmp dX5_fit_50 ?_
    refine jv_if_eq dX5_fit_51 (tgt := 58) (by decide) (fun h86 => ?_) (fun h86 => ?_)
    · refine jv_lconst dX5_fit_58 (v := lN 0) rfl ?_
      exact jv_lret dX5_fit_59 rfl (by unfold ot_fit; rw [if_pos ((lg_cmp_eq _ _).mp h86)]; rfl) rfl rfl
    · refine jv_lconst dX5_fit_54 (v := lN 1) rfl ?_
      refine jv_goto dX5_fit_55 (tgt := 59) (by decide) ?_
      exact jv_lret dX5_fit_59 rfl (by unfold ot_fit; rw [if_neg (fun q => h86 ((lg_cmp_eq _ _).mpr q))]; rfl) rfl rfl
def ot_rcs (Z : ot_Y) (v i : Int32) : Nat := if ot_rt Z v = 0 then (if 0 ≤ i.toInt ∧ i.toInt < Z 2 (ot_n v) then 0 else 2) else ot_rt Z v
def ot_setE (Z : ot_Y) (E : ot_E) (s i : Nat) (v : Int64) : ot_E := ot_es E s (fun x => if x = i then ot_fit (Z 1 s) v else E s x)
theorem ot_slen_1 {Z : ot_Y} {s : Nat} (h : Z 0 s = 1) : ot_slen Z s = Z 2 s := if_pos h
theorem ot_neg_ne {rc : Nat} (h : rc = 2 ∨ rc = 3 ∨ rc = 4) : ¬ ot_ans rc (nI 0) = nI 0 := by
  rcases h with rfl | rfl | rfl <;> decide
theorem ot_pk_bad {α : Sort _} {a b : α} {rc : Nat} (h : rc ≠ 0) : ot_pk rc a b = b := if_neg h
set_option maxRecDepth 20000 in
theorem pc_set {G : jv_Gr} {I : jv_I} {J : jv_J} {Y Z : ot_Y} {E : ot_E} {K : Option ot_Y} (h : ot_C G I J Y Z E K) (s : Int32) (i : Int32) (v : Int64) : ot_cc 8 mX4_set [.ref 1, .int s, .int i, .long v] G I J (ot_ans (ot_rcs Z s i) (nI 1)) Y (ot_zr Z (ot_rcs Z s i)) (ot_pk (ot_rcs Z s i) (ot_setE Z E (ot_n s) (ot_n i) v) E) K := by
  have bn := yw_n h.w
  have bc := yw_c h.w
  have bw := yw_w h.w
  rcases ot_rt_cases h.z s with ⟨e, t, ht, rfl, h1s⟩ | ⟨e, hn⟩ | ⟨e, t, ht, rfl, h2s⟩ | ⟨e, t, ht, rfl, h0s⟩
  · have hz := (h.z.1 t ht).2.1 h1s
    have hT := oc_rowT h (nI t)
    rw [e] at hT
    have hT : jv_C 3 mX4_rowTrouble _ G I J (some (.int (nI 0))) G I J := hT
    unfold ot_rcs
    rw [e]
    rw [if_pos rfl, ot_n_nI (show t < 2 ^ 30 by omega)]
    by_cases hi : 0 ≤ i.toInt ∧ i.toInt < Z 2 t
    · obtain ⟨x, hx, rfl⟩ := ot_of hi (by omega)
      rw [if_pos hi, ot_n_nI (show x < 2 ^ 30 by omega)]
      have hs2 := ot_C_els (J2 := (jv_up J (49 + 2 * t) x (ot_fit (Z 1 t) v))) (f := fun y => if y = x then ot_fit (Z 1 t) v else E t y) h ht (fun q hq => jv_up_ne _ _ _ hq) (fun _ y hy => by
        rw [jv_up_def, if_pos rfl]
        by_cases e2 : y = x
        · rw [if_pos e2, if_pos e2]
        · rw [if_neg e2, if_neg e2]; exact (h.s.1 t ht).2.2 h1s y hy)
      refine ⟨I, (jv_up J (49 + 2 * t) x (ot_fit (Z 1 t) v)), ?_, hs2, fun q hq => ⟨rfl, jv_up_ne _ _ _ (by omega)⟩⟩
      refine jv_enter okX4_set (L := [.ref 1, .int (nI t), .int (nI x), .long v, .null, .null]) rfl (Nat.le_of_ble_eq_true rfl) ?_
      refine jv_aload0 dX4_set_0 ?_
      refine jv_iload1 dX4_set_1 ?_
      refine jv_v11 dX4_set_2 okX4_rowTrouble inX4_rowTrouble seX4_rowTrouble mlX4_69 (ci := 4) (T := TX4) (N := 8) rfl (ck h.g) hT (by decide) (Nat.le_of_ble_eq_true rfl) ?_
      refine jv_istore5 dX4_set_5 rfl ?_
      refine jv_iload5 dX4_set_7 ?_
      refine jv_if_eqN dX4_set_9 (tgt := 19) (by decide) (by omega) (fun h9 => ?_) (fun h9 => by omega)
      refine jv_aload0 dX4_set_19 ?_
      refine jv_getR dX4_set_20 flX4_40 rfl (ck h.g) (cr_shelves h.g) ?_
      refine jv_iload1 dX4_set_23 ?_
      refine jv_aald2N dX4_set_24 (ck_shelves h.g) (by omega) (by decide) (cr_shelf h.g ht) ?_
      refine jv_iload2 dX4_set_25 ?_
      refine jv_v11 dX4_set_26 okX1_hasElement inX1_hasElement seX1_hasElement mlX4_72 (ci := 1) (T := TX1) (N := 3) rfl (sk h.g ht) (oc_hasElement h ht _) (by decide) (Nat.le_of_ble_eq_true rfl) ?_
      refine jv_if_neB dX4_set_29 (tgt := 39) (by decide) (fun h29 => ?_) (fun h29 => absurd (by rw [ot_slen_1 h1s]; exact hi) h29)
      refine jv_aload0 dX4_set_39 ?_
      refine jv_getR dX4_set_40 flX4_40 rfl (ck h.g) (cr_shelves h.g) ?_
      refine jv_iload1 dX4_set_43 ?_
      refine jv_aald2N dX4_set_44 (ck_shelves h.g) (by omega) (by decide) (cr_shelf h.g ht) ?_
      refine jv_iload2 dX4_set_45 ?_
      refine jv_lload3 dX4_set_46 ?_
      refine jv_v20 dX4_set_47 okX1_put inX1_put seX1_put mlX4_75 (ci := 1) (T := TX1) (N := 3) rfl (sk h.g ht) (oc_putS h ht h1s (show x < 40 by omega) v) (by decide) (Nat.le_of_ble_eq_true rfl) ?_
      refine jv_iconst dX4_set_50 jv_c_iconst_1 ?_
      exact jv_iret dX4_set_51 rfl rfl rfl rfl rfl
    · rw [if_neg hi]
      obtain ⟨I2, hC, h2, h3⟩ := oc_refuse2 h
      refine ⟨I2, J, ?_, h2, h3⟩
      refine jv_enter okX4_set (L := [.ref 1, .int (nI t), .int i, .long v, .null, .null]) rfl (Nat.le_of_ble_eq_true rfl) ?_
      refine jv_aload0 dX4_set_0 ?_
      refine jv_iload1 dX4_set_1 ?_
      refine jv_v11 dX4_set_2 okX4_rowTrouble inX4_rowTrouble seX4_rowTrouble mlX4_69 (ci := 4) (T := TX4) (N := 8) rfl (ck h.g) hT (by decide) (Nat.le_of_ble_eq_true rfl) ?_
      refine jv_istore5 dX4_set_5 rfl ?_
      refine jv_iload5 dX4_set_7 ?_
      refine jv_if_eqN dX4_set_9 (tgt := 19) (by decide) (by omega) (fun h9 => ?_) (fun h9 => by omega)
      refine jv_aload0 dX4_set_19 ?_
      refine jv_getR dX4_set_20 flX4_40 rfl (ck h.g) (cr_shelves h.g) ?_
      refine jv_iload1 dX4_set_23 ?_
      refine jv_aald2N dX4_set_24 (ck_shelves h.g) (by omega) (by decide) (cr_shelf h.g ht) ?_
      refine jv_iload2 dX4_set_25 ?_
      refine jv_v11 dX4_set_26 okX1_hasElement inX1_hasElement seX1_hasElement mlX4_72 (ci := 1) (T := TX1) (N := 3) rfl (sk h.g ht) (oc_hasElement h ht _) (by decide) (Nat.le_of_ble_eq_true rfl) ?_
      refine jv_if_neB dX4_set_29 (tgt := 39) (by decide) (fun h29 => absurd (by rw [ot_slen_1 h1s] at h29; exact h29) hi) (fun h29 => ?_)
      refine jv_aload0 dX4_set_32 ?_
      refine jv_bipush dX4_set_33 jv_c_bipush_m2 ?_
      refine jv_v11 dX4_set_35 okX4_refuse inX4_refuse seX4_refuse mlX4_61 (ci := 4) (T := TX4) (N := 8) rfl (ck h.g) hC (by decide) (Nat.le_of_ble_eq_true rfl) ?_
      exact jv_iret dX4_set_38 rfl rfl rfl rfl rfl
  · have hT := oc_rowT h s
    rw [e] at hT
    have hT : jv_C 3 mX4_rowTrouble _ G I J (some (.int (-2))) G I J := hT
    unfold ot_rcs
    rw [e]
    obtain ⟨I2, hC, h2, h3⟩ := oc_refuse2 h
    refine ⟨I2, J, ?_, h2, h3⟩
    refine jv_enter okX4_set (L := [.ref 1, .int s, .int i, .long v, .null, .null]) rfl (Nat.le_of_ble_eq_true rfl) ?_
    refine jv_aload0 dX4_set_0 ?_
    refine jv_iload1 dX4_set_1 ?_
    refine jv_v11 dX4_set_2 okX4_rowTrouble inX4_rowTrouble seX4_rowTrouble mlX4_69 (ci := 4) (T := TX4) (N := 8) rfl (ck h.g) hT (by decide) (Nat.le_of_ble_eq_true rfl) ?_
    refine jv_istore5 dX4_set_5 rfl ?_
    refine jv_iload5 dX4_set_7 ?_
    refine jv_if_eq dX4_set_9 (tgt := 19) (by decide) (fun h9 => absurd h9 (by decide)) (fun h9 => ?_)
    refine jv_aload0 dX4_set_12 ?_
    refine jv_iload5 dX4_set_13 ?_
    refine jv_v11 dX4_set_15 okX4_refuse inX4_refuse seX4_refuse mlX4_61 (ci := 4) (T := TX4) (N := 8) rfl (ck h.g) hC (by decide) (Nat.le_of_ble_eq_true rfl) ?_
    exact jv_iret dX4_set_18 rfl rfl rfl rfl rfl
  · have hT := oc_rowT h (nI t)
    rw [e] at hT
    have hT : jv_C 3 mX4_rowTrouble _ G I J (some (.int (-3))) G I J := hT
    unfold ot_rcs
    rw [e]
    obtain ⟨I2, hC, h2, h3⟩ := oc_refuse3 h
    refine ⟨I2, J, ?_, h2, h3⟩
    refine jv_enter okX4_set (L := [.ref 1, .int (nI t), .int i, .long v, .null, .null]) rfl (Nat.le_of_ble_eq_true rfl) ?_
    refine jv_aload0 dX4_set_0 ?_
    refine jv_iload1 dX4_set_1 ?_
    refine jv_v11 dX4_set_2 okX4_rowTrouble inX4_rowTrouble seX4_rowTrouble mlX4_69 (ci := 4) (T := TX4) (N := 8) rfl (ck h.g) hT (by decide) (Nat.le_of_ble_eq_true rfl) ?_
    refine jv_istore5 dX4_set_5 rfl ?_
    refine jv_iload5 dX4_set_7 ?_
    refine jv_if_eq dX4_set_9 (tgt := 19) (by decide) (fun h9 => absurd h9 (by decide)) (fun h9 => ?_)
    refine jv_aload0 dX4_set_12 ?_
    refine jv_iload5 dX4_set_13 ?_
    refine jv_v11 dX4_set_15 okX4_refuse inX4_refuse seX4_refuse mlX4_61 (ci := 4) (T := TX4) (N := 8) rfl (ck h.g) hC (by decide) (Nat.le_of_ble_eq_true rfl) ?_
    exact jv_iret dX4_set_18 rfl rfl rfl rfl rfl
  · have hT := oc_rowT h (nI t)
    rw [e] at hT
    have hT : jv_C 3 mX4_rowTrouble _ G I J (some (.int (-4))) G I J := hT
    unfold ot_rcs
    rw [e]
    obtain ⟨I2, hC, h2, h3⟩ := oc_refuse4 h
    refine ⟨I2, J, ?_, h2, h3⟩
    refine jv_enter okX4_set (L := [.ref 1, .int (nI t), .int i, .long v, .null, .null]) rfl (Nat.le_of_ble_eq_true rfl) ?_
    refine jv_aload0 dX4_set_0 ?_
    refine jv_iload1 dX4_set_1 ?_
    refine jv_v11 dX4_set_2 okX4_rowTrouble inX4_rowTrouble seX4_rowTrouble mlX4_69 (ci := 4) (T := TX4) (N := 8) rfl (ck h.g) hT (by decide) (Nat.le_of_ble_eq_true rfl) ?_
    refine jv_istore5 dX4_set_5 rfl ?_
    refine jv_iload5 dX4_set_7 ?_
    refine jv_if_eq dX4_set_9 (tgt := 19) (by decide) (fun h9 => absurd h9 (by decide)) (fun h9 => ?_)
    refine jv_aload0 dX4_set_12 ?_
    refine jv_iload5 dX4_set_13 ?_
    refine jv_v11 dX4_set_15 okX4_refuse inX4_refuse seX4_refuse mlX4_61 (ci := 4) (T := TX4) (N := 8) rfl (ck h.g) hC (by decide) (Nat.le_of_ble_eq_true rfl) ?_
    exact jv_iret dX4_set_18 rfl rfl rfl rfl rfl
set_option maxRecDepth 20000 in
theorem pm_set {G : jv_Gr} {I : jv_I} {J : jv_J} {Y Z : ot_Y} {E : ot_E} {K : Option ot_Y} (h : ot_M G I J Y Z E K) (s : Int32) (i : Int32) (v : Int64) : ot_mm 8 mX5_set [.ref 64, .int s, .int i, .long v] G I J (ot_ans (ot_rcs Z s i) (nI 1)) Y (ot_zr Z (ot_rcs Z s i)) (ot_pk (ot_rcs Z s i) (ot_setE Z E (ot_n s) (ot_n i) v) E) K := by
  have bn := yw_n h.w
  have bc := yw_c h.w
  have bw := yw_w h.w
  rcases ot_rt_cases h.z s with ⟨e, t, ht, rfl, h1s⟩ | ⟨e, hn⟩ | ⟨e, t, ht, rfl, h2s⟩ | ⟨e, t, ht, rfl, h0s⟩
  · have hz := (h.z.1 t ht).2.1 h1s
    obtain ⟨I2, hT, h2, h3⟩ := om_noRow h (nI t)
    rw [e] at hT h2
    have hT : jv_C 2 mX5_noRow _ G I J (some (.int (nI 0))) G I2 J := hT
    have h2 : ot_M G I2 J Y Z E K := h2
    unfold ot_rcs
    rw [e]
    rw [if_pos rfl, ot_n_nI (show t < 2 ^ 30 by omega)]
    by_cases hi : 0 ≤ i.toInt ∧ i.toInt < Z 2 t
    · obtain ⟨x, hx, rfl⟩ := ot_of hi (by omega)
      rw [if_pos hi, ot_n_nI (show x < 2 ^ 30 by omega)]
      have hs2 := ot_M_els (J2 := (jv_up J (64 + (5 + t)) x (ot_fit (Z 1 t) v))) (f := fun y => if y = x then ot_fit (Z 1 t) v else E t y) h2 ht (fun q _ hq => jv_up_ne _ _ _ hq) (fun _ y hy => by
        rw [jv_up_def, if_pos rfl]
        by_cases e2 : y = x
        · rw [if_pos e2, if_pos e2]
        · rw [if_neg e2, if_neg e2]; exact nr_el h2.s ht h1s hy)
      refine ⟨G, I2, (jv_up J (64 + (5 + t)) x (ot_fit (Z 1 t) v)), ?_, hs2, h3.tr (fun q hq => ⟨rfl, jv_up_ne _ _ _ (by omega)⟩), ot_gx.rf⟩
      refine jv_enter okX5_set (L := [.ref 64, .int (nI t), .int (nI x), .long v, .null, .null]) rfl (Nat.le_of_ble_eq_true rfl) ?_
      refine jv_aload0 dX5_set_0 ?_
      refine jv_iload1 dX5_set_1 ?_
      refine jv_v11 dX5_set_2 okX5_noRow inX5_noRow seX5_noRow mlX5_108 (ci := 5) (T := TX5) (N := 35) rfl (mk h2.g) hT (by decide) (Nat.le_of_ble_eq_true rfl) ?_
      refine jv_istore5 dX5_set_5 rfl ?_
      refine jv_iload5 dX5_set_7 ?_
      refine jv_if_eqN dX5_set_9 (tgt := 15) (by decide) (by omega) (fun h9 => ?_) (fun h9 => by omega)
      refine jv_iload2 dX5_set_15 ?_
      refine jv_i2l dX5_set_16 rfl ?_
      refine jv_lconst dX5_set_17 (v := lN 0) rfl ?_
      refine jv_aload0 dX5_set_18 ?_
      refine jv_getR dX5_set_19 flX5_16 rfl (mk h2.g) (mr_rowSize h2.g) ?_
      refine jv_iload1 dX5_set_22 ?_
      refine jv_ialdN dX5_set_23 (mk_rowSize h2.g) (by omega) (by decide) (nr_size h2.s ht h1s) ?_
      refine jv_iconst dX5_set_24 jv_c_iconst_1 ?_
      refine jv_isub dX5_set_25 ?_
      refine jv_i2l dX5_set_26 rfl ?_
      refine jv_s31 dX5_set_27 okX5_in stX5_in mlX5_83 (om_inN _ (show Z 2 t < 2 ^ 30 by omega)) (by decide) (Nat.le_of_ble_eq_true rfl) ?_
      refine jv_if_neB dX5_set_30 (tgt := 40) (by decide) (fun h30 => ?_) (fun h30 => absurd hi h30)
      refine jv_aload0 dX5_set_40 ?_
      refine jv_getR dX5_set_41 flX5_21 rfl (mk h2.g) (mr_rows h2.g) ?_
      refine jv_iload1 dX5_set_44 ?_
      refine jv_aald3N dX5_set_45 (mk_rows h2.g) (by omega) (by decide) (mr_row h2.g ht) ?_
      refine jv_iload2 dX5_set_46 ?_
      refine jv_aload0 dX5_set_47 ?_
      refine jv_getR dX5_set_48 flX5_13 rfl (mk h2.g) (mr_rowSort h2.g) ?_
      refine jv_iload1 dX5_set_51 ?_
      refine jv_ialdN dX5_set_52 (mk_rowSort h2.g) (by omega) (by decide) (nr_sort h2.s ht h1s) ?_
      refine jv_lload3 dX5_set_53 ?_
      refine jv_s21 dX5_set_54 okX5_fit stX5_fit mlX5_111 (om_fit hz.1 v) (by decide) (Nat.le_of_ble_eq_true rfl) ?_
      refine jv_lastN dX5_set_57 (mk_row h2.g ht) (by omega) (by decide) ?_
      refine jv_iconst dX5_set_58 jv_c_iconst_1 ?_
      exact jv_iret dX5_set_59 rfl rfl rfl rfl rfl
    · rw [if_neg hi]
      obtain ⟨I3, hC, h4, h5⟩ := om_refuse2 h2
      refine ⟨G, I3, J, ?_, h4, h3.tr h5, ot_gx.rf⟩
      refine jv_enter okX5_set (L := [.ref 64, .int (nI t), .int i, .long v, .null, .null]) rfl (Nat.le_of_ble_eq_true rfl) ?_
      refine jv_aload0 dX5_set_0 ?_
      refine jv_iload1 dX5_set_1 ?_
      refine jv_v11 dX5_set_2 okX5_noRow inX5_noRow seX5_noRow mlX5_108 (ci := 5) (T := TX5) (N := 35) rfl (mk h2.g) hT (by decide) (Nat.le_of_ble_eq_true rfl) ?_
      refine jv_istore5 dX5_set_5 rfl ?_
      refine jv_iload5 dX5_set_7 ?_
      refine jv_if_eqN dX5_set_9 (tgt := 15) (by decide) (by omega) (fun h9 => ?_) (fun h9 => by omega)
      refine jv_iload2 dX5_set_15 ?_
      refine jv_i2l dX5_set_16 rfl ?_
      refine jv_lconst dX5_set_17 (v := lN 0) rfl ?_
      refine jv_aload0 dX5_set_18 ?_
      refine jv_getR dX5_set_19 flX5_16 rfl (mk h2.g) (mr_rowSize h2.g) ?_
      refine jv_iload1 dX5_set_22 ?_
      refine jv_ialdN dX5_set_23 (mk_rowSize h2.g) (by omega) (by decide) (nr_size h2.s ht h1s) ?_
      refine jv_iconst dX5_set_24 jv_c_iconst_1 ?_
      refine jv_isub dX5_set_25 ?_
      refine jv_i2l dX5_set_26 rfl ?_
      refine jv_s31 dX5_set_27 okX5_in stX5_in mlX5_83 (om_inN _ (show Z 2 t < 2 ^ 30 by omega)) (by decide) (Nat.le_of_ble_eq_true rfl) ?_
      refine jv_if_neB dX5_set_30 (tgt := 40) (by decide) (fun h30 => absurd h30 hi) (fun h30 => ?_)
      refine jv_aload0 dX5_set_33 ?_
      refine jv_bipush dX5_set_34 jv_c_bipush_m2 ?_
      refine jv_v11 dX5_set_36 okX5_refuse inX5_refuse seX5_refuse mlX5_104 (ci := 5) (T := TX5) (N := 35) rfl (mk h2.g) hC (by decide) (Nat.le_of_ble_eq_true rfl) ?_
      exact jv_iret dX5_set_39 rfl rfl rfl rfl rfl
  · obtain ⟨I2, hT, h2, h3⟩ := om_noRow h s
    rw [e] at hT h2
    have hT : jv_C 2 mX5_noRow _ G I J (some (.int (-2))) G I2 J := hT
    unfold ot_rcs
    rw [e]
    refine ⟨G, I2, J, ?_, h2, h3, ot_gx.rf⟩
    refine jv_enter okX5_set (L := [.ref 64, .int s, .int i, .long v, .null, .null]) rfl (Nat.le_of_ble_eq_true rfl) ?_
    refine jv_aload0 dX5_set_0 ?_
    refine jv_iload1 dX5_set_1 ?_
    refine jv_v11 dX5_set_2 okX5_noRow inX5_noRow seX5_noRow mlX5_108 (ci := 5) (T := TX5) (N := 35) rfl (mk h.g) hT (by decide) (Nat.le_of_ble_eq_true rfl) ?_
    refine jv_istore5 dX5_set_5 rfl ?_
    refine jv_iload5 dX5_set_7 ?_
    refine jv_if_eq dX5_set_9 (tgt := 15) (by decide) (fun h9 => absurd h9 (by decide)) (fun h9 => ?_)
    refine jv_iload5 dX5_set_12 ?_
    exact jv_iret dX5_set_14 rfl rfl rfl rfl rfl
  · obtain ⟨I2, hT, h2, h3⟩ := om_noRow h (nI t)
    rw [e] at hT h2
    have hT : jv_C 2 mX5_noRow _ G I J (some (.int (-3))) G I2 J := hT
    unfold ot_rcs
    rw [e]
    refine ⟨G, I2, J, ?_, h2, h3, ot_gx.rf⟩
    refine jv_enter okX5_set (L := [.ref 64, .int (nI t), .int i, .long v, .null, .null]) rfl (Nat.le_of_ble_eq_true rfl) ?_
    refine jv_aload0 dX5_set_0 ?_
    refine jv_iload1 dX5_set_1 ?_
    refine jv_v11 dX5_set_2 okX5_noRow inX5_noRow seX5_noRow mlX5_108 (ci := 5) (T := TX5) (N := 35) rfl (mk h.g) hT (by decide) (Nat.le_of_ble_eq_true rfl) ?_
    refine jv_istore5 dX5_set_5 rfl ?_
    refine jv_iload5 dX5_set_7 ?_
    refine jv_if_eq dX5_set_9 (tgt := 15) (by decide) (fun h9 => absurd h9 (by decide)) (fun h9 => ?_)
    refine jv_iload5 dX5_set_12 ?_
    exact jv_iret dX5_set_14 rfl rfl rfl rfl rfl
  · obtain ⟨I2, hT, h2, h3⟩ := om_noRow h (nI t)
    rw [e] at hT h2
    have hT : jv_C 2 mX5_noRow _ G I J (some (.int (-4))) G I2 J := hT
    unfold ot_rcs
    rw [e]
    refine ⟨G, I2, J, ?_, h2, h3, ot_gx.rf⟩
    refine jv_enter okX5_set (L := [.ref 64, .int (nI t), .int i, .long v, .null, .null]) rfl (Nat.le_of_ble_eq_true rfl) ?_
    refine jv_aload0 dX5_set_0 ?_
    refine jv_iload1 dX5_set_1 ?_
    refine jv_v11 dX5_set_2 okX5_noRow inX5_noRow seX5_noRow mlX5_108 (ci := 5) (T := TX5) (N := 35) rfl (mk h.g) hT (by decide) (Nat.le_of_ble_eq_true rfl) ?_
    refine jv_istore5 dX5_set_5 rfl ?_
    refine jv_iload5 dX5_set_7 ?_
    refine jv_if_eq dX5_set_9 (tgt := 15) (by decide) (fun h9 => absurd h9 (by decide)) (fun h9 => ?_)
    refine jv_iload5 dX5_set_12 ?_
    exact jv_iret dX5_set_14 rfl rfl rfl rfl rfl
