/-! ===== the face: group 5 ===== -/
theorem ot_swap_same (Y : ot_Y) (a : Nat) : ot_swap Y a a = Y := by
  funext j i
  simp only [ot_swap, ot_put]
  split
  · rename_i e; subst e
    unfold ot_swapF
    split <;> (try split) <;> simp_all
  · rfl
theorem ot_nI_inj {a b : Nat} (ha : a < 2 ^ 30) (hb : b < 2 ^ 30) (h : nI a = nI b) : a = b := by
  have := congrArg Int32.toInt h
  rw [nI_toInt (by omega), nI_toInt (by omega)] at this
  omega
theorem ot_dist_self (a : Nat) : ot_dist a a = 0 := by unfold ot_dist; rw [if_pos (Nat.le_refl a)]; omega
def ot_reach (Y : ot_Y) (a b : Nat) : Prop := ot_dist (Y 2 a) (Y 2 b) ≤ Y 1 a ∧ ot_dist (Y 2 a) (Y 2 b) ≤ Y 1 b
def ot_reachB (Y : ot_Y) (a b : Nat) : Bool := decide (ot_dist (Y 2 a) (Y 2 b) ≤ Y 1 a ∧ ot_dist (Y 2 a) (Y 2 b) ≤ Y 1 b)
theorem ot_reachB_iff {Y : ot_Y} {a b : Nat} : ot_reachB Y a b = true ↔ (ot_dist (Y 2 a) (Y 2 b) ≤ Y 1 a ∧ ot_dist (Y 2 a) (Y 2 b) ≤ Y 1 b) := by unfold ot_reachB; exact decide_eq_true_iff
theorem ot_reachB_self (Y : ot_Y) (a : Nat) : ot_reachB Y a a = true := by rw [ot_reachB_iff, ot_dist_self]; omega
set_option maxRecDepth 20000 in
theorem pc_swap {G : jv_Gr} {I : jv_I} {J : jv_J} {Y Z : ot_Y} {E : ot_E} {K : Option ot_Y} (h : ot_C G I J Y Z E K) (a : Int32) (b : Int32) : ot_cc 8 mX4_swap [.ref 1, .int a, .int b] G I J (ot_ans (ot_rc2 ((0 ≤ a.toInt ∧ a.toInt < Y 10 0) ∧ (0 ≤ b.toInt ∧ b.toInt < Y 10 0)) (ot_reachB Y (ot_n a) (ot_n b) = true) 5) (jv_b (a ≠ b))) (ot_pk (ot_rc2 ((0 ≤ a.toInt ∧ a.toInt < Y 10 0) ∧ (0 ≤ b.toInt ∧ b.toInt < Y 10 0)) (ot_reachB Y (ot_n a) (ot_n b) = true) 5) (ot_swap Y (ot_n a) (ot_n b)) Y) (ot_zr Z (ot_rc2 ((0 ≤ a.toInt ∧ a.toInt < Y 10 0) ∧ (0 ≤ b.toInt ∧ b.toInt < Y 10 0)) (ot_reachB Y (ot_n a) (ot_n b) = true) 5)) E K := by
  have bn := yw_n h.w
  have bc := yw_c h.w
  have bw := yw_w h.w
  refine ot_rc2_split (motive := fun rc => ot_cc 8 mX4_swap [.ref 1, .int a, .int b] G I J (ot_ans rc (jv_b (a ≠ b))) (ot_pk rc (ot_swap Y (ot_n a) (ot_n b)) Y) (ot_zr Z rc) E K) (fun hv hw => ?_) (fun hv hw => ?_) (fun hv => ?_)
  · obtain ⟨x, hx, rfl⟩ := ot_of hv.1 (by omega)
    rw [ot_n_nI (show x < 2 ^ 30 by omega)]
    obtain ⟨z, hz, rfl⟩ := ot_of hv.2 (by omega)
    rw [ot_n_nI (show z < 2 ^ 30 by omega)]
    rw [ot_n_nI (show x < 2 ^ 30 by omega), ot_n_nI (show z < 2 ^ 30 by omega)] at hw
    by_cases hab : x = z
    · subst hab
      rw [ot_swap_same]
      refine ⟨I, J, ?_, h, ot_hi.rf⟩
      refine jv_enter okX4_swap (L := [.ref 1, .int (nI x), .int (nI x)]) rfl (Nat.le_of_ble_eq_true rfl) ?_
      refine jv_aload0 dX4_swap_0 ?_
      refine jv_getR dX4_swap_1 flX4_10 rfl (ck h.g) (cr_now h.g) ?_
      refine jv_iload1 dX4_swap_4 ?_
      refine jv_v11 dX4_swap_5 okX3_hasChild inX3_hasChild seX3_hasChild mlX4_166 (ci := 3) (T := TX3) (N := 15) rfl (yk (cg_now h.g)) (ot_hasChild (cg_now h.g) h.r h.w _) (by decide) (Nat.le_of_ble_eq_true rfl) ?_
      refine jv_if_eqB dX4_swap_8 (tgt := 22) (by decide) (fun hq8 => absurd hv.1 hq8) (fun hq8 => ?_)
      refine jv_aload0 dX4_swap_11 ?_
      refine jv_getR dX4_swap_12 flX4_10 rfl (ck h.g) (cr_now h.g) ?_
      refine jv_iload2 dX4_swap_15 ?_
      refine jv_v11 dX4_swap_16 okX3_hasChild inX3_hasChild seX3_hasChild mlX4_166 (ci := 3) (T := TX3) (N := 15) rfl (yk (cg_now h.g)) (ot_hasChild (cg_now h.g) h.r h.w _) (by decide) (Nat.le_of_ble_eq_true rfl) ?_
      refine jv_if_neB dX4_swap_19 (tgt := 29) (by decide) (fun hq19 => ?_) (fun hq19 => absurd hv.2 hq19)
      refine jv_iload1 dX4_swap_29 ?_
      refine jv_iload2 dX4_swap_30 ?_
      refine jv_icmp_neN dX4_swap_31 (tgt := 36) (by decide) (by omega) (by omega) (fun h31 => absurd rfl h31) (fun h31 => ?_)
      refine jv_iconst dX4_swap_34 jv_c_iconst_0 ?_
      exact jv_iret dX4_swap_35 rfl rfl (ot_b0 (fun q => q rfl)) rfl rfl
    · obtain ⟨I2, hA, hR2, hF0⟩ := ot_exchangeM (J := J) (cg_now h.g) h.r h.w hx hz
      have hF := ot_fr.pl hF0
      refine ⟨I2, J, ?_, ot_C_yard h hR2 (ot_YW_swap h.w hx hz) (ot_ZW_y h.z (Nat.le_refl _)) hF, ot_hi.fr hF (by decide)⟩
      refine jv_enter okX4_swap (L := [.ref 1, .int (nI x), .int (nI z)]) rfl (Nat.le_of_ble_eq_true rfl) ?_
      refine jv_aload0 dX4_swap_0 ?_
      refine jv_getR dX4_swap_1 flX4_10 rfl (ck h.g) (cr_now h.g) ?_
      refine jv_iload1 dX4_swap_4 ?_
      refine jv_v11 dX4_swap_5 okX3_hasChild inX3_hasChild seX3_hasChild mlX4_166 (ci := 3) (T := TX3) (N := 15) rfl (yk (cg_now h.g)) (ot_hasChild (cg_now h.g) h.r h.w _) (by decide) (Nat.le_of_ble_eq_true rfl) ?_
      refine jv_if_eqB dX4_swap_8 (tgt := 22) (by decide) (fun hq8 => absurd hv.1 hq8) (fun hq8 => ?_)
      refine jv_aload0 dX4_swap_11 ?_
      refine jv_getR dX4_swap_12 flX4_10 rfl (ck h.g) (cr_now h.g) ?_
      refine jv_iload2 dX4_swap_15 ?_
      refine jv_v11 dX4_swap_16 okX3_hasChild inX3_hasChild seX3_hasChild mlX4_166 (ci := 3) (T := TX3) (N := 15) rfl (yk (cg_now h.g)) (ot_hasChild (cg_now h.g) h.r h.w _) (by decide) (Nat.le_of_ble_eq_true rfl) ?_
      refine jv_if_neB dX4_swap_19 (tgt := 29) (by decide) (fun hq19 => ?_) (fun hq19 => absurd hv.2 hq19)
      refine jv_iload1 dX4_swap_29 ?_
      refine jv_iload2 dX4_swap_30 ?_
      refine jv_icmp_neN dX4_swap_31 (tgt := 36) (by decide) (by omega) (by omega) (fun h31 => ?_) (fun h31 => absurd h31 hab)
      refine jv_aload0 dX4_swap_36 ?_
      refine jv_getR dX4_swap_37 flX4_10 rfl (ck h.g) (cr_now h.g) ?_
      refine jv_iload1 dX4_swap_40 ?_
      refine jv_iload2 dX4_swap_41 ?_
      refine jv_v21 dX4_swap_42 okX3_inReach inX3_inReach seX3_inReach mlX4_283 (ci := 3) (T := TX3) (N := 15) rfl (yk (cg_now h.g)) (ot_inReachM (cg_now h.g) h.r h.w hx hz) (by decide) (Nat.le_of_ble_eq_true rfl) ?_
      refine jv_if_neB dX4_swap_45 (tgt := 55) (by decide) (fun h45 => ?_) (fun h45 => absurd (ot_reachB_iff.mp hw) h45)
      refine jv_aload0 dX4_swap_55 ?_
      refine jv_getR dX4_swap_56 flX4_10 rfl (ck h.g) (cr_now h.g) ?_
      refine jv_iload1 dX4_swap_59 ?_
      refine jv_iload2 dX4_swap_60 ?_
      refine jv_v20 dX4_swap_61 okX3_exchange inX3_exchange seX3_exchange mlX4_286 (ci := 3) (T := TX3) (N := 15) rfl (yk (cg_now h.g)) hA (by decide) (Nat.le_of_ble_eq_true rfl) ?_
      refine jv_iconst dX4_swap_64 jv_c_iconst_1 ?_
      exact jv_iret dX4_swap_65 rfl rfl (ot_b1 (fun q => hab (ot_nI_inj (by omega) (by omega) q))) rfl rfl
  · obtain ⟨x, hx, rfl⟩ := ot_of hv.1 (by omega)
    obtain ⟨z, hz, rfl⟩ := ot_of hv.2 (by omega)
    rw [ot_n_nI (show x < 2 ^ 30 by omega), ot_n_nI (show z < 2 ^ 30 by omega)] at hw
    have hab : x ≠ z := fun e => hw (by rw [e]; exact ot_reachB_self Y z)
    obtain ⟨I2, hC, h2, h3⟩ := oc_refuse5 h
    refine ⟨I2, J, ?_, h2, h3⟩
    refine jv_enter okX4_swap (L := [.ref 1, .int (nI x), .int (nI z)]) rfl (Nat.le_of_ble_eq_true rfl) ?_
    refine jv_aload0 dX4_swap_0 ?_
    refine jv_getR dX4_swap_1 flX4_10 rfl (ck h.g) (cr_now h.g) ?_
    refine jv_iload1 dX4_swap_4 ?_
    refine jv_v11 dX4_swap_5 okX3_hasChild inX3_hasChild seX3_hasChild mlX4_166 (ci := 3) (T := TX3) (N := 15) rfl (yk (cg_now h.g)) (ot_hasChild (cg_now h.g) h.r h.w _) (by decide) (Nat.le_of_ble_eq_true rfl) ?_
    refine jv_if_eqB dX4_swap_8 (tgt := 22) (by decide) (fun hq8 => absurd hv.1 hq8) (fun hq8 => ?_)
    refine jv_aload0 dX4_swap_11 ?_
    refine jv_getR dX4_swap_12 flX4_10 rfl (ck h.g) (cr_now h.g) ?_
    refine jv_iload2 dX4_swap_15 ?_
    refine jv_v11 dX4_swap_16 okX3_hasChild inX3_hasChild seX3_hasChild mlX4_166 (ci := 3) (T := TX3) (N := 15) rfl (yk (cg_now h.g)) (ot_hasChild (cg_now h.g) h.r h.w _) (by decide) (Nat.le_of_ble_eq_true rfl) ?_
    refine jv_if_neB dX4_swap_19 (tgt := 29) (by decide) (fun hq19 => ?_) (fun hq19 => absurd hv.2 hq19)
    refine jv_iload1 dX4_swap_29 ?_
    refine jv_iload2 dX4_swap_30 ?_
    refine jv_icmp_neN dX4_swap_31 (tgt := 36) (by decide) (by omega) (by omega) (fun h31 => ?_) (fun h31 => absurd h31 hab)
    refine jv_aload0 dX4_swap_36 ?_
    refine jv_getR dX4_swap_37 flX4_10 rfl (ck h.g) (cr_now h.g) ?_
    refine jv_iload1 dX4_swap_40 ?_
    refine jv_iload2 dX4_swap_41 ?_
    refine jv_v21 dX4_swap_42 okX3_inReach inX3_inReach seX3_inReach mlX4_283 (ci := 3) (T := TX3) (N := 15) rfl (yk (cg_now h.g)) (ot_inReachM (cg_now h.g) h.r h.w hx hz) (by decide) (Nat.le_of_ble_eq_true rfl) ?_
    refine jv_if_neB dX4_swap_45 (tgt := 55) (by decide) (fun h45 => absurd (ot_reachB_iff.mpr h45) hw) (fun h45 => ?_)
    refine jv_aload0 dX4_swap_48 ?_
    refine jv_bipush dX4_swap_49 jv_c_bipush_m5 ?_
    refine jv_v11 dX4_swap_51 okX4_refuse inX4_refuse seX4_refuse mlX4_61 (ci := 4) (T := TX4) (N := 8) rfl (ck h.g) hC (by decide) (Nat.le_of_ble_eq_true rfl) ?_
    exact jv_iret dX4_swap_54 rfl rfl rfl rfl rfl
  · obtain ⟨I2, hC, h2, h3⟩ := oc_refuse2 h
    refine ⟨I2, J, ?_, h2, h3⟩
    refine jv_enter okX4_swap (L := [.ref 1, .int a, .int b]) rfl (Nat.le_of_ble_eq_true rfl) ?_
    refine jv_aload0 dX4_swap_0 ?_
    refine jv_getR dX4_swap_1 flX4_10 rfl (ck h.g) (cr_now h.g) ?_
    refine jv_iload1 dX4_swap_4 ?_
    refine jv_v11 dX4_swap_5 okX3_hasChild inX3_hasChild seX3_hasChild mlX4_166 (ci := 3) (T := TX3) (N := 15) rfl (yk (cg_now h.g)) (ot_hasChild (cg_now h.g) h.r h.w _) (by decide) (Nat.le_of_ble_eq_true rfl) ?_
    refine jv_if_eqB dX4_swap_8 (tgt := 22) (by decide) (fun g8 => ?_) (fun g8 => ?_)
    · refine jv_aload0 dX4_swap_22 ?_
      refine jv_bipush dX4_swap_23 jv_c_bipush_m2 ?_
      refine jv_v11 dX4_swap_25 okX4_refuse inX4_refuse seX4_refuse mlX4_61 (ci := 4) (T := TX4) (N := 8) rfl (ck h.g) hC (by decide) (Nat.le_of_ble_eq_true rfl) ?_
      exact jv_iret dX4_swap_28 rfl rfl rfl rfl rfl
    · refine jv_aload0 dX4_swap_11 ?_
      refine jv_getR dX4_swap_12 flX4_10 rfl (ck h.g) (cr_now h.g) ?_
      refine jv_iload2 dX4_swap_15 ?_
      refine jv_v11 dX4_swap_16 okX3_hasChild inX3_hasChild seX3_hasChild mlX4_166 (ci := 3) (T := TX3) (N := 15) rfl (yk (cg_now h.g)) (ot_hasChild (cg_now h.g) h.r h.w _) (by decide) (Nat.le_of_ble_eq_true rfl) ?_
      refine jv_if_neB dX4_swap_19 (tgt := 29) (by decide) (fun g19 => ?_) (fun g19 => ?_)
      · exact absurd ⟨g8, g19⟩ hv
      · refine jv_aload0 dX4_swap_22 ?_
        refine jv_bipush dX4_swap_23 jv_c_bipush_m2 ?_
        refine jv_v11 dX4_swap_25 okX4_refuse inX4_refuse seX4_refuse mlX4_61 (ci := 4) (T := TX4) (N := 8) rfl (ck h.g) hC (by decide) (Nat.le_of_ble_eq_true rfl) ?_
        exact jv_iret dX4_swap_28 rfl rfl rfl rfl rfl
set_option maxRecDepth 20000 in
theorem pm_swap {G : jv_Gr} {I : jv_I} {J : jv_J} {Y Z : ot_Y} {E : ot_E} {K : Option ot_Y} (h : ot_M G I J Y Z E K) (a : Int32) (b : Int32) : ot_mm 8 mX5_swap [.ref 64, .int a, .int b] G I J (ot_ans (ot_rc2 ((0 ≤ a.toInt ∧ a.toInt < Y 10 0) ∧ (0 ≤ b.toInt ∧ b.toInt < Y 10 0)) (ot_reachB Y (ot_n a) (ot_n b) = true) 5) (jv_b (a ≠ b))) (ot_pk (ot_rc2 ((0 ≤ a.toInt ∧ a.toInt < Y 10 0) ∧ (0 ≤ b.toInt ∧ b.toInt < Y 10 0)) (ot_reachB Y (ot_n a) (ot_n b) = true) 5) (ot_swap Y (ot_n a) (ot_n b)) Y) (ot_zr Z (ot_rc2 ((0 ≤ a.toInt ∧ a.toInt < Y 10 0) ∧ (0 ≤ b.toInt ∧ b.toInt < Y 10 0)) (ot_reachB Y (ot_n a) (ot_n b) = true) 5)) E K := by
  have bn := yw_n h.w
  have bc := yw_c h.w
  have bw := yw_w h.w
  refine ot_rc2_split (motive := fun rc => ot_mm 8 mX5_swap [.ref 64, .int a, .int b] G I J (ot_ans rc (jv_b (a ≠ b))) (ot_pk rc (ot_swap Y (ot_n a) (ot_n b)) Y) (ot_zr Z rc) E K) (fun hv hw => ?_) (fun hv hw => ?_) (fun hv => ?_)
  · obtain ⟨x, hx, rfl⟩ := ot_of hv.1 (by omega)
    rw [ot_n_nI (show x < 2 ^ 30 by omega)]
    obtain ⟨z, hz, rfl⟩ := ot_of hv.2 (by omega)
    rw [ot_n_nI (show z < 2 ^ 30 by omega)]
    rw [ot_n_nI (show x < 2 ^ 30 by omega), ot_n_nI (show z < 2 ^ 30 by omega)] at hw
    obtain ⟨I2, hA, hR2, hF0⟩ := om_swaps (J := J) h.g h.r h.w hx hz
    have hF := ot_mf.pl hF0
    refine ⟨G, I2, J, ?_, ot_M_yard h hR2 (ot_YW_swap h.w hx hz) (ot_ZW_y h.z (Nat.le_refl _)) hF.mw, hF.mw.lo, ot_gx.rf⟩
    refine jv_enter okX5_swap (L := [.ref 64, .int (nI x), .int (nI z)]) rfl (Nat.le_of_ble_eq_true rfl) ?_
    refine jv_aload0 dX5_swap_0 ?_
    refine jv_iload1 dX5_swap_1 ?_
    refine jv_i2l dX5_swap_2 rfl ?_
    refine jv_v11 dX5_swap_3 okX5_isChild inX5_isChild seX5_isChild mlX5_87 (ci := 5) (T := TX5) (N := 35) rfl (mk h.g) (om_isChildI h.g h.r h.w _) (by decide) (Nat.le_of_ble_eq_true rfl) ?_
    refine jv_if_eqB dX5_swap_6 (tgt := 18) (by decide) (fun hq8 => absurd hv.1 hq8) (fun hq8 => ?_)
    refine jv_aload0 dX5_swap_9 ?_
    refine jv_iload2 dX5_swap_10 ?_
    refine jv_i2l dX5_swap_11 rfl ?_
    refine jv_v11 dX5_swap_12 okX5_isChild inX5_isChild seX5_isChild mlX5_87 (ci := 5) (T := TX5) (N := 35) rfl (mk h.g) (om_isChildI h.g h.r h.w _) (by decide) (Nat.le_of_ble_eq_true rfl) ?_
    refine jv_if_neB dX5_swap_15 (tgt := 25) (by decide) (fun hq19 => ?_) (fun hq19 => absurd hv.2 hq19)
    refine jv_aload0 dX5_swap_25 ?_
    refine jv_iload1 dX5_swap_26 ?_
    refine jv_iload2 dX5_swap_27 ?_
    refine jv_v21 dX5_swap_28 okX5_mayChange inX5_mayChange seX5_mayChange mlX5_290 (ci := 5) (T := TX5) (N := 35) rfl (mk h.g) (om_mayChange h.g h.r h.w hx hz) (by decide) (Nat.le_of_ble_eq_true rfl) ?_
    refine jv_if_neB dX5_swap_31 (tgt := 41) (by decide) (fun h31 => ?_) (fun h31 => absurd (ot_reachB_iff.mp hw) h31)
    refine jv_aload0 dX5_swap_41 ?_
    refine jv_iload1 dX5_swap_42 ?_
    refine jv_iload2 dX5_swap_43 ?_
    refine jv_v20 dX5_swap_44 okX5_swaps inX5_swaps seX5_swaps mlX5_222 (ci := 5) (T := TX5) (N := 35) rfl (mk h.g) hA (by decide) (Nat.le_of_ble_eq_true rfl) ?_
    refine jv_iload1 dX5_swap_47 ?_
    refine jv_iload2 dX5_swap_48 ?_
    refine jv_icmp_neN dX5_swap_49 (tgt := 56) (by decide) (by omega) (by omega) (fun h49 => ?_) (fun h49 => ?_)
    · refine jv_iconst dX5_swap_56 jv_c_iconst_1 ?_
      exact jv_iret dX5_swap_57 rfl rfl (ot_b1 (fun q => h49 (ot_nI_inj (by omega) (by omega) q))) rfl rfl
    · refine jv_iconst dX5_swap_52 jv_c_iconst_0 ?_
      refine jv_goto dX5_swap_53 (tgt := 57) (by decide) ?_
      exact jv_iret dX5_swap_57 rfl rfl (ot_b0 (fun q => q (by rw [h49]))) rfl rfl
  · obtain ⟨x, hx, rfl⟩ := ot_of hv.1 (by omega)
    obtain ⟨z, hz, rfl⟩ := ot_of hv.2 (by omega)
    rw [ot_n_nI (show x < 2 ^ 30 by omega), ot_n_nI (show z < 2 ^ 30 by omega)] at hw
    obtain ⟨I2, hC, h2, h3⟩ := om_refuse5 h
    refine ⟨G, I2, J, ?_, h2, h3, ot_gx.rf⟩
    refine jv_enter okX5_swap (L := [.ref 64, .int (nI x), .int (nI z)]) rfl (Nat.le_of_ble_eq_true rfl) ?_
    refine jv_aload0 dX5_swap_0 ?_
    refine jv_iload1 dX5_swap_1 ?_
    refine jv_i2l dX5_swap_2 rfl ?_
    refine jv_v11 dX5_swap_3 okX5_isChild inX5_isChild seX5_isChild mlX5_87 (ci := 5) (T := TX5) (N := 35) rfl (mk h.g) (om_isChildI h.g h.r h.w _) (by decide) (Nat.le_of_ble_eq_true rfl) ?_
    refine jv_if_eqB dX5_swap_6 (tgt := 18) (by decide) (fun hq8 => absurd hv.1 hq8) (fun hq8 => ?_)
    refine jv_aload0 dX5_swap_9 ?_
    refine jv_iload2 dX5_swap_10 ?_
    refine jv_i2l dX5_swap_11 rfl ?_
    refine jv_v11 dX5_swap_12 okX5_isChild inX5_isChild seX5_isChild mlX5_87 (ci := 5) (T := TX5) (N := 35) rfl (mk h.g) (om_isChildI h.g h.r h.w _) (by decide) (Nat.le_of_ble_eq_true rfl) ?_
    refine jv_if_neB dX5_swap_15 (tgt := 25) (by decide) (fun hq19 => ?_) (fun hq19 => absurd hv.2 hq19)
    refine jv_aload0 dX5_swap_25 ?_
    refine jv_iload1 dX5_swap_26 ?_
    refine jv_iload2 dX5_swap_27 ?_
    refine jv_v21 dX5_swap_28 okX5_mayChange inX5_mayChange seX5_mayChange mlX5_290 (ci := 5) (T := TX5) (N := 35) rfl (mk h.g) (om_mayChange h.g h.r h.w hx hz) (by decide) (Nat.le_of_ble_eq_true rfl) ?_
    refine jv_if_neB dX5_swap_31 (tgt := 41) (by decide) (fun h31 => absurd (ot_reachB_iff.mpr h31) hw) (fun h31 => ?_)
    refine jv_aload0 dX5_swap_34 ?_
    refine jv_bipush dX5_swap_35 jv_c_bipush_m5 ?_
    refine jv_v11 dX5_swap_37 okX5_refuse inX5_refuse seX5_refuse mlX5_104 (ci := 5) (T := TX5) (N := 35) rfl (mk h.g) hC (by decide) (Nat.le_of_ble_eq_true rfl) ?_
    exact jv_iret dX5_swap_40 rfl rfl rfl rfl rfl
  · obtain ⟨I2, hC, h2, h3⟩ := om_refuse2 h
    refine ⟨G, I2, J, ?_, h2, h3, ot_gx.rf⟩
    refine jv_enter okX5_swap (L := [.ref 64, .int a, .int b]) rfl (Nat.le_of_ble_eq_true rfl) ?_
    refine jv_aload0 dX5_swap_0 ?_
    refine jv_iload1 dX5_swap_1 ?_
    refine jv_i2l dX5_swap_2 rfl ?_
    refine jv_v11 dX5_swap_3 okX5_isChild inX5_isChild seX5_isChild mlX5_87 (ci := 5) (T := TX5) (N := 35) rfl (mk h.g) (om_isChildI h.g h.r h.w _) (by decide) (Nat.le_of_ble_eq_true rfl) ?_
    refine jv_if_eqB dX5_swap_6 (tgt := 18) (by decide) (fun g8 => ?_) (fun g8 => ?_)
    · refine jv_aload0 dX5_swap_18 ?_
      refine jv_bipush dX5_swap_19 jv_c_bipush_m2 ?_
      refine jv_v11 dX5_swap_21 okX5_refuse inX5_refuse seX5_refuse mlX5_104 (ci := 5) (T := TX5) (N := 35) rfl (mk h.g) hC (by decide) (Nat.le_of_ble_eq_true rfl) ?_
      exact jv_iret dX5_swap_24 rfl rfl rfl rfl rfl
    · refine jv_aload0 dX5_swap_9 ?_
      refine jv_iload2 dX5_swap_10 ?_
      refine jv_i2l dX5_swap_11 rfl ?_
      refine jv_v11 dX5_swap_12 okX5_isChild inX5_isChild seX5_isChild mlX5_87 (ci := 5) (T := TX5) (N := 35) rfl (mk h.g) (om_isChildI h.g h.r h.w _) (by decide) (Nat.le_of_ble_eq_true rfl) ?_
      refine jv_if_neB dX5_swap_15 (tgt := 25) (by decide) (fun g19 => ?_) (fun g19 => ?_)
      · exact absurd ⟨g8, g19⟩ hv
      · refine jv_aload0 dX5_swap_18 ?_
        refine jv_bipush dX5_swap_19 jv_c_bipush_m2 ?_
        refine jv_v11 dX5_swap_21 okX5_refuse inX5_refuse seX5_refuse mlX5_104 (ci := 5) (T := TX5) (N := 35) rfl (mk h.g) hC (by decide) (Nat.le_of_ble_eq_true rfl) ?_
        exact jv_iret dX5_swap_24 rfl rfl rfl rfl rfl
set_option maxRecDepth 20000 in
theorem pc_move {G : jv_Gr} {I : jv_I} {J : jv_J} {Y Z : ot_Y} {E : ot_E} {K : Option ot_Y} (h : ot_C G I J Y Z E K) (a : Int32) (b : Int32) : ot_cc 8 mX4_move [.ref 1, .int a, .int b] G I J (ot_ans (ot_rc ((0 ≤ a.toInt ∧ a.toInt < Y 10 0) ∧ (0 ≤ b.toInt ∧ b.toInt < Y 10 0))) (nI (Y 2 (ot_n a)))) (ot_pk (ot_rc ((0 ≤ a.toInt ∧ a.toInt < Y 10 0) ∧ (0 ≤ b.toInt ∧ b.toInt < Y 10 0))) (ot_move Y (ot_n a) (ot_n b)) Y) (ot_zr Z (ot_rc ((0 ≤ a.toInt ∧ a.toInt < Y 10 0) ∧ (0 ≤ b.toInt ∧ b.toInt < Y 10 0)))) E K := by
  have bn := yw_n h.w
  have bc := yw_c h.w
  have bw := yw_w h.w
  refine ot_rc_split (motive := fun rc => ot_cc 8 mX4_move [.ref 1, .int a, .int b] G I J (ot_ans rc (nI (Y 2 (ot_n a)))) (ot_pk rc (ot_move Y (ot_n a) (ot_n b)) Y) (ot_zr Z rc) E K) (fun hv => ?_) (fun hv => ?_)
  · obtain ⟨x, hx, rfl⟩ := ot_of hv.1 (by omega)
    rw [ot_n_nI (show x < 2 ^ 30 by omega)]
    obtain ⟨z, hz, rfl⟩ := ot_of hv.2 (by omega)
    rw [ot_n_nI (show z < 2 ^ 30 by omega)]
    obtain ⟨I2, hA, hR2, hF0⟩ := ot_shiftM (J := J) (cg_now h.g) h.r h.w hx hz
    have hF := ot_fr.pl hF0
    refine ⟨I2, J, ?_, ot_C_yard h hR2 (ot_YW_move h.w hx hz) (ot_ZW_y h.z (Nat.le_refl _)) hF, ot_hi.fr hF (by decide)⟩
    refine jv_enter okX4_move (L := [.ref 1, .int (nI x), .int (nI z), .null]) rfl (Nat.le_of_ble_eq_true rfl) ?_
    refine jv_aload0 dX4_move_0 ?_
    refine jv_getR dX4_move_1 flX4_10 rfl (ck h.g) (cr_now h.g) ?_
    refine jv_iload1 dX4_move_4 ?_
    refine jv_v11 dX4_move_5 okX3_hasChild inX3_hasChild seX3_hasChild mlX4_166 (ci := 3) (T := TX3) (N := 15) rfl (yk (cg_now h.g)) (ot_hasChild (cg_now h.g) h.r h.w _) (by decide) (Nat.le_of_ble_eq_true rfl) ?_
    refine jv_if_eqB dX4_move_8 (tgt := 22) (by decide) (fun hq8 => absurd hv.1 hq8) (fun hq8 => ?_)
    refine jv_aload0 dX4_move_11 ?_
    refine jv_getR dX4_move_12 flX4_10 rfl (ck h.g) (cr_now h.g) ?_
    refine jv_iload2 dX4_move_15 ?_
    refine jv_v11 dX4_move_16 okX3_hasPlace inX3_hasPlace seX3_hasPlace mlX4_202 (ci := 3) (T := TX3) (N := 15) rfl (yk (cg_now h.g)) (ot_hasPlace (cg_now h.g) h.r h.w _) (by decide) (Nat.le_of_ble_eq_true rfl) ?_
    refine jv_if_neB dX4_move_19 (tgt := 29) (by decide) (fun hq19 => ?_) (fun hq19 => absurd hv.2 hq19)
    refine jv_aload0 dX4_move_29 ?_
    refine jv_getR dX4_move_30 flX4_10 rfl (ck h.g) (cr_now h.g) ?_
    refine jv_getR dX4_move_33 flX4_175 rfl (yk (cg_now h.g)) (yr_where (cg_now h.g)) ?_
    refine jv_iload1 dX4_move_36 ?_
    refine jv_ialdN dX4_move_37 (yk_where (cg_now h.g)) (by omega) (by decide) (ye_where h.r (by omega)) ?_
    refine jv_istore3 dX4_move_38 rfl ?_
    refine jv_aload0 dX4_move_39 ?_
    refine jv_getR dX4_move_40 flX4_10 rfl (ck h.g) (cr_now h.g) ?_
    refine jv_iload1 dX4_move_43 ?_
    refine jv_iload2 dX4_move_44 ?_
    refine jv_v20 dX4_move_45 okX3_shift inX3_shift seX3_shift mlX4_289 (ci := 3) (T := TX3) (N := 15) rfl (yk (cg_now h.g)) hA (by decide) (Nat.le_of_ble_eq_true rfl) ?_
    refine jv_iload3 dX4_move_48 ?_
    exact jv_iret dX4_move_49 rfl rfl rfl rfl rfl
  · obtain ⟨I2, hC, h2, h3⟩ := oc_refuse2 h
    refine ⟨I2, J, ?_, h2, h3⟩
    refine jv_enter okX4_move (L := [.ref 1, .int a, .int b, .null]) rfl (Nat.le_of_ble_eq_true rfl) ?_
    refine jv_aload0 dX4_move_0 ?_
    refine jv_getR dX4_move_1 flX4_10 rfl (ck h.g) (cr_now h.g) ?_
    refine jv_iload1 dX4_move_4 ?_
    refine jv_v11 dX4_move_5 okX3_hasChild inX3_hasChild seX3_hasChild mlX4_166 (ci := 3) (T := TX3) (N := 15) rfl (yk (cg_now h.g)) (ot_hasChild (cg_now h.g) h.r h.w _) (by decide) (Nat.le_of_ble_eq_true rfl) ?_
    refine jv_if_eqB dX4_move_8 (tgt := 22) (by decide) (fun g8 => ?_) (fun g8 => ?_)
    · refine jv_aload0 dX4_move_22 ?_
      refine jv_bipush dX4_move_23 jv_c_bipush_m2 ?_
      refine jv_v11 dX4_move_25 okX4_refuse inX4_refuse seX4_refuse mlX4_61 (ci := 4) (T := TX4) (N := 8) rfl (ck h.g) hC (by decide) (Nat.le_of_ble_eq_true rfl) ?_
      exact jv_iret dX4_move_28 rfl rfl rfl rfl rfl
    · refine jv_aload0 dX4_move_11 ?_
      refine jv_getR dX4_move_12 flX4_10 rfl (ck h.g) (cr_now h.g) ?_
      refine jv_iload2 dX4_move_15 ?_
      refine jv_v11 dX4_move_16 okX3_hasPlace inX3_hasPlace seX3_hasPlace mlX4_202 (ci := 3) (T := TX3) (N := 15) rfl (yk (cg_now h.g)) (ot_hasPlace (cg_now h.g) h.r h.w _) (by decide) (Nat.le_of_ble_eq_true rfl) ?_
      refine jv_if_neB dX4_move_19 (tgt := 29) (by decide) (fun g19 => ?_) (fun g19 => ?_)
      · exact absurd ⟨g8, g19⟩ hv
      · refine jv_aload0 dX4_move_22 ?_
        refine jv_bipush dX4_move_23 jv_c_bipush_m2 ?_
        refine jv_v11 dX4_move_25 okX4_refuse inX4_refuse seX4_refuse mlX4_61 (ci := 4) (T := TX4) (N := 8) rfl (ck h.g) hC (by decide) (Nat.le_of_ble_eq_true rfl) ?_
        exact jv_iret dX4_move_28 rfl rfl rfl rfl rfl
set_option maxRecDepth 20000 in
theorem pm_move {G : jv_Gr} {I : jv_I} {J : jv_J} {Y Z : ot_Y} {E : ot_E} {K : Option ot_Y} (h : ot_M G I J Y Z E K) (a : Int32) (b : Int32) : ot_mm 8 mX5_move [.ref 64, .int a, .int b] G I J (ot_ans (ot_rc ((0 ≤ a.toInt ∧ a.toInt < Y 10 0) ∧ (0 ≤ b.toInt ∧ b.toInt < Y 10 0))) (nI (Y 2 (ot_n a)))) (ot_pk (ot_rc ((0 ≤ a.toInt ∧ a.toInt < Y 10 0) ∧ (0 ≤ b.toInt ∧ b.toInt < Y 10 0))) (ot_move Y (ot_n a) (ot_n b)) Y) (ot_zr Z (ot_rc ((0 ≤ a.toInt ∧ a.toInt < Y 10 0) ∧ (0 ≤ b.toInt ∧ b.toInt < Y 10 0)))) E K := by
  have bn := yw_n h.w
  have bc := yw_c h.w
  have bw := yw_w h.w
  refine ot_rc_split (motive := fun rc => ot_mm 8 mX5_move [.ref 64, .int a, .int b] G I J (ot_ans rc (nI (Y 2 (ot_n a)))) (ot_pk rc (ot_move Y (ot_n a) (ot_n b)) Y) (ot_zr Z rc) E K) (fun hv => ?_) (fun hv => ?_)
  · obtain ⟨x, hx, rfl⟩ := ot_of hv.1 (by omega)
    rw [ot_n_nI (show x < 2 ^ 30 by omega)]
    obtain ⟨z, hz, rfl⟩ := ot_of hv.2 (by omega)
    rw [ot_n_nI (show z < 2 ^ 30 by omega)]
    obtain ⟨I2, hA, hR2, hF0⟩ := om_moves (J := J) h.g h.r h.w hx hz
    have hF := ot_mf.pl hF0
    refine ⟨G, I2, J, ?_, ot_M_yard h hR2 (ot_YW_move h.w hx hz) (ot_ZW_y h.z (Nat.le_refl _)) hF.mw, hF.mw.lo, ot_gx.rf⟩
    refine jv_enter okX5_move (L := [.ref 64, .int (nI x), .int (nI z), .null]) rfl (Nat.le_of_ble_eq_true rfl) ?_
    refine jv_aload0 dX5_move_0 ?_
    refine jv_iload1 dX5_move_1 ?_
    refine jv_i2l dX5_move_2 rfl ?_
    refine jv_v11 dX5_move_3 okX5_isChild inX5_isChild seX5_isChild mlX5_87 (ci := 5) (T := TX5) (N := 35) rfl (mk h.g) (om_isChildI h.g h.r h.w _) (by decide) (Nat.le_of_ble_eq_true rfl) ?_
    refine jv_if_eqB dX5_move_6 (tgt := 18) (by decide) (fun hq8 => absurd hv.1 hq8) (fun hq8 => ?_)
    refine jv_aload0 dX5_move_9 ?_
    refine jv_iload2 dX5_move_10 ?_
    refine jv_i2l dX5_move_11 rfl ?_
    refine jv_v11 dX5_move_12 okX5_isChild inX5_isChild seX5_isChild mlX5_87 (ci := 5) (T := TX5) (N := 35) rfl (mk h.g) (om_isChildI h.g h.r h.w _) (by decide) (Nat.le_of_ble_eq_true rfl) ?_
    refine jv_if_neB dX5_move_15 (tgt := 25) (by decide) (fun hq19 => ?_) (fun hq19 => absurd hv.2 hq19)
    refine jv_aload0 dX5_move_25 ?_
    refine jv_getR dX5_move_26 flX5_43 rfl (mk h.g) (mr_place h.g) ?_
    refine jv_iload1 dX5_move_29 ?_
    refine jv_ialdN dX5_move_30 (mk_place h.g) (by omega) (by decide) (me_place h.r (by omega)) ?_
    refine jv_istore3 dX5_move_31 rfl ?_
    refine jv_aload0 dX5_move_32 ?_
    refine jv_iload1 dX5_move_33 ?_
    refine jv_iload2 dX5_move_34 ?_
    refine jv_v20 dX5_move_35 okX5_moves inX5_moves seX5_moves mlX5_227 (ci := 5) (T := TX5) (N := 35) rfl (mk h.g) hA (by decide) (Nat.le_of_ble_eq_true rfl) ?_
    refine jv_iload3 dX5_move_38 ?_
    exact jv_iret dX5_move_39 rfl rfl rfl rfl rfl
  · obtain ⟨I2, hC, h2, h3⟩ := om_refuse2 h
    refine ⟨G, I2, J, ?_, h2, h3, ot_gx.rf⟩
    refine jv_enter okX5_move (L := [.ref 64, .int a, .int b, .null]) rfl (Nat.le_of_ble_eq_true rfl) ?_
    refine jv_aload0 dX5_move_0 ?_
    refine jv_iload1 dX5_move_1 ?_
    refine jv_i2l dX5_move_2 rfl ?_
    refine jv_v11 dX5_move_3 okX5_isChild inX5_isChild seX5_isChild mlX5_87 (ci := 5) (T := TX5) (N := 35) rfl (mk h.g) (om_isChildI h.g h.r h.w _) (by decide) (Nat.le_of_ble_eq_true rfl) ?_
    refine jv_if_eqB dX5_move_6 (tgt := 18) (by decide) (fun g8 => ?_) (fun g8 => ?_)
    · refine jv_aload0 dX5_move_18 ?_
      refine jv_bipush dX5_move_19 jv_c_bipush_m2 ?_
      refine jv_v11 dX5_move_21 okX5_refuse inX5_refuse seX5_refuse mlX5_104 (ci := 5) (T := TX5) (N := 35) rfl (mk h.g) hC (by decide) (Nat.le_of_ble_eq_true rfl) ?_
      exact jv_iret dX5_move_24 rfl rfl rfl rfl rfl
    · refine jv_aload0 dX5_move_9 ?_
      refine jv_iload2 dX5_move_10 ?_
      refine jv_i2l dX5_move_11 rfl ?_
      refine jv_v11 dX5_move_12 okX5_isChild inX5_isChild seX5_isChild mlX5_87 (ci := 5) (T := TX5) (N := 35) rfl (mk h.g) (om_isChildI h.g h.r h.w _) (by decide) (Nat.le_of_ble_eq_true rfl) ?_
      refine jv_if_neB dX5_move_15 (tgt := 25) (by decide) (fun g19 => ?_) (fun g19 => ?_)
      · exact absurd ⟨g8, g19⟩ hv
      · refine jv_aload0 dX5_move_18 ?_
        refine jv_bipush dX5_move_19 jv_c_bipush_m2 ?_
        refine jv_v11 dX5_move_21 okX5_refuse inX5_refuse seX5_refuse mlX5_104 (ci := 5) (T := TX5) (N := 35) rfl (mk h.g) hC (by decide) (Nat.le_of_ble_eq_true rfl) ?_
        exact jv_iret dX5_move_24 rfl rfl rfl rfl rfl
def ot_turnA (Y : ot_Y) : Int32 := if Y 10 0 = 0 then -1 else nI (ot_at (ot_turn Y) 0)
set_option maxRecDepth 20000 in
theorem pc_turn {G : jv_Gr} {I : jv_I} {J : jv_J} {Y Z : ot_Y} {E : ot_E} {K : Option ot_Y} (h : ot_C G I J Y Z E K)  : ot_cc 8 mX4_turn [.ref 1] G I J (ot_turnA Y) (ot_turn Y) Z E K := by
  have bn := yw_n h.w
  have bc := yw_c h.w
  have bw := yw_w h.w
  obtain ⟨I2, hA, hR2, hF0⟩ := ot_turnAboutM (J := J) (cg_now h.g) h.r h.w
  have hF := ot_fr.pl hF0
  have hW2 := ot_YW_turn h.w
  unfold ot_turnA
  by_cases h0 : Y 10 0 = 0
  · rw [if_pos h0]
    refine ⟨I2, J, ?_, ot_C_yard h hR2 hW2 (ot_ZW_y h.z (Nat.le_refl _)) hF, ot_hi.fr hF (by decide)⟩
    refine jv_enter okX4_turn (L := [.ref 1]) rfl (Nat.le_of_ble_eq_true rfl) ?_
    refine jv_aload0 dX4_turn_0 ?_
    refine jv_getR dX4_turn_1 flX4_10 rfl (ck h.g) (cr_now h.g) ?_
    refine jv_v00 dX4_turn_4 okX3_turnAbout inX3_turnAbout seX3_turnAbout mlX4_220 (ci := 3) (T := TX3) (N := 15) rfl (yk (cg_now h.g)) hA (by decide) (Nat.le_of_ble_eq_true rfl) ?_
    refine jv_aload0 dX4_turn_7 ?_
    refine jv_getR dX4_turn_8 flX4_10 rfl (ck h.g) (cr_now h.g) ?_
    refine jv_getI dX4_turn_11 flX4_128 rfl (yk (cg_now h.g)) (show I2 2 0 = nI (Y 10 0) from hR2.1.1) ?_
    refine jv_if_neN dX4_turn_14 (tgt := 21) (by decide) (by omega) (fun h14 => absurd h0 h14) (fun h14 => ?_)
    refine jv_iconst dX4_turn_17 jv_c_iconst_m1 ?_
    refine jv_goto dX4_turn_18 (tgt := 30) (by decide) ?_
    exact jv_iret dX4_turn_30 rfl rfl rfl rfl rfl
  · rw [if_neg h0]
    have e1 : (ot_turn Y) 10 0 = Y 10 0 := rfl
    obtain ⟨e, he, hp⟩ := ot_who hW2 (show 0 < (ot_turn Y) 10 0 by omega)
    have hat := ot_at_eq hW2 he
    rw [hp] at hat
    have hwho := ye_who hR2 he
    rw [hp] at hwho
    refine ⟨I2, J, ?_, ot_C_yard h hR2 hW2 (ot_ZW_y h.z (Nat.le_refl _)) hF, ot_hi.fr hF (by decide)⟩
    refine jv_enter okX4_turn (L := [.ref 1]) rfl (Nat.le_of_ble_eq_true rfl) ?_
    refine jv_aload0 dX4_turn_0 ?_
    refine jv_getR dX4_turn_1 flX4_10 rfl (ck h.g) (cr_now h.g) ?_
    refine jv_v00 dX4_turn_4 okX3_turnAbout inX3_turnAbout seX3_turnAbout mlX4_220 (ci := 3) (T := TX3) (N := 15) rfl (yk (cg_now h.g)) hA (by decide) (Nat.le_of_ble_eq_true rfl) ?_
    refine jv_aload0 dX4_turn_7 ?_
    refine jv_getR dX4_turn_8 flX4_10 rfl (ck h.g) (cr_now h.g) ?_
    refine jv_getI dX4_turn_11 flX4_128 rfl (yk (cg_now h.g)) (show I2 2 0 = nI (Y 10 0) from hR2.1.1) ?_
    refine jv_if_neN dX4_turn_14 (tgt := 21) (by decide) (by omega) (fun h14 => ?_) (fun h14 => absurd h14 h0)
    refine jv_aload0 dX4_turn_21 ?_
    refine jv_getR dX4_turn_22 flX4_10 rfl (ck h.g) (cr_now h.g) ?_
    refine jv_getR dX4_turn_25 flX4_205 rfl (yk (cg_now h.g)) (yr_who (cg_now h.g)) ?_
    refine jv_iconst dX4_turn_28 jv_c_iconst_0 ?_
    refine jv_ialdN dX4_turn_29 (yk_who (cg_now h.g)) (by omega) (by decide) hwho ?_
    exact jv_iret dX4_turn_30 rfl rfl (by rw [hat]) rfl rfl
set_option maxRecDepth 20000 in
theorem pm_turn {G : jv_Gr} {I : jv_I} {J : jv_J} {Y Z : ot_Y} {E : ot_E} {K : Option ot_Y} (h : ot_M G I J Y Z E K)  : ot_mm 8 mX5_turn [.ref 64] G I J (ot_turnA Y) (ot_turn Y) Z E K := by
  have bn := yw_n h.w
  have bc := yw_c h.w
  have bw := yw_w h.w
  obtain ⟨I2, hA, hR2, hF0⟩ := om_turns (J := J) h.g h.r h.w
  have hF := ot_mf.pl hF0
  have hW2 := ot_YW_turn h.w
  unfold ot_turnA
  by_cases h0 : Y 10 0 = 0
  · rw [if_pos h0]
    refine ⟨G, I2, J, ?_, ot_M_yard h hR2 hW2 (ot_ZW_y h.z (Nat.le_refl _)) hF.mw, hF.mw.lo, ot_gx.rf⟩
    refine jv_enter okX5_turn (L := [.ref 64]) rfl (Nat.le_of_ble_eq_true rfl) ?_
    refine jv_aload0 dX5_turn_0 ?_
    refine jv_v00 dX5_turn_1 okX5_turns inX5_turns seX5_turns mlX5_275 (ci := 5) (T := TX5) (N := 35) rfl (mk h.g) hA (by decide) (Nat.le_of_ble_eq_true rfl) ?_
    refine jv_aload0 dX5_turn_4 ?_
    refine jv_getI dX5_turn_5 flX5_80 rfl (mk h.g) (show I2 64 9 = nI (Y 10 0) from hR2.1.1) ?_
    refine jv_if_neN dX5_turn_8 (tgt := 15) (by decide) (by omega) (fun h14 => absurd h0 h14) (fun h14 => ?_)
    refine jv_iconst dX5_turn_11 jv_c_iconst_m1 ?_
    refine jv_goto dX5_turn_12 (tgt := 20) (by decide) ?_
    exact jv_iret dX5_turn_20 rfl rfl rfl rfl rfl
  · rw [if_neg h0]
    have e1 : (ot_turn Y) 10 0 = Y 10 0 := rfl
    obtain ⟨e, he, hp⟩ := ot_who hW2 (show 0 < (ot_turn Y) 10 0 by omega)
    have hat := ot_at_eq hW2 he
    rw [hp] at hat
    refine ⟨G, I2, J, ?_, ot_M_yard h hR2 hW2 (ot_ZW_y h.z (Nat.le_refl _)) hF.mw, hF.mw.lo, ot_gx.rf⟩
    refine jv_enter okX5_turn (L := [.ref 64]) rfl (Nat.le_of_ble_eq_true rfl) ?_
    refine jv_aload0 dX5_turn_0 ?_
    refine jv_v00 dX5_turn_1 okX5_turns inX5_turns seX5_turns mlX5_275 (ci := 5) (T := TX5) (N := 35) rfl (mk h.g) hA (by decide) (Nat.le_of_ble_eq_true rfl) ?_
    refine jv_aload0 dX5_turn_4 ?_
    refine jv_getI dX5_turn_5 flX5_80 rfl (mk h.g) (show I2 64 9 = nI (Y 10 0) from hR2.1.1) ?_
    refine jv_if_neN dX5_turn_8 (tgt := 15) (by decide) (by omega) (fun h14 => ?_) (fun h14 => absurd h14 h0)
    refine jv_aload0 dX5_turn_15 ?_
    refine jv_iconst dX5_turn_16 jv_c_iconst_0 ?_
    refine jv_v11 dX5_turn_17 okX5_standing inX5_standing seX5_standing mlX5_254 (ci := 5) (T := TX5) (N := 35) rfl (mk h.g) (by have q := om_standing (J := J) h.g hR2 hW2 he; rw [hp] at q; exact q) (by decide) (Nat.le_of_ble_eq_true rfl) ?_
    exact jv_iret dX5_turn_20 rfl rfl (by rw [hat]) rfl rfl
