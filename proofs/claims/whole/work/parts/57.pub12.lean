/-! ===== the face: group 12 (image, turned, back) ===== -/
theorem ot_C_keep {G : jv_Gr} {I I2 : jv_I} {J : jv_J} {Y Y2 Z : ot_Y} {E : ot_E} {K : Option ot_Y} (h : ot_C G I J Y Z E K) (hR : ot_YR I2 14 Y2) (hW : ot_YW Y2) (hf : ot_fr I I2 14 25) : ot_C G (jv_up I2 1 7 (nI 1)) J Y Z E (some Y2) := by
  obtain ⟨a, b, c, d, e, f⟩ := h
  have hf2 : ∀ q, q ≠ 1 → (q < 14 ∨ 25 < q) → jv_up I2 1 7 (nI 1) q = I q := fun q q1 q2 => (jv_up_ne _ _ _ q1).trans (hf q (by omega))
  refine ⟨a, ?_, c, ?_, e, jv_up_at _ _ _ _, ?_, hW⟩
  · exact ot_YR_fr (lo := 1) (hi := 1) (ot_YR_fr (lo := 14) (hi := 25) b hf (by omega)) (ot_fr.up (by decide) (by decide)) (by omega)
  · obtain ⟨d1, ⟨d2, d3⟩, d4⟩ := d
    refine ⟨fun s hs => ?_, ⟨?_, fun i hi => ?_⟩, fun j hj => ?_⟩
    · rw [hf2 (48 + 2 * s) (by omega) (by omega)]; exact d1 s hs
    · rw [hf2 44 (by omega) (by omega)]; exact d2
    · rw [hf2 45 (by omega) (by omega)]; exact d3 i hi
    · rw [hf2 47 (by omega) (by omega)]; exact d4 j hj
  · exact ot_YR_fr (lo := 1) (hi := 1) hR (ot_fr.up (by decide) (by decide)) (by omega)
set_option maxRecDepth 20000 in
theorem pc_image {G : jv_Gr} {I : jv_I} {J : jv_J} {Y Z : ot_Y} {E : ot_E} {K : Option ot_Y} (h : ot_C G I J Y Z E K)  : ot_cc 8 mX4_image [.ref 1] G I J (nI 1) Y Z E (some Y) := by
  have bn := yw_n h.w
  have bc := yw_c h.w
  have bw := yw_w h.w
  obtain ⟨I2, hA, hR2, hF⟩ := ot_takeOverM (J := J) (cg_kept h.g) (cg_now h.g) h.r h.w (by omega)
  refine ⟨jv_up I2 1 7 (nI 1), J, ?_, ot_C_keep h hR2 h.w hF, fun q hq => ⟨(jv_up_ne _ _ _ (by omega)).trans (hF q (by omega)), rfl⟩⟩
  refine jv_enter okX4_image (L := [.ref 1]) rfl (Nat.le_of_ble_eq_true rfl) ?_
  refine jv_aload0 dX4_image_0 ?_
  refine jv_getR dX4_image_1 flX4_16 rfl (ck h.g) (cr_kept h.g) ?_
  refine jv_aload0 dX4_image_4 ?_
  refine jv_getR dX4_image_5 flX4_10 rfl (ck h.g) (cr_now h.g) ?_
  refine jv_v10 dX4_image_8 okX3_takeOver inX3_takeOver seX3_takeOver mlX4_159 (ci := 3) (T := TX3) (N := 15) rfl (yk (cg_kept h.g)) hA (by decide) (Nat.le_of_ble_eq_true rfl) ?_
  refine jv_aload0 dX4_image_11 ?_
  refine jv_iconst dX4_image_12 jv_c_iconst_1 ?_
  refine jv_putI dX4_image_13 flX4_48 rfl (ck h.g) rfl rfl ?_
  refine jv_iconst dX4_image_16 jv_c_iconst_1 ?_
  exact jv_iret dX4_image_17 rfl rfl rfl rfl rfl
set_option maxRecDepth 20000 in
theorem pc_turned {G : jv_Gr} {I : jv_I} {J : jv_J} {Y Z : ot_Y} {E : ot_E} {K : Option ot_Y} (h : ot_C G I J Y Z E K) (k : Int32) : ot_cc 8 mX4_turned [.ref 1, .int k] G I J (ot_ans (ot_rc (0 ≤ k.toInt ∧ k.toInt < Y 10 1)) (nI (ot_value (ot_turn Y) (ot_n k)))) Y (ot_zr Z (ot_rc (0 ≤ k.toInt ∧ k.toInt < Y 10 1))) E K := by
  have bn := yw_n h.w
  have bc := yw_c h.w
  have bw := yw_w h.w
  refine ot_rc_split (motive := fun rc => ot_cc 8 mX4_turned [.ref 1, .int k] G I J (ot_ans rc (nI (ot_value (ot_turn Y) (ot_n k)))) Y (ot_zr Z rc) E K) (fun hv => ?_) (fun hv => ?_)
  · obtain ⟨j, hj, rfl⟩ := ot_of hv (by omega)
    rw [ot_n_nI (show j < 2 ^ 30 by omega)]
    obtain ⟨I2, hA, hR2, hF⟩ := ot_takeOverM (J := J) (cg_draft h.g) (cg_now h.g) h.r h.w (by omega)
    obtain ⟨I3, hB, hR3, hF3⟩ := ot_turnAboutM (J := J) (cg_draft h.g) hR2 h.w
    have hf : ot_fr I I3 26 37 := hF.tr (ot_fr.pl hF3)
    refine ⟨I3, J, ?_, ot_C_scratch h (fun q q1 q2 => hf q (by omega)) (by rw [hf 44 (by omega)]), ot_hi.fr hf (by decide)⟩
    refine jv_enter okX4_turned (L := [.ref 1, .int (nI j)]) rfl (Nat.le_of_ble_eq_true rfl) ?_
    refine jv_aload0 dX4_turned_0 ?_
    refine jv_getR dX4_turned_1 flX4_10 rfl (ck h.g) (cr_now h.g) ?_
    refine jv_iload1 dX4_turned_4 ?_
    refine jv_v11 dX4_turned_5 okX3_hasCount inX3_hasCount seX3_hasCount mlX4_101 (ci := 3) (T := TX3) (N := 15) rfl (yk (cg_now h.g)) (ot_hasCount (cg_now h.g) h.r h.w _) (by decide) (Nat.le_of_ble_eq_true rfl) ?_
    refine jv_if_neB dX4_turned_8 (tgt := 18) (by decide) (fun hq8 => ?_) (fun hq8 => absurd hv hq8)
    refine jv_aload0 dX4_turned_18 ?_
    refine jv_getR dX4_turned_19 flX4_19 rfl (ck h.g) (cr_draft h.g) ?_
    refine jv_aload0 dX4_turned_22 ?_
    refine jv_getR dX4_turned_23 flX4_10 rfl (ck h.g) (cr_now h.g) ?_
    refine jv_v10 dX4_turned_26 okX3_takeOver inX3_takeOver seX3_takeOver mlX4_159 (ci := 3) (T := TX3) (N := 15) rfl (yk (cg_draft h.g)) hA (by decide) (Nat.le_of_ble_eq_true rfl) ?_
    refine jv_aload0 dX4_turned_29 ?_
    refine jv_getR dX4_turned_30 flX4_19 rfl (ck h.g) (cr_draft h.g) ?_
    refine jv_v00 dX4_turned_33 okX3_turnAbout inX3_turnAbout seX3_turnAbout mlX4_220 (ci := 3) (T := TX3) (N := 15) rfl (yk (cg_draft h.g)) hB (by decide) (Nat.le_of_ble_eq_true rfl) ?_
    refine jv_aload0 dX4_turned_36 ?_
    refine jv_getR dX4_turned_37 flX4_19 rfl (ck h.g) (cr_draft h.g) ?_
    refine jv_iload1 dX4_turned_40 ?_
    refine jv_v11 dX4_turned_41 okX3_valueBy inX3_valueBy seX3_valueBy mlX4_223 (ci := 3) (T := TX3) (N := 15) rfl (yk (cg_draft h.g)) (ot_valueByM (cg_draft h.g) hR3 (ot_YW_turn h.w) (show j < (ot_turn Y) 10 1 from hj)) (by decide) (Nat.le_of_ble_eq_true rfl) ?_
    exact jv_iret dX4_turned_44 rfl rfl rfl rfl rfl
  · obtain ⟨I2, hC, h2, h3⟩ := oc_refuse2 h
    refine ⟨I2, J, ?_, h2, h3⟩
    refine jv_enter okX4_turned (L := [.ref 1, .int k]) rfl (Nat.le_of_ble_eq_true rfl) ?_
    refine jv_aload0 dX4_turned_0 ?_
    refine jv_getR dX4_turned_1 flX4_10 rfl (ck h.g) (cr_now h.g) ?_
    refine jv_iload1 dX4_turned_4 ?_
    refine jv_v11 dX4_turned_5 okX3_hasCount inX3_hasCount seX3_hasCount mlX4_101 (ci := 3) (T := TX3) (N := 15) rfl (yk (cg_now h.g)) (ot_hasCount (cg_now h.g) h.r h.w _) (by decide) (Nat.le_of_ble_eq_true rfl) ?_
    refine jv_if_neB dX4_turned_8 (tgt := 18) (by decide) (fun hq8 => absurd hq8 hv) (fun hq8 => ?_)
    refine jv_aload0 dX4_turned_11 ?_
    refine jv_bipush dX4_turned_12 jv_c_bipush_m2 ?_
    refine jv_v11 dX4_turned_14 okX4_refuse inX4_refuse seX4_refuse mlX4_61 (ci := 4) (T := TX4) (N := 8) rfl (ck h.g) hC (by decide) (Nat.le_of_ble_eq_true rfl) ?_
    exact jv_iret dX4_turned_17 rfl rfl rfl rfl rfl
set_option maxRecDepth 20000 in
theorem pm_turned {G : jv_Gr} {I : jv_I} {J : jv_J} {Y Z : ot_Y} {E : ot_E} {K : Option ot_Y} (h : ot_M G I J Y Z E K) (k : Int32) : ot_mm 8 mX5_turned [.ref 64, .int k] G I J (ot_ans (ot_rc (0 ≤ k.toInt ∧ k.toInt < Y 10 1)) (nI (ot_value (ot_turn Y) (ot_n k)))) Y (ot_zr Z (ot_rc (0 ≤ k.toInt ∧ k.toInt < Y 10 1))) E K := by
  have bn := yw_n h.w
  have bc := yw_c h.w
  have bw := yw_w h.w
  refine ot_rc_split (motive := fun rc => ot_mm 8 mX5_turned [.ref 64, .int k] G I J (ot_ans rc (nI (ot_value (ot_turn Y) (ot_n k)))) Y (ot_zr Z rc) E K) (fun hv => ?_) (fun hv => ?_)
  · obtain ⟨j, hj, rfl⟩ := ot_of hv (by omega)
    rw [ot_n_nI (show j < 2 ^ 30 by omega)]
    obtain ⟨G2, I2, J2, q, hFr, hM, hq, hq2, hqG, hqR, hql, hqx⟩ := om_fresh h
    have hFn : jv_n G2 < 1000000 := by have := hM.n; unfold ot_NM at this; omega
    have hGn := ot_M_n h
    obtain ⟨I3, hB, hR3, hF3⟩ := om_turns (J := J2) hqG hqR h.w
    have hf : ot_fr I2 I3 q (q + 29) := fun u hu => hF3 u (by omega)
    refine ⟨G2, I3, J2, ?_, ot_M_try hM hq (by omega) hf (fun _ _ => rfl), hql.tr (ot_lo.fr hf (by omega)), hqx⟩
    refine jv_enter okX5_turned (L := [.ref 64, .int (nI j), .null]) rfl (Nat.le_of_ble_eq_true rfl) ?_
    refine jv_aload0 dX5_turned_0 ?_
    refine jv_iload1 dX5_turned_1 ?_
    refine jv_v11 dX5_turned_2 okX5_isCount inX5_isCount seX5_isCount mlX5_94 (ci := 5) (T := TX5) (N := 35) rfl (mk h.g) (om_isCount h.g h.r h.w _) (by decide) (Nat.le_of_ble_eq_true rfl) ?_
    refine jv_if_neB dX5_turned_5 (tgt := 15) (by decide) (fun hq8 => ?_) (fun hq8 => absurd hv hq8)
    refine jv_aload0 dX5_turned_15 ?_
    refine jv_callV (a := 64) (As := []) (rest := []) dX5_turned_16 okX5_fresh inX5_fresh seX5_fresh mlX5_245 (ci := 5) (T := TX5) (N := 35) rfl (mk h.g) hFr (by decide) rfl rfl (Nat.le_of_ble_eq_true rfl) (.inr ⟨(ot_ow_r (by omega) (ot_ow_i (ot_ow_n ot_ow_nil))), ot_ow_nil, hFn⟩) ?_
    refine jv_astore2 dX5_turned_19 rfl ?_
    refine jv_aload2 dX5_turned_20 ?_
    refine jv_v00 dX5_turned_21 okX5_turns inX5_turns seX5_turns mlX5_275 (ci := 5) (T := TX5) (N := 35) rfl (mk hqG) hB (by decide) (Nat.le_of_ble_eq_true rfl) ?_
    refine jv_aload2 dX5_turned_24 ?_
    refine jv_iload1 dX5_turned_25 ?_
    refine jv_v11 dX5_turned_26 okX5_valueOf inX5_valueOf seX5_valueOf mlX5_278 (ci := 5) (T := TX5) (N := 35) rfl (mk hqG) (om_valueOf hqG hR3 (ot_YW_turn h.w) (show j < (ot_turn Y) 10 1 from hj)) (by decide) (Nat.le_of_ble_eq_true rfl) ?_
    exact jv_iret dX5_turned_29 rfl rfl rfl rfl rfl
  · obtain ⟨I2, hC, h2, h3⟩ := om_refuse2 h
    refine ⟨G, I2, J, ?_, h2, h3, ot_gx.rf⟩
    refine jv_enter okX5_turned (L := [.ref 64, .int k, .null]) rfl (Nat.le_of_ble_eq_true rfl) ?_
    refine jv_aload0 dX5_turned_0 ?_
    refine jv_iload1 dX5_turned_1 ?_
    refine jv_v11 dX5_turned_2 okX5_isCount inX5_isCount seX5_isCount mlX5_94 (ci := 5) (T := TX5) (N := 35) rfl (mk h.g) (om_isCount h.g h.r h.w _) (by decide) (Nat.le_of_ble_eq_true rfl) ?_
    refine jv_if_neB dX5_turned_5 (tgt := 15) (by decide) (fun hq8 => absurd hq8 hv) (fun hq8 => ?_)
    refine jv_aload0 dX5_turned_8 ?_
    refine jv_bipush dX5_turned_9 jv_c_bipush_m2 ?_
    refine jv_v11 dX5_turned_11 okX5_refuse inX5_refuse seX5_refuse mlX5_104 (ci := 5) (T := TX5) (N := 35) rfl (mk h.g) hC (by decide) (Nat.le_of_ble_eq_true rfl) ?_
    exact jv_iret dX5_turned_14 rfl rfl rfl rfl rfl
def ot_backZ (Z : ot_Y) (c n : Nat) : ot_Y := fun j s => if j = 0 ∧ s < n ∧ Z 0 s = 2 ∧ ¬ Z 3 s < c then 0 else Z j s
theorem ot_backZ_hi {Z : ot_Y} {c n j : Nat} (h : j ≠ 0) : ot_backZ Z c n j = Z j := by funext s; unfold ot_backZ; rw [if_neg (by omega)]
theorem ot_backZ_ge {Z : ot_Y} {c n s : Nat} (h : n ≤ s) : ot_backZ Z c n 0 s = Z 0 s := by unfold ot_backZ; rw [if_neg (by omega)]
theorem ot_backZ_z (Z : ot_Y) (c : Nat) : ot_backZ Z c 0 = Z := by funext j s; unfold ot_backZ; rw [if_neg (by omega)]
theorem ot_backZ_s {Z : ot_Y} {c n : Nat} (h : Z 0 n = 2 ∧ ¬ Z 3 n < c) : ot_backZ Z c (n + 1) = fun j s => if j = 0 ∧ s = n then 0 else ot_backZ Z c n j s := by
  funext j s
  unfold ot_backZ
  by_cases hj : j = 0 ∧ s = n
  · rw [if_pos hj, if_pos (by obtain ⟨a, b⟩ := hj; subst b; exact ⟨a, by omega, h.1, h.2⟩)]
  · rw [if_neg hj]
    by_cases h2 : j = 0 ∧ s < n ∧ Z 0 s = 2 ∧ ¬ Z 3 s < c
    · rw [if_pos h2, if_pos ⟨h2.1, by omega, h2.2.2⟩]
    · rw [if_neg h2, if_neg (by omega)]
theorem ot_backZ_n {Z : ot_Y} {c n : Nat} (h : ¬ (Z 0 n = 2 ∧ ¬ Z 3 n < c)) : ot_backZ Z c (n + 1) = ot_backZ Z c n := by
  funext j s
  unfold ot_backZ
  by_cases h2 : j = 0 ∧ s < n ∧ Z 0 s = 2 ∧ ¬ Z 3 s < c
  · rw [if_pos h2, if_pos ⟨h2.1, by omega, h2.2.2⟩]
  · rw [if_neg h2, if_neg (fun q => by
      by_cases e : s = n
      · subst e; exact h q.2.2
      · exact h2 ⟨q.1, by omega, q.2.2⟩)]
theorem ot_ZW_back {Y YK Z : ot_Y} (h : ot_ZW Y Z) : ot_ZW YK (ot_backZ Z (YK 10 1) 8) := by
  refine ⟨fun s hs => ?_, by rw [ot_backZ_hi (by decide)]; exact h.2.1, by rw [ot_backZ_hi (by decide), ot_backZ_hi (by decide)]; exact h.2.2⟩
  obtain ⟨a, b, c⟩ := h.1 s hs
  rw [ot_backZ_hi (show 1 ≠ 0 by decide), ot_backZ_hi (show 2 ≠ 0 by decide), ot_backZ_hi (show 3 ≠ 0 by decide)]
  unfold ot_backZ
  by_cases e : 0 = 0 ∧ s < 8 ∧ Z 0 s = 2 ∧ ¬ Z 3 s < YK 10 1
  · rw [if_pos e]; exact ⟨by omega, fun q => absurd q (by decide), fun q => absurd q (by decide)⟩
  · rw [if_neg e]; exact ⟨a, b, fun q => by
      by_cases e2 : Z 3 s < YK 10 1
      · exact e2
      · exact absurd ⟨rfl, hs, q, e2⟩ e⟩
theorem ot_thingG {Z : ot_Y} {s : Nat} (a : Z 0 s ≤ 2) (b : Z 0 s = 1 → Z 1 s ≤ 4) (c : Z 0 s = 2 → Z 3 s < 6) : ¬ ot_thing Z s < nI 10 ↔ Z 0 s = 2 := by
  rcases (show Z 0 s = 0 ∨ Z 0 s = 1 ∨ Z 0 s = 2 by omega) with e | e | e
  · rw [ot_thing_0 e]
    constructor
    · intro q; exact absurd (by decide) q
    · intro q; omega
  · rw [ot_thing_1 e, nI_ltI (by omega) (by decide)]
    omega
  · rw [ot_thing_2 e, nI_ltI (by omega) (by decide)]
    omega
set_option maxRecDepth 20000 in
theorem oc_isCountG {G : jv_Gr} {I : jv_I} {J : jv_J} {Z : ot_Y} {s : Nat} (hg : ot_CG G) (hs : s < 8) (ht : I (48 + 2 * s) 0 = ot_thing Z s) (a : Z 0 s ≤ 2) (b : Z 0 s = 1 → Z 1 s ≤ 4) (c : Z 0 s = 2 → Z 3 s < 6) : jv_C 1 mX1_isCount [.ref (48 + 2 * s)] G I J (some (.int (jv_b (Z 0 s = 2)))) G I J := by
  refine jv_enter okX1_isCount (L := [.ref (48 + 2 * s)]) rfl (Nat.le_of_ble_eq_true rfl) ?_
  refine jv_aload0 dX1_isCount_0 ?_
  refine jv_getI dX1_isCount_1 flX1_9 rfl (sk hg hs) ht ?_
  refine jv_bipush dX1_isCount_4 jv_c_bipush_10 ?_
  refine jv_icmp_lt dX1_isCount_6 (tgt := 13) (by decide) (fun h6 => ?_) (fun h6 => ?_)
  · refine jv_iconst dX1_isCount_13 jv_c_iconst_0 ?_
    exact jv_iret dX1_isCount_14 rfl (by decide) (ot_b0 (fun q => (ot_thingG a b c).mpr q h6)) rfl rfl
  · refine jv_iconst dX1_isCount_9 jv_c_iconst_1 ?_
    refine jv_goto dX1_isCount_10 (tgt := 14) (by decide) ?_
    exact jv_iret dX1_isCount_14 rfl (by decide) (ot_b1 ((ot_thingG a b c).mp h6)) rfl rfl
set_option maxRecDepth 20000 in
theorem oc_countNumberG {G : jv_Gr} {I : jv_I} {J : jv_J} {Z : ot_Y} {s : Nat} (hg : ot_CG G) (hs : s < 8) (ht : I (48 + 2 * s) 0 = ot_thing Z s) (a : Z 0 s ≤ 2) (b : Z 0 s = 1 → Z 1 s ≤ 4) (c : Z 0 s = 2 → Z 3 s < 6) (h2 : Z 0 s = 2) : jv_C 2 mX1_countNumber [.ref (48 + 2 * s)] G I J (some (.int (nI (Z 3 s)))) G I J := by
  refine jv_enter okX1_countNumber (L := [.ref (48 + 2 * s)]) rfl (Nat.le_of_ble_eq_true rfl) ?_
  refine jv_aload0 dX1_countNumber_0 ?_
  refine jv_v01 dX1_countNumber_1 okX1_isCount inX1_isCount seX1_isCount mlX1_26 (ci := 1) (T := TX1) (N := 3) rfl (sk hg hs) (oc_isCountG hg hs ht a b c) (by decide) (Nat.le_of_ble_eq_true rfl) ?_
  refine jv_if_eqB dX1_countNumber_4 (tgt := 17) (by decide) (fun h4 => absurd h2 h4) (fun h4 => ?_)
  refine jv_aload0 dX1_countNumber_7 ?_
  refine jv_getI dX1_countNumber_8 flX1_9 rfl (sk hg hs) (ht.trans (ot_thing_2 h2)) ?_
  refine jv_bipush dX1_countNumber_11 jv_c_bipush_10 ?_
  refine jv_isubN dX1_countNumber_13 (by omega) ?_
  refine jv_goto dX1_countNumber_14 (tgt := 18) (by decide) ?_
  exact jv_iret dX1_countNumber_18 rfl rfl (by rw [Nat.add_sub_cancel_left]) rfl rfl
set_option maxRecDepth 20000 in
theorem oc_takeNothingG {G : jv_Gr} {I : jv_I} {J : jv_J} {s : Nat} (hg : ot_CG G) (hs : s < 8) : jv_C 1 mX1_takeNothing [.ref (48 + 2 * s)] G I J none G (jv_up (jv_up I (48 + 2 * s) 0 (-1)) (48 + 2 * s) 1 (nI 0)) J := by
  refine jv_enter okX1_takeNothing (L := [.ref (48 + 2 * s)]) rfl (Nat.le_of_ble_eq_true rfl) ?_
  refine jv_aload0 dX1_takeNothing_0 ?_
  refine jv_iconst dX1_takeNothing_1 jv_c_iconst_m1 ?_
  refine jv_putI dX1_takeNothing_2 flX1_9 rfl (sk hg hs) rfl rfl ?_
  refine jv_aload0 dX1_takeNothing_5 ?_
  refine jv_iconst dX1_takeNothing_6 jv_c_iconst_0 ?_
  refine jv_putI dX1_takeNothing_7 flX1_15 rfl (sk hg hs) rfl rfl ?_
  exact jv_vret dX1_takeNothing_10 rfl rfl rfl rfl
set_option maxRecDepth 20000 in
theorem oc_backLoop {G : jv_Gr} {I : jv_I} {J : jv_J} {Y Z YK : ot_Y} {E : ot_E} {K : Option ot_Y} (h : ot_C G I J Y Z E K) (hW : ot_YW YK) {Ia : jv_I} (hR : ot_YR Ia 2 YK) : ∀ (n i : Nat) (A : jv_I), 9 ≤ i + n → i ≤ 8 → (∀ s, s < 8 → A (48 + 2 * s) 0 = ot_thing (ot_backZ Z (YK 10 1) i) s ∧ A (48 + 2 * s) 1 = nI (ot_slen (ot_backZ Z (YK 10 1) i) s)) → (∀ q, (q < 48 ∨ 63 < q) → A q = Ia q) → ∃ I2, jv_V 8 mX4_back 27 [.ref 1, .int (nI i)] [] G A J (some (.int (nI 1))) G I2 J ∧ (∀ s, s < 8 → I2 (48 + 2 * s) 0 = ot_thing (ot_backZ Z (YK 10 1) 8) s ∧ I2 (48 + 2 * s) 1 = nI (ot_slen (ot_backZ Z (YK 10 1) 8) s)) ∧ (∀ q, (q < 48 ∨ 63 < q) → I2 q = Ia q) := by
  intro n
  have bc := yw_c h.w
  have bk := yw_c hW
  induction n with
  | zero => intro i A b1 b2; omega
  | succ n ih =>
    intro i A b1 b2 hv hF
    by_cases hi : i < 8
    · obtain ⟨z1, z2, z3⟩ := h.z.1 i hi
      have e0 : ot_backZ Z (YK 10 1) i 0 i = Z 0 i := ot_backZ_ge (Nat.le_refl i)
      have e1 : ot_backZ Z (YK 10 1) i 1 = Z 1 := ot_backZ_hi (by decide)
      have e3 : ot_backZ Z (YK 10 1) i 3 = Z 3 := ot_backZ_hi (by decide)
      have hRA : ot_YR A 2 YK := ot_YR_fr (lo := 48) (hi := 63) hR (fun q hq => hF q (by omega)) (by omega)
      have cC := oc_isCountG (J := J) (Z := ot_backZ Z (YK 10 1) i) h.g hi (hv i hi).1 (by rw [e0]; exact z1) (by rw [e0, e1]; exact fun q => (z2 q).1) (by rw [e0, e3]; exact fun q => Nat.lt_of_lt_of_le (z3 q) bc)
      rw [e0] at cC
      by_cases hz2 : Z 0 i = 2
      · have cN := oc_countNumberG (J := J) (Z := ot_backZ Z (YK 10 1) i) h.g hi (hv i hi).1 (by rw [e0]; exact z1) (by rw [e0, e1]; exact fun q => (z2 q).1) (by rw [e0, e3]; exact fun q => Nat.lt_of_lt_of_le (z3 q) bc) (e0.trans hz2)
        rw [e3] at cN
        have hz3 := z3 hz2
        have cH := ot_hasCount (J := J) (cg_now h.g) hRA hW (nI (Z 3 i))
        rw [nI_toInt (show Z 3 i < 2 ^ 31 by omega)] at cH
        by_cases hk : Z 3 i < YK 10 1
        · have es := ot_backZ_n (Z := Z) (c := YK 10 1) (n := i) (by omega)
          obtain ⟨I2, hV, p1, p2⟩ := ih (i + 1) A (by omega) (by omega) (by rw [es]; exact hv) hF
          refine ⟨I2, ?_, p1, p2⟩
          refine jv_iload1 dX4_back_27 ?_
          refine jv_bipush dX4_back_28 jv_c_bipush_8 ?_
          refine jv_icmp_geN dX4_back_30 (tgt := 79) (by decide) (by omega) (by omega) (fun hc30 => by omega) (fun hc30 => ?_)
          refine jv_aload0 dX4_back_33 ?_
          refine jv_getR dX4_back_34 flX4_40 rfl (ck h.g) (cr_shelves h.g) ?_
          refine jv_iload1 dX4_back_37 ?_
          refine jv_aald2N dX4_back_38 (ck_shelves h.g) (by omega) (by decide) (cr_shelf h.g hi) ?_
          refine jv_v01 dX4_back_39 okX1_isCount inX1_isCount seX1_isCount mlX4_301 (ci := 1) (T := TX1) (N := 3) rfl (sk h.g hi) cC (by decide) (Nat.le_of_ble_eq_true rfl) ?_
          refine jv_if_eqB dX4_back_42 (tgt := 73) (by decide) (fun h42 => absurd hz2 h42) (fun h42 => ?_)
          refine jv_aload0 dX4_back_45 ?_
          refine jv_getR dX4_back_46 flX4_10 rfl (ck h.g) (cr_now h.g) ?_
          refine jv_aload0 dX4_back_49 ?_
          refine jv_getR dX4_back_50 flX4_40 rfl (ck h.g) (cr_shelves h.g) ?_
          refine jv_iload1 dX4_back_53 ?_
          refine jv_aald2N dX4_back_54 (ck_shelves h.g) (by omega) (by decide) (cr_shelf h.g hi) ?_
          refine jv_v01 dX4_back_55 okX1_countNumber inX1_countNumber seX1_countNumber mlX4_115 (ci := 1) (T := TX1) (N := 3) rfl (sk h.g hi) cN (by decide) (Nat.le_of_ble_eq_true rfl) ?_
          refine jv_v11 dX4_back_58 okX3_hasCount inX3_hasCount seX3_hasCount mlX4_101 (ci := 3) (T := TX3) (N := 15) rfl (yk (cg_now h.g)) cH (by decide) (Nat.le_of_ble_eq_true rfl) ?_
          refine jv_if_neB dX4_back_61 (tgt := 73) (by decide) (fun h61 => ?_) (fun h61 => absurd (by omega) h61)
          refine jv_iinc1N dX4_back_73 rfl ?_
          refine jv_goto dX4_back_76 (tgt := 27) (by decide) ?_
          exact hV
        · have es := ot_backZ_s (Z := Z) (c := YK 10 1) (n := i) ⟨hz2, hk⟩
          have cT := oc_takeNothingG (I := A) (J := J) h.g hi
          obtain ⟨I2, hV, p1, p2⟩ := ih (i + 1) (jv_up (jv_up A (48 + 2 * i) 0 (-1)) (48 + 2 * i) 1 (nI 0)) (by omega) (by omega) (fun s hs => by
            by_cases e : s = i
            · subst e
              have q0 : ot_backZ Z (YK 10 1) (s + 1) 0 s = 0 := by rw [es]; exact if_pos ⟨rfl, rfl⟩
              rw [ot_thing_0 q0]
              unfold ot_slen
              rw [q0, if_neg (by decide)]
              exact ⟨by rw [jv_up_at_ne _ _ _ (by decide), jv_up_at], jv_up_at _ _ _ _⟩
            · have q0 : ∀ j, ot_backZ Z (YK 10 1) (i + 1) j s = ot_backZ Z (YK 10 1) i j s := fun j => by rw [es]; exact if_neg (by omega)
              have qt : ot_thing (ot_backZ Z (YK 10 1) (i + 1)) s = ot_thing (ot_backZ Z (YK 10 1) i) s := by unfold ot_thing; rw [q0, q0, q0]
              have ql : ot_slen (ot_backZ Z (YK 10 1) (i + 1)) s = ot_slen (ot_backZ Z (YK 10 1) i) s := by unfold ot_slen; rw [q0, q0]
              rw [qt, ql, jv_up_ne _ _ _ (by omega), jv_up_ne _ _ _ (by omega)]
              exact hv s hs) (fun q hq => by rw [jv_up_ne _ _ _ (by omega), jv_up_ne _ _ _ (by omega)]; exact hF q hq)
          refine ⟨I2, ?_, p1, p2⟩
          refine jv_iload1 dX4_back_27 ?_
          refine jv_bipush dX4_back_28 jv_c_bipush_8 ?_
          refine jv_icmp_geN dX4_back_30 (tgt := 79) (by decide) (by omega) (by omega) (fun hc30 => by omega) (fun hc30 => ?_)
          refine jv_aload0 dX4_back_33 ?_
          refine jv_getR dX4_back_34 flX4_40 rfl (ck h.g) (cr_shelves h.g) ?_
          refine jv_iload1 dX4_back_37 ?_
          refine jv_aald2N dX4_back_38 (ck_shelves h.g) (by omega) (by decide) (cr_shelf h.g hi) ?_
          refine jv_v01 dX4_back_39 okX1_isCount inX1_isCount seX1_isCount mlX4_301 (ci := 1) (T := TX1) (N := 3) rfl (sk h.g hi) cC (by decide) (Nat.le_of_ble_eq_true rfl) ?_
          refine jv_if_eqB dX4_back_42 (tgt := 73) (by decide) (fun h42 => absurd hz2 h42) (fun h42 => ?_)
          refine jv_aload0 dX4_back_45 ?_
          refine jv_getR dX4_back_46 flX4_10 rfl (ck h.g) (cr_now h.g) ?_
          refine jv_aload0 dX4_back_49 ?_
          refine jv_getR dX4_back_50 flX4_40 rfl (ck h.g) (cr_shelves h.g) ?_
          refine jv_iload1 dX4_back_53 ?_
          refine jv_aald2N dX4_back_54 (ck_shelves h.g) (by omega) (by decide) (cr_shelf h.g hi) ?_
          refine jv_v01 dX4_back_55 okX1_countNumber inX1_countNumber seX1_countNumber mlX4_115 (ci := 1) (T := TX1) (N := 3) rfl (sk h.g hi) cN (by decide) (Nat.le_of_ble_eq_true rfl) ?_
          refine jv_v11 dX4_back_58 okX3_hasCount inX3_hasCount seX3_hasCount mlX4_101 (ci := 3) (T := TX3) (N := 15) rfl (yk (cg_now h.g)) cH (by decide) (Nat.le_of_ble_eq_true rfl) ?_
          refine jv_if_neB dX4_back_61 (tgt := 73) (by decide) (fun h61 => by omega) (fun h61 => ?_)
          refine jv_aload0 dX4_back_64 ?_
          refine jv_getR dX4_back_65 flX4_40 rfl (ck h.g) (cr_shelves h.g) ?_
          refine jv_iload1 dX4_back_68 ?_
          refine jv_aald2N dX4_back_69 (ck_shelves h.g) (by omega) (by decide) (cr_shelf h.g hi) ?_
          refine jv_v00 dX4_back_70 okX1_takeNothing inX1_takeNothing seX1_takeNothing mlX4_104 (ci := 1) (T := TX1) (N := 3) rfl (sk h.g hi) cT (by decide) (Nat.le_of_ble_eq_true rfl) ?_
          refine jv_iinc1N dX4_back_73 rfl ?_
          refine jv_goto dX4_back_76 (tgt := 27) (by decide) ?_
          exact hV
      · have es := ot_backZ_n (Z := Z) (c := YK 10 1) (n := i) (by omega)
        obtain ⟨I2, hV, p1, p2⟩ := ih (i + 1) A (by omega) (by omega) (by rw [es]; exact hv) hF
        refine ⟨I2, ?_, p1, p2⟩
        refine jv_iload1 dX4_back_27 ?_
        refine jv_bipush dX4_back_28 jv_c_bipush_8 ?_
        refine jv_icmp_geN dX4_back_30 (tgt := 79) (by decide) (by omega) (by omega) (fun hc30 => by omega) (fun hc30 => ?_)
        refine jv_aload0 dX4_back_33 ?_
        refine jv_getR dX4_back_34 flX4_40 rfl (ck h.g) (cr_shelves h.g) ?_
        refine jv_iload1 dX4_back_37 ?_
        refine jv_aald2N dX4_back_38 (ck_shelves h.g) (by omega) (by decide) (cr_shelf h.g hi) ?_
        refine jv_v01 dX4_back_39 okX1_isCount inX1_isCount seX1_isCount mlX4_301 (ci := 1) (T := TX1) (N := 3) rfl (sk h.g hi) cC (by decide) (Nat.le_of_ble_eq_true rfl) ?_
        refine jv_if_eqB dX4_back_42 (tgt := 73) (by decide) (fun h42 => ?_) (fun h42 => absurd h42 hz2)
        refine jv_iinc1N dX4_back_73 rfl ?_
        refine jv_goto dX4_back_76 (tgt := 27) (by decide) ?_
        exact hV
    · have ei : i = 8 := by omega
      subst ei
      refine ⟨A, ?_, hv, hF⟩
      refine jv_iload1 dX4_back_27 ?_
      refine jv_bipush dX4_back_28 jv_c_bipush_8 ?_
      refine jv_icmp_geN dX4_back_30 (tgt := 79) (by decide) (by omega) (by omega) (fun hc30 => ?_) (fun hc30 => by omega)
      refine jv_iconst dX4_back_79 jv_c_iconst_1 ?_
      exact jv_iret dX4_back_80 rfl rfl rfl rfl rfl
def ot_rcb (K : Option ot_Y) : Nat := if K = none then 5 else 0
def ot_ky (K : Option ot_Y) (Y : ot_Y) : ot_Y := match K with
  | none => Y
  | some YK => YK
def ot_kz (K : Option ot_Y) (Z : ot_Y) : ot_Y := match K with
  | none => ot_ref Z 3
  | some YK => ot_backZ Z (YK 10 1) 8
def ot_ka (K : Option ot_Y) : Int32 := match K with
  | none => -5
  | some _ => nI 1
set_option maxRecDepth 20000 in
theorem pc_back {G : jv_Gr} {I : jv_I} {J : jv_J} {Y Z : ot_Y} {E : ot_E} {K : Option ot_Y} (h : ot_C G I J Y Z E K) : ot_cc 8 mX4_back [.ref 1] G I J (ot_ka K) (ot_ky K Y) (ot_kz K Z) E K := by
  cases K with
  | none =>
    obtain ⟨I2, hC, h2, h3⟩ := oc_refuse5 h
    refine ⟨I2, J, ?_, h2, h3⟩
    refine jv_enter okX4_back (L := [.ref 1, .null]) rfl (Nat.le_of_ble_eq_true rfl) ?_
    refine jv_aload0 dX4_back_0 ?_
    refine jv_getI dX4_back_1 flX4_48 rfl (ck h.g) h.k ?_
    refine jv_if_neN dX4_back_4 (tgt := 14) (by decide) (by omega) (fun hc4 => by omega) (fun hc4 => ?_)
    refine jv_aload0 dX4_back_7 ?_
    refine jv_bipush dX4_back_8 jv_c_bipush_m5 ?_
    refine jv_v11 dX4_back_10 okX4_refuse inX4_refuse seX4_refuse mlX4_61 (ci := 4) (T := TX4) (N := 8) rfl (ck h.g) hC (by decide) (Nat.le_of_ble_eq_true rfl) ?_
    exact jv_iret dX4_back_13 rfl rfl rfl rfl rfl
  | some YK =>
    obtain ⟨k1, k2, k3⟩ := id h.k
    obtain ⟨Ia, hA, hR2, hF⟩ := ot_takeOverM (J := J) (cg_now h.g) (cg_kept h.g) k2 k3 (by omega)
    obtain ⟨I2, hV, p1, p2⟩ := oc_backLoop h k3 hR2 9 0 Ia (by omega) (by omega) (fun s hs => by
      rw [ot_backZ_z, hF (48 + 2 * s) (by omega)]; exact ⟨si_thing h.s hs, si_length h.s hs⟩) (fun _ _ => rfl)
    have hf : ∀ q, (q < 2 ∨ 13 < q) → (q < 48 ∨ 63 < q) → I2 q = I q := fun q q1 q2 => (p2 q q2).trans (hF q (by omega))
    have hs2 : ot_C G I2 J YK (ot_backZ Z (YK 10 1) 8) E (some YK) := by
      refine ⟨h.g, ot_YR_fr (lo := 48) (hi := 63) hR2 (fun q hq => p2 q (by omega)) (by omega), k3, ⟨fun s hs => ⟨(p1 s hs).1, (p1 s hs).2, fun q i hi => (h.s.1 s hs).2.2 (by
        unfold ot_backZ at q
        split at q
        · exact absurd q (by decide)
        · exact q) i hi⟩, ⟨?_, fun i hi => ?_⟩, fun j hj => ?_⟩, ot_ZW_back h.z, ?_, ?_, k3⟩
      · rw [hf 44 (by omega) (by omega), ot_backZ_hi (by decide)]; exact ti_size h.s
      · rw [ot_backZ_hi (by decide)] at hi ⊢; rw [hf 45 (by omega) (by omega)]; exact te_bytes h.s hi
      · rw [hf 47 (by omega) (by omega), ot_backZ_hi (by decide)]; exact ce_refusals h.s hj
      · rw [hf 1 (by omega) (by omega)]; exact k1
      · exact ot_YR_fr (lo := 48) (hi := 63) (ot_YR_fr (lo := 2) (hi := 13) k2 hF (by omega)) (fun q hq => p2 q (by omega)) (by omega)
    refine ⟨I2, J, ?_, hs2, fun q hq => ⟨hf q (by omega) (by omega), rfl⟩⟩
    refine jv_enter okX4_back (L := [.ref 1, .null]) rfl (Nat.le_of_ble_eq_true rfl) ?_
    refine jv_aload0 dX4_back_0 ?_
    refine jv_getI dX4_back_1 flX4_48 rfl (ck h.g) k1 ?_
    refine jv_if_neN dX4_back_4 (tgt := 14) (by decide) (by omega) (fun hc4 => ?_) (fun hc4 => by omega)
    refine jv_aload0 dX4_back_14 ?_
    refine jv_getR dX4_back_15 flX4_10 rfl (ck h.g) (cr_now h.g) ?_
    refine jv_aload0 dX4_back_18 ?_
    refine jv_getR dX4_back_19 flX4_16 rfl (ck h.g) (cr_kept h.g) ?_
    refine jv_v10 dX4_back_22 okX3_takeOver inX3_takeOver seX3_takeOver mlX4_159 (ci := 3) (T := TX3) (N := 15) rfl (yk (cg_now h.g)) hA (by decide) (Nat.le_of_ble_eq_true rfl) ?_
    refine jv_iconst dX4_back_25 jv_c_iconst_0 ?_
    refine jv_istore1 dX4_back_26 rfl ?_
    exact hV
