/-! ===== the face: group 7 (the tape, status, term) ===== -/
def ot_feed (Z : ot_Y) (v : Nat) : ot_Y := ot_put (ot_put Z 5 (ot_set (Z 5) (Z 4 0) v)) 4 (ot_set (Z 4) 0 (Z 4 0 + 1))
def ot_wipe (Z : ot_Y) : ot_Y := ot_put Z 4 (ot_set (Z 4) 0 0)
section OTT7
variable {G : jv_Gr} {I I2 : jv_I} {J : jv_J} {Y Z Z2 : ot_Y} {E : ot_E} {K : Option ot_Y}
theorem ot_thing_c (hz : ∀ j, j ≠ 4 → j ≠ 5 → Z2 j = Z j) (s : Nat) : ot_thing Z2 s = ot_thing Z s := by unfold ot_thing; rw [hz 0 (by decide) (by decide), hz 1 (by decide) (by decide), hz 3 (by decide) (by decide)]
theorem ot_slen_c (hz : ∀ j, j ≠ 4 → j ≠ 5 → Z2 j = Z j) (s : Nat) : ot_slen Z2 s = ot_slen Z s := by unfold ot_slen; rw [hz 0 (by decide) (by decide), hz 2 (by decide) (by decide)]
theorem ot_ZW_c (h : ot_ZW Y Z) (hz : ∀ j, j ≠ 4 → j ≠ 5 → Z2 j = Z j) (h4 : Z2 4 0 ≤ 250) (h5 : ∀ i, i < Z2 4 0 → Z2 5 i ≤ 255) : ot_ZW Y Z2 := by
  refine ⟨fun s hs => ?_, h4, h5⟩
  rw [hz 0 (by decide) (by decide), hz 1 (by decide) (by decide), hz 2 (by decide) (by decide), hz 3 (by decide) (by decide)]
  exact h.1 s hs
theorem ot_C_tape (h : ot_C G I J Y Z E K) (hz : ∀ j, j ≠ 4 → j ≠ 5 → Z2 j = Z j) (h4 : Z2 4 0 ≤ 250) (h5 : ∀ i, i < Z2 4 0 → Z2 5 i ≤ 255) (hf : ∀ q, (q < 26 ∨ 43 < q) → q ≠ 44 → q ≠ 45 → I2 q = I q) (hi : I2 44 1 = nI (Z2 4 0)) (hb : ∀ i, i < Z2 4 0 → I2 45 i = nI (Z2 5 i)) : ot_C G I2 J Y Z2 E K := by
  obtain ⟨a, b, c, d, e, f⟩ := h
  refine ⟨a, ot_YR_fr (lo := 26) (hi := 45) b (fun q hq => hf q (by omega) (by omega) (by omega)) (by omega), c, ?_, ot_ZW_c e hz h4 h5, ?_⟩
  · obtain ⟨d1, ⟨d2, d3⟩, d4⟩ := d
    refine ⟨fun s hs => ?_, ⟨hi, hb⟩, fun j hj => ?_⟩
    · rw [hf (48 + 2 * s) (by omega) (by omega) (by omega), ot_thing_c hz, ot_slen_c hz, hz 0 (by decide) (by decide)]; exact d1 s hs
    · rw [hf 47 (by omega) (by omega) (by omega), hz 6 (by decide) (by decide)]; exact d4 j hj
  · cases K with
    | none => exact (congrFun (hf 1 (by omega) (by omega) (by omega)) 7).trans f
    | some YK =>
      obtain ⟨f1, f2, f3⟩ := f
      exact ⟨(congrFun (hf 1 (by omega) (by omega) (by omega)) 7).trans f1, ot_YR_fr (lo := 26) (hi := 45) f2 (fun q hq => hf q (by omega) (by omega) (by omega)) (by omega), f3⟩
theorem ot_M_tape (h : ot_M G I J Y Z E K) (hz : ∀ j, j ≠ 4 → j ≠ 5 → Z2 j = Z j) (h4 : Z2 4 0 ≤ 250) (h5 : ∀ i, i < Z2 4 0 → Z2 5 i ≤ 255) (hf : ∀ q, q ≠ 64 → q ≠ 79 → I2 q = I q) (hk : ∀ k, k ≠ 7 → I2 64 k = I 64 k) (hi : I2 64 7 = nI (Z2 4 0)) (hb : ∀ i, i < Z2 4 0 → I2 79 i = nI (Z2 5 i)) : ot_M G I2 J Y Z2 E K := by
  obtain ⟨a, b, c, d, e, f, g, n⟩ := h
  refine ⟨a, ?_, c, ?_, ot_ZW_c e hz h4 h5, ?_, g, n⟩
  · obtain ⟨b1, b2, b3, b4⟩ := b
    unfold ot_MR
    rw [hk 9 (by decide), hk 13 (by decide), hk 17 (by decide), hk 22 (by decide), hf (64 + 17) (by omega) (by omega), hf (64 + 18) (by omega) (by omega), hf (64 + 19) (by omega) (by omega), hf (64 + 20) (by omega) (by omega), hf (64 + 21) (by omega) (by omega), hf (64 + 22) (by omega) (by omega), hf (64 + 23) (by omega) (by omega), hf (64 + 24) (by omega) (by omega), hf (64 + 25) (by omega) (by omega), hf (64 + 26) (by omega) (by omega)]
    exact ⟨b1, b2, b3, b4⟩
  · obtain ⟨d1, ⟨d2, d3⟩, d4⟩ := d
    refine ⟨fun s hs => ?_, ⟨hi, hb⟩, fun k hk => ?_⟩
    · rw [hf 65 (by omega) (by omega), hf 66 (by omega) (by omega), hf 67 (by omega) (by omega), hf 78 (by omega) (by omega), hz 0 (by decide) (by decide), hz 1 (by decide) (by decide), hz 2 (by decide) (by decide), hz 3 (by decide) (by decide)]; exact d1 s hs
    · rw [hf 80 (by omega) (by omega), hz 6 (by decide) (by decide)]; exact d4 k hk
  · cases K with
    | none => exact f
    | some YK =>
      obtain ⟨h1, h2, h3, h4⟩ := f
      exact ⟨h1, h2, ot_MR_fr (lo := 64) (hi := 93) h3 (fun q hq => hf q (by omega) (by omega)) (by omega), h4⟩
theorem ot_feed_z (v : Nat) : ∀ j, j ≠ 4 → j ≠ 5 → ot_feed Z v j = Z j := fun j h4 h5 => by unfold ot_feed; rw [ot_put_ne _ _ h4, ot_put_ne _ _ h5]
theorem ot_wipe_z : ∀ j, j ≠ 4 → j ≠ 5 → ot_wipe Z j = Z j := fun j h4 h5 => by unfold ot_wipe; rw [ot_put_ne _ _ h4]
theorem ot_feed_4 (v : Nat) : ot_feed Z v 4 0 = Z 4 0 + 1 := by unfold ot_feed; rw [ot_put_at]; unfold ot_set; rw [if_pos rfl]
theorem ot_feed_5 (v i : Nat) : ot_feed Z v 5 i = if i = Z 4 0 then v else Z 5 i := by unfold ot_feed; rw [ot_put_ne _ _ (by decide), ot_put_at]; rfl
theorem ot_wipe_4 : ot_wipe Z 4 0 = 0 := rfl
end OTT7
set_option maxRecDepth 20000 in
theorem oc_put {G : jv_Gr} {I : jv_I} {J : jv_J} {Y Z : ot_Y} {E : ot_E} {K : Option ot_Y} (h : ot_C G I J Y Z E K) {v : Nat} (h4 : Z 4 0 < 250) : jv_C 1 mX2_put [.ref 44, .int (nI v)] G I J (some (.int (nI (Z 4 0 + 1)))) G (jv_up (jv_up I 45 (Z 4 0) (nI v)) 44 1 (nI (Z 4 0 + 1))) J := by
  refine jv_enter okX2_put (L := [.ref 44, .int (nI v)]) rfl (Nat.le_of_ble_eq_true rfl) ?_
  have bz := h.z.2.1
  refine jv_aload0 dX2_put_0 ?_
  refine jv_getR dX2_put_1 flX2_9 rfl (tk h.g) (tr_bytes h.g) ?_
  refine jv_aload0 dX2_put_4 ?_
  refine jv_getI dX2_put_5 flX2_15 rfl (tk h.g) (ti_size h.s) ?_
  refine jv_iload1 dX2_put_8 ?_
  refine jv_iastN dX2_put_9 (tk_bytes h.g) (by omega) (by decide) ?_
  refine jv_aload0 dX2_put_10 ?_
  refine jv_dup dX2_put_11 rfl ?_
  refine jv_getI dX2_put_12 flX2_15 rfl (tk h.g) ((congrFun (jv_up_ne _ _ _ (by decide)) 1).trans (ti_size h.s)) ?_
  refine jv_iconst dX2_put_15 jv_c_iconst_1 ?_
  refine jv_iaddN dX2_put_16 ?_
  refine jv_putI dX2_put_17 flX2_15 rfl (tk h.g) rfl rfl ?_
  refine jv_aload0 dX2_put_20 ?_
  refine jv_getI dX2_put_21 flX2_15 rfl (tk h.g) (jv_up_at _ _ _ _) ?_
  exact jv_iret dX2_put_24 rfl rfl rfl rfl rfl
set_option maxRecDepth 20000 in
theorem oc_clear {G : jv_Gr} {I : jv_I} {J : jv_J} {Y Z : ot_Y} {E : ot_E} {K : Option ot_Y} (h : ot_C G I J Y Z E K) : jv_C 1 mX2_clear [.ref 44] G I J (some (.int (nI (Z 4 0)))) G (jv_up I 44 1 (nI 0)) J := by
  refine jv_enter okX2_clear (L := [.ref 44, .null]) rfl (Nat.le_of_ble_eq_true rfl) ?_
  refine jv_aload0 dX2_clear_0 ?_
  refine jv_getI dX2_clear_1 flX2_15 rfl (tk h.g) (ti_size h.s) ?_
  refine jv_istore1 dX2_clear_4 rfl ?_
  refine jv_aload0 dX2_clear_5 ?_
  refine jv_iconst dX2_clear_6 jv_c_iconst_0 ?_
  refine jv_putI dX2_clear_7 flX2_15 rfl (tk h.g) rfl rfl ?_
  refine jv_iload1 dX2_clear_10 ?_
  exact jv_iret dX2_clear_11 rfl rfl rfl rfl rfl
set_option maxRecDepth 20000 in
theorem pc_feed {G : jv_Gr} {I : jv_I} {J : jv_J} {Y Z : ot_Y} {E : ot_E} {K : Option ot_Y} (h : ot_C G I J Y Z E K) (v : Int32) : ot_cc 8 mX4_feed [.ref 1, .int v] G I J (ot_ans (ot_rc2 (0 ≤ v.toInt ∧ v.toInt ≤ 255) (Z 4 0 < 250) 6) (nI (Z 4 0 + 1))) Y (ot_pk (ot_rc2 (0 ≤ v.toInt ∧ v.toInt ≤ 255) (Z 4 0 < 250) 6) (ot_feed Z (ot_n v)) (ot_zr Z (ot_rc2 (0 ≤ v.toInt ∧ v.toInt ≤ 255) (Z 4 0 < 250) 6))) E K := by
  have bn := yw_n h.w
  have bc := yw_c h.w
  have bw := yw_w h.w
  have bz := h.z.2.1
  refine ot_rc2_split (motive := fun rc => ot_cc 8 mX4_feed [.ref 1, .int v] G I J (ot_ans rc (nI (Z 4 0 + 1))) Y (ot_pk rc (ot_feed Z (ot_n v)) (ot_zr Z rc)) E K) (fun hv hw => ?_) (fun hv hw => ?_) (fun hv => ?_)
  · obtain ⟨x, hx, rfl⟩ := ot_of (n := 256) (show 0 ≤ v.toInt ∧ v.toInt < ((256 : Nat) : Int) by omega) (by decide)
    rw [ot_n_nI (show x < 2 ^ 30 by omega)]
    have ex := nI_toInt (show x < 2 ^ 31 by omega)
    have hs := ot_C_tape (I2 := (jv_up (jv_up I 45 (Z 4 0) (nI x)) 44 1 (nI (Z 4 0 + 1)))) h (ot_feed_z x) (by rw [ot_feed_4]; omega) (fun i hi => by rw [ot_feed_4] at hi; rw [ot_feed_5]; split; omega; exact h.z.2.2 i (by omega)) (fun q _ q1 q2 => (jv_up_ne _ _ _ q1).trans (jv_up_ne _ _ _ q2)) (by rw [ot_feed_4, jv_up_at]) (fun i hi => by
      rw [ot_feed_4] at hi
      rw [ot_feed_5, jv_up_ne _ _ _ (by omega), jv_up_def, if_pos rfl]
      by_cases e : i = Z 4 0
      · rw [if_pos e, if_pos e]
      · rw [if_neg e, if_neg e]; exact te_bytes h.s (by omega))
    refine ⟨(jv_up (jv_up I 45 (Z 4 0) (nI x)) 44 1 (nI (Z 4 0 + 1))), J, ?_, hs, fun q hq => ⟨(jv_up_ne _ _ _ (by omega)).trans (jv_up_ne _ _ _ (by omega)), rfl⟩⟩
    refine jv_enter okX4_feed (L := [.ref 1, .int (nI x)]) rfl (Nat.le_of_ble_eq_true rfl) ?_
    refine jv_iload1 dX4_feed_0 ?_
    refine jv_iconst dX4_feed_1 jv_c_iconst_0 ?_
    refine jv_sipush dX4_feed_2 jv_c_sipush_255 ?_
    refine jv_s31 dX4_feed_5 okX4_within stX4_within mlX4_57 (oc_inC _ (a := 0) (b := 255) (by decide) (by decide)) (by decide) (Nat.le_of_ble_eq_true rfl) ?_
    refine jv_if_neB dX4_feed_8 (tgt := 18) (by decide) (fun hq8 => ?_) (fun hq8 => absurd (by omega) hq8)
    refine jv_aload0 dX4_feed_18 ?_
    refine jv_getR dX4_feed_19 flX4_34 rfl (ck h.g) (cr_tape h.g) ?_
    refine jv_getI dX4_feed_22 flX4_151 rfl (tk h.g) (ti_size h.s) ?_
    refine jv_sipush dX4_feed_25 jv_c_sipush_250 ?_
    refine jv_icmp_ltN dX4_feed_28 (tgt := 38) (by decide) (by omega) (by omega) (fun hc28 => ?_) (fun hc28 => by omega)
    refine jv_aload0 dX4_feed_38 ?_
    refine jv_getR dX4_feed_39 flX4_34 rfl (ck h.g) (cr_tape h.g) ?_
    refine jv_iload1 dX4_feed_42 ?_
    refine jv_v11 dX4_feed_43 okX2_put inX2_put seX2_put mlX4_154 (ci := 2) (T := TX2) (N := 5) rfl (tk h.g) (oc_put h hw) (by decide) (Nat.le_of_ble_eq_true rfl) ?_
    exact jv_iret dX4_feed_46 rfl rfl rfl rfl rfl
  · obtain ⟨I2, hC, h2, h3⟩ := oc_refuse6 h
    refine ⟨I2, J, ?_, h2, h3⟩
    refine jv_enter okX4_feed (L := [.ref 1, .int v]) rfl (Nat.le_of_ble_eq_true rfl) ?_
    refine jv_iload1 dX4_feed_0 ?_
    refine jv_iconst dX4_feed_1 jv_c_iconst_0 ?_
    refine jv_sipush dX4_feed_2 jv_c_sipush_255 ?_
    refine jv_s31 dX4_feed_5 okX4_within stX4_within mlX4_57 (oc_inC _ (a := 0) (b := 255) (by decide) (by decide)) (by decide) (Nat.le_of_ble_eq_true rfl) ?_
    refine jv_if_neB dX4_feed_8 (tgt := 18) (by decide) (fun hq8 => ?_) (fun hq8 => absurd (by omega) hq8)
    refine jv_aload0 dX4_feed_18 ?_
    refine jv_getR dX4_feed_19 flX4_34 rfl (ck h.g) (cr_tape h.g) ?_
    refine jv_getI dX4_feed_22 flX4_151 rfl (tk h.g) (ti_size h.s) ?_
    refine jv_sipush dX4_feed_25 jv_c_sipush_250 ?_
    refine jv_icmp_ltN dX4_feed_28 (tgt := 38) (by decide) (by omega) (by omega) (fun hc28 => by omega) (fun hc28 => ?_)
    refine jv_aload0 dX4_feed_31 ?_
    refine jv_bipush dX4_feed_32 jv_c_bipush_m6 ?_
    refine jv_v11 dX4_feed_34 okX4_refuse inX4_refuse seX4_refuse mlX4_61 (ci := 4) (T := TX4) (N := 8) rfl (ck h.g) hC (by decide) (Nat.le_of_ble_eq_true rfl) ?_
    exact jv_iret dX4_feed_37 rfl rfl rfl rfl rfl
  · obtain ⟨I2, hC, h2, h3⟩ := oc_refuse2 h
    refine ⟨I2, J, ?_, h2, h3⟩
    refine jv_enter okX4_feed (L := [.ref 1, .int v]) rfl (Nat.le_of_ble_eq_true rfl) ?_
    refine jv_iload1 dX4_feed_0 ?_
    refine jv_iconst dX4_feed_1 jv_c_iconst_0 ?_
    refine jv_sipush dX4_feed_2 jv_c_sipush_255 ?_
    refine jv_s31 dX4_feed_5 okX4_within stX4_within mlX4_57 (oc_inC _ (a := 0) (b := 255) (by decide) (by decide)) (by decide) (Nat.le_of_ble_eq_true rfl) ?_
    refine jv_if_neB dX4_feed_8 (tgt := 18) (by decide) (fun h8 => by omega) (fun h8 => ?_)
    refine jv_aload0 dX4_feed_11 ?_
    refine jv_bipush dX4_feed_12 jv_c_bipush_m2 ?_
    refine jv_v11 dX4_feed_14 okX4_refuse inX4_refuse seX4_refuse mlX4_61 (ci := 4) (T := TX4) (N := 8) rfl (ck h.g) hC (by decide) (Nat.le_of_ble_eq_true rfl) ?_
    exact jv_iret dX4_feed_17 rfl rfl rfl rfl rfl
set_option maxRecDepth 20000 in
theorem pm_feed {G : jv_Gr} {I : jv_I} {J : jv_J} {Y Z : ot_Y} {E : ot_E} {K : Option ot_Y} (h : ot_M G I J Y Z E K) (v : Int32) : ot_mm 8 mX5_feed [.ref 64, .int v] G I J (ot_ans (ot_rc2 (0 ≤ v.toInt ∧ v.toInt ≤ 255) (Z 4 0 < 250) 6) (nI (Z 4 0 + 1))) Y (ot_pk (ot_rc2 (0 ≤ v.toInt ∧ v.toInt ≤ 255) (Z 4 0 < 250) 6) (ot_feed Z (ot_n v)) (ot_zr Z (ot_rc2 (0 ≤ v.toInt ∧ v.toInt ≤ 255) (Z 4 0 < 250) 6))) E K := by
  have bn := yw_n h.w
  have bc := yw_c h.w
  have bw := yw_w h.w
  have bz := h.z.2.1
  refine ot_rc2_split (motive := fun rc => ot_mm 8 mX5_feed [.ref 64, .int v] G I J (ot_ans rc (nI (Z 4 0 + 1))) Y (ot_pk rc (ot_feed Z (ot_n v)) (ot_zr Z rc)) E K) (fun hv hw => ?_) (fun hv hw => ?_) (fun hv => ?_)
  · obtain ⟨x, hx, rfl⟩ := ot_of (n := 256) (show 0 ≤ v.toInt ∧ v.toInt < ((256 : Nat) : Int) by omega) (by decide)
    rw [ot_n_nI (show x < 2 ^ 30 by omega)]
    have ex := nI_toInt (show x < 2 ^ 31 by omega)
    have hs := ot_M_tape (I2 := (jv_up (jv_up I 64 7 (nI (Z 4 0 + 1))) 79 (Z 4 0) (nI x))) h (ot_feed_z x) (by rw [ot_feed_4]; omega) (fun i hi => by rw [ot_feed_4] at hi; rw [ot_feed_5]; split; omega; exact h.z.2.2 i (by omega)) (fun q q1 q2 => (jv_up_ne _ _ _ q2).trans (jv_up_ne _ _ _ q1)) (fun k hk => by rw [jv_up_ne _ _ _ (by decide), jv_up_at_ne _ _ _ hk]) (by rw [ot_feed_4, jv_up_ne _ _ _ (by decide), jv_up_at]) (fun i hi => by
      rw [ot_feed_4] at hi
      rw [ot_feed_5, jv_up_def, if_pos rfl]
      by_cases e : i = Z 4 0
      · rw [if_pos e, if_pos e]
      · rw [if_neg e, if_neg e, jv_up_ne _ _ _ (by decide)]; exact nr_tape h.s (by omega))
    refine ⟨G, (jv_up (jv_up I 64 7 (nI (Z 4 0 + 1))) 79 (Z 4 0) (nI x)), J, ?_, hs, fun q hq => ⟨(jv_up_ne _ _ _ (by omega)).trans (jv_up_ne _ _ _ (by omega)), rfl⟩, ot_gx.rf⟩
    refine jv_enter okX5_feed (L := [.ref 64, .int (nI x)]) rfl (Nat.le_of_ble_eq_true rfl) ?_
    refine jv_iload1 dX5_feed_0 ?_
    refine jv_i2l dX5_feed_1 rfl ?_
    refine jv_lconst dX5_feed_2 (v := lN 0) rfl ?_
    refine jv_ldc2 dX5_feed_3 cnX5_152 ?_
    refine jv_s31 dX5_feed_6 okX5_in stX5_in mlX5_83 (om_inC _ (a := 0) (b := 255) (by decide) (by decide)) (by decide) (Nat.le_of_ble_eq_true rfl) ?_
    refine jv_if_neB dX5_feed_9 (tgt := 19) (by decide) (fun hq9 => ?_) (fun hq9 => absurd (by omega) hq9)
    refine jv_aload0 dX5_feed_19 ?_
    refine jv_getI dX5_feed_20 flX5_154 rfl (mk h.g) (nr_tsize h.s) ?_
    refine jv_sipush dX5_feed_23 jv_c_sipush_250 ?_
    refine jv_icmp_neN dX5_feed_26 (tgt := 36) (by decide) (by omega) (by omega) (fun hc26 => ?_) (fun hc26 => by omega)
    refine jv_aload0 dX5_feed_36 ?_
    refine jv_getR dX5_feed_37 flX5_31 rfl (mk h.g) (mr_tape h.g) ?_
    refine jv_aload0 dX5_feed_40 ?_
    refine jv_dup dX5_feed_41 rfl ?_
    refine jv_getI dX5_feed_42 flX5_154 rfl (mk h.g) (nr_tsize h.s) ?_
    refine jv_dup_x1 dX5_feed_45 rfl rfl ?_
    refine jv_iconst dX5_feed_46 jv_c_iconst_1 ?_
    refine jv_iaddN dX5_feed_47 ?_
    refine jv_putI dX5_feed_48 flX5_154 rfl (mk h.g) rfl rfl ?_
    refine jv_iload1 dX5_feed_51 ?_
    refine jv_iastN dX5_feed_52 (mk_tape h.g) (by omega) (by decide) ?_
    refine jv_aload0 dX5_feed_53 ?_
    refine jv_getI dX5_feed_54 flX5_154 rfl (mk h.g) ((congrFun (jv_up_ne _ _ _ (by decide)) 7).trans (jv_up_at _ _ _ _)) ?_
    exact jv_iret dX5_feed_57 rfl rfl rfl rfl rfl
  · obtain ⟨I2, hC, h2, h3⟩ := om_refuse6 h
    refine ⟨G, I2, J, ?_, h2, h3, ot_gx.rf⟩
    refine jv_enter okX5_feed (L := [.ref 64, .int v]) rfl (Nat.le_of_ble_eq_true rfl) ?_
    refine jv_iload1 dX5_feed_0 ?_
    refine jv_i2l dX5_feed_1 rfl ?_
    refine jv_lconst dX5_feed_2 (v := lN 0) rfl ?_
    refine jv_ldc2 dX5_feed_3 cnX5_152 ?_
    refine jv_s31 dX5_feed_6 okX5_in stX5_in mlX5_83 (om_inC _ (a := 0) (b := 255) (by decide) (by decide)) (by decide) (Nat.le_of_ble_eq_true rfl) ?_
    refine jv_if_neB dX5_feed_9 (tgt := 19) (by decide) (fun hq9 => ?_) (fun hq9 => absurd (by omega) hq9)
    refine jv_aload0 dX5_feed_19 ?_
    refine jv_getI dX5_feed_20 flX5_154 rfl (mk h.g) (nr_tsize h.s) ?_
    refine jv_sipush dX5_feed_23 jv_c_sipush_250 ?_
    refine jv_icmp_neN dX5_feed_26 (tgt := 36) (by decide) (by omega) (by omega) (fun hc26 => by omega) (fun hc26 => ?_)
    refine jv_aload0 dX5_feed_29 ?_
    refine jv_bipush dX5_feed_30 jv_c_bipush_m6 ?_
    refine jv_v11 dX5_feed_32 okX5_refuse inX5_refuse seX5_refuse mlX5_104 (ci := 5) (T := TX5) (N := 35) rfl (mk h.g) hC (by decide) (Nat.le_of_ble_eq_true rfl) ?_
    exact jv_iret dX5_feed_35 rfl rfl rfl rfl rfl
  · obtain ⟨I2, hC, h2, h3⟩ := om_refuse2 h
    refine ⟨G, I2, J, ?_, h2, h3, ot_gx.rf⟩
    refine jv_enter okX5_feed (L := [.ref 64, .int v]) rfl (Nat.le_of_ble_eq_true rfl) ?_
    refine jv_iload1 dX5_feed_0 ?_
    refine jv_i2l dX5_feed_1 rfl ?_
    refine jv_lconst dX5_feed_2 (v := lN 0) rfl ?_
    refine jv_ldc2 dX5_feed_3 cnX5_152 ?_
    refine jv_s31 dX5_feed_6 okX5_in stX5_in mlX5_83 (om_inC _ (a := 0) (b := 255) (by decide) (by decide)) (by decide) (Nat.le_of_ble_eq_true rfl) ?_
    refine jv_if_neB dX5_feed_9 (tgt := 19) (by decide) (fun h8 => by omega) (fun h8 => ?_)
    refine jv_aload0 dX5_feed_12 ?_
    refine jv_bipush dX5_feed_13 jv_c_bipush_m2 ?_
    refine jv_v11 dX5_feed_15 okX5_refuse inX5_refuse seX5_refuse mlX5_104 (ci := 5) (T := TX5) (N := 35) rfl (mk h.g) hC (by decide) (Nat.le_of_ble_eq_true rfl) ?_
    exact jv_iret dX5_feed_18 rfl rfl rfl rfl rfl
set_option maxRecDepth 20000 in
theorem pc_wipe {G : jv_Gr} {I : jv_I} {J : jv_J} {Y Z : ot_Y} {E : ot_E} {K : Option ot_Y} (h : ot_C G I J Y Z E K)  : ot_cc 8 mX4_wipe [.ref 1] G I J (nI (Z 4 0)) Y (ot_wipe Z) E K := by
  have bn := yw_n h.w
  have bc := yw_c h.w
  have bw := yw_w h.w
  have hs := ot_C_tape (I2 := jv_up I 44 1 (nI 0)) h ot_wipe_z (by rw [ot_wipe_4]; omega) (fun i hi => by rw [ot_wipe_4] at hi; omega) (fun q _ q1 q2 => jv_up_ne _ _ _ q1) (by rw [ot_wipe_4, jv_up_at]) (fun i hi => by rw [ot_wipe_4] at hi; omega)
  refine ⟨jv_up I 44 1 (nI 0), J, ?_, hs, fun q hq => ⟨jv_up_ne _ _ _ (by omega), rfl⟩⟩
  refine jv_enter okX4_wipe (L := [.ref 1]) rfl (Nat.le_of_ble_eq_true rfl) ?_
  refine jv_aload0 dX4_wipe_0 ?_
  refine jv_getR dX4_wipe_1 flX4_34 rfl (ck h.g) (cr_tape h.g) ?_
  refine jv_v01 dX4_wipe_4 okX2_clear inX2_clear seX2_clear mlX4_156 (ci := 2) (T := TX2) (N := 5) rfl (tk h.g) (oc_clear h) (by decide) (Nat.le_of_ble_eq_true rfl) ?_
  exact jv_iret dX4_wipe_7 rfl rfl rfl rfl rfl
set_option maxRecDepth 20000 in
theorem pm_wipe {G : jv_Gr} {I : jv_I} {J : jv_J} {Y Z : ot_Y} {E : ot_E} {K : Option ot_Y} (h : ot_M G I J Y Z E K)  : ot_mm 8 mX5_wipe [.ref 64] G I J (nI (Z 4 0)) Y (ot_wipe Z) E K := by
  have bn := yw_n h.w
  have bc := yw_c h.w
  have bw := yw_w h.w
  have hs := ot_M_tape (I2 := jv_up I 64 7 (nI 0)) h ot_wipe_z (by rw [ot_wipe_4]; omega) (fun i hi => by rw [ot_wipe_4] at hi; omega) (fun q q1 q2 => jv_up_ne _ _ _ q1) (fun k hk => jv_up_at_ne _ _ _ hk) (by rw [ot_wipe_4, jv_up_at]) (fun i hi => by rw [ot_wipe_4] at hi; omega)
  refine ⟨G, jv_up I 64 7 (nI 0), J, ?_, hs, fun q hq => ⟨jv_up_ne _ _ _ (by omega), rfl⟩, ot_gx.rf⟩
  refine jv_enter okX5_wipe (L := [.ref 64, .null]) rfl (Nat.le_of_ble_eq_true rfl) ?_
  refine jv_aload0 dX5_wipe_0 ?_
  refine jv_getI dX5_wipe_1 flX5_154 rfl (mk h.g) (nr_tsize h.s) ?_
  refine jv_istore1 dX5_wipe_4 rfl ?_
  refine jv_aload0 dX5_wipe_5 ?_
  refine jv_iconst dX5_wipe_6 jv_c_iconst_0 ?_
  refine jv_putI dX5_wipe_7 flX5_154 rfl (mk h.g) rfl rfl ?_
  refine jv_iload1 dX5_wipe_10 ?_
  exact jv_iret dX5_wipe_11 rfl rfl rfl rfl rfl
def ot_inUse (Z : ot_Y) : Nat := ot_sum (fun s => if Z 0 s = 0 then 0 else 1) 8
def ot_st8 (Y Z : ot_Y) (w : Nat) : Nat := match w with
  | 0 => Y 10 0
  | 1 => Y 10 1
  | 2 => Y 10 2
  | 3 => ot_allWorths Y
  | 4 => ot_allStrong Y
  | 5 => Z 4 0
  | 6 => Y 10 3
  | _ => ot_inUse Z
def ot_status (Y Z : ot_Y) (w : Int32) : Int32 := if 0 ≤ w.toInt ∧ w.toInt ≤ 7 then nI (ot_st8 Y Z (ot_n w)) else if 12 ≤ w.toInt ∧ w.toInt ≤ 16 then nI (Z 6 (ot_n w - 12)) else -1
theorem ot_thing_none {Y Z : ot_Y} (hZ : ot_ZW Y Z) (hW : ot_YW Y) {s : Nat} (hs : s < 8) : ot_thing Z s = -1 ↔ Z 0 s = 0 := by
  have bc := yw_c hW
  obtain ⟨z1, z2, z3⟩ := hZ.1 s hs
  rcases (show Z 0 s = 0 ∨ Z 0 s = 1 ∨ Z 0 s = 2 by omega) with e | e | e
  · rw [ot_thing_0 e]; simp [e]
  · rw [ot_thing_1 e]; exact ⟨fun q => absurd q (ot_nI_n1 (by omega)), fun q => by omega⟩
  · rw [ot_thing_2 e]; exact ⟨fun q => absurd q (ot_nI_n1 (by omega)), fun q => by omega⟩
set_option maxRecDepth 20000 in
theorem oc_inUse {G : jv_Gr} {I : jv_I} {J : jv_J} {Y Z : ot_Y} {E : ot_E} {K : Option ot_Y} (h : ot_C G I J Y Z E K) : jv_C 1 mX4_shelvesInUse [.ref 1] G I J (some (.int (nI (ot_inUse Z)))) G I J := by
  refine jv_enter okX4_shelvesInUse (L := [.ref 1, .null, .null]) rfl (Nat.le_of_ble_eq_true rfl) ?_
  have bn := yw_n h.w
  have bc := yw_c h.w
  have bw := yw_w h.w
  have loop : ∀ (n i : Nat) (acc : Nat), 8 + 1 ≤ i + n → i ≤ 8 → acc = ot_sum (fun s => if Z 0 s = 0 then 0 else 1) i → jv_V 1 mX4_shelvesInUse 4 [.ref 1, .int (nI acc), .int (nI i)] [] G I J (some (.int (nI (ot_inUse Z)))) G I J := by
    intro n
    induction n with
    | zero => intro i acc h1 h2; omega
    | succ n ih =>
      intro i acc h1 h2 ea
      refine jv_iload2 dX4_shelvesInUse_4 ?_
      refine jv_bipush dX4_shelvesInUse_5 jv_c_bipush_8 ?_
      refine jv_icmp_geN dX4_shelvesInUse_7 (tgt := 32) (by decide) (by omega) (by omega) (fun hc7 => ?_) (fun hc7 => ?_)
      · refine jv_iload1 dX4_shelvesInUse_32 ?_
        exact jv_iret dX4_shelvesInUse_33 rfl rfl (by rw [ea, show i = 8 by omega]; rfl) rfl rfl
      · refine jv_aload0 dX4_shelvesInUse_10 ?_
        refine jv_getR dX4_shelvesInUse_11 flX4_40 rfl (ck h.g) (cr_shelves h.g) ?_
        refine jv_iload2 dX4_shelvesInUse_14 ?_
        refine jv_aald2N dX4_shelvesInUse_15 (ck_shelves h.g) (by omega) (by decide) (cr_shelf h.g (by omega)) ?_
        refine jv_getI dX4_shelvesInUse_16 flX4_97 rfl (sk h.g (by omega)) (si_thing h.s (by omega)) ?_
        refine jv_iconst dX4_shelvesInUse_19 jv_c_iconst_m1 ?_
        refine jv_icmp_eq dX4_shelvesInUse_20 (tgt := 26) (by decide) (fun h20 => ?_) (fun h20 => ?_)
        · rw [ot_thing_none h.z h.w (by omega)] at h20
          refine jv_iinc2N dX4_shelvesInUse_26 rfl ?_
          refine jv_goto dX4_shelvesInUse_29 (tgt := 4) (by decide) ?_
          exact ih (i + 1) _ (by omega) (by omega) (by rw [ot_sum, if_pos h20, Nat.add_zero, ea])
        · rw [ot_thing_none h.z h.w (by omega)] at h20
          refine jv_iinc1N dX4_shelvesInUse_23 rfl ?_
          refine jv_iinc2N dX4_shelvesInUse_26 rfl ?_
          refine jv_goto dX4_shelvesInUse_29 (tgt := 4) (by decide) ?_
          exact ih (i + 1) _ (by omega) (by omega) (by rw [ot_sum, if_neg h20, ea])
  refine jv_iconst dX4_shelvesInUse_0 jv_c_iconst_0 ?_
  refine jv_istore1 dX4_shelvesInUse_1 rfl ?_
  refine jv_iconst dX4_shelvesInUse_2 jv_c_iconst_0 ?_
  refine jv_istore2 dX4_shelvesInUse_3 rfl ?_
  exact loop 9 0 0 (by omega) (by omega) rfl
set_option maxRecDepth 20000 in
theorem pc_status {G : jv_Gr} {I : jv_I} {J : jv_J} {Y Z : ot_Y} {E : ot_E} {K : Option ot_Y} (h : ot_C G I J Y Z E K) (w : Int32) : ot_cc 8 mX4_status [.ref 1, .int w] G I J (ot_status Y Z w) Y Z E K := by
  have bn := yw_n h.w
  have bc := yw_c h.w
  have bw := yw_w h.w
  unfold ot_status
  by_cases hv : 0 ≤ w.toInt ∧ w.toInt ≤ 7
  · rw [if_pos hv]
    obtain ⟨q, hq, rfl⟩ := ot_of (n := 8) (show 0 ≤ w.toInt ∧ w.toInt < ((8 : Nat) : Int) by omega) (by decide)
    rw [ot_n_nI (show q < 2 ^ 30 by omega)]
    refine ⟨I, J, ?_, h, ot_hi.rf⟩
    refine jv_enter okX4_status (L := [.ref 1, .int (nI q)]) rfl (Nat.le_of_ble_eq_true rfl) ?_
    rcases (show q = 0 ∨ q = 1 ∨ q = 2 ∨ q = 3 ∨ q = 4 ∨ q = 5 ∨ q = 6 ∨ q = 7 by omega) with rfl | rfl | rfl | rfl | rfl | rfl | rfl | rfl
    · refine jv_iload1 dX4_status_0 ?_
      refine jv_tableIn dX4_status_1 (off := 47) (tgt := 48) (by decide) (by decide) (by decide) (by decide) ?_
      refine jv_aload0 dX4_status_48 ?_
      refine jv_getR dX4_status_49 flX4_10 rfl (ck h.g) (cr_now h.g) ?_
      refine jv_getI dX4_status_52 flX4_128 rfl (yk (cg_now h.g)) (yi_children h.r) ?_
      exact jv_iret dX4_status_55 rfl rfl rfl rfl rfl
    · refine jv_iload1 dX4_status_0 ?_
      refine jv_tableIn dX4_status_1 (off := 55) (tgt := 56) (by decide) (by decide) (by decide) (by decide) ?_
      refine jv_aload0 dX4_status_56 ?_
      refine jv_getR dX4_status_57 flX4_10 rfl (ck h.g) (cr_now h.g) ?_
      refine jv_getI dX4_status_60 flX4_134 rfl (yk (cg_now h.g)) (yi_counts h.r) ?_
      exact jv_iret dX4_status_63 rfl rfl rfl rfl rfl
    · refine jv_iload1 dX4_status_0 ?_
      refine jv_tableIn dX4_status_1 (off := 63) (tgt := 64) (by decide) (by decide) (by decide) (by decide) ?_
      refine jv_aload0 dX4_status_64 ?_
      refine jv_getR dX4_status_65 flX4_10 rfl (ck h.g) (cr_now h.g) ?_
      refine jv_getI dX4_status_68 flX4_144 rfl (yk (cg_now h.g)) (yi_wishes h.r) ?_
      exact jv_iret dX4_status_71 rfl rfl rfl rfl rfl
    · refine jv_iload1 dX4_status_0 ?_
      refine jv_tableIn dX4_status_1 (off := 71) (tgt := 72) (by decide) (by decide) (by decide) (by decide) ?_
      refine jv_aload0 dX4_status_72 ?_
      refine jv_getR dX4_status_73 flX4_10 rfl (ck h.g) (cr_now h.g) ?_
      refine jv_v01 dX4_status_76 okX3_allWorths inX3_allWorths seX3_allWorths mlX4_304 (ci := 3) (T := TX3) (N := 15) rfl (yk (cg_now h.g)) (ot_allWorthsM (cg_now h.g) h.r h.w) (by decide) (Nat.le_of_ble_eq_true rfl) ?_
      exact jv_iret dX4_status_79 rfl rfl rfl rfl rfl
    · refine jv_iload1 dX4_status_0 ?_
      refine jv_tableIn dX4_status_1 (off := 79) (tgt := 80) (by decide) (by decide) (by decide) (by decide) ?_
      refine jv_aload0 dX4_status_80 ?_
      refine jv_getR dX4_status_81 flX4_10 rfl (ck h.g) (cr_now h.g) ?_
      refine jv_v01 dX4_status_84 okX3_allStrong inX3_allStrong seX3_allStrong mlX4_307 (ci := 3) (T := TX3) (N := 15) rfl (yk (cg_now h.g)) (ot_allStrongM (cg_now h.g) h.r h.w) (by decide) (Nat.le_of_ble_eq_true rfl) ?_
      exact jv_iret dX4_status_87 rfl rfl rfl rfl rfl
    · refine jv_iload1 dX4_status_0 ?_
      refine jv_tableIn dX4_status_1 (off := 87) (tgt := 88) (by decide) (by decide) (by decide) (by decide) ?_
      refine jv_aload0 dX4_status_88 ?_
      refine jv_getR dX4_status_89 flX4_34 rfl (ck h.g) (cr_tape h.g) ?_
      refine jv_getI dX4_status_92 flX4_151 rfl (tk h.g) (ti_size h.s) ?_
      exact jv_iret dX4_status_95 rfl rfl rfl rfl rfl
    · refine jv_iload1 dX4_status_0 ?_
      refine jv_tableIn dX4_status_1 (off := 95) (tgt := 96) (by decide) (by decide) (by decide) (by decide) ?_
      refine jv_aload0 dX4_status_96 ?_
      refine jv_getR dX4_status_97 flX4_10 rfl (ck h.g) (cr_now h.g) ?_
      refine jv_getI dX4_status_100 flX4_298 rfl (yk (cg_now h.g)) (yi_seed h.r) ?_
      exact jv_iret dX4_status_103 rfl rfl rfl rfl rfl
    · refine jv_iload1 dX4_status_0 ?_
      refine jv_tableIn dX4_status_1 (off := 103) (tgt := 104) (by decide) (by decide) (by decide) (by decide) ?_
      refine jv_aload0 dX4_status_104 ?_
      refine jv_v01 dX4_status_105 okX4_shelvesInUse inX4_shelvesInUse seX4_shelvesInUse mlX4_310 (ci := 4) (T := TX4) (N := 8) rfl (ck h.g) (oc_inUse h) (by decide) (Nat.le_of_ble_eq_true rfl) ?_
      exact jv_iret dX4_status_108 rfl rfl rfl rfl rfl
  · rw [if_neg hv]
    by_cases hw : 12 ≤ w.toInt ∧ w.toInt ≤ 16
    · rw [if_pos hw]
      obtain ⟨q, hq, rfl⟩ := ot_of (n := 17) (show 0 ≤ w.toInt ∧ w.toInt < ((17 : Nat) : Int) by omega) (by decide)
      rw [ot_n_nI (show q < 2 ^ 30 by omega)]
      have eq := nI_toInt (show q < 2 ^ 31 by omega)
      refine ⟨I, J, ?_, h, ot_hi.rf⟩
      refine jv_enter okX4_status (L := [.ref 1, .int (nI q)]) rfl (Nat.le_of_ble_eq_true rfl) ?_
      refine jv_iload1 dX4_status_0 ?_
      refine jv_tableOut dX4_status_1 (tgt := 109) (by omega) (by decide) ?_
      refine jv_iload1 dX4_status_109 ?_
      refine jv_bipush dX4_status_110 jv_c_bipush_12 ?_
      refine jv_bipush dX4_status_112 jv_c_bipush_16 ?_
      refine jv_s31 dX4_status_114 okX4_within stX4_within mlX4_57 (oc_inC _ (a := 12) (b := 16) (by decide) (by decide)) (by decide) (Nat.le_of_ble_eq_true rfl) ?_
      refine jv_if_eqB dX4_status_117 (tgt := 132) (by decide) (fun hc117 => by omega) (fun hc117 => ?_)
      refine jv_aload0 dX4_status_120 ?_
      refine jv_getR dX4_status_121 flX4_44 rfl (ck h.g) (cr_refusals h.g) ?_
      refine jv_iload1 dX4_status_124 ?_
      refine jv_bipush dX4_status_125 jv_c_bipush_12 ?_
      refine jv_isubN dX4_status_127 (by omega) ?_
      refine jv_ialdN dX4_status_128 (ck_refusals h.g) (by omega) (by decide) (ce_refusals h.s (show q - 12 < 5 by omega)) ?_
      refine jv_goto dX4_status_129 (tgt := 133) (by decide) ?_
      exact jv_iret dX4_status_133 rfl rfl rfl rfl rfl
    · rw [if_neg hw]
      refine ⟨I, J, ?_, h, ot_hi.rf⟩
      refine jv_enter okX4_status (L := [.ref 1, .int w]) rfl (Nat.le_of_ble_eq_true rfl) ?_
      refine jv_iload1 dX4_status_0 ?_
      refine jv_tableOut dX4_status_1 (tgt := 109) (by omega) (by decide) ?_
      refine jv_iload1 dX4_status_109 ?_
      refine jv_bipush dX4_status_110 jv_c_bipush_12 ?_
      refine jv_bipush dX4_status_112 jv_c_bipush_16 ?_
      refine jv_s31 dX4_status_114 okX4_within stX4_within mlX4_57 (oc_inC _ (a := 12) (b := 16) (by decide) (by decide)) (by decide) (Nat.le_of_ble_eq_true rfl) ?_
      refine jv_if_eqB dX4_status_117 (tgt := 132) (by decide) (fun hc117 => ?_) (fun hc117 => by omega)
      refine jv_iconst dX4_status_132 jv_c_iconst_m1 ?_
      exact jv_iret dX4_status_133 rfl rfl rfl rfl rfl
set_option maxRecDepth 20000 in
theorem pm_status {G : jv_Gr} {I : jv_I} {J : jv_J} {Y Z : ot_Y} {E : ot_E} {K : Option ot_Y} (h : ot_M G I J Y Z E K) (w : Int32) : ot_mm 8 mX5_status [.ref 64, .int w] G I J (ot_status Y Z w) Y Z E K := by
  have bn := yw_n h.w
  have bc := yw_c h.w
  have bw := yw_w h.w
  unfold ot_status
  by_cases hv : 0 ≤ w.toInt ∧ w.toInt ≤ 7
  · rw [if_pos hv]
    obtain ⟨q, hq, rfl⟩ := ot_of (n := 8) (show 0 ≤ w.toInt ∧ w.toInt < ((8 : Nat) : Int) by omega) (by decide)
    rw [ot_n_nI (show q < 2 ^ 30 by omega)]
    refine ⟨G, I, J, ?_, h, ot_lo.rf, ot_gx.rf⟩
    refine jv_enter okX5_status (L := [.ref 64, .int (nI q), .null, .null]) rfl (Nat.le_of_ble_eq_true rfl) ?_
    rcases (show q = 0 ∨ q = 1 ∨ q = 2 ∨ q = 3 ∨ q = 4 ∨ q = 5 ∨ q = 6 ∨ q = 7 by omega) with rfl | rfl | rfl | rfl | rfl | rfl | rfl | rfl
    · refine jv_iconst dX5_status_0 jv_c_iconst_0 ?_
      refine jv_istore2 dX5_status_1 rfl ?_
      refine jv_iload1 dX5_status_2 ?_
      refine jv_tableIn dX5_status_3 (off := 45) (tgt := 48) (by decide) (by decide) (by decide) (by decide) ?_
      refine jv_aload0 dX5_status_48 ?_
      refine jv_getI dX5_status_49 flX5_80 rfl (mk h.g) (mi_children h.r) ?_
      exact jv_iret dX5_status_52 rfl rfl rfl rfl rfl
    · refine jv_iconst dX5_status_0 jv_c_iconst_0 ?_
      refine jv_istore2 dX5_status_1 rfl ?_
      refine jv_iload1 dX5_status_2 ?_
      refine jv_tableIn dX5_status_3 (off := 50) (tgt := 53) (by decide) (by decide) (by decide) (by decide) ?_
      refine jv_aload0 dX5_status_53 ?_
      refine jv_getI dX5_status_54 flX5_91 rfl (mk h.g) (mi_counts h.r) ?_
      exact jv_iret dX5_status_57 rfl rfl rfl rfl rfl
    · refine jv_iconst dX5_status_0 jv_c_iconst_0 ?_
      refine jv_istore2 dX5_status_1 rfl ?_
      refine jv_iload1 dX5_status_2 ?_
      refine jv_tableIn dX5_status_3 (off := 55) (tgt := 58) (by decide) (by decide) (by decide) (by decide) ?_
      refine jv_aload0 dX5_status_58 ?_
      refine jv_getI dX5_status_59 flX5_141 rfl (mk h.g) (mi_wishes h.r) ?_
      exact jv_iret dX5_status_62 rfl rfl rfl rfl rfl
    · have loop : ∀ (n i : Nat) (acc : Nat), Y 10 2 + 1 ≤ i + n → i ≤ Y 10 2 → acc = ot_sum (fun i => Y 9 i) i → jv_V 8 mX5_status 65 [.ref 64, .int (nI 3), .int (nI acc), .int (nI i)] [] G I J (some (.int (nI (ot_allWorths Y)))) G I J := by
        intro n
        induction n with
        | zero => intro i acc h1 h2; omega
        | succ n ih =>
          intro i acc h1 h2 ea
          refine jv_iload3 dX5_status_65 ?_
          refine jv_aload0 dX5_status_66 ?_
          refine jv_getI dX5_status_67 flX5_141 rfl (mk h.g) (mi_wishes h.r) ?_
          refine jv_icmp_geN dX5_status_70 (tgt := 88) (by decide) (by omega) (by omega) (fun hc70 => ?_) (fun hc70 => ?_)
          · refine jv_iload2 dX5_status_88 ?_
            exact jv_iret dX5_status_89 rfl rfl (by rw [ea, show i = Y 10 2 by omega]; rfl) rfl rfl
          · refine jv_iload2 dX5_status_73 ?_
            refine jv_aload0 dX5_status_74 ?_
            refine jv_getR dX5_status_75 flX5_64 rfl (mk h.g) (mr_worth h.g) ?_
            refine jv_iload3 dX5_status_78 ?_
            refine jv_ialdN dX5_status_79 (mk_worth h.g) (by omega) (by decide) (me_worth h.r (by omega)) ?_
            refine jv_iaddN dX5_status_80 ?_
            refine jv_istore2 dX5_status_81 rfl ?_
            refine jv_iinc3N dX5_status_82 rfl ?_
            refine jv_goto dX5_status_85 (tgt := 65) (by decide) ?_
            exact ih (i + 1) _ (by omega) (by omega) (by rw [ot_sum, ea])
      refine jv_iconst dX5_status_0 jv_c_iconst_0 ?_
      refine jv_istore2 dX5_status_1 rfl ?_
      refine jv_iload1 dX5_status_2 ?_
      refine jv_tableIn dX5_status_3 (off := 60) (tgt := 63) (by decide) (by decide) (by decide) (by decide) ?_
      refine jv_iconst dX5_status_63 jv_c_iconst_0 ?_
      refine jv_istore3 dX5_status_64 rfl ?_
      exact loop (Y 10 2 + 1) 0 0 (by omega) (by omega) rfl
    · have loop : ∀ (n i : Nat) (acc : Nat), Y 10 0 + 1 ≤ i + n → i ≤ Y 10 0 → acc = ot_sum (fun c => Y 0 c) i → jv_V 8 mX5_status 92 [.ref 64, .int (nI 4), .int (nI acc), .int (nI i)] [] G I J (some (.int (nI (ot_allStrong Y)))) G I J := by
        intro n
        induction n with
        | zero => intro i acc h1 h2; omega
        | succ n ih =>
          intro i acc h1 h2 ea
          refine jv_iload3 dX5_status_92 ?_
          refine jv_aload0 dX5_status_93 ?_
          refine jv_getI dX5_status_94 flX5_80 rfl (mk h.g) (mi_children h.r) ?_
          refine jv_icmp_geN dX5_status_97 (tgt := 115) (by decide) (by omega) (by omega) (fun hc97 => ?_) (fun hc97 => ?_)
          · refine jv_iload2 dX5_status_115 ?_
            exact jv_iret dX5_status_116 rfl rfl (by rw [ea, show i = Y 10 0 by omega]; rfl) rfl rfl
          · refine jv_iload2 dX5_status_100 ?_
            refine jv_aload0 dX5_status_101 ?_
            refine jv_getR dX5_status_102 flX5_37 rfl (mk h.g) (mr_strong h.g) ?_
            refine jv_iload3 dX5_status_105 ?_
            refine jv_ialdN dX5_status_106 (mk_strong h.g) (by omega) (by decide) (me_strong h.r (by omega)) ?_
            refine jv_iaddN dX5_status_107 ?_
            refine jv_istore2 dX5_status_108 rfl ?_
            refine jv_iinc3N dX5_status_109 rfl ?_
            refine jv_goto dX5_status_112 (tgt := 92) (by decide) ?_
            exact ih (i + 1) _ (by omega) (by omega) (by rw [ot_sum, ea])
      refine jv_iconst dX5_status_0 jv_c_iconst_0 ?_
      refine jv_istore2 dX5_status_1 rfl ?_
      refine jv_iload1 dX5_status_2 ?_
      refine jv_tableIn dX5_status_3 (off := 87) (tgt := 90) (by decide) (by decide) (by decide) (by decide) ?_
      refine jv_iconst dX5_status_90 jv_c_iconst_0 ?_
      refine jv_istore3 dX5_status_91 rfl ?_
      exact loop (Y 10 0 + 1) 0 0 (by omega) (by omega) rfl
    · refine jv_iconst dX5_status_0 jv_c_iconst_0 ?_
      refine jv_istore2 dX5_status_1 rfl ?_
      refine jv_iload1 dX5_status_2 ?_
      refine jv_tableIn dX5_status_3 (off := 114) (tgt := 117) (by decide) (by decide) (by decide) (by decide) ?_
      refine jv_aload0 dX5_status_117 ?_
      refine jv_getI dX5_status_118 flX5_154 rfl (mk h.g) (nr_tsize h.s) ?_
      exact jv_iret dX5_status_121 rfl rfl rfl rfl rfl
    · refine jv_iconst dX5_status_0 jv_c_iconst_0 ?_
      refine jv_istore2 dX5_status_1 rfl ?_
      refine jv_iload1 dX5_status_2 ?_
      refine jv_tableIn dX5_status_3 (off := 119) (tgt := 122) (by decide) (by decide) (by decide) (by decide) ?_
      refine jv_aload0 dX5_status_122 ?_
      refine jv_getI dX5_status_123 flX5_67 rfl (mk h.g) (mi_seed h.r) ?_
      exact jv_iret dX5_status_126 rfl rfl rfl rfl rfl
    · have loop : ∀ (n i : Nat) (acc : Nat), 8 + 1 ≤ i + n → i ≤ 8 → acc = ot_sum (fun s => if Z 0 s = 0 then 0 else 1) i → jv_V 8 mX5_status 129 [.ref 64, .int (nI 7), .int (nI acc), .int (nI i)] [] G I J (some (.int (nI (ot_inUse Z)))) G I J := by
        intro n
        induction n with
        | zero => intro i acc h1 h2; omega
        | succ n ih =>
          intro i acc h1 h2 ea
          refine jv_iload3 dX5_status_129 ?_
          refine jv_bipush dX5_status_130 jv_c_bipush_8 ?_
          refine jv_icmp_geN dX5_status_132 (tgt := 158) (by decide) (by omega) (by omega) (fun hc132 => ?_) (fun hc132 => ?_)
          · refine jv_iload2 dX5_status_158 ?_
            exact jv_iret dX5_status_159 rfl rfl (by rw [ea, show i = 8 by omega]; rfl) rfl rfl
          · refine jv_iload2 dX5_status_135 ?_
            refine jv_aload0 dX5_status_136 ?_
            refine jv_getR dX5_status_137 flX5_7 rfl (mk h.g) (mr_shelf h.g) ?_
            refine jv_iload3 dX5_status_140 ?_
            refine jv_ialdN dX5_status_141 (mk_shelf h.g) (by omega) (by decide) (nr_tag h.s (by omega)) ?_
            have hzz := (h.z.1 i (by omega)).1
            refine jv_if_eqN dX5_status_142 (tgt := 149) (by decide) (by omega) (fun h142 => ?_) (fun h142 => ?_)
            · refine jv_iconst dX5_status_149 jv_c_iconst_0 ?_
              refine jv_iaddN dX5_status_150 ?_
              refine jv_istore2 dX5_status_151 rfl ?_
              refine jv_iinc3N dX5_status_152 rfl ?_
              refine jv_goto dX5_status_155 (tgt := 129) (by decide) ?_
              exact ih (i + 1) _ (by omega) (by omega) (by rw [ot_sum, if_pos h142, ea])
            · refine jv_iconst dX5_status_145 jv_c_iconst_1 ?_
              refine jv_goto dX5_status_146 (tgt := 150) (by decide) ?_
              refine jv_iaddN dX5_status_150 ?_
              refine jv_istore2 dX5_status_151 rfl ?_
              refine jv_iinc3N dX5_status_152 rfl ?_
              refine jv_goto dX5_status_155 (tgt := 129) (by decide) ?_
              exact ih (i + 1) _ (by omega) (by omega) (by rw [ot_sum, if_neg h142, ea])
      refine jv_iconst dX5_status_0 jv_c_iconst_0 ?_
      refine jv_istore2 dX5_status_1 rfl ?_
      refine jv_iload1 dX5_status_2 ?_
      refine jv_tableIn dX5_status_3 (off := 124) (tgt := 127) (by decide) (by decide) (by decide) (by decide) ?_
      refine jv_iconst dX5_status_127 jv_c_iconst_0 ?_
      refine jv_istore3 dX5_status_128 rfl ?_
      exact loop 9 0 0 (by omega) (by omega) rfl
  · rw [if_neg hv]
    by_cases hw : 12 ≤ w.toInt ∧ w.toInt ≤ 16
    · rw [if_pos hw]
      obtain ⟨q, hq, rfl⟩ := ot_of (n := 17) (show 0 ≤ w.toInt ∧ w.toInt < ((17 : Nat) : Int) by omega) (by decide)
      rw [ot_n_nI (show q < 2 ^ 30 by omega)]
      have eq := nI_toInt (show q < 2 ^ 31 by omega)
      have href := nr_ref h.s (show q - 12 < 5 by omega)
      rw [show q - 12 + 2 = q - 10 by omega] at href
      refine ⟨G, I, J, ?_, h, ot_lo.rf, ot_gx.rf⟩
      refine jv_enter okX5_status (L := [.ref 64, .int (nI q), .null, .null]) rfl (Nat.le_of_ble_eq_true rfl) ?_
      refine jv_iconst dX5_status_0 jv_c_iconst_0 ?_
      refine jv_istore2 dX5_status_1 rfl ?_
      refine jv_iload1 dX5_status_2 ?_
      refine jv_tableOut dX5_status_3 (tgt := 160) (by omega) (by decide) ?_
      refine jv_iload1 dX5_status_160 ?_
      refine jv_i2l dX5_status_161 rfl ?_
      refine jv_ldc2 dX5_status_162 cnX5_342 ?_
      refine jv_ldc2 dX5_status_165 cnX5_344 ?_
      refine jv_s31 dX5_status_168 okX5_in stX5_in mlX5_83 (om_inC _ (a := 12) (b := 16) (by decide) (by decide)) (by decide) (Nat.le_of_ble_eq_true rfl) ?_
      refine jv_if_eqB dX5_status_171 (tgt := 186) (by decide) (fun hc171 => by omega) (fun hc171 => ?_)
      refine jv_aload0 dX5_status_174 ?_
      refine jv_getR dX5_status_175 flX5_34 rfl (mk h.g) (mr_refused h.g) ?_
      refine jv_iload1 dX5_status_178 ?_
      refine jv_bipush dX5_status_179 jv_c_bipush_10 ?_
      refine jv_isubN dX5_status_181 (by omega) ?_
      refine jv_ialdN dX5_status_182 (mk_refused h.g) (by omega) (by decide) href ?_
      refine jv_goto dX5_status_183 (tgt := 187) (by decide) ?_
      exact jv_iret dX5_status_187 rfl rfl rfl rfl rfl
    · rw [if_neg hw]
      refine ⟨G, I, J, ?_, h, ot_lo.rf, ot_gx.rf⟩
      refine jv_enter okX5_status (L := [.ref 64, .int w, .null, .null]) rfl (Nat.le_of_ble_eq_true rfl) ?_
      refine jv_iconst dX5_status_0 jv_c_iconst_0 ?_
      refine jv_istore2 dX5_status_1 rfl ?_
      refine jv_iload1 dX5_status_2 ?_
      refine jv_tableOut dX5_status_3 (tgt := 160) (by omega) (by decide) ?_
      refine jv_iload1 dX5_status_160 ?_
      refine jv_i2l dX5_status_161 rfl ?_
      refine jv_ldc2 dX5_status_162 cnX5_342 ?_
      refine jv_ldc2 dX5_status_165 cnX5_344 ?_
      refine jv_s31 dX5_status_168 okX5_in stX5_in mlX5_83 (om_inC _ (a := 12) (b := 16) (by decide) (by decide)) (by decide) (Nat.le_of_ble_eq_true rfl) ?_
      refine jv_if_eqB dX5_status_171 (tgt := 186) (by decide) (fun hc171 => ?_) (fun hc171 => by omega)
      refine jv_iconst dX5_status_186 jv_c_iconst_m1 ?_
      exact jv_iret dX5_status_187 rfl rfl rfl rfl rfl
def ot_d1 (Y : ot_Y) : ot_Y := ot_seed Y (ot_next (Y 10 3))
def ot_ta (Y : ot_Y) : Nat := ot_pick (ot_next (Y 10 3)) (Y 10 0)
def ot_tb (Y : ot_Y) : Nat := ot_ta (ot_d1 Y)
def ot_tk (Y : ot_Y) : Nat := ot_pick (ot_next (Y 10 3)) (Y 10 1)
def ot_tmid (Y : ot_Y) : ot_Y := ot_swap (ot_d1 (ot_d1 Y)) (ot_ta Y) (ot_tb Y)
def ot_step (Y : ot_Y) : ot_Y := ot_d1 (ot_tmid Y)
def ot_termY (Y : ot_Y) : Nat → ot_Y
  | 0 => Y
  | n + 1 => ot_step (ot_termY Y n)
def ot_termV (Y : ot_Y) : Nat → Nat
  | 0 => 0
  | n + 1 => ot_termV Y n + ot_value (ot_step (ot_termY Y n)) (ot_tk (ot_tmid (ot_termY Y n)))
theorem ot_d1_n (Y : ot_Y) : (ot_d1 Y) 10 0 = Y 10 0 ∧ (ot_d1 Y) 10 1 = Y 10 1 := ⟨rfl, rfl⟩
theorem ot_tmid_n (Y : ot_Y) : (ot_tmid Y) 10 0 = Y 10 0 ∧ (ot_tmid Y) 10 1 = Y 10 1 := ⟨rfl, rfl⟩
theorem ot_ta_lt {Y : ot_Y} (h : 0 < Y 10 0) : ot_ta Y < Y 10 0 := Nat.mod_lt _ h
theorem ot_tk_lt {Y : ot_Y} (h : 0 < Y 10 1) : ot_tk Y < Y 10 1 := Nat.mod_lt _ h
theorem ot_YW_d1 {Y : ot_Y} (hW : ot_YW Y) : ot_YW (ot_d1 Y) := ot_YW_seed hW _
theorem ot_YW_tmid {Y : ot_Y} (hW : ot_YW Y) (h : 0 < Y 10 0) : ot_YW (ot_tmid Y) := ot_YW_swap (ot_YW_d1 (ot_YW_d1 hW)) (by rw [(ot_d1_n _).1, (ot_d1_n _).1]; exact ot_ta_lt h) (by rw [(ot_d1_n _).1]; exact ot_ta_lt (Y := ot_d1 Y) (by rw [(ot_d1_n _).1]; exact h))
theorem ot_YW_step {Y : ot_Y} (hW : ot_YW Y) (h : 0 < Y 10 0) : ot_YW (ot_step Y) := ot_YW_d1 (ot_YW_tmid hW h)
theorem ot_termY_ok {Y : ot_Y} (hW : ot_YW Y) (h : 0 < Y 10 0) : ∀ n, ot_YW (ot_termY Y n) ∧ (ot_termY Y n) 10 0 = Y 10 0 ∧ (ot_termY Y n) 10 1 = Y 10 1
  | 0 => ⟨hW, rfl, rfl⟩
  | n + 1 => by
    obtain ⟨a, b, c⟩ := ot_termY_ok hW h n
    exact ⟨ot_YW_step a (by omega), b, c⟩
set_option maxRecDepth 20000 in
theorem pc_term {G : jv_Gr} {I : jv_I} {J : jv_J} {Y Z : ot_Y} {E : ot_E} {K : Option ot_Y} (h : ot_C G I J Y Z E K) (n : Int32) : ot_cc 8 mX4_term [.ref 1, .int n] G I J (ot_ans (ot_rc2 (1 ≤ n.toInt ∧ n.toInt ≤ 60) (0 < Y 10 0 ∧ 0 < Y 10 1) 5) (nI (ot_termV Y (ot_n n)))) (ot_pk (ot_rc2 (1 ≤ n.toInt ∧ n.toInt ≤ 60) (0 < Y 10 0 ∧ 0 < Y 10 1) 5) (ot_termY Y (ot_n n)) Y) (ot_zr Z (ot_rc2 (1 ≤ n.toInt ∧ n.toInt ≤ 60) (0 < Y 10 0 ∧ 0 < Y 10 1) 5)) E K := by
  have bn := yw_n h.w
  have bc := yw_c h.w
  have bw := yw_w h.w
  refine ot_rc2_split (motive := fun rc => ot_cc 8 mX4_term [.ref 1, .int n] G I J (ot_ans rc (nI (ot_termV Y (ot_n n)))) (ot_pk rc (ot_termY Y (ot_n n)) Y) (ot_zr Z rc) E K) (fun hv hw => ?_) (fun hv hw => ?_) (fun hv => ?_)
  · obtain ⟨x, hx, rfl⟩ := ot_of (n := 61) (show 0 ≤ n.toInt ∧ n.toInt < ((61 : Nat) : Int) by omega) (by decide)
    rw [ot_n_nI (show x < 2 ^ 30 by omega)]
    have ex := nI_toInt (show x < 2 ^ 31 by omega)
    have loop : ∀ (m i : Nat) (A : jv_I) (s4 s5 : Value), x + 1 ≤ i + m → i ≤ x → ot_YR A 2 (ot_termY Y i) → ot_fr I A 2 13 → ∃ I2, jv_V 8 mX4_term 48 [.ref 1, .int (nI x), .int (nI (ot_termV Y i)), .int (nI i), s4, s5] [] G A J (some (.int (nI (ot_termV Y x)))) G I2 J ∧ ot_YR I2 2 (ot_termY Y x) ∧ ot_fr I I2 2 13 := by
      intro m
      induction m with
      | zero => intro i A s4 s5 b1 b2; omega
      | succ m ih =>
        intro i A s4 s5 b1 b2 hA hFA
        have eT := ot_termY_ok h.w hw.1 i
        by_cases hi : i < x
        · have w1 : ot_YW (ot_d1 (ot_termY Y i)) := ot_YW_d1 eT.1
          have w2 : ot_YW (ot_d1 (ot_d1 (ot_termY Y i))) := ot_YW_d1 w1
          have w3 : ot_YW (ot_tmid (ot_termY Y i)) := ot_YW_tmid eT.1 (by omega)
          have w4 : ot_YW (ot_step (ot_termY Y i)) := ot_YW_d1 w3
          have c1 := ot_draw0 (J := J) (cg_now h.g) hA eT.1 (n := Y 10 0) (by omega) (by omega)
          obtain ⟨A1, hA1e⟩ : ∃ A1, A1 = jv_up A 2 14 (nI (ot_next ((ot_termY Y i) 10 3))) := ⟨_, rfl⟩
          have hA1 : ot_YR A1 2 (ot_d1 (ot_termY Y i)) := by rw [hA1e]; exact ot_YR_seed hA _ rfl
          have hF1 : ot_fr I A1 2 13 := by rw [hA1e]; exact hFA.tr (ot_fr.up (by decide) (by decide))
          rw [← hA1e] at c1
          have c2 := ot_draw0 (J := J) (cg_now h.g) hA1 w1 (n := Y 10 0) (by omega) (by omega)
          obtain ⟨A2, hA2e⟩ : ∃ A2, A2 = jv_up A1 2 14 (nI (ot_next (ot_d1 (ot_termY Y i) 10 3))) := ⟨_, rfl⟩
          have hA2 : ot_YR A2 2 (ot_d1 (ot_d1 (ot_termY Y i))) := by rw [hA2e]; exact ot_YR_seed hA1 _ rfl
          have hF2 : ot_fr I A2 2 13 := by rw [hA2e]; exact hF1.tr (ot_fr.up (by decide) (by decide))
          rw [← hA2e] at c2
          have la := ot_ta_lt (Y := (ot_termY Y i)) (by omega)
          have lb := ot_ta_lt (Y := ot_d1 (ot_termY Y i)) (by rw [(ot_d1_n _).1]; omega)
          obtain ⟨A3, c3, hA3, hF3⟩ := ot_exchangeM (J := J) (cg_now h.g) hA2 w2 (a := ot_ta (ot_termY Y i)) (b := ot_tb (ot_termY Y i)) (by rw [(ot_d1_n _).1, (ot_d1_n _).1]; exact la) (by rw [(ot_d1_n _).1]; exact lb)
          have hA3 : ot_YR A3 2 (ot_tmid (ot_termY Y i)) := hA3
          have hF3b : ot_fr I A3 2 13 := hF2.tr (ot_fr.pl hF3)
          have c4 := ot_draw0 (J := J) (cg_now h.g) hA3 w3 (n := Y 10 1) (by omega) (by omega)
          obtain ⟨A4, hA4e⟩ : ∃ A4, A4 = jv_up A3 2 14 (nI (ot_next (ot_tmid (ot_termY Y i) 10 3))) := ⟨_, rfl⟩
          have hA4 : ot_YR A4 2 (ot_step (ot_termY Y i)) := by rw [hA4e]; exact ot_YR_seed hA3 _ rfl
          have hF4 : ot_fr I A4 2 13 := by rw [hA4e]; exact hF3b.tr (ot_fr.up (by decide) (by decide))
          rw [← hA4e] at c4
          have lk := ot_tk_lt (Y := ot_tmid (ot_termY Y i)) (by rw [(ot_tmid_n _).2]; omega)
          have c5 := ot_valueByM (J := J) (cg_now h.g) hA4 w4 (k := ot_tk (ot_tmid (ot_termY Y i))) (by rw [show ot_step (ot_termY Y i) = ot_d1 (ot_tmid (ot_termY Y i)) from rfl, (ot_d1_n _).2]; exact lk)
          have ea : ot_pick (ot_next ((ot_termY Y i) 10 3)) (Y 10 0) = ot_ta (ot_termY Y i) := by unfold ot_ta; rw [eT.2.1]
          have eb : ot_pick (ot_next (ot_d1 (ot_termY Y i) 10 3)) (Y 10 0) = ot_tb (ot_termY Y i) := by unfold ot_tb ot_ta; rw [(ot_d1_n _).1, eT.2.1]
          have ek : ot_pick (ot_next (ot_tmid (ot_termY Y i) 10 3)) (Y 10 1) = ot_tk (ot_tmid (ot_termY Y i)) := by unfold ot_tk; rw [(ot_tmid_n _).2, eT.2.2]
          rw [ea] at c1
          rw [eb] at c2
          rw [ek] at c4
          obtain ⟨I2, hV, hR2, hF⟩ := ih (i + 1) A4 _ _ (by omega) (by omega) hA4 hF4
          refine ⟨I2, ?_, hR2, hF⟩
          refine jv_iload3 dX4_term_48 ?_
          refine jv_iload1 dX4_term_49 ?_
          refine jv_icmp_geN dX4_term_50 (tgt := 126) (by decide) (by omega) (by omega) (fun hci => by omega) (fun hci => ?_)
          refine jv_aload0 dX4_term_53 ?_
          refine jv_getR dX4_term_54 flX4_10 rfl (ck h.g) (cr_now h.g) ?_
          refine jv_aload0 dX4_term_57 ?_
          refine jv_getR dX4_term_58 flX4_10 rfl (ck h.g) (cr_now h.g) ?_
          refine jv_getI dX4_term_61 flX4_128 rfl (yk (cg_now h.g)) (show A 2 0 = nI (Y 10 0) from hA.1.1.trans (by rw [eT.2.1])) ?_
          refine jv_v11 dX4_term_64 okX3_draw inX3_draw seX3_draw mlX4_295 (ci := 3) (T := TX3) (N := 15) rfl (yk (cg_now h.g)) c1 (by decide) (Nat.le_of_ble_eq_true rfl) ?_
          refine jv_istore4 dX4_term_67 rfl ?_
          refine jv_aload0 dX4_term_69 ?_
          refine jv_getR dX4_term_70 flX4_10 rfl (ck h.g) (cr_now h.g) ?_
          refine jv_aload0 dX4_term_73 ?_
          refine jv_getR dX4_term_74 flX4_10 rfl (ck h.g) (cr_now h.g) ?_
          refine jv_getI dX4_term_77 flX4_128 rfl (yk (cg_now h.g)) (show A1 2 0 = nI (Y 10 0) from hA1.1.1.trans (by rw [(ot_d1_n _).1, eT.2.1])) ?_
          refine jv_v11 dX4_term_80 okX3_draw inX3_draw seX3_draw mlX4_295 (ci := 3) (T := TX3) (N := 15) rfl (yk (cg_now h.g)) c2 (by decide) (Nat.le_of_ble_eq_true rfl) ?_
          refine jv_istore5 dX4_term_83 rfl ?_
          refine jv_aload0 dX4_term_85 ?_
          refine jv_getR dX4_term_86 flX4_10 rfl (ck h.g) (cr_now h.g) ?_
          refine jv_iload4 dX4_term_89 ?_
          refine jv_iload5 dX4_term_91 ?_
          refine jv_v20 dX4_term_93 okX3_exchange inX3_exchange seX3_exchange mlX4_286 (ci := 3) (T := TX3) (N := 15) rfl (yk (cg_now h.g)) c3 (by decide) (Nat.le_of_ble_eq_true rfl) ?_
          refine jv_iload2 dX4_term_96 ?_
          refine jv_aload0 dX4_term_97 ?_
          refine jv_getR dX4_term_98 flX4_10 rfl (ck h.g) (cr_now h.g) ?_
          refine jv_aload0 dX4_term_101 ?_
          refine jv_getR dX4_term_102 flX4_10 rfl (ck h.g) (cr_now h.g) ?_
          refine jv_aload0 dX4_term_105 ?_
          refine jv_getR dX4_term_106 flX4_10 rfl (ck h.g) (cr_now h.g) ?_
          refine jv_getI dX4_term_109 flX4_134 rfl (yk (cg_now h.g)) (show A3 2 5 = nI (Y 10 1) from hA3.1.2.1.trans (by rw [(ot_tmid_n _).2, eT.2.2])) ?_
          refine jv_v11 dX4_term_112 okX3_draw inX3_draw seX3_draw mlX4_295 (ci := 3) (T := TX3) (N := 15) rfl (yk (cg_now h.g)) c4 (by decide) (Nat.le_of_ble_eq_true rfl) ?_
          refine jv_v11 dX4_term_115 okX3_valueBy inX3_valueBy seX3_valueBy mlX4_223 (ci := 3) (T := TX3) (N := 15) rfl (yk (cg_now h.g)) c5 (by decide) (Nat.le_of_ble_eq_true rfl) ?_
          refine jv_iaddN dX4_term_118 ?_
          refine jv_istore2 dX4_term_119 rfl ?_
          refine jv_iinc3N dX4_term_120 rfl ?_
          refine jv_goto dX4_term_123 (tgt := 48) (by decide) ?_
          exact hV
        · have ei : i = x := by omega
          refine ⟨A, ?_, by rw [← ei]; exact hA, hFA⟩
          refine jv_iload3 dX4_term_48 ?_
          refine jv_iload1 dX4_term_49 ?_
          refine jv_icmp_geN dX4_term_50 (tgt := 126) (by decide) (by omega) (by omega) (fun hci => ?_) (fun hci => by omega)
          refine jv_iload2 dX4_term_126 ?_
          exact jv_iret dX4_term_127 rfl rfl (by rw [show i = x by omega]) rfl rfl
    obtain ⟨I2, hV, hR2, hF⟩ := loop (x + 1) 0 I .null .null (by omega) (by omega) h.r ot_fr.rf
    refine ⟨I2, J, ?_, ot_C_yard h hR2 (ot_termY_ok h.w hw.1 x).1 (ot_ZW_y h.z (Nat.le_of_eq (ot_termY_ok h.w hw.1 x).2.2.symm)) hF, ot_hi.fr hF (by decide)⟩
    refine jv_enter okX4_term (L := [.ref 1, .int (nI x), .null, .null, .null, .null]) rfl (Nat.le_of_ble_eq_true rfl) ?_
    refine jv_iload1 dX4_term_0 ?_
    refine jv_iconst dX4_term_1 jv_c_iconst_1 ?_
    refine jv_bipush dX4_term_2 jv_c_bipush_60 ?_
    refine jv_s31 dX4_term_4 okX4_within stX4_within mlX4_57 (oc_inC _ (a := 1) (b := 60) (by decide) (by decide)) (by decide) (Nat.le_of_ble_eq_true rfl) ?_
    refine jv_if_neB dX4_term_7 (tgt := 17) (by decide) (fun hq7 => ?_) (fun hq7 => absurd (by omega) hq7)
    refine jv_aload0 dX4_term_17 ?_
    refine jv_getR dX4_term_18 flX4_10 rfl (ck h.g) (cr_now h.g) ?_
    refine jv_getI dX4_term_21 flX4_128 rfl (yk (cg_now h.g)) (yi_children h.r) ?_
    refine jv_if_eqN dX4_term_24 (tgt := 37) (by decide) (by omega) (fun hc24 => by omega) (fun hc24 => ?_)
    refine jv_aload0 dX4_term_27 ?_
    refine jv_getR dX4_term_28 flX4_10 rfl (ck h.g) (cr_now h.g) ?_
    refine jv_getI dX4_term_31 flX4_134 rfl (yk (cg_now h.g)) (yi_counts h.r) ?_
    refine jv_if_neN dX4_term_34 (tgt := 44) (by decide) (by omega) (fun hc34 => ?_) (fun hc34 => by omega)
    refine jv_iconst dX4_term_44 jv_c_iconst_0 ?_
    refine jv_istore2 dX4_term_45 rfl ?_
    refine jv_iconst dX4_term_46 jv_c_iconst_0 ?_
    refine jv_istore3 dX4_term_47 rfl ?_
    exact hV
  · obtain ⟨I2, hC, h2, h3⟩ := oc_refuse5 h
    refine ⟨I2, J, ?_, h2, h3⟩
    refine jv_enter okX4_term (L := [.ref 1, .int n, .null, .null, .null, .null]) rfl (Nat.le_of_ble_eq_true rfl) ?_
    refine jv_iload1 dX4_term_0 ?_
    refine jv_iconst dX4_term_1 jv_c_iconst_1 ?_
    refine jv_bipush dX4_term_2 jv_c_bipush_60 ?_
    refine jv_s31 dX4_term_4 okX4_within stX4_within mlX4_57 (oc_inC _ (a := 1) (b := 60) (by decide) (by decide)) (by decide) (Nat.le_of_ble_eq_true rfl) ?_
    refine jv_if_neB dX4_term_7 (tgt := 17) (by decide) (fun hq7 => ?_) (fun hq7 => absurd (by omega) hq7)
    refine jv_aload0 dX4_term_17 ?_
    refine jv_getR dX4_term_18 flX4_10 rfl (ck h.g) (cr_now h.g) ?_
    refine jv_getI dX4_term_21 flX4_128 rfl (yk (cg_now h.g)) (yi_children h.r) ?_
    refine jv_if_eqN dX4_term_24 (tgt := 37) (by decide) (by omega) (fun hz1 => ?_) (fun hz1 => ?_)
    · refine jv_aload0 dX4_term_37 ?_
      refine jv_bipush dX4_term_38 jv_c_bipush_m5 ?_
      refine jv_v11 dX4_term_40 okX4_refuse inX4_refuse seX4_refuse mlX4_61 (ci := 4) (T := TX4) (N := 8) rfl (ck h.g) hC (by decide) (Nat.le_of_ble_eq_true rfl) ?_
      exact jv_iret dX4_term_43 rfl rfl rfl rfl rfl
    · refine jv_aload0 dX4_term_27 ?_
      refine jv_getR dX4_term_28 flX4_10 rfl (ck h.g) (cr_now h.g) ?_
      refine jv_getI dX4_term_31 flX4_134 rfl (yk (cg_now h.g)) (yi_counts h.r) ?_
      refine jv_if_neN dX4_term_34 (tgt := 44) (by decide) (by omega) (fun hz2 => by omega) (fun hz2 => ?_)
      refine jv_aload0 dX4_term_37 ?_
      refine jv_bipush dX4_term_38 jv_c_bipush_m5 ?_
      refine jv_v11 dX4_term_40 okX4_refuse inX4_refuse seX4_refuse mlX4_61 (ci := 4) (T := TX4) (N := 8) rfl (ck h.g) hC (by decide) (Nat.le_of_ble_eq_true rfl) ?_
      exact jv_iret dX4_term_43 rfl rfl rfl rfl rfl
  · obtain ⟨I2, hC, h2, h3⟩ := oc_refuse2 h
    refine ⟨I2, J, ?_, h2, h3⟩
    refine jv_enter okX4_term (L := [.ref 1, .int n, .null, .null, .null, .null]) rfl (Nat.le_of_ble_eq_true rfl) ?_
    refine jv_iload1 dX4_term_0 ?_
    refine jv_iconst dX4_term_1 jv_c_iconst_1 ?_
    refine jv_bipush dX4_term_2 jv_c_bipush_60 ?_
    refine jv_s31 dX4_term_4 okX4_within stX4_within mlX4_57 (oc_inC _ (a := 1) (b := 60) (by decide) (by decide)) (by decide) (Nat.le_of_ble_eq_true rfl) ?_
    refine jv_if_neB dX4_term_7 (tgt := 17) (by decide) (fun hq => by omega) (fun hq => ?_)
    refine jv_aload0 dX4_term_10 ?_
    refine jv_bipush dX4_term_11 jv_c_bipush_m2 ?_
    refine jv_v11 dX4_term_13 okX4_refuse inX4_refuse seX4_refuse mlX4_61 (ci := 4) (T := TX4) (N := 8) rfl (ck h.g) hC (by decide) (Nat.le_of_ble_eq_true rfl) ?_
    exact jv_iret dX4_term_16 rfl rfl rfl rfl rfl
set_option maxRecDepth 20000 in
theorem pm_term {G : jv_Gr} {I : jv_I} {J : jv_J} {Y Z : ot_Y} {E : ot_E} {K : Option ot_Y} (h : ot_M G I J Y Z E K) (n : Int32) : ot_mm 8 mX5_term [.ref 64, .int n] G I J (ot_ans (ot_rc2 (1 ≤ n.toInt ∧ n.toInt ≤ 60) (0 < Y 10 0 ∧ 0 < Y 10 1) 5) (nI (ot_termV Y (ot_n n)))) (ot_pk (ot_rc2 (1 ≤ n.toInt ∧ n.toInt ≤ 60) (0 < Y 10 0 ∧ 0 < Y 10 1) 5) (ot_termY Y (ot_n n)) Y) (ot_zr Z (ot_rc2 (1 ≤ n.toInt ∧ n.toInt ≤ 60) (0 < Y 10 0 ∧ 0 < Y 10 1) 5)) E K := by
  have bn := yw_n h.w
  have bc := yw_c h.w
  have bw := yw_w h.w
  refine ot_rc2_split (motive := fun rc => ot_mm 8 mX5_term [.ref 64, .int n] G I J (ot_ans rc (nI (ot_termV Y (ot_n n)))) (ot_pk rc (ot_termY Y (ot_n n)) Y) (ot_zr Z rc) E K) (fun hv hw => ?_) (fun hv hw => ?_) (fun hv => ?_)
  · obtain ⟨x, hx, rfl⟩ := ot_of (n := 61) (show 0 ≤ n.toInt ∧ n.toInt < ((61 : Nat) : Int) by omega) (by decide)
    rw [ot_n_nI (show x < 2 ^ 30 by omega)]
    have ex := nI_toInt (show x < 2 ^ 31 by omega)
    have loop : ∀ (m i : Nat) (A : jv_I) (s4 : Value), x + 1 ≤ i + m → i ≤ x → ot_MR A 64 (ot_termY Y i) → ot_mf I A 64 → ∃ I2, jv_V 8 mX5_term 44 [.ref 64, .int (nI x), .int (nI (ot_termV Y i)), .int (nI i), s4] [] G A J (some (.int (nI (ot_termV Y x)))) G I2 J ∧ ot_MR I2 64 (ot_termY Y x) ∧ ot_mf I I2 64 := by
      intro m
      induction m with
      | zero => intro i A s4 b1 b2; omega
      | succ m ih =>
        intro i A s4 b1 b2 hA hFA
        have eT := ot_termY_ok h.w hw.1 i
        by_cases hi : i < x
        · have w1 : ot_YW (ot_d1 (ot_termY Y i)) := ot_YW_d1 eT.1
          have w2 : ot_YW (ot_d1 (ot_d1 (ot_termY Y i))) := ot_YW_d1 w1
          have w3 : ot_YW (ot_tmid (ot_termY Y i)) := ot_YW_tmid eT.1 (by omega)
          have w4 : ot_YW (ot_step (ot_termY Y i)) := ot_YW_d1 w3
          have c1 := om_below0 (J := J) h.g hA eT.1 (n := Y 10 0) (by omega) (by omega)
          obtain ⟨A1, hA1e⟩ : ∃ A1, A1 = jv_up A 64 22 (nI (ot_next ((ot_termY Y i) 10 3))) := ⟨_, rfl⟩
          have hA1 : ot_MR A1 64 (ot_d1 (ot_termY Y i)) := by rw [hA1e]; exact ot_MR_seed hA _ rfl
          have hF1 : ot_mf I A1 64 := by rw [hA1e]; exact hFA.tr (ot_mf.f (by omega))
          rw [← hA1e] at c1
          have c2 := om_below0 (J := J) h.g hA1 w1 (n := Y 10 0) (by omega) (by omega)
          obtain ⟨A2, hA2e⟩ : ∃ A2, A2 = jv_up A1 64 22 (nI (ot_next (ot_d1 (ot_termY Y i) 10 3))) := ⟨_, rfl⟩
          have hA2 : ot_MR A2 64 (ot_d1 (ot_d1 (ot_termY Y i))) := by rw [hA2e]; exact ot_MR_seed hA1 _ rfl
          have hF2 : ot_mf I A2 64 := by rw [hA2e]; exact hF1.tr (ot_mf.f (by omega))
          rw [← hA2e] at c2
          have la := ot_ta_lt (Y := (ot_termY Y i)) (by omega)
          have lb := ot_ta_lt (Y := ot_d1 (ot_termY Y i)) (by rw [(ot_d1_n _).1]; omega)
          obtain ⟨A3, c3, hA3, hF3⟩ := om_swaps (J := J) h.g hA2 w2 (a := ot_ta (ot_termY Y i)) (b := ot_tb (ot_termY Y i)) (by rw [(ot_d1_n _).1, (ot_d1_n _).1]; exact la) (by rw [(ot_d1_n _).1]; exact lb)
          have hA3 : ot_MR A3 64 (ot_tmid (ot_termY Y i)) := hA3
          have hF3b : ot_mf I A3 64 := hF2.tr (ot_mf.pl hF3)
          have c4 := om_below0 (J := J) h.g hA3 w3 (n := Y 10 1) (by omega) (by omega)
          obtain ⟨A4, hA4e⟩ : ∃ A4, A4 = jv_up A3 64 22 (nI (ot_next (ot_tmid (ot_termY Y i) 10 3))) := ⟨_, rfl⟩
          have hA4 : ot_MR A4 64 (ot_step (ot_termY Y i)) := by rw [hA4e]; exact ot_MR_seed hA3 _ rfl
          have hF4 : ot_mf I A4 64 := by rw [hA4e]; exact hF3b.tr (ot_mf.f (by omega))
          rw [← hA4e] at c4
          have lk := ot_tk_lt (Y := ot_tmid (ot_termY Y i)) (by rw [(ot_tmid_n _).2]; omega)
          have c5 := om_valueOf (J := J) h.g hA4 w4 (k := ot_tk (ot_tmid (ot_termY Y i))) (by rw [show ot_step (ot_termY Y i) = ot_d1 (ot_tmid (ot_termY Y i)) from rfl, (ot_d1_n _).2]; exact lk)
          have ea : ot_pick (ot_next ((ot_termY Y i) 10 3)) (Y 10 0) = ot_ta (ot_termY Y i) := by unfold ot_ta; rw [eT.2.1]
          have eb : ot_pick (ot_next (ot_d1 (ot_termY Y i) 10 3)) (Y 10 0) = ot_tb (ot_termY Y i) := by unfold ot_tb ot_ta; rw [(ot_d1_n _).1, eT.2.1]
          have ek : ot_pick (ot_next (ot_tmid (ot_termY Y i) 10 3)) (Y 10 1) = ot_tk (ot_tmid (ot_termY Y i)) := by unfold ot_tk; rw [(ot_tmid_n _).2, eT.2.2]
          rw [ea] at c1
          rw [eb] at c2
          rw [ek] at c4
          obtain ⟨I2, hV, hR2, hF⟩ := ih (i + 1) A4 _ (by omega) (by omega) hA4 hF4
          refine ⟨I2, ?_, hR2, hF⟩
          refine jv_iload3 dX5_term_44 ?_
          refine jv_iload1 dX5_term_45 ?_
          refine jv_icmp_geN dX5_term_46 (tgt := 94) (by decide) (by omega) (by omega) (fun hci => by omega) (fun hci => ?_)
          refine jv_aload0 dX5_term_49 ?_
          refine jv_aload0 dX5_term_50 ?_
          refine jv_getI dX5_term_51 flX5_80 rfl (mk h.g) (show A 64 9 = nI (Y 10 0) from hA.1.1.trans (by rw [eT.2.1])) ?_
          refine jv_v11 dX5_term_54 okX5_below inX5_below seX5_below mlX5_332 (ci := 5) (T := TX5) (N := 35) rfl (mk h.g) c1 (by decide) (Nat.le_of_ble_eq_true rfl) ?_
          refine jv_istore4 dX5_term_57 rfl ?_
          refine jv_aload0 dX5_term_59 ?_
          refine jv_iload4 dX5_term_60 ?_
          refine jv_aload0 dX5_term_62 ?_
          refine jv_aload0 dX5_term_63 ?_
          refine jv_getI dX5_term_64 flX5_80 rfl (mk h.g) (show A1 64 9 = nI (Y 10 0) from hA1.1.1.trans (by rw [(ot_d1_n _).1, eT.2.1])) ?_
          refine jv_v11 dX5_term_67 okX5_below inX5_below seX5_below mlX5_332 (ci := 5) (T := TX5) (N := 35) rfl (mk h.g) c2 (by decide) (Nat.le_of_ble_eq_true rfl) ?_
          refine jv_v20 dX5_term_70 okX5_swaps inX5_swaps seX5_swaps mlX5_222 (ci := 5) (T := TX5) (N := 35) rfl (mk h.g) c3 (by decide) (Nat.le_of_ble_eq_true rfl) ?_
          refine jv_iload2 dX5_term_73 ?_
          refine jv_aload0 dX5_term_74 ?_
          refine jv_aload0 dX5_term_75 ?_
          refine jv_aload0 dX5_term_76 ?_
          refine jv_getI dX5_term_77 flX5_91 rfl (mk h.g) (show A3 64 13 = nI (Y 10 1) from hA3.1.2.1.trans (by rw [(ot_tmid_n _).2, eT.2.2])) ?_
          refine jv_v11 dX5_term_80 okX5_below inX5_below seX5_below mlX5_332 (ci := 5) (T := TX5) (N := 35) rfl (mk h.g) c4 (by decide) (Nat.le_of_ble_eq_true rfl) ?_
          refine jv_v11 dX5_term_83 okX5_valueOf inX5_valueOf seX5_valueOf mlX5_278 (ci := 5) (T := TX5) (N := 35) rfl (mk h.g) c5 (by decide) (Nat.le_of_ble_eq_true rfl) ?_
          refine jv_iaddN dX5_term_86 ?_
          refine jv_istore2 dX5_term_87 rfl ?_
          refine jv_iinc3N dX5_term_88 rfl ?_
          refine jv_goto dX5_term_91 (tgt := 44) (by decide) ?_
          exact hV
        · have ei : i = x := by omega
          refine ⟨A, ?_, by rw [← ei]; exact hA, hFA⟩
          refine jv_iload3 dX5_term_44 ?_
          refine jv_iload1 dX5_term_45 ?_
          refine jv_icmp_geN dX5_term_46 (tgt := 94) (by decide) (by omega) (by omega) (fun hci => ?_) (fun hci => by omega)
          refine jv_iload2 dX5_term_94 ?_
          exact jv_iret dX5_term_95 rfl rfl (by rw [show i = x by omega]) rfl rfl
    obtain ⟨I2, hV, hR2, hF⟩ := loop (x + 1) 0 I .null (by omega) (by omega) h.r ot_mf.rf
    refine ⟨G, I2, J, ?_, ot_M_yard h hR2 (ot_termY_ok h.w hw.1 x).1 (ot_ZW_y h.z (Nat.le_of_eq (ot_termY_ok h.w hw.1 x).2.2.symm)) hF.mw, hF.mw.lo, ot_gx.rf⟩
    refine jv_enter okX5_term (L := [.ref 64, .int (nI x), .null, .null, .null]) rfl (Nat.le_of_ble_eq_true rfl) ?_
    refine jv_iload1 dX5_term_0 ?_
    refine jv_i2l dX5_term_1 rfl ?_
    refine jv_lconst dX5_term_2 (v := lN 1) rfl ?_
    refine jv_ldc2 dX5_term_3 cnX5_330 ?_
    refine jv_s31 dX5_term_6 okX5_in stX5_in mlX5_83 (om_inC _ (a := 1) (b := 60) (by decide) (by decide)) (by decide) (Nat.le_of_ble_eq_true rfl) ?_
    refine jv_if_neB dX5_term_9 (tgt := 19) (by decide) (fun hq9 => ?_) (fun hq9 => absurd (by omega) hq9)
    refine jv_aload0 dX5_term_19 ?_
    refine jv_getI dX5_term_20 flX5_80 rfl (mk h.g) (mi_children h.r) ?_
    refine jv_if_eqN dX5_term_23 (tgt := 33) (by decide) (by omega) (fun hc23 => by omega) (fun hc23 => ?_)
    refine jv_aload0 dX5_term_26 ?_
    refine jv_getI dX5_term_27 flX5_91 rfl (mk h.g) (mi_counts h.r) ?_
    refine jv_if_neN dX5_term_30 (tgt := 40) (by decide) (by omega) (fun hc30 => ?_) (fun hc30 => by omega)
    refine jv_iconst dX5_term_40 jv_c_iconst_0 ?_
    refine jv_istore2 dX5_term_41 rfl ?_
    refine jv_iconst dX5_term_42 jv_c_iconst_0 ?_
    refine jv_istore3 dX5_term_43 rfl ?_
    exact hV
  · obtain ⟨I2, hC, h2, h3⟩ := om_refuse5 h
    refine ⟨G, I2, J, ?_, h2, h3, ot_gx.rf⟩
    refine jv_enter okX5_term (L := [.ref 64, .int n, .null, .null, .null]) rfl (Nat.le_of_ble_eq_true rfl) ?_
    refine jv_iload1 dX5_term_0 ?_
    refine jv_i2l dX5_term_1 rfl ?_
    refine jv_lconst dX5_term_2 (v := lN 1) rfl ?_
    refine jv_ldc2 dX5_term_3 cnX5_330 ?_
    refine jv_s31 dX5_term_6 okX5_in stX5_in mlX5_83 (om_inC _ (a := 1) (b := 60) (by decide) (by decide)) (by decide) (Nat.le_of_ble_eq_true rfl) ?_
    refine jv_if_neB dX5_term_9 (tgt := 19) (by decide) (fun hq9 => ?_) (fun hq9 => absurd (by omega) hq9)
    refine jv_aload0 dX5_term_19 ?_
    refine jv_getI dX5_term_20 flX5_80 rfl (mk h.g) (mi_children h.r) ?_
    refine jv_if_eqN dX5_term_23 (tgt := 33) (by decide) (by omega) (fun hz1 => ?_) (fun hz1 => ?_)
    · refine jv_aload0 dX5_term_33 ?_
      refine jv_bipush dX5_term_34 jv_c_bipush_m5 ?_
      refine jv_v11 dX5_term_36 okX5_refuse inX5_refuse seX5_refuse mlX5_104 (ci := 5) (T := TX5) (N := 35) rfl (mk h.g) hC (by decide) (Nat.le_of_ble_eq_true rfl) ?_
      exact jv_iret dX5_term_39 rfl rfl rfl rfl rfl
    · refine jv_aload0 dX5_term_26 ?_
      refine jv_getI dX5_term_27 flX5_91 rfl (mk h.g) (mi_counts h.r) ?_
      refine jv_if_neN dX5_term_30 (tgt := 40) (by decide) (by omega) (fun hz2 => by omega) (fun hz2 => ?_)
      refine jv_aload0 dX5_term_33 ?_
      refine jv_bipush dX5_term_34 jv_c_bipush_m5 ?_
      refine jv_v11 dX5_term_36 okX5_refuse inX5_refuse seX5_refuse mlX5_104 (ci := 5) (T := TX5) (N := 35) rfl (mk h.g) hC (by decide) (Nat.le_of_ble_eq_true rfl) ?_
      exact jv_iret dX5_term_39 rfl rfl rfl rfl rfl
  · obtain ⟨I2, hC, h2, h3⟩ := om_refuse2 h
    refine ⟨G, I2, J, ?_, h2, h3, ot_gx.rf⟩
    refine jv_enter okX5_term (L := [.ref 64, .int n, .null, .null, .null]) rfl (Nat.le_of_ble_eq_true rfl) ?_
    refine jv_iload1 dX5_term_0 ?_
    refine jv_i2l dX5_term_1 rfl ?_
    refine jv_lconst dX5_term_2 (v := lN 1) rfl ?_
    refine jv_ldc2 dX5_term_3 cnX5_330 ?_
    refine jv_s31 dX5_term_6 okX5_in stX5_in mlX5_83 (om_inC _ (a := 1) (b := 60) (by decide) (by decide)) (by decide) (Nat.le_of_ble_eq_true rfl) ?_
    refine jv_if_neB dX5_term_9 (tgt := 19) (by decide) (fun hq => by omega) (fun hq => ?_)
    refine jv_aload0 dX5_term_12 ?_
    refine jv_bipush dX5_term_13 jv_c_bipush_m2 ?_
    refine jv_v11 dX5_term_15 okX5_refuse inX5_refuse seX5_refuse mlX5_104 (ci := 5) (T := TX5) (N := 35) rfl (mk h.g) hC (by decide) (Nat.le_of_ble_eq_true rfl) ?_
    exact jv_iret dX5_term_18 rfl rfl rfl rfl rfl
