/-! ===== the face: group 4, what changes the state ===== -/
def ot_content (Y : ot_Y) : ot_Y := ot_put Y 10 (ot_set (Y 10) 2 0)
theorem ot_YW_content {Y : ot_Y} (hW : ot_YW Y) : ot_YW (ot_content Y) := by
  obtain ⟨⟨a1, a2, a3⟩, b, c, e, f⟩ := hW
  exact ⟨⟨a1, a2, Nat.zero_le _⟩, b, c, e, fun i hi => absurd hi (Nat.not_lt_zero i)⟩
theorem ot_YR_content {I : jv_I} {y : Nat} {Y : ot_Y} (hR : ot_YR I y Y) : ot_YR (jv_up I y 9 (nI 0)) y (ot_content Y) := by
  obtain ⟨⟨r1, r2, r3, r4⟩, g1, g2, g3⟩ := hR
  refine ⟨⟨?_, ?_, ?_, ?_⟩, fun c hc => ?_, fun c hc => ?_, fun c hc => absurd hc (Nat.not_lt_zero c)⟩
  · simpa [jv_up, ot_content, ot_put, ot_set] using r1
  · simpa [jv_up, ot_content, ot_put, ot_set] using r2
  · simp [jv_up, ot_content, ot_put, ot_set]
  · simpa [jv_up, ot_content, ot_put, ot_set] using r4
  · have := g1 c (by simpa [ot_content, ot_put, ot_set] using hc)
    simpa [jv_up, ot_content, ot_put, ot_set] using this
  · have := g2 c (by simpa [ot_content, ot_put, ot_set] using hc)
    simpa [jv_up, ot_content, ot_put, ot_set] using this
theorem ot_MR_content {I : jv_I} {m : Nat} {Y : ot_Y} (hR : ot_MR I m Y) : ot_MR (jv_up I m 17 (nI 0)) m (ot_content Y) := by
  obtain ⟨⟨r1, r2, r3, r4⟩, g1, g2, g3⟩ := hR
  refine ⟨⟨?_, ?_, ?_, ?_⟩, fun c hc => ?_, fun c hc => ?_, fun c hc => absurd hc (Nat.not_lt_zero c)⟩
  · simpa [jv_up, ot_content, ot_put, ot_set] using r1
  · simpa [jv_up, ot_content, ot_put, ot_set] using r2
  · simp [jv_up, ot_content, ot_put, ot_set]
  · simpa [jv_up, ot_content, ot_put, ot_set] using r4
  · have := g1 c (by simpa [ot_content, ot_put, ot_set] using hc)
    simpa [jv_up, ot_content, ot_put, ot_set] using this
  · have := g2 c (by simpa [ot_content, ot_put, ot_set] using hc)
    simpa [jv_up, ot_content, ot_put, ot_set] using this
theorem ot_mf.f {I : jv_I} {m k : Nat} {v : Int32} (hk : k = 9 ∨ k = 13 ∨ k = 17 ∨ k = 22) : ot_mf I (jv_up I m k v) m := ⟨fun q hq _ => jv_up_ne _ _ _ hq, fun j h1 h2 h3 h4 => by
  rw [jv_up_def, if_pos rfl, if_neg (by omega)]⟩
def ot_u (v : Int32) : Nat := v.toUInt32.toNat
theorem ot_nI_u (v : Int32) : nI (ot_u v) = v := by
  unfold ot_u
  apply Int32.toBitVec_inj.mp
  apply BitVec.eq_of_toNat_eq
  show (Int32.ofNat v.toUInt32.toNat).toBitVec.toNat = _
  have h := v.toUInt32.toNat_lt
  simp [Int32.ofNat]
set_option maxRecDepth 20000 in
theorem pc_content {G : jv_Gr} {I : jv_I} {J : jv_J} {Y Z : ot_Y} {E : ot_E} {K : Option ot_Y} (h : ot_C G I J Y Z E K)  : ot_cc 8 mX4_content [.ref 1] G I J (nI (Y 10 2)) (ot_content Y) Z E K := by
  have bn := yw_n h.w
  have bc := yw_c h.w
  have bw := yw_w h.w
  refine ⟨jv_up I 2 9 (nI 0), J, ?_, ot_C_yard h (ot_YR_content h.r) (ot_YW_content h.w) h.z (ot_fr.up (by decide) (by decide)), ot_hi.fr (lo := 2) (hi := 13) (ot_fr.up (by decide) (by decide)) (by decide)⟩
  refine jv_enter okX4_content (L := [.ref 1, .null]) rfl (Nat.le_of_ble_eq_true rfl) ?_
  refine jv_aload0 dX4_content_0 ?_
  refine jv_getR dX4_content_1 flX4_10 rfl (ck h.g) (cr_now h.g) ?_
  refine jv_getI dX4_content_4 flX4_144 rfl (yk (cg_now h.g)) (yi_wishes h.r) ?_
  refine jv_istore1 dX4_content_7 rfl ?_
  refine jv_aload0 dX4_content_8 ?_
  refine jv_getR dX4_content_9 flX4_10 rfl (ck h.g) (cr_now h.g) ?_
  refine jv_iconst dX4_content_12 jv_c_iconst_0 ?_
  refine jv_putI dX4_content_13 flX4_144 rfl (yk (cg_now h.g)) rfl rfl ?_
  refine jv_iload1 dX4_content_16 ?_
  exact jv_iret dX4_content_17 rfl rfl rfl rfl rfl
set_option maxRecDepth 20000 in
theorem pm_content {G : jv_Gr} {I : jv_I} {J : jv_J} {Y Z : ot_Y} {E : ot_E} {K : Option ot_Y} (h : ot_M G I J Y Z E K)  : ot_mm 8 mX5_content [.ref 64] G I J (nI (Y 10 2)) (ot_content Y) Z E K := by
  have bn := yw_n h.w
  have bc := yw_c h.w
  have bw := yw_w h.w
  have hf : ot_mf I (jv_up I 64 17 (nI 0)) 64 := ot_mf.f (by omega)
  refine ⟨G, jv_up I 64 17 (nI 0), J, ?_, ot_M_yard h (ot_MR_content h.r) (ot_YW_content h.w) h.z hf.mw, hf.mw.lo, ot_gx.rf⟩
  refine jv_enter okX5_content (L := [.ref 64, .null]) rfl (Nat.le_of_ble_eq_true rfl) ?_
  refine jv_aload0 dX5_content_0 ?_
  refine jv_getI dX5_content_1 flX5_141 rfl (mk h.g) (mi_wishes h.r) ?_
  refine jv_istore1 dX5_content_4 rfl ?_
  refine jv_aload0 dX5_content_5 ?_
  refine jv_iconst dX5_content_6 jv_c_iconst_0 ?_
  refine jv_putI dX5_content_7 flX5_141 rfl (mk h.g) rfl rfl ?_
  refine jv_iload1 dX5_content_10 ?_
  exact jv_iret dX5_content_11 rfl rfl rfl rfl rfl
set_option maxRecDepth 20000 in
theorem pc_seed {G : jv_Gr} {I : jv_I} {J : jv_J} {Y Z : ot_Y} {E : ot_E} {K : Option ot_Y} (h : ot_C G I J Y Z E K) (v : Int32) : ot_cc 8 mX4_seed [.ref 1, .int v] G I J (nI (Y 10 3)) (ot_seed Y (ot_u v)) Z E K := by
  have bn := yw_n h.w
  have bc := yw_c h.w
  have bw := yw_w h.w
  refine ⟨jv_up I 2 14 v, J, ?_, ot_C_yard h (ot_YR_seed h.r (ot_u v) (ot_nI_u v).symm) (ot_YW_seed h.w _) h.z (ot_fr.up (by decide) (by decide)), ot_hi.fr (lo := 2) (hi := 13) (ot_fr.up (by decide) (by decide)) (by decide)⟩
  refine jv_enter okX4_seed (L := [.ref 1, .int v, .null]) rfl (Nat.le_of_ble_eq_true rfl) ?_
  refine jv_aload0 dX4_seed_0 ?_
  refine jv_getR dX4_seed_1 flX4_10 rfl (ck h.g) (cr_now h.g) ?_
  refine jv_getI dX4_seed_4 flX4_298 rfl (yk (cg_now h.g)) (yi_seed h.r) ?_
  refine jv_istore2 dX4_seed_7 rfl ?_
  refine jv_aload0 dX4_seed_8 ?_
  refine jv_getR dX4_seed_9 flX4_10 rfl (ck h.g) (cr_now h.g) ?_
  refine jv_iload1 dX4_seed_12 ?_
  refine jv_putI dX4_seed_13 flX4_298 rfl (yk (cg_now h.g)) rfl rfl ?_
  refine jv_iload2 dX4_seed_16 ?_
  exact jv_iret dX4_seed_17 rfl rfl rfl rfl rfl
set_option maxRecDepth 20000 in
theorem pm_seed {G : jv_Gr} {I : jv_I} {J : jv_J} {Y Z : ot_Y} {E : ot_E} {K : Option ot_Y} (h : ot_M G I J Y Z E K) (v : Int32) : ot_mm 8 mX5_seed [.ref 64, .int v] G I J (nI (Y 10 3)) (ot_seed Y (ot_u v)) Z E K := by
  have bn := yw_n h.w
  have bc := yw_c h.w
  have bw := yw_w h.w
  have hf : ot_mf I (jv_up I 64 22 v) 64 := ot_mf.f (by omega)
  refine ⟨G, jv_up I 64 22 v, J, ?_, ot_M_yard h (ot_MR_seed h.r (ot_u v) (ot_nI_u v).symm) (ot_YW_seed h.w _) h.z hf.mw, hf.mw.lo, ot_gx.rf⟩
  refine jv_enter okX5_seed (L := [.ref 64, .int v, .null]) rfl (Nat.le_of_ble_eq_true rfl) ?_
  refine jv_aload0 dX5_seed_0 ?_
  refine jv_getI dX5_seed_1 flX5_67 rfl (mk h.g) (mi_seed h.r) ?_
  refine jv_istore2 dX5_seed_4 rfl ?_
  refine jv_aload0 dX5_seed_5 ?_
  refine jv_iload1 dX5_seed_6 ?_
  refine jv_putI dX5_seed_7 flX5_67 rfl (mk h.g) rfl rfl ?_
  refine jv_iload2 dX5_seed_10 ?_
  exact jv_iret dX5_seed_11 rfl rfl rfl rfl rfl
set_option maxRecDepth 20000 in
theorem pc_child {G : jv_Gr} {I : jv_I} {J : jv_J} {Y Z : ot_Y} {E : ot_E} {K : Option ot_Y} (h : ot_C G I J Y Z E K) (s : Int32) (t : Int32) : ot_cc 8 mX4_child [.ref 1, .int s, .int t] G I J (ot_ans (ot_rc2 ((1 ≤ s.toInt ∧ s.toInt ≤ 99) ∧ (0 ≤ t.toInt ∧ t.toInt ≤ 9)) (Y 10 0 < 14) 6) (nI (Y 10 0))) (ot_pk (ot_rc2 ((1 ≤ s.toInt ∧ s.toInt ≤ 99) ∧ (0 ≤ t.toInt ∧ t.toInt ≤ 9)) (Y 10 0 < 14) 6) (ot_addChild Y (ot_n s) (ot_n t)) Y) (ot_zr Z (ot_rc2 ((1 ≤ s.toInt ∧ s.toInt ≤ 99) ∧ (0 ≤ t.toInt ∧ t.toInt ≤ 9)) (Y 10 0 < 14) 6)) E K := by
  have bn := yw_n h.w
  have bc := yw_c h.w
  have bw := yw_w h.w
  refine ot_rc2_split (motive := fun rc => ot_cc 8 mX4_child [.ref 1, .int s, .int t] G I J (ot_ans rc (nI (Y 10 0))) (ot_pk rc (ot_addChild Y (ot_n s) (ot_n t)) Y) (ot_zr Z rc) E K) (fun hv hw => ?_) (fun hv hw => ?_) (fun hv => ?_)
  · obtain ⟨x, hx, rfl⟩ := ot_of (n := 100) (show 0 ≤ s.toInt ∧ s.toInt < ((100 : Nat) : Int) by omega) (by decide)
    rw [ot_n_nI (show x < 2 ^ 30 by omega)]
    have ex := nI_toInt (show x < 2 ^ 31 by omega)
    obtain ⟨z, hz, rfl⟩ := ot_of (n := 10) (show 0 ≤ t.toInt ∧ t.toInt < ((10 : Nat) : Int) by omega) (by decide)
    rw [ot_n_nI (show z < 2 ^ 30 by omega)]
    have ez := nI_toInt (show z < 2 ^ 31 by omega)
    obtain ⟨I2, hA, hR2, hF⟩ := ot_addChildM (J := J) (s := x) (t := z) (cg_now h.g) h.r h.w hw
    refine ⟨I2, J, ?_, ot_C_yard h hR2 (ot_YW_addChild h.w hw (by omega) (by omega)) (ot_ZW_y h.z (Nat.le_refl _)) hF, ot_hi.fr hF (by decide)⟩
    refine jv_enter okX4_child (L := [.ref 1, .int (nI x), .int (nI z)]) rfl (Nat.le_of_ble_eq_true rfl) ?_
    refine jv_iload1 dX4_child_0 ?_
    refine jv_iconst dX4_child_1 jv_c_iconst_1 ?_
    refine jv_bipush dX4_child_2 jv_c_bipush_99 ?_
    refine jv_s31 dX4_child_4 okX4_within stX4_within mlX4_57 (oc_inC _ (a := 1) (b := 99) (by decide) (by decide)) (by decide) (Nat.le_of_ble_eq_true rfl) ?_
    refine jv_if_eqB dX4_child_7 (tgt := 20) (by decide) (fun hq7 => absurd (by omega) hq7) (fun hq7 => ?_)
    refine jv_iload2 dX4_child_10 ?_
    refine jv_iconst dX4_child_11 jv_c_iconst_0 ?_
    refine jv_bipush dX4_child_12 jv_c_bipush_9 ?_
    refine jv_s31 dX4_child_14 okX4_within stX4_within mlX4_57 (oc_inC _ (a := 0) (b := 9) (by decide) (by decide)) (by decide) (Nat.le_of_ble_eq_true rfl) ?_
    refine jv_if_neB dX4_child_17 (tgt := 27) (by decide) (fun hq17 => ?_) (fun hq17 => absurd (by omega) hq17)
    refine jv_aload0 dX4_child_27 ?_
    refine jv_getR dX4_child_28 flX4_10 rfl (ck h.g) (cr_now h.g) ?_
    refine jv_getI dX4_child_31 flX4_128 rfl (yk (cg_now h.g)) (yi_children h.r) ?_
    refine jv_bipush dX4_child_34 jv_c_bipush_14 ?_
    refine jv_icmp_ltN dX4_child_36 (tgt := 46) (by decide) (by omega) (by omega) (fun hc36 => ?_) (fun hc36 => by omega)
    refine jv_aload0 dX4_child_46 ?_
    refine jv_getR dX4_child_47 flX4_10 rfl (ck h.g) (cr_now h.g) ?_
    refine jv_iload1 dX4_child_50 ?_
    refine jv_iload2 dX4_child_51 ?_
    refine jv_v21 dX4_child_52 okX3_addChild inX3_addChild seX3_addChild mlX4_131 (ci := 3) (T := TX3) (N := 15) rfl (yk (cg_now h.g)) hA (by decide) (Nat.le_of_ble_eq_true rfl) ?_
    exact jv_iret dX4_child_55 rfl rfl rfl rfl rfl
  · obtain ⟨I2, hC, h2, h3⟩ := oc_refuse6 h
    refine ⟨I2, J, ?_, h2, h3⟩
    refine jv_enter okX4_child (L := [.ref 1, .int s, .int t]) rfl (Nat.le_of_ble_eq_true rfl) ?_
    refine jv_iload1 dX4_child_0 ?_
    refine jv_iconst dX4_child_1 jv_c_iconst_1 ?_
    refine jv_bipush dX4_child_2 jv_c_bipush_99 ?_
    refine jv_s31 dX4_child_4 okX4_within stX4_within mlX4_57 (oc_inC _ (a := 1) (b := 99) (by decide) (by decide)) (by decide) (Nat.le_of_ble_eq_true rfl) ?_
    refine jv_if_eqB dX4_child_7 (tgt := 20) (by decide) (fun hq7 => absurd (by omega) hq7) (fun hq7 => ?_)
    refine jv_iload2 dX4_child_10 ?_
    refine jv_iconst dX4_child_11 jv_c_iconst_0 ?_
    refine jv_bipush dX4_child_12 jv_c_bipush_9 ?_
    refine jv_s31 dX4_child_14 okX4_within stX4_within mlX4_57 (oc_inC _ (a := 0) (b := 9) (by decide) (by decide)) (by decide) (Nat.le_of_ble_eq_true rfl) ?_
    refine jv_if_neB dX4_child_17 (tgt := 27) (by decide) (fun hq17 => ?_) (fun hq17 => absurd (by omega) hq17)
    refine jv_aload0 dX4_child_27 ?_
    refine jv_getR dX4_child_28 flX4_10 rfl (ck h.g) (cr_now h.g) ?_
    refine jv_getI dX4_child_31 flX4_128 rfl (yk (cg_now h.g)) (yi_children h.r) ?_
    refine jv_bipush dX4_child_34 jv_c_bipush_14 ?_
    refine jv_icmp_ltN dX4_child_36 (tgt := 46) (by decide) (by omega) (by omega) (fun hc36 => by omega) (fun hc36 => ?_)
    refine jv_aload0 dX4_child_39 ?_
    refine jv_bipush dX4_child_40 jv_c_bipush_m6 ?_
    refine jv_v11 dX4_child_42 okX4_refuse inX4_refuse seX4_refuse mlX4_61 (ci := 4) (T := TX4) (N := 8) rfl (ck h.g) hC (by decide) (Nat.le_of_ble_eq_true rfl) ?_
    exact jv_iret dX4_child_45 rfl rfl rfl rfl rfl
  · obtain ⟨I2, hC, h2, h3⟩ := oc_refuse2 h
    refine ⟨I2, J, ?_, h2, h3⟩
    refine jv_enter okX4_child (L := [.ref 1, .int s, .int t]) rfl (Nat.le_of_ble_eq_true rfl) ?_
    refine jv_iload1 dX4_child_0 ?_
    refine jv_iconst dX4_child_1 jv_c_iconst_1 ?_
    refine jv_bipush dX4_child_2 jv_c_bipush_99 ?_
    refine jv_s31 dX4_child_4 okX4_within stX4_within mlX4_57 (oc_inC _ (a := 1) (b := 99) (by decide) (by decide)) (by decide) (Nat.le_of_ble_eq_true rfl) ?_
    refine jv_if_eqB dX4_child_7 (tgt := 20) (by decide) (fun g7 => ?_) (fun g7 => ?_)
    · refine jv_aload0 dX4_child_20 ?_
      refine jv_bipush dX4_child_21 jv_c_bipush_m2 ?_
      refine jv_v11 dX4_child_23 okX4_refuse inX4_refuse seX4_refuse mlX4_61 (ci := 4) (T := TX4) (N := 8) rfl (ck h.g) hC (by decide) (Nat.le_of_ble_eq_true rfl) ?_
      exact jv_iret dX4_child_26 rfl rfl rfl rfl rfl
    · refine jv_iload2 dX4_child_10 ?_
      refine jv_iconst dX4_child_11 jv_c_iconst_0 ?_
      refine jv_bipush dX4_child_12 jv_c_bipush_9 ?_
      refine jv_s31 dX4_child_14 okX4_within stX4_within mlX4_57 (oc_inC _ (a := 0) (b := 9) (by decide) (by decide)) (by decide) (Nat.le_of_ble_eq_true rfl) ?_
      refine jv_if_neB dX4_child_17 (tgt := 27) (by decide) (fun g17 => ?_) (fun g17 => ?_)
      · omega
      · refine jv_aload0 dX4_child_20 ?_
        refine jv_bipush dX4_child_21 jv_c_bipush_m2 ?_
        refine jv_v11 dX4_child_23 okX4_refuse inX4_refuse seX4_refuse mlX4_61 (ci := 4) (T := TX4) (N := 8) rfl (ck h.g) hC (by decide) (Nat.le_of_ble_eq_true rfl) ?_
        exact jv_iret dX4_child_26 rfl rfl rfl rfl rfl
set_option maxRecDepth 20000 in
theorem pm_child {G : jv_Gr} {I : jv_I} {J : jv_J} {Y Z : ot_Y} {E : ot_E} {K : Option ot_Y} (h : ot_M G I J Y Z E K) (s : Int32) (t : Int32) : ot_mm 8 mX5_child [.ref 64, .int s, .int t] G I J (ot_ans (ot_rc2 ((1 ≤ s.toInt ∧ s.toInt ≤ 99) ∧ (0 ≤ t.toInt ∧ t.toInt ≤ 9)) (Y 10 0 < 14) 6) (nI (Y 10 0))) (ot_pk (ot_rc2 ((1 ≤ s.toInt ∧ s.toInt ≤ 99) ∧ (0 ≤ t.toInt ∧ t.toInt ≤ 9)) (Y 10 0 < 14) 6) (ot_addChild Y (ot_n s) (ot_n t)) Y) (ot_zr Z (ot_rc2 ((1 ≤ s.toInt ∧ s.toInt ≤ 99) ∧ (0 ≤ t.toInt ∧ t.toInt ≤ 9)) (Y 10 0 < 14) 6)) E K := by
  have bn := yw_n h.w
  have bc := yw_c h.w
  have bw := yw_w h.w
  refine ot_rc2_split (motive := fun rc => ot_mm 8 mX5_child [.ref 64, .int s, .int t] G I J (ot_ans rc (nI (Y 10 0))) (ot_pk rc (ot_addChild Y (ot_n s) (ot_n t)) Y) (ot_zr Z rc) E K) (fun hv hw => ?_) (fun hv hw => ?_) (fun hv => ?_)
  · obtain ⟨x, hx, rfl⟩ := ot_of (n := 100) (show 0 ≤ s.toInt ∧ s.toInt < ((100 : Nat) : Int) by omega) (by decide)
    rw [ot_n_nI (show x < 2 ^ 30 by omega)]
    have ex := nI_toInt (show x < 2 ^ 31 by omega)
    obtain ⟨z, hz, rfl⟩ := ot_of (n := 10) (show 0 ≤ t.toInt ∧ t.toInt < ((10 : Nat) : Int) by omega) (by decide)
    rw [ot_n_nI (show z < 2 ^ 30 by omega)]
    have ez := nI_toInt (show z < 2 ^ 31 by omega)
    obtain ⟨I2, hA, hR2, hF⟩ := om_addChild (J := J) (s := x) (t := z) h.g h.r h.w hw
    refine ⟨G, I2, J, ?_, ot_M_yard h hR2 (ot_YW_addChild h.w hw (by omega) (by omega)) (ot_ZW_y h.z (Nat.le_refl _)) hF.mw, hF.mw.lo, ot_gx.rf⟩
    refine jv_enter okX5_child (L := [.ref 64, .int (nI x), .int (nI z)]) rfl (Nat.le_of_ble_eq_true rfl) ?_
    refine jv_iload1 dX5_child_0 ?_
    refine jv_i2l dX5_child_1 rfl ?_
    refine jv_lconst dX5_child_2 (v := lN 1) rfl ?_
    refine jv_ldc2 dX5_child_3 cnX5_125 ?_
    refine jv_s31 dX5_child_6 okX5_in stX5_in mlX5_83 (om_inC _ (a := 1) (b := 99) (by decide) (by decide)) (by decide) (Nat.le_of_ble_eq_true rfl) ?_
    refine jv_if_eqB dX5_child_9 (tgt := 24) (by decide) (fun hq9 => absurd (by omega) hq9) (fun hq9 => ?_)
    refine jv_iload2 dX5_child_12 ?_
    refine jv_i2l dX5_child_13 rfl ?_
    refine jv_lconst dX5_child_14 (v := lN 0) rfl ?_
    refine jv_ldc2 dX5_child_15 cnX5_127 ?_
    refine jv_s31 dX5_child_18 okX5_in stX5_in mlX5_83 (om_inC _ (a := 0) (b := 9) (by decide) (by decide)) (by decide) (Nat.le_of_ble_eq_true rfl) ?_
    refine jv_if_neB dX5_child_21 (tgt := 31) (by decide) (fun hq21 => ?_) (fun hq21 => absurd (by omega) hq21)
    refine jv_aload0 dX5_child_31 ?_
    refine jv_getI dX5_child_32 flX5_80 rfl (mk h.g) (mi_children h.r) ?_
    refine jv_bipush dX5_child_35 jv_c_bipush_14 ?_
    refine jv_icmp_neN dX5_child_37 (tgt := 47) (by decide) (by omega) (by omega) (fun hc37 => ?_) (fun hc37 => by omega)
    refine jv_aload0 dX5_child_47 ?_
    refine jv_iload1 dX5_child_48 ?_
    refine jv_iload2 dX5_child_49 ?_
    refine jv_v20 dX5_child_50 okX5_addChild inX5_addChild seX5_addChild mlX5_129 (ci := 5) (T := TX5) (N := 35) rfl (mk h.g) hA (by decide) (Nat.le_of_ble_eq_true rfl) ?_
    refine jv_aload0 dX5_child_53 ?_
    refine jv_getI dX5_child_54 flX5_80 rfl (mk h.g) ((mi_children hR2).trans (show _ = nI (Y 10 0 + 1) from rfl)) ?_
    refine jv_iconst dX5_child_57 jv_c_iconst_1 ?_
    refine jv_isubN dX5_child_58 (by omega) ?_
    exact jv_iret dX5_child_59 rfl rfl (by rw [Nat.add_sub_cancel]; rfl) rfl rfl
  · obtain ⟨I2, hC, h2, h3⟩ := om_refuse6 h
    refine ⟨G, I2, J, ?_, h2, h3, ot_gx.rf⟩
    refine jv_enter okX5_child (L := [.ref 64, .int s, .int t]) rfl (Nat.le_of_ble_eq_true rfl) ?_
    refine jv_iload1 dX5_child_0 ?_
    refine jv_i2l dX5_child_1 rfl ?_
    refine jv_lconst dX5_child_2 (v := lN 1) rfl ?_
    refine jv_ldc2 dX5_child_3 cnX5_125 ?_
    refine jv_s31 dX5_child_6 okX5_in stX5_in mlX5_83 (om_inC _ (a := 1) (b := 99) (by decide) (by decide)) (by decide) (Nat.le_of_ble_eq_true rfl) ?_
    refine jv_if_eqB dX5_child_9 (tgt := 24) (by decide) (fun hq9 => absurd (by omega) hq9) (fun hq9 => ?_)
    refine jv_iload2 dX5_child_12 ?_
    refine jv_i2l dX5_child_13 rfl ?_
    refine jv_lconst dX5_child_14 (v := lN 0) rfl ?_
    refine jv_ldc2 dX5_child_15 cnX5_127 ?_
    refine jv_s31 dX5_child_18 okX5_in stX5_in mlX5_83 (om_inC _ (a := 0) (b := 9) (by decide) (by decide)) (by decide) (Nat.le_of_ble_eq_true rfl) ?_
    refine jv_if_neB dX5_child_21 (tgt := 31) (by decide) (fun hq21 => ?_) (fun hq21 => absurd (by omega) hq21)
    refine jv_aload0 dX5_child_31 ?_
    refine jv_getI dX5_child_32 flX5_80 rfl (mk h.g) (mi_children h.r) ?_
    refine jv_bipush dX5_child_35 jv_c_bipush_14 ?_
    refine jv_icmp_neN dX5_child_37 (tgt := 47) (by decide) (by omega) (by omega) (fun hc37 => by omega) (fun hc37 => ?_)
    refine jv_aload0 dX5_child_40 ?_
    refine jv_bipush dX5_child_41 jv_c_bipush_m6 ?_
    refine jv_v11 dX5_child_43 okX5_refuse inX5_refuse seX5_refuse mlX5_104 (ci := 5) (T := TX5) (N := 35) rfl (mk h.g) hC (by decide) (Nat.le_of_ble_eq_true rfl) ?_
    exact jv_iret dX5_child_46 rfl rfl rfl rfl rfl
  · obtain ⟨I2, hC, h2, h3⟩ := om_refuse2 h
    refine ⟨G, I2, J, ?_, h2, h3, ot_gx.rf⟩
    refine jv_enter okX5_child (L := [.ref 64, .int s, .int t]) rfl (Nat.le_of_ble_eq_true rfl) ?_
    refine jv_iload1 dX5_child_0 ?_
    refine jv_i2l dX5_child_1 rfl ?_
    refine jv_lconst dX5_child_2 (v := lN 1) rfl ?_
    refine jv_ldc2 dX5_child_3 cnX5_125 ?_
    refine jv_s31 dX5_child_6 okX5_in stX5_in mlX5_83 (om_inC _ (a := 1) (b := 99) (by decide) (by decide)) (by decide) (Nat.le_of_ble_eq_true rfl) ?_
    refine jv_if_eqB dX5_child_9 (tgt := 24) (by decide) (fun g7 => ?_) (fun g7 => ?_)
    · refine jv_aload0 dX5_child_24 ?_
      refine jv_bipush dX5_child_25 jv_c_bipush_m2 ?_
      refine jv_v11 dX5_child_27 okX5_refuse inX5_refuse seX5_refuse mlX5_104 (ci := 5) (T := TX5) (N := 35) rfl (mk h.g) hC (by decide) (Nat.le_of_ble_eq_true rfl) ?_
      exact jv_iret dX5_child_30 rfl rfl rfl rfl rfl
    · refine jv_iload2 dX5_child_12 ?_
      refine jv_i2l dX5_child_13 rfl ?_
      refine jv_lconst dX5_child_14 (v := lN 0) rfl ?_
      refine jv_ldc2 dX5_child_15 cnX5_127 ?_
      refine jv_s31 dX5_child_18 okX5_in stX5_in mlX5_83 (om_inC _ (a := 0) (b := 9) (by decide) (by decide)) (by decide) (Nat.le_of_ble_eq_true rfl) ?_
      refine jv_if_neB dX5_child_21 (tgt := 31) (by decide) (fun g17 => ?_) (fun g17 => ?_)
      · omega
      · refine jv_aload0 dX5_child_24 ?_
        refine jv_bipush dX5_child_25 jv_c_bipush_m2 ?_
        refine jv_v11 dX5_child_27 okX5_refuse inX5_refuse seX5_refuse mlX5_104 (ci := 5) (T := TX5) (N := 35) rfl (mk h.g) hC (by decide) (Nat.le_of_ble_eq_true rfl) ?_
        exact jv_iret dX5_child_30 rfl rfl rfl rfl rfl
set_option maxRecDepth 20000 in
theorem pc_count {G : jv_Gr} {I : jv_I} {J : jv_J} {Y Z : ot_Y} {E : ot_E} {K : Option ot_Y} (h : ot_C G I J Y Z E K) (k : Int32) (s : Int32) (t : Int32) : ot_cc 8 mX4_count [.ref 1, .int k, .int s, .int t] G I J (ot_ans (ot_rc2 ((0 ≤ k.toInt ∧ k.toInt ≤ 5) ∧ (2 ≤ s.toInt ∧ s.toInt ≤ 5) ∧ (0 ≤ t.toInt ∧ t.toInt ≤ 13)) (Y 10 1 < 6) 6) (nI (Y 10 1))) (ot_pk (ot_rc2 ((0 ≤ k.toInt ∧ k.toInt ≤ 5) ∧ (2 ≤ s.toInt ∧ s.toInt ≤ 5) ∧ (0 ≤ t.toInt ∧ t.toInt ≤ 13)) (Y 10 1 < 6) 6) (ot_addCount Y (ot_n k) (ot_n s) (ot_n t)) Y) (ot_zr Z (ot_rc2 ((0 ≤ k.toInt ∧ k.toInt ≤ 5) ∧ (2 ≤ s.toInt ∧ s.toInt ≤ 5) ∧ (0 ≤ t.toInt ∧ t.toInt ≤ 13)) (Y 10 1 < 6) 6)) E K := by
  have bn := yw_n h.w
  have bc := yw_c h.w
  have bw := yw_w h.w
  refine ot_rc2_split (motive := fun rc => ot_cc 8 mX4_count [.ref 1, .int k, .int s, .int t] G I J (ot_ans rc (nI (Y 10 1))) (ot_pk rc (ot_addCount Y (ot_n k) (ot_n s) (ot_n t)) Y) (ot_zr Z rc) E K) (fun hv hw => ?_) (fun hv hw => ?_) (fun hv => ?_)
  · obtain ⟨u, hu, rfl⟩ := ot_of (n := 6) (show 0 ≤ k.toInt ∧ k.toInt < ((6 : Nat) : Int) by omega) (by decide)
    rw [ot_n_nI (show u < 2 ^ 30 by omega)]
    have eu := nI_toInt (show u < 2 ^ 31 by omega)
    obtain ⟨x, hx, rfl⟩ := ot_of (n := 6) (show 0 ≤ s.toInt ∧ s.toInt < ((6 : Nat) : Int) by omega) (by decide)
    rw [ot_n_nI (show x < 2 ^ 30 by omega)]
    have ex := nI_toInt (show x < 2 ^ 31 by omega)
    obtain ⟨z, hz, rfl⟩ := ot_of (n := 14) (show 0 ≤ t.toInt ∧ t.toInt < ((14 : Nat) : Int) by omega) (by decide)
    rw [ot_n_nI (show z < 2 ^ 30 by omega)]
    have ez := nI_toInt (show z < 2 ^ 31 by omega)
    obtain ⟨I2, hA, hR2, hF⟩ := ot_addCountM (J := J) (k := u) (nn := x) (a := z) (cg_now h.g) h.r h.w hw
    refine ⟨I2, J, ?_, ot_C_yard h hR2 (ot_YW_addCount h.w hw (by omega) (by omega) (by omega)) (ot_ZW_y h.z (show Y 10 1 ≤ Y 10 1 + 1 by omega)) hF, ot_hi.fr hF (by decide)⟩
    refine jv_enter okX4_count (L := [.ref 1, .int (nI u), .int (nI x), .int (nI z)]) rfl (Nat.le_of_ble_eq_true rfl) ?_
    refine jv_iload1 dX4_count_0 ?_
    refine jv_iconst dX4_count_1 jv_c_iconst_0 ?_
    refine jv_iconst dX4_count_2 jv_c_iconst_5 ?_
    refine jv_s31 dX4_count_3 okX4_within stX4_within mlX4_57 (oc_inC _ (a := 0) (b := 5) (by decide) (by decide)) (by decide) (Nat.le_of_ble_eq_true rfl) ?_
    refine jv_if_eqB dX4_count_6 (tgt := 28) (by decide) (fun hq6 => absurd (by omega) hq6) (fun hq6 => ?_)
    refine jv_iload2 dX4_count_9 ?_
    refine jv_iconst dX4_count_10 jv_c_iconst_2 ?_
    refine jv_iconst dX4_count_11 jv_c_iconst_5 ?_
    refine jv_s31 dX4_count_12 okX4_within stX4_within mlX4_57 (oc_inC _ (a := 2) (b := 5) (by decide) (by decide)) (by decide) (Nat.le_of_ble_eq_true rfl) ?_
    refine jv_if_eqB dX4_count_15 (tgt := 28) (by decide) (fun hq15 => absurd (by omega) hq15) (fun hq15 => ?_)
    refine jv_iload3 dX4_count_18 ?_
    refine jv_iconst dX4_count_19 jv_c_iconst_0 ?_
    refine jv_bipush dX4_count_20 jv_c_bipush_13 ?_
    refine jv_s31 dX4_count_22 okX4_within stX4_within mlX4_57 (oc_inC _ (a := 0) (b := 13) (by decide) (by decide)) (by decide) (Nat.le_of_ble_eq_true rfl) ?_
    refine jv_if_neB dX4_count_25 (tgt := 35) (by decide) (fun hq25 => ?_) (fun hq25 => absurd (by omega) hq25)
    refine jv_aload0 dX4_count_35 ?_
    refine jv_getR dX4_count_36 flX4_10 rfl (ck h.g) (cr_now h.g) ?_
    refine jv_getI dX4_count_39 flX4_134 rfl (yk (cg_now h.g)) (yi_counts h.r) ?_
    refine jv_bipush dX4_count_42 jv_c_bipush_6 ?_
    refine jv_icmp_ltN dX4_count_44 (tgt := 54) (by decide) (by omega) (by omega) (fun hc44 => ?_) (fun hc44 => by omega)
    refine jv_aload0 dX4_count_54 ?_
    refine jv_getR dX4_count_55 flX4_10 rfl (ck h.g) (cr_now h.g) ?_
    refine jv_iload1 dX4_count_58 ?_
    refine jv_iload2 dX4_count_59 ?_
    refine jv_iload3 dX4_count_60 ?_
    refine jv_v31 dX4_count_61 okX3_addCount inX3_addCount seX3_addCount mlX4_137 (ci := 3) (T := TX3) (N := 15) rfl (yk (cg_now h.g)) hA (by decide) (Nat.le_of_ble_eq_true rfl) ?_
    exact jv_iret dX4_count_64 rfl rfl rfl rfl rfl
  · obtain ⟨I2, hC, h2, h3⟩ := oc_refuse6 h
    refine ⟨I2, J, ?_, h2, h3⟩
    refine jv_enter okX4_count (L := [.ref 1, .int k, .int s, .int t]) rfl (Nat.le_of_ble_eq_true rfl) ?_
    refine jv_iload1 dX4_count_0 ?_
    refine jv_iconst dX4_count_1 jv_c_iconst_0 ?_
    refine jv_iconst dX4_count_2 jv_c_iconst_5 ?_
    refine jv_s31 dX4_count_3 okX4_within stX4_within mlX4_57 (oc_inC _ (a := 0) (b := 5) (by decide) (by decide)) (by decide) (Nat.le_of_ble_eq_true rfl) ?_
    refine jv_if_eqB dX4_count_6 (tgt := 28) (by decide) (fun hq6 => absurd (by omega) hq6) (fun hq6 => ?_)
    refine jv_iload2 dX4_count_9 ?_
    refine jv_iconst dX4_count_10 jv_c_iconst_2 ?_
    refine jv_iconst dX4_count_11 jv_c_iconst_5 ?_
    refine jv_s31 dX4_count_12 okX4_within stX4_within mlX4_57 (oc_inC _ (a := 2) (b := 5) (by decide) (by decide)) (by decide) (Nat.le_of_ble_eq_true rfl) ?_
    refine jv_if_eqB dX4_count_15 (tgt := 28) (by decide) (fun hq15 => absurd (by omega) hq15) (fun hq15 => ?_)
    refine jv_iload3 dX4_count_18 ?_
    refine jv_iconst dX4_count_19 jv_c_iconst_0 ?_
    refine jv_bipush dX4_count_20 jv_c_bipush_13 ?_
    refine jv_s31 dX4_count_22 okX4_within stX4_within mlX4_57 (oc_inC _ (a := 0) (b := 13) (by decide) (by decide)) (by decide) (Nat.le_of_ble_eq_true rfl) ?_
    refine jv_if_neB dX4_count_25 (tgt := 35) (by decide) (fun hq25 => ?_) (fun hq25 => absurd (by omega) hq25)
    refine jv_aload0 dX4_count_35 ?_
    refine jv_getR dX4_count_36 flX4_10 rfl (ck h.g) (cr_now h.g) ?_
    refine jv_getI dX4_count_39 flX4_134 rfl (yk (cg_now h.g)) (yi_counts h.r) ?_
    refine jv_bipush dX4_count_42 jv_c_bipush_6 ?_
    refine jv_icmp_ltN dX4_count_44 (tgt := 54) (by decide) (by omega) (by omega) (fun hc44 => by omega) (fun hc44 => ?_)
    refine jv_aload0 dX4_count_47 ?_
    refine jv_bipush dX4_count_48 jv_c_bipush_m6 ?_
    refine jv_v11 dX4_count_50 okX4_refuse inX4_refuse seX4_refuse mlX4_61 (ci := 4) (T := TX4) (N := 8) rfl (ck h.g) hC (by decide) (Nat.le_of_ble_eq_true rfl) ?_
    exact jv_iret dX4_count_53 rfl rfl rfl rfl rfl
  · obtain ⟨I2, hC, h2, h3⟩ := oc_refuse2 h
    refine ⟨I2, J, ?_, h2, h3⟩
    refine jv_enter okX4_count (L := [.ref 1, .int k, .int s, .int t]) rfl (Nat.le_of_ble_eq_true rfl) ?_
    refine jv_iload1 dX4_count_0 ?_
    refine jv_iconst dX4_count_1 jv_c_iconst_0 ?_
    refine jv_iconst dX4_count_2 jv_c_iconst_5 ?_
    refine jv_s31 dX4_count_3 okX4_within stX4_within mlX4_57 (oc_inC _ (a := 0) (b := 5) (by decide) (by decide)) (by decide) (Nat.le_of_ble_eq_true rfl) ?_
    refine jv_if_eqB dX4_count_6 (tgt := 28) (by decide) (fun g6 => ?_) (fun g6 => ?_)
    · refine jv_aload0 dX4_count_28 ?_
      refine jv_bipush dX4_count_29 jv_c_bipush_m2 ?_
      refine jv_v11 dX4_count_31 okX4_refuse inX4_refuse seX4_refuse mlX4_61 (ci := 4) (T := TX4) (N := 8) rfl (ck h.g) hC (by decide) (Nat.le_of_ble_eq_true rfl) ?_
      exact jv_iret dX4_count_34 rfl rfl rfl rfl rfl
    · refine jv_iload2 dX4_count_9 ?_
      refine jv_iconst dX4_count_10 jv_c_iconst_2 ?_
      refine jv_iconst dX4_count_11 jv_c_iconst_5 ?_
      refine jv_s31 dX4_count_12 okX4_within stX4_within mlX4_57 (oc_inC _ (a := 2) (b := 5) (by decide) (by decide)) (by decide) (Nat.le_of_ble_eq_true rfl) ?_
      refine jv_if_eqB dX4_count_15 (tgt := 28) (by decide) (fun g15 => ?_) (fun g15 => ?_)
      · refine jv_aload0 dX4_count_28 ?_
        refine jv_bipush dX4_count_29 jv_c_bipush_m2 ?_
        refine jv_v11 dX4_count_31 okX4_refuse inX4_refuse seX4_refuse mlX4_61 (ci := 4) (T := TX4) (N := 8) rfl (ck h.g) hC (by decide) (Nat.le_of_ble_eq_true rfl) ?_
        exact jv_iret dX4_count_34 rfl rfl rfl rfl rfl
      · refine jv_iload3 dX4_count_18 ?_
        refine jv_iconst dX4_count_19 jv_c_iconst_0 ?_
        refine jv_bipush dX4_count_20 jv_c_bipush_13 ?_
        refine jv_s31 dX4_count_22 okX4_within stX4_within mlX4_57 (oc_inC _ (a := 0) (b := 13) (by decide) (by decide)) (by decide) (Nat.le_of_ble_eq_true rfl) ?_
        refine jv_if_neB dX4_count_25 (tgt := 35) (by decide) (fun g25 => ?_) (fun g25 => ?_)
        · omega
        · refine jv_aload0 dX4_count_28 ?_
          refine jv_bipush dX4_count_29 jv_c_bipush_m2 ?_
          refine jv_v11 dX4_count_31 okX4_refuse inX4_refuse seX4_refuse mlX4_61 (ci := 4) (T := TX4) (N := 8) rfl (ck h.g) hC (by decide) (Nat.le_of_ble_eq_true rfl) ?_
          exact jv_iret dX4_count_34 rfl rfl rfl rfl rfl
set_option maxRecDepth 20000 in
theorem pm_count {G : jv_Gr} {I : jv_I} {J : jv_J} {Y Z : ot_Y} {E : ot_E} {K : Option ot_Y} (h : ot_M G I J Y Z E K) (k : Int32) (s : Int32) (t : Int32) : ot_mm 8 mX5_count [.ref 64, .int k, .int s, .int t] G I J (ot_ans (ot_rc2 ((0 ≤ k.toInt ∧ k.toInt ≤ 5) ∧ (2 ≤ s.toInt ∧ s.toInt ≤ 5) ∧ (0 ≤ t.toInt ∧ t.toInt ≤ 13)) (Y 10 1 < 6) 6) (nI (Y 10 1))) (ot_pk (ot_rc2 ((0 ≤ k.toInt ∧ k.toInt ≤ 5) ∧ (2 ≤ s.toInt ∧ s.toInt ≤ 5) ∧ (0 ≤ t.toInt ∧ t.toInt ≤ 13)) (Y 10 1 < 6) 6) (ot_addCount Y (ot_n k) (ot_n s) (ot_n t)) Y) (ot_zr Z (ot_rc2 ((0 ≤ k.toInt ∧ k.toInt ≤ 5) ∧ (2 ≤ s.toInt ∧ s.toInt ≤ 5) ∧ (0 ≤ t.toInt ∧ t.toInt ≤ 13)) (Y 10 1 < 6) 6)) E K := by
  have bn := yw_n h.w
  have bc := yw_c h.w
  have bw := yw_w h.w
  refine ot_rc2_split (motive := fun rc => ot_mm 8 mX5_count [.ref 64, .int k, .int s, .int t] G I J (ot_ans rc (nI (Y 10 1))) (ot_pk rc (ot_addCount Y (ot_n k) (ot_n s) (ot_n t)) Y) (ot_zr Z rc) E K) (fun hv hw => ?_) (fun hv hw => ?_) (fun hv => ?_)
  · obtain ⟨u, hu, rfl⟩ := ot_of (n := 6) (show 0 ≤ k.toInt ∧ k.toInt < ((6 : Nat) : Int) by omega) (by decide)
    rw [ot_n_nI (show u < 2 ^ 30 by omega)]
    have eu := nI_toInt (show u < 2 ^ 31 by omega)
    obtain ⟨x, hx, rfl⟩ := ot_of (n := 6) (show 0 ≤ s.toInt ∧ s.toInt < ((6 : Nat) : Int) by omega) (by decide)
    rw [ot_n_nI (show x < 2 ^ 30 by omega)]
    have ex := nI_toInt (show x < 2 ^ 31 by omega)
    obtain ⟨z, hz, rfl⟩ := ot_of (n := 14) (show 0 ≤ t.toInt ∧ t.toInt < ((14 : Nat) : Int) by omega) (by decide)
    rw [ot_n_nI (show z < 2 ^ 30 by omega)]
    have ez := nI_toInt (show z < 2 ^ 31 by omega)
    obtain ⟨I2, hA, hR2, hF⟩ := om_addCount (J := J) (k := u) (nn := x) (a := z) h.g h.r h.w hw
    refine ⟨G, I2, J, ?_, ot_M_yard h hR2 (ot_YW_addCount h.w hw (by omega) (by omega) (by omega)) (ot_ZW_y h.z (show Y 10 1 ≤ Y 10 1 + 1 by omega)) hF.mw, hF.mw.lo, ot_gx.rf⟩
    refine jv_enter okX5_count (L := [.ref 64, .int (nI u), .int (nI x), .int (nI z)]) rfl (Nat.le_of_ble_eq_true rfl) ?_
    refine jv_iload1 dX5_count_0 ?_
    refine jv_i2l dX5_count_1 rfl ?_
    refine jv_lconst dX5_count_2 (v := lN 0) rfl ?_
    refine jv_ldc2 dX5_count_3 cnX5_115 ?_
    refine jv_s31 dX5_count_6 okX5_in stX5_in mlX5_83 (om_inC _ (a := 0) (b := 5) (by decide) (by decide)) (by decide) (Nat.le_of_ble_eq_true rfl) ?_
    refine jv_if_eqB dX5_count_9 (tgt := 38) (by decide) (fun hq9 => absurd (by omega) hq9) (fun hq9 => ?_)
    refine jv_iload2 dX5_count_12 ?_
    refine jv_i2l dX5_count_13 rfl ?_
    refine jv_ldc2 dX5_count_14 cnX5_133 ?_
    refine jv_ldc2 dX5_count_17 cnX5_115 ?_
    refine jv_s31 dX5_count_20 okX5_in stX5_in mlX5_83 (om_inC _ (a := 2) (b := 5) (by decide) (by decide)) (by decide) (Nat.le_of_ble_eq_true rfl) ?_
    refine jv_if_eqB dX5_count_23 (tgt := 38) (by decide) (fun hq23 => absurd (by omega) hq23) (fun hq23 => ?_)
    refine jv_iload3 dX5_count_26 ?_
    refine jv_i2l dX5_count_27 rfl ?_
    refine jv_lconst dX5_count_28 (v := lN 0) rfl ?_
    refine jv_ldc2 dX5_count_29 cnX5_135 ?_
    refine jv_s31 dX5_count_32 okX5_in stX5_in mlX5_83 (om_inC _ (a := 0) (b := 13) (by decide) (by decide)) (by decide) (Nat.le_of_ble_eq_true rfl) ?_
    refine jv_if_neB dX5_count_35 (tgt := 45) (by decide) (fun hq35 => ?_) (fun hq35 => absurd (by omega) hq35)
    refine jv_aload0 dX5_count_45 ?_
    refine jv_getI dX5_count_46 flX5_91 rfl (mk h.g) (mi_counts h.r) ?_
    refine jv_bipush dX5_count_49 jv_c_bipush_6 ?_
    refine jv_icmp_neN dX5_count_51 (tgt := 61) (by decide) (by omega) (by omega) (fun hc51 => ?_) (fun hc51 => by omega)
    refine jv_aload0 dX5_count_61 ?_
    refine jv_iload1 dX5_count_62 ?_
    refine jv_iload2 dX5_count_63 ?_
    refine jv_iload3 dX5_count_64 ?_
    refine jv_v30 dX5_count_65 okX5_addCount inX5_addCount seX5_addCount mlX5_137 (ci := 5) (T := TX5) (N := 35) rfl (mk h.g) hA (by decide) (Nat.le_of_ble_eq_true rfl) ?_
    refine jv_aload0 dX5_count_68 ?_
    refine jv_getI dX5_count_69 flX5_91 rfl (mk h.g) ((mi_counts hR2).trans (show _ = nI (Y 10 1 + 1) from rfl)) ?_
    refine jv_iconst dX5_count_72 jv_c_iconst_1 ?_
    refine jv_isubN dX5_count_73 (by omega) ?_
    exact jv_iret dX5_count_74 rfl rfl (by rw [Nat.add_sub_cancel]; rfl) rfl rfl
  · obtain ⟨I2, hC, h2, h3⟩ := om_refuse6 h
    refine ⟨G, I2, J, ?_, h2, h3, ot_gx.rf⟩
    refine jv_enter okX5_count (L := [.ref 64, .int k, .int s, .int t]) rfl (Nat.le_of_ble_eq_true rfl) ?_
    refine jv_iload1 dX5_count_0 ?_
    refine jv_i2l dX5_count_1 rfl ?_
    refine jv_lconst dX5_count_2 (v := lN 0) rfl ?_
    refine jv_ldc2 dX5_count_3 cnX5_115 ?_
    refine jv_s31 dX5_count_6 okX5_in stX5_in mlX5_83 (om_inC _ (a := 0) (b := 5) (by decide) (by decide)) (by decide) (Nat.le_of_ble_eq_true rfl) ?_
    refine jv_if_eqB dX5_count_9 (tgt := 38) (by decide) (fun hq9 => absurd (by omega) hq9) (fun hq9 => ?_)
    refine jv_iload2 dX5_count_12 ?_
    refine jv_i2l dX5_count_13 rfl ?_
    refine jv_ldc2 dX5_count_14 cnX5_133 ?_
    refine jv_ldc2 dX5_count_17 cnX5_115 ?_
    refine jv_s31 dX5_count_20 okX5_in stX5_in mlX5_83 (om_inC _ (a := 2) (b := 5) (by decide) (by decide)) (by decide) (Nat.le_of_ble_eq_true rfl) ?_
    refine jv_if_eqB dX5_count_23 (tgt := 38) (by decide) (fun hq23 => absurd (by omega) hq23) (fun hq23 => ?_)
    refine jv_iload3 dX5_count_26 ?_
    refine jv_i2l dX5_count_27 rfl ?_
    refine jv_lconst dX5_count_28 (v := lN 0) rfl ?_
    refine jv_ldc2 dX5_count_29 cnX5_135 ?_
    refine jv_s31 dX5_count_32 okX5_in stX5_in mlX5_83 (om_inC _ (a := 0) (b := 13) (by decide) (by decide)) (by decide) (Nat.le_of_ble_eq_true rfl) ?_
    refine jv_if_neB dX5_count_35 (tgt := 45) (by decide) (fun hq35 => ?_) (fun hq35 => absurd (by omega) hq35)
    refine jv_aload0 dX5_count_45 ?_
    refine jv_getI dX5_count_46 flX5_91 rfl (mk h.g) (mi_counts h.r) ?_
    refine jv_bipush dX5_count_49 jv_c_bipush_6 ?_
    refine jv_icmp_neN dX5_count_51 (tgt := 61) (by decide) (by omega) (by omega) (fun hc51 => by omega) (fun hc51 => ?_)
    refine jv_aload0 dX5_count_54 ?_
    refine jv_bipush dX5_count_55 jv_c_bipush_m6 ?_
    refine jv_v11 dX5_count_57 okX5_refuse inX5_refuse seX5_refuse mlX5_104 (ci := 5) (T := TX5) (N := 35) rfl (mk h.g) hC (by decide) (Nat.le_of_ble_eq_true rfl) ?_
    exact jv_iret dX5_count_60 rfl rfl rfl rfl rfl
  · obtain ⟨I2, hC, h2, h3⟩ := om_refuse2 h
    refine ⟨G, I2, J, ?_, h2, h3, ot_gx.rf⟩
    refine jv_enter okX5_count (L := [.ref 64, .int k, .int s, .int t]) rfl (Nat.le_of_ble_eq_true rfl) ?_
    refine jv_iload1 dX5_count_0 ?_
    refine jv_i2l dX5_count_1 rfl ?_
    refine jv_lconst dX5_count_2 (v := lN 0) rfl ?_
    refine jv_ldc2 dX5_count_3 cnX5_115 ?_
    refine jv_s31 dX5_count_6 okX5_in stX5_in mlX5_83 (om_inC _ (a := 0) (b := 5) (by decide) (by decide)) (by decide) (Nat.le_of_ble_eq_true rfl) ?_
    refine jv_if_eqB dX5_count_9 (tgt := 38) (by decide) (fun g6 => ?_) (fun g6 => ?_)
    · refine jv_aload0 dX5_count_38 ?_
      refine jv_bipush dX5_count_39 jv_c_bipush_m2 ?_
      refine jv_v11 dX5_count_41 okX5_refuse inX5_refuse seX5_refuse mlX5_104 (ci := 5) (T := TX5) (N := 35) rfl (mk h.g) hC (by decide) (Nat.le_of_ble_eq_true rfl) ?_
      exact jv_iret dX5_count_44 rfl rfl rfl rfl rfl
    · refine jv_iload2 dX5_count_12 ?_
      refine jv_i2l dX5_count_13 rfl ?_
      refine jv_ldc2 dX5_count_14 cnX5_133 ?_
      refine jv_ldc2 dX5_count_17 cnX5_115 ?_
      refine jv_s31 dX5_count_20 okX5_in stX5_in mlX5_83 (om_inC _ (a := 2) (b := 5) (by decide) (by decide)) (by decide) (Nat.le_of_ble_eq_true rfl) ?_
      refine jv_if_eqB dX5_count_23 (tgt := 38) (by decide) (fun g15 => ?_) (fun g15 => ?_)
      · refine jv_aload0 dX5_count_38 ?_
        refine jv_bipush dX5_count_39 jv_c_bipush_m2 ?_
        refine jv_v11 dX5_count_41 okX5_refuse inX5_refuse seX5_refuse mlX5_104 (ci := 5) (T := TX5) (N := 35) rfl (mk h.g) hC (by decide) (Nat.le_of_ble_eq_true rfl) ?_
        exact jv_iret dX5_count_44 rfl rfl rfl rfl rfl
      · refine jv_iload3 dX5_count_26 ?_
        refine jv_i2l dX5_count_27 rfl ?_
        refine jv_lconst dX5_count_28 (v := lN 0) rfl ?_
        refine jv_ldc2 dX5_count_29 cnX5_135 ?_
        refine jv_s31 dX5_count_32 okX5_in stX5_in mlX5_83 (om_inC _ (a := 0) (b := 13) (by decide) (by decide)) (by decide) (Nat.le_of_ble_eq_true rfl) ?_
        refine jv_if_neB dX5_count_35 (tgt := 45) (by decide) (fun g25 => ?_) (fun g25 => ?_)
        · omega
        · refine jv_aload0 dX5_count_38 ?_
          refine jv_bipush dX5_count_39 jv_c_bipush_m2 ?_
          refine jv_v11 dX5_count_41 okX5_refuse inX5_refuse seX5_refuse mlX5_104 (ci := 5) (T := TX5) (N := 35) rfl (mk h.g) hC (by decide) (Nat.le_of_ble_eq_true rfl) ?_
          exact jv_iret dX5_count_44 rfl rfl rfl rfl rfl
set_option maxRecDepth 20000 in
theorem pc_wish {G : jv_Gr} {I : jv_I} {J : jv_J} {Y Z : ot_Y} {E : ot_E} {K : Option ot_Y} (h : ot_C G I J Y Z E K) (a b t : Int32) (g : Prop) [Decidable g] : ot_cc 8 mX4_wish [.ref 1, .int a, .int b, .int (jv_b g), .int t] G I J (ot_ans (ot_rc2 (((0 ≤ a.toInt ∧ a.toInt < Y 10 0) ∧ (0 ≤ b.toInt ∧ b.toInt < Y 10 0) ∧ a ≠ b) ∧ (1 ≤ t.toInt ∧ t.toInt ≤ 99)) (Y 10 2 < 20) 6) (nI (Y 10 2 + 1))) (ot_pk (ot_rc2 (((0 ≤ a.toInt ∧ a.toInt < Y 10 0) ∧ (0 ≤ b.toInt ∧ b.toInt < Y 10 0) ∧ a ≠ b) ∧ (1 ≤ t.toInt ∧ t.toInt ≤ 99)) (Y 10 2 < 20) 6) (ot_addWish Y (ot_n a) (ot_n b) (if g then 1 else 0) (ot_n t)) Y) (ot_zr Z (ot_rc2 (((0 ≤ a.toInt ∧ a.toInt < Y 10 0) ∧ (0 ≤ b.toInt ∧ b.toInt < Y 10 0) ∧ a ≠ b) ∧ (1 ≤ t.toInt ∧ t.toInt ≤ 99)) (Y 10 2 < 20) 6)) E K := by
  have bn := yw_n h.w
  have bc := yw_c h.w
  have bw := yw_w h.w
  refine ot_rc2_split (motive := fun rc => ot_cc 8 mX4_wish [.ref 1, .int a, .int b, .int (jv_b g), .int t] G I J (ot_ans rc (nI (Y 10 2 + 1))) (ot_pk rc (ot_addWish Y (ot_n a) (ot_n b) (if g then 1 else 0) (ot_n t)) Y) (ot_zr Z rc) E K) (fun hv hw => ?_) (fun hv hw => ?_) (fun hv => ?_)
  · obtain ⟨x, hx, rfl⟩ := ot_of hv.1.1 (by omega)
    rw [ot_n_nI (show x < 2 ^ 30 by omega)]
    obtain ⟨z, hz, rfl⟩ := ot_of hv.1.2.1 (by omega)
    rw [ot_n_nI (show z < 2 ^ 30 by omega)]
    have hxz : x ≠ z := fun e => hv.1.2.2 (by rw [e])
    obtain ⟨u, hu, rfl⟩ := ot_of (n := 100) (show 0 ≤ t.toInt ∧ t.toInt < ((100 : Nat) : Int) by omega) (by decide)
    rw [ot_n_nI (show u < 2 ^ 30 by omega)]
    have eu := nI_toInt (show u < 2 ^ 31 by omega)
    obtain ⟨I2, hA, hR2, hF⟩ := ot_addWishM (J := J) (a := x) (b := z) (w := u) (cg_now h.g) h.r h.w g hw
    refine ⟨I2, J, ?_, ot_C_yard h hR2 (ot_YW_addWish h.w hw hx hz hxz (by split <;> decide) (by omega)) (ot_ZW_y h.z (Nat.le_refl _)) hF, ot_hi.fr hF (by decide)⟩
    refine jv_enter okX4_wish (L := [.ref 1, .int (nI x), .int (nI z), .int (jv_b g), .int (nI u)]) rfl (Nat.le_of_ble_eq_true rfl) ?_
    refine jv_aload0 dX4_wish_0 ?_
    refine jv_iload1 dX4_wish_1 ?_
    refine jv_iload2 dX4_wish_2 ?_
    refine jv_v21 dX4_wish_3 okX4_areTwo inX4_areTwo seX4_areTwo mlX4_141 (ci := 4) (T := TX4) (N := 8) rfl (ck h.g) (oc_areTwo h _ _) (by decide) (Nat.le_of_ble_eq_true rfl) ?_
    refine jv_if_eqB dX4_wish_6 (tgt := 20) (by decide) (fun hq6 => absurd hv.1 hq6) (fun hq6 => ?_)
    refine jv_iload4 dX4_wish_9 ?_
    refine jv_iconst dX4_wish_11 jv_c_iconst_1 ?_
    refine jv_bipush dX4_wish_12 jv_c_bipush_99 ?_
    refine jv_s31 dX4_wish_14 okX4_within stX4_within mlX4_57 (oc_inC _ (a := 1) (b := 99) (by decide) (by decide)) (by decide) (Nat.le_of_ble_eq_true rfl) ?_
    refine jv_if_neB dX4_wish_17 (tgt := 27) (by decide) (fun hq17 => ?_) (fun hq17 => absurd (by omega) hq17)
    refine jv_aload0 dX4_wish_27 ?_
    refine jv_getR dX4_wish_28 flX4_10 rfl (ck h.g) (cr_now h.g) ?_
    refine jv_getI dX4_wish_31 flX4_144 rfl (yk (cg_now h.g)) (yi_wishes h.r) ?_
    refine jv_bipush dX4_wish_34 jv_c_bipush_20 ?_
    refine jv_icmp_ltN dX4_wish_36 (tgt := 46) (by decide) (by omega) (by omega) (fun hc36 => ?_) (fun hc36 => by omega)
    refine jv_aload0 dX4_wish_46 ?_
    refine jv_getR dX4_wish_47 flX4_10 rfl (ck h.g) (cr_now h.g) ?_
    refine jv_iload1 dX4_wish_50 ?_
    refine jv_iload2 dX4_wish_51 ?_
    refine jv_iload3 dX4_wish_52 ?_
    refine jv_iload4 dX4_wish_53 ?_
    refine jv_v41 dX4_wish_55 okX3_addWish inX3_addWish seX3_addWish mlX4_147 (ci := 3) (T := TX3) (N := 15) rfl (yk (cg_now h.g)) hA (by decide) (Nat.le_of_ble_eq_true rfl) ?_
    exact jv_iret dX4_wish_58 rfl rfl rfl rfl rfl
  · obtain ⟨I2, hC, h2, h3⟩ := oc_refuse6 h
    refine ⟨I2, J, ?_, h2, h3⟩
    refine jv_enter okX4_wish (L := [.ref 1, .int a, .int b, .int (jv_b g), .int t]) rfl (Nat.le_of_ble_eq_true rfl) ?_
    refine jv_aload0 dX4_wish_0 ?_
    refine jv_iload1 dX4_wish_1 ?_
    refine jv_iload2 dX4_wish_2 ?_
    refine jv_v21 dX4_wish_3 okX4_areTwo inX4_areTwo seX4_areTwo mlX4_141 (ci := 4) (T := TX4) (N := 8) rfl (ck h.g) (oc_areTwo h _ _) (by decide) (Nat.le_of_ble_eq_true rfl) ?_
    refine jv_if_eqB dX4_wish_6 (tgt := 20) (by decide) (fun hq6 => absurd hv.1 hq6) (fun hq6 => ?_)
    refine jv_iload4 dX4_wish_9 ?_
    refine jv_iconst dX4_wish_11 jv_c_iconst_1 ?_
    refine jv_bipush dX4_wish_12 jv_c_bipush_99 ?_
    refine jv_s31 dX4_wish_14 okX4_within stX4_within mlX4_57 (oc_inC _ (a := 1) (b := 99) (by decide) (by decide)) (by decide) (Nat.le_of_ble_eq_true rfl) ?_
    refine jv_if_neB dX4_wish_17 (tgt := 27) (by decide) (fun hq17 => ?_) (fun hq17 => absurd (by omega) hq17)
    refine jv_aload0 dX4_wish_27 ?_
    refine jv_getR dX4_wish_28 flX4_10 rfl (ck h.g) (cr_now h.g) ?_
    refine jv_getI dX4_wish_31 flX4_144 rfl (yk (cg_now h.g)) (yi_wishes h.r) ?_
    refine jv_bipush dX4_wish_34 jv_c_bipush_20 ?_
    refine jv_icmp_ltN dX4_wish_36 (tgt := 46) (by decide) (by omega) (by omega) (fun hc36 => by omega) (fun hc36 => ?_)
    refine jv_aload0 dX4_wish_39 ?_
    refine jv_bipush dX4_wish_40 jv_c_bipush_m6 ?_
    refine jv_v11 dX4_wish_42 okX4_refuse inX4_refuse seX4_refuse mlX4_61 (ci := 4) (T := TX4) (N := 8) rfl (ck h.g) hC (by decide) (Nat.le_of_ble_eq_true rfl) ?_
    exact jv_iret dX4_wish_45 rfl rfl rfl rfl rfl
  · obtain ⟨I2, hC, h2, h3⟩ := oc_refuse2 h
    refine ⟨I2, J, ?_, h2, h3⟩
    refine jv_enter okX4_wish (L := [.ref 1, .int a, .int b, .int (jv_b g), .int t]) rfl (Nat.le_of_ble_eq_true rfl) ?_
    refine jv_aload0 dX4_wish_0 ?_
    refine jv_iload1 dX4_wish_1 ?_
    refine jv_iload2 dX4_wish_2 ?_
    refine jv_v21 dX4_wish_3 okX4_areTwo inX4_areTwo seX4_areTwo mlX4_141 (ci := 4) (T := TX4) (N := 8) rfl (ck h.g) (oc_areTwo h _ _) (by decide) (Nat.le_of_ble_eq_true rfl) ?_
    refine jv_if_eqB dX4_wish_6 (tgt := 20) (by decide) (fun g6 => ?_) (fun g6 => ?_)
    · refine jv_aload0 dX4_wish_20 ?_
      refine jv_bipush dX4_wish_21 jv_c_bipush_m2 ?_
      refine jv_v11 dX4_wish_23 okX4_refuse inX4_refuse seX4_refuse mlX4_61 (ci := 4) (T := TX4) (N := 8) rfl (ck h.g) hC (by decide) (Nat.le_of_ble_eq_true rfl) ?_
      exact jv_iret dX4_wish_26 rfl rfl rfl rfl rfl
    · refine jv_iload4 dX4_wish_9 ?_
      refine jv_iconst dX4_wish_11 jv_c_iconst_1 ?_
      refine jv_bipush dX4_wish_12 jv_c_bipush_99 ?_
      refine jv_s31 dX4_wish_14 okX4_within stX4_within mlX4_57 (oc_inC _ (a := 1) (b := 99) (by decide) (by decide)) (by decide) (Nat.le_of_ble_eq_true rfl) ?_
      refine jv_if_neB dX4_wish_17 (tgt := 27) (by decide) (fun g17 => ?_) (fun g17 => ?_)
      · exact absurd ⟨g6, by omega⟩ hv
      · refine jv_aload0 dX4_wish_20 ?_
        refine jv_bipush dX4_wish_21 jv_c_bipush_m2 ?_
        refine jv_v11 dX4_wish_23 okX4_refuse inX4_refuse seX4_refuse mlX4_61 (ci := 4) (T := TX4) (N := 8) rfl (ck h.g) hC (by decide) (Nat.le_of_ble_eq_true rfl) ?_
        exact jv_iret dX4_wish_26 rfl rfl rfl rfl rfl
set_option maxRecDepth 20000 in
theorem pm_wish {G : jv_Gr} {I : jv_I} {J : jv_J} {Y Z : ot_Y} {E : ot_E} {K : Option ot_Y} (h : ot_M G I J Y Z E K) (a b t : Int32) (g : Prop) [Decidable g] : ot_mm 8 mX5_wish [.ref 64, .int a, .int b, .int (jv_b g), .int t] G I J (ot_ans (ot_rc2 (((0 ≤ a.toInt ∧ a.toInt < Y 10 0) ∧ (0 ≤ b.toInt ∧ b.toInt < Y 10 0) ∧ a ≠ b) ∧ (1 ≤ t.toInt ∧ t.toInt ≤ 99)) (Y 10 2 < 20) 6) (nI (Y 10 2 + 1))) (ot_pk (ot_rc2 (((0 ≤ a.toInt ∧ a.toInt < Y 10 0) ∧ (0 ≤ b.toInt ∧ b.toInt < Y 10 0) ∧ a ≠ b) ∧ (1 ≤ t.toInt ∧ t.toInt ≤ 99)) (Y 10 2 < 20) 6) (ot_addWish Y (ot_n a) (ot_n b) (if g then 1 else 0) (ot_n t)) Y) (ot_zr Z (ot_rc2 (((0 ≤ a.toInt ∧ a.toInt < Y 10 0) ∧ (0 ≤ b.toInt ∧ b.toInt < Y 10 0) ∧ a ≠ b) ∧ (1 ≤ t.toInt ∧ t.toInt ≤ 99)) (Y 10 2 < 20) 6)) E K := by
  have bn := yw_n h.w
  have bc := yw_c h.w
  have bw := yw_w h.w
  refine ot_rc2_split (motive := fun rc => ot_mm 8 mX5_wish [.ref 64, .int a, .int b, .int (jv_b g), .int t] G I J (ot_ans rc (nI (Y 10 2 + 1))) (ot_pk rc (ot_addWish Y (ot_n a) (ot_n b) (if g then 1 else 0) (ot_n t)) Y) (ot_zr Z rc) E K) (fun hv hw => ?_) (fun hv hw => ?_) (fun hv => ?_)
  · obtain ⟨x, hx, rfl⟩ := ot_of hv.1.1 (by omega)
    rw [ot_n_nI (show x < 2 ^ 30 by omega)]
    obtain ⟨z, hz, rfl⟩ := ot_of hv.1.2.1 (by omega)
    rw [ot_n_nI (show z < 2 ^ 30 by omega)]
    have hxz : x ≠ z := fun e => hv.1.2.2 (by rw [e])
    obtain ⟨u, hu, rfl⟩ := ot_of (n := 100) (show 0 ≤ t.toInt ∧ t.toInt < ((100 : Nat) : Int) by omega) (by decide)
    rw [ot_n_nI (show u < 2 ^ 30 by omega)]
    have eu := nI_toInt (show u < 2 ^ 31 by omega)
    obtain ⟨I2, hA, hR2, hF⟩ := om_addWish (J := J) (a := x) (b := z) (g := if g then 1 else 0) (w := u) h.g h.r h.w hw
    refine ⟨G, I2, J, ?_, ot_M_yard h hR2 (ot_YW_addWish h.w hw hx hz hxz (by split <;> decide) (by omega)) (ot_ZW_y h.z (Nat.le_refl _)) hF.mw, hF.mw.lo, ot_gx.rf⟩
    refine jv_enter okX5_wish (L := [.ref 64, .int (nI x), .int (nI z), .int (jv_b g), .int (nI u)]) rfl (Nat.le_of_ble_eq_true rfl) ?_
    refine jv_aload0 dX5_wish_0 ?_
    refine jv_iload1 dX5_wish_1 ?_
    refine jv_i2l dX5_wish_2 rfl ?_
    refine jv_iload2 dX5_wish_3 ?_
    refine jv_i2l dX5_wish_4 rfl ?_
    refine jv_v21 dX5_wish_5 okX5_areTwo inX5_areTwo seX5_areTwo mlX5_144 (ci := 5) (T := TX5) (N := 35) rfl (mk h.g) (om_areTwoI h.g h.r h.w _ _) (by decide) (Nat.le_of_ble_eq_true rfl) ?_
    refine jv_if_eqB dX5_wish_8 (tgt := 24) (by decide) (fun hq6 => absurd hv.1 hq6) (fun hq6 => ?_)
    refine jv_iload4 dX5_wish_11 ?_
    refine jv_i2l dX5_wish_13 rfl ?_
    refine jv_lconst dX5_wish_14 (v := lN 1) rfl ?_
    refine jv_ldc2 dX5_wish_15 cnX5_125 ?_
    refine jv_s31 dX5_wish_18 okX5_in stX5_in mlX5_83 (om_inC _ (a := 1) (b := 99) (by decide) (by decide)) (by decide) (Nat.le_of_ble_eq_true rfl) ?_
    refine jv_if_neB dX5_wish_21 (tgt := 31) (by decide) (fun hq21 => ?_) (fun hq21 => absurd (by omega) hq21)
    refine jv_aload0 dX5_wish_31 ?_
    refine jv_getI dX5_wish_32 flX5_141 rfl (mk h.g) (mi_wishes h.r) ?_
    refine jv_bipush dX5_wish_35 jv_c_bipush_20 ?_
    refine jv_icmp_neN dX5_wish_37 (tgt := 47) (by decide) (by omega) (by omega) (fun hc37 => ?_) (fun hc37 => by omega)
    refine jv_aload0 dX5_wish_47 ?_
    refine jv_iload1 dX5_wish_48 ?_
    refine jv_iload2 dX5_wish_49 ?_
    refine jv_iload3 dX5_wish_50 ?_
    refine jv_if_eqB dX5_wish_51 (tgt := 58) (by decide) (fun h51 => ?_) (fun h51 => ?_)
    · rw [if_neg h51] at hA
      refine jv_iconst dX5_wish_58 jv_c_iconst_0 ?_
      refine jv_iload4 dX5_wish_59 ?_
      refine jv_v40 dX5_wish_61 okX5_addWish inX5_addWish seX5_addWish mlX5_148 (ci := 5) (T := TX5) (N := 35) rfl (mk h.g) hA (by decide) (Nat.le_of_ble_eq_true rfl) ?_
      refine jv_aload0 dX5_wish_64 ?_
      refine jv_getI dX5_wish_65 flX5_141 rfl (mk h.g) ((mi_wishes hR2).trans (show _ = nI (Y 10 2 + 1) from rfl)) ?_
      exact jv_iret dX5_wish_68 rfl rfl rfl rfl rfl
    · rw [if_pos h51] at hA
      refine jv_iconst dX5_wish_54 jv_c_iconst_1 ?_
      refine jv_goto dX5_wish_55 (tgt := 59) (by decide) ?_
      refine jv_iload4 dX5_wish_59 ?_
      refine jv_v40 dX5_wish_61 okX5_addWish inX5_addWish seX5_addWish mlX5_148 (ci := 5) (T := TX5) (N := 35) rfl (mk h.g) hA (by decide) (Nat.le_of_ble_eq_true rfl) ?_
      refine jv_aload0 dX5_wish_64 ?_
      refine jv_getI dX5_wish_65 flX5_141 rfl (mk h.g) ((mi_wishes hR2).trans (show _ = nI (Y 10 2 + 1) from rfl)) ?_
      exact jv_iret dX5_wish_68 rfl rfl rfl rfl rfl
  · obtain ⟨I2, hC, h2, h3⟩ := om_refuse6 h
    refine ⟨G, I2, J, ?_, h2, h3, ot_gx.rf⟩
    refine jv_enter okX5_wish (L := [.ref 64, .int a, .int b, .int (jv_b g), .int t]) rfl (Nat.le_of_ble_eq_true rfl) ?_
    refine jv_aload0 dX5_wish_0 ?_
    refine jv_iload1 dX5_wish_1 ?_
    refine jv_i2l dX5_wish_2 rfl ?_
    refine jv_iload2 dX5_wish_3 ?_
    refine jv_i2l dX5_wish_4 rfl ?_
    refine jv_v21 dX5_wish_5 okX5_areTwo inX5_areTwo seX5_areTwo mlX5_144 (ci := 5) (T := TX5) (N := 35) rfl (mk h.g) (om_areTwoI h.g h.r h.w _ _) (by decide) (Nat.le_of_ble_eq_true rfl) ?_
    refine jv_if_eqB dX5_wish_8 (tgt := 24) (by decide) (fun hq6 => absurd hv.1 hq6) (fun hq6 => ?_)
    refine jv_iload4 dX5_wish_11 ?_
    refine jv_i2l dX5_wish_13 rfl ?_
    refine jv_lconst dX5_wish_14 (v := lN 1) rfl ?_
    refine jv_ldc2 dX5_wish_15 cnX5_125 ?_
    refine jv_s31 dX5_wish_18 okX5_in stX5_in mlX5_83 (om_inC _ (a := 1) (b := 99) (by decide) (by decide)) (by decide) (Nat.le_of_ble_eq_true rfl) ?_
    refine jv_if_neB dX5_wish_21 (tgt := 31) (by decide) (fun hq21 => ?_) (fun hq21 => absurd (by omega) hq21)
    refine jv_aload0 dX5_wish_31 ?_
    refine jv_getI dX5_wish_32 flX5_141 rfl (mk h.g) (mi_wishes h.r) ?_
    refine jv_bipush dX5_wish_35 jv_c_bipush_20 ?_
    refine jv_icmp_neN dX5_wish_37 (tgt := 47) (by decide) (by omega) (by omega) (fun hc37 => by omega) (fun hc37 => ?_)
    refine jv_aload0 dX5_wish_40 ?_
    refine jv_bipush dX5_wish_41 jv_c_bipush_m6 ?_
    refine jv_v11 dX5_wish_43 okX5_refuse inX5_refuse seX5_refuse mlX5_104 (ci := 5) (T := TX5) (N := 35) rfl (mk h.g) hC (by decide) (Nat.le_of_ble_eq_true rfl) ?_
    exact jv_iret dX5_wish_46 rfl rfl rfl rfl rfl
  · obtain ⟨I2, hC, h2, h3⟩ := om_refuse2 h
    refine ⟨G, I2, J, ?_, h2, h3, ot_gx.rf⟩
    refine jv_enter okX5_wish (L := [.ref 64, .int a, .int b, .int (jv_b g), .int t]) rfl (Nat.le_of_ble_eq_true rfl) ?_
    refine jv_aload0 dX5_wish_0 ?_
    refine jv_iload1 dX5_wish_1 ?_
    refine jv_i2l dX5_wish_2 rfl ?_
    refine jv_iload2 dX5_wish_3 ?_
    refine jv_i2l dX5_wish_4 rfl ?_
    refine jv_v21 dX5_wish_5 okX5_areTwo inX5_areTwo seX5_areTwo mlX5_144 (ci := 5) (T := TX5) (N := 35) rfl (mk h.g) (om_areTwoI h.g h.r h.w _ _) (by decide) (Nat.le_of_ble_eq_true rfl) ?_
    refine jv_if_eqB dX5_wish_8 (tgt := 24) (by decide) (fun g6 => ?_) (fun g6 => ?_)
    · refine jv_aload0 dX5_wish_24 ?_
      refine jv_bipush dX5_wish_25 jv_c_bipush_m2 ?_
      refine jv_v11 dX5_wish_27 okX5_refuse inX5_refuse seX5_refuse mlX5_104 (ci := 5) (T := TX5) (N := 35) rfl (mk h.g) hC (by decide) (Nat.le_of_ble_eq_true rfl) ?_
      exact jv_iret dX5_wish_30 rfl rfl rfl rfl rfl
    · refine jv_iload4 dX5_wish_11 ?_
      refine jv_i2l dX5_wish_13 rfl ?_
      refine jv_lconst dX5_wish_14 (v := lN 1) rfl ?_
      refine jv_ldc2 dX5_wish_15 cnX5_125 ?_
      refine jv_s31 dX5_wish_18 okX5_in stX5_in mlX5_83 (om_inC _ (a := 1) (b := 99) (by decide) (by decide)) (by decide) (Nat.le_of_ble_eq_true rfl) ?_
      refine jv_if_neB dX5_wish_21 (tgt := 31) (by decide) (fun g17 => ?_) (fun g17 => ?_)
      · exact absurd ⟨g6, by omega⟩ hv
      · refine jv_aload0 dX5_wish_24 ?_
        refine jv_bipush dX5_wish_25 jv_c_bipush_m2 ?_
        refine jv_v11 dX5_wish_27 okX5_refuse inX5_refuse seX5_refuse mlX5_104 (ci := 5) (T := TX5) (N := 35) rfl (mk h.g) hC (by decide) (Nat.le_of_ble_eq_true rfl) ?_
        exact jv_iret dX5_wish_30 rfl rfl rfl rfl rfl
