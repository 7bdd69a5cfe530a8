/-! ===== the face: group 19 (out, outAt, stays) ===== -/
theorem ot_coR_r (k n : Nat) (r : Nat → Nat) : ∀ j p, ∃ q, ot_coR k n r j p = r q
  | 0, p => ⟨p, rfl⟩
  | j + 1, p => by
    show ∃ q, (if ot_coX k n (j + 1) ≤ p ∧ p + 1 < n - j then ot_coR k n r j (p + 1) else ot_coR k n r j p) = r q
    split
    · exact ot_coR_r k n r j (p + 1)
    · exact ot_coR_r k n r j p
def ot_out (Y : ot_Y) (k j : Nat) : Nat := ot_co k (Y 10 0) (ot_at Y) j
theorem ot_out_le (Y : ot_Y) (k j : Nat) : ot_out Y k j ≤ Y 10 0 := by
  obtain ⟨q, e⟩ := ot_coR_r k (Y 10 0) (ot_at Y) j (ot_coX k (Y 10 0) (j + 1))
  unfold ot_out ot_co
  rw [e]; exact ot_fst_le _ _
def ot_outAt (Y : ot_Y) (k c : Nat) : Nat := ot_fst (fun i => decide (ot_out Y k i = c)) (Y 10 0)
theorem ot_out_ex {Y : ot_Y} (hW : ot_YW Y) {c : Nat} (hc : c < Y 10 0) (k : Nat) : ∃ i, i < Y 10 0 ∧ ot_out Y k i = c := ot_co_ex ⟨Y 2 c, (yw_child hW hc).2.2.2, ot_at_eq hW hc⟩
def ot_stF (Y : ot_Y) (c : Nat) : Nat := ot_fst (fun x => decide (ot_out Y (x + 1) (Y 10 0 - 1) = c)) 20
def ot_stays (Y : ot_Y) (c : Nat) : Int32 := if ot_stF Y c = 20 then -1 else nI (ot_stF Y c + 1)
theorem ot_ans_0 (v : Int32) : ot_ans 0 v = v := if_pos rfl
section OTO
variable {G : jv_Gr} {I I2 : jv_I} {J : jv_J} {Y Z : ot_Y} {E : ot_E} {K : Option ot_Y}
theorem ot_C_out (h : ot_C G I J Y Z E K) (hf : ∀ q, q ≠ 42 → q ≠ 43 → I2 q = I q) : ot_C G I2 J Y Z E K := ot_C_scratch h (fun q q1 q2 => hf q (by omega) (by omega)) (by rw [hf 44 (by decide) (by decide)])
theorem ot_M_out (h : ot_M G I J Y Z E K) (hF : ∀ q, q ≠ 64 + 28 → q ≠ 64 + 29 → I2 q = I q) : ot_M G I2 J Y Z E K := by
  refine ot_M_yard h ?_ h.w h.z ⟨fun q q1 q2 => hF q (by omega) (by omega), by rw [hF 64 (by decide) (by decide)]⟩
  obtain ⟨r1, r2, r3, r4⟩ := h.r
  unfold ot_MR
  rw [hF 64 (by decide) (by decide), hF (64 + 17) (by decide) (by decide), hF (64 + 18) (by decide) (by decide), hF (64 + 19) (by decide) (by decide), hF (64 + 20) (by decide) (by decide), hF (64 + 21) (by decide) (by decide), hF (64 + 22) (by decide) (by decide), hF (64 + 23) (by decide) (by decide), hF (64 + 24) (by decide) (by decide), hF (64 + 25) (by decide) (by decide), hF (64 + 26) (by decide) (by decide)]
  exact ⟨r1, r2, r3, r4⟩
end OTO
set_option maxRecDepth 20000 in
theorem pc_out {G : jv_Gr} {I : jv_I} {J : jv_J} {Y Z : ot_Y} {E : ot_E} {K : Option ot_Y} (h : ot_C G I J Y Z E K) (k : Int32) (c : Int32) : ot_cc 8 mX4_out [.ref 1, .int k, .int c] G I J (ot_ans (ot_rc ((1 ≤ k.toInt ∧ k.toInt ≤ 20) ∧ (0 ≤ c.toInt ∧ c.toInt < Y 10 0))) (nI (ot_out Y (ot_n k) (ot_n c)))) Y (ot_zr Z (ot_rc ((1 ≤ k.toInt ∧ k.toInt ≤ 20) ∧ (0 ≤ c.toInt ∧ c.toInt < Y 10 0)))) E K := by
  have bn := yw_n h.w
  have bc := yw_c h.w
  have bw := yw_w h.w
  refine ot_rc_split (motive := fun rc => ot_cc 8 mX4_out [.ref 1, .int k, .int c] G I J (ot_ans rc (nI (ot_out Y (ot_n k) (ot_n c)))) Y (ot_zr Z rc) E K) (fun hv => ?_) (fun hv => ?_)
  · obtain ⟨x, hx, rfl⟩ := ot_of (n := 21) (show 0 ≤ k.toInt ∧ k.toInt < ((21 : Nat) : Int) by omega) (by decide)
    rw [ot_n_nI (show x < 2 ^ 30 by omega)]
    have ex := nI_toInt (show x < 2 ^ 31 by omega)
    obtain ⟨z, hz, rfl⟩ := ot_of hv.2 (by omega)
    rw [ot_n_nI (show z < 2 ^ 30 by omega)]
    obtain ⟨I2, hA, hO, hF⟩ := oc_countOut h (k := x) (by omega) (by omega)
    refine ⟨I2, J, ?_, ot_C_out h hF, fun q hq => ⟨hF q (by omega) (by omega), rfl⟩⟩
    refine jv_enter okX4_out (L := [.ref 1, .int (nI x), .int (nI z)]) rfl (Nat.le_of_ble_eq_true rfl) ?_
    refine jv_iload1 dX4_out_0 ?_
    refine jv_iconst dX4_out_1 jv_c_iconst_1 ?_
    refine jv_bipush dX4_out_2 jv_c_bipush_20 ?_
    refine jv_s31 dX4_out_4 okX4_within stX4_within mlX4_57 (oc_inC _ (a := 1) (b := 20) (by decide) (by decide)) (by decide) (Nat.le_of_ble_eq_true rfl) ?_
    refine jv_if_eqB dX4_out_7 (tgt := 21) (by decide) (fun hq7 => absurd (by omega) hq7) (fun hq7 => ?_)
    refine jv_aload0 dX4_out_10 ?_
    refine jv_getR dX4_out_11 flX4_10 rfl (ck h.g) (cr_now h.g) ?_
    refine jv_iload2 dX4_out_14 ?_
    refine jv_v11 dX4_out_15 okX3_hasPlace inX3_hasPlace seX3_hasPlace mlX4_202 (ci := 3) (T := TX3) (N := 15) rfl (yk (cg_now h.g)) (ot_hasPlace (cg_now h.g) h.r h.w _) (by decide) (Nat.le_of_ble_eq_true rfl) ?_
    refine jv_if_neB dX4_out_18 (tgt := 28) (by decide) (fun hq18 => ?_) (fun hq18 => absurd hv.2 hq18)
    refine jv_aload0 dX4_out_28 ?_
    refine jv_getR dX4_out_29 flX4_27 rfl (ck h.g) (cr_finder h.g) ?_
    refine jv_iload1 dX4_out_32 ?_
    refine jv_v10 dX4_out_33 okX0_countOut inX0_countOut seX0_countOut mlX4_259 (ci := 0) (T := TX0) (N := 6) rfl (fk h.g) hA (by decide) (Nat.le_of_ble_eq_true rfl) ?_
    refine jv_aload0 dX4_out_36 ?_
    refine jv_getR dX4_out_37 flX4_27 rfl (ck h.g) (cr_finder h.g) ?_
    refine jv_getR dX4_out_40 flX4_262 rfl (fk h.g) (fr_leaving h.g) ?_
    refine jv_iload2 dX4_out_43 ?_
    refine jv_ialdN dX4_out_44 (fk_leaving h.g) (by omega) (by decide) (hO _ (by omega)) ?_
    exact jv_iret dX4_out_45 rfl rfl rfl rfl rfl
  · obtain ⟨I2, hC, h2, h3⟩ := oc_refuse2 h
    refine ⟨I2, J, ?_, h2, h3⟩
    refine jv_enter okX4_out (L := [.ref 1, .int k, .int c]) rfl (Nat.le_of_ble_eq_true rfl) ?_
    refine jv_iload1 dX4_out_0 ?_
    refine jv_iconst dX4_out_1 jv_c_iconst_1 ?_
    refine jv_bipush dX4_out_2 jv_c_bipush_20 ?_
    refine jv_s31 dX4_out_4 okX4_within stX4_within mlX4_57 (oc_inC _ (a := 1) (b := 20) (by decide) (by decide)) (by decide) (Nat.le_of_ble_eq_true rfl) ?_
    refine jv_if_eqB dX4_out_7 (tgt := 21) (by decide) (fun g7 => ?_) (fun g7 => ?_)
    · refine jv_aload0 dX4_out_21 ?_
      refine jv_bipush dX4_out_22 jv_c_bipush_m2 ?_
      refine jv_v11 dX4_out_24 okX4_refuse inX4_refuse seX4_refuse mlX4_61 (ci := 4) (T := TX4) (N := 8) rfl (ck h.g) hC (by decide) (Nat.le_of_ble_eq_true rfl) ?_
      exact jv_iret dX4_out_27 rfl rfl rfl rfl rfl
    · refine jv_aload0 dX4_out_10 ?_
      refine jv_getR dX4_out_11 flX4_10 rfl (ck h.g) (cr_now h.g) ?_
      refine jv_iload2 dX4_out_14 ?_
      refine jv_v11 dX4_out_15 okX3_hasPlace inX3_hasPlace seX3_hasPlace mlX4_202 (ci := 3) (T := TX3) (N := 15) rfl (yk (cg_now h.g)) (ot_hasPlace (cg_now h.g) h.r h.w _) (by decide) (Nat.le_of_ble_eq_true rfl) ?_
      refine jv_if_neB dX4_out_18 (tgt := 28) (by decide) (fun g18 => ?_) (fun g18 => ?_)
      · exact absurd ⟨by omega, g18⟩ hv
      · refine jv_aload0 dX4_out_21 ?_
        refine jv_bipush dX4_out_22 jv_c_bipush_m2 ?_
        refine jv_v11 dX4_out_24 okX4_refuse inX4_refuse seX4_refuse mlX4_61 (ci := 4) (T := TX4) (N := 8) rfl (ck h.g) hC (by decide) (Nat.le_of_ble_eq_true rfl) ?_
        exact jv_iret dX4_out_27 rfl rfl rfl rfl rfl
set_option maxRecDepth 20000 in
theorem pm_out {G : jv_Gr} {I : jv_I} {J : jv_J} {Y Z : ot_Y} {E : ot_E} {K : Option ot_Y} (h : ot_M G I J Y Z E K) (k : Int32) (c : Int32) : ot_mm 8 mX5_out [.ref 64, .int k, .int c] G I J (ot_ans (ot_rc ((1 ≤ k.toInt ∧ k.toInt ≤ 20) ∧ (0 ≤ c.toInt ∧ c.toInt < Y 10 0))) (nI (ot_out Y (ot_n k) (ot_n c)))) Y (ot_zr Z (ot_rc ((1 ≤ k.toInt ∧ k.toInt ≤ 20) ∧ (0 ≤ c.toInt ∧ c.toInt < Y 10 0)))) E K := by
  have bn := yw_n h.w
  have bc := yw_c h.w
  have bw := yw_w h.w
  refine ot_rc_split (motive := fun rc => ot_mm 8 mX5_out [.ref 64, .int k, .int c] G I J (ot_ans rc (nI (ot_out Y (ot_n k) (ot_n c)))) Y (ot_zr Z rc) E K) (fun hv => ?_) (fun hv => ?_)
  · obtain ⟨x, hx, rfl⟩ := ot_of (n := 21) (show 0 ≤ k.toInt ∧ k.toInt < ((21 : Nat) : Int) by omega) (by decide)
    rw [ot_n_nI (show x < 2 ^ 30 by omega)]
    have ex := nI_toInt (show x < 2 ^ 31 by omega)
    obtain ⟨z, hz, rfl⟩ := ot_of hv.2 (by omega)
    rw [ot_n_nI (show z < 2 ^ 30 by omega)]
    obtain ⟨I2, hA, hO, hF⟩ := om_findOut h (k := x) (by omega) (by omega)
    refine ⟨G, I2, J, ?_, ot_M_out h hF, fun q hq => ⟨hF q (by omega) (by omega), rfl⟩, ot_gx.rf⟩
    refine jv_enter okX5_out (L := [.ref 64, .int (nI x), .int (nI z)]) rfl (Nat.le_of_ble_eq_true rfl) ?_
    refine jv_iload1 dX5_out_0 ?_
    refine jv_i2l dX5_out_1 rfl ?_
    refine jv_lconst dX5_out_2 (v := lN 1) rfl ?_
    refine jv_ldc2 dX5_out_3 cnX5_307 ?_
    refine jv_s31 dX5_out_6 okX5_in stX5_in mlX5_83 (om_inC _ (a := 1) (b := 20) (by decide) (by decide)) (by decide) (Nat.le_of_ble_eq_true rfl) ?_
    refine jv_if_eqB dX5_out_9 (tgt := 21) (by decide) (fun hq7 => absurd (by omega) hq7) (fun hq7 => ?_)
    refine jv_aload0 dX5_out_12 ?_
    refine jv_iload2 dX5_out_13 ?_
    refine jv_i2l dX5_out_14 rfl ?_
    refine jv_v11 dX5_out_15 okX5_isChild inX5_isChild seX5_isChild mlX5_87 (ci := 5) (T := TX5) (N := 35) rfl (mk h.g) (om_isChildI h.g h.r h.w _) (by decide) (Nat.le_of_ble_eq_true rfl) ?_
    refine jv_if_neB dX5_out_18 (tgt := 28) (by decide) (fun hq18 => ?_) (fun hq18 => absurd hv.2 hq18)
    refine jv_aload0 dX5_out_28 ?_
    refine jv_iload1 dX5_out_29 ?_
    refine jv_v10 dX5_out_30 okX5_findOut inX5_findOut seX5_findOut mlX5_309 (ci := 5) (T := TX5) (N := 35) rfl (mk h.g) hA (by decide) (Nat.le_of_ble_eq_true rfl) ?_
    refine jv_aload0 dX5_out_33 ?_
    refine jv_getR dX5_out_34 flX5_77 rfl (mk h.g) (mr_outs h.g) ?_
    refine jv_iload2 dX5_out_37 ?_
    refine jv_ialdN dX5_out_38 (mk_outs h.g) (by omega) (by decide) (hO _ (by omega)) ?_
    exact jv_iret dX5_out_39 rfl rfl rfl rfl rfl
  · obtain ⟨I2, hC, h2, h3⟩ := om_refuse2 h
    refine ⟨G, I2, J, ?_, h2, h3, ot_gx.rf⟩
    refine jv_enter okX5_out (L := [.ref 64, .int k, .int c]) rfl (Nat.le_of_ble_eq_true rfl) ?_
    refine jv_iload1 dX5_out_0 ?_
    refine jv_i2l dX5_out_1 rfl ?_
    refine jv_lconst dX5_out_2 (v := lN 1) rfl ?_
    refine jv_ldc2 dX5_out_3 cnX5_307 ?_
    refine jv_s31 dX5_out_6 okX5_in stX5_in mlX5_83 (om_inC _ (a := 1) (b := 20) (by decide) (by decide)) (by decide) (Nat.le_of_ble_eq_true rfl) ?_
    refine jv_if_eqB dX5_out_9 (tgt := 21) (by decide) (fun g7 => ?_) (fun g7 => ?_)
    · refine jv_aload0 dX5_out_21 ?_
      refine jv_bipush dX5_out_22 jv_c_bipush_m2 ?_
      refine jv_v11 dX5_out_24 okX5_refuse inX5_refuse seX5_refuse mlX5_104 (ci := 5) (T := TX5) (N := 35) rfl (mk h.g) hC (by decide) (Nat.le_of_ble_eq_true rfl) ?_
      exact jv_iret dX5_out_27 rfl rfl rfl rfl rfl
    · refine jv_aload0 dX5_out_12 ?_
      refine jv_iload2 dX5_out_13 ?_
      refine jv_i2l dX5_out_14 rfl ?_
      refine jv_v11 dX5_out_15 okX5_isChild inX5_isChild seX5_isChild mlX5_87 (ci := 5) (T := TX5) (N := 35) rfl (mk h.g) (om_isChildI h.g h.r h.w _) (by decide) (Nat.le_of_ble_eq_true rfl) ?_
      refine jv_if_neB dX5_out_18 (tgt := 28) (by decide) (fun g18 => ?_) (fun g18 => ?_)
      · exact absurd ⟨by omega, g18⟩ hv
      · refine jv_aload0 dX5_out_21 ?_
        refine jv_bipush dX5_out_22 jv_c_bipush_m2 ?_
        refine jv_v11 dX5_out_24 okX5_refuse inX5_refuse seX5_refuse mlX5_104 (ci := 5) (T := TX5) (N := 35) rfl (mk h.g) hC (by decide) (Nat.le_of_ble_eq_true rfl) ?_
        exact jv_iret dX5_out_27 rfl rfl rfl rfl rfl
set_option maxRecDepth 20000 in
theorem pc_outAt {G : jv_Gr} {I : jv_I} {J : jv_J} {Y Z : ot_Y} {E : ot_E} {K : Option ot_Y} (h : ot_C G I J Y Z E K) (k : Int32) (c : Int32) : ot_cc 8 mX4_outAt [.ref 1, .int k, .int c] G I J (ot_ans (ot_rc ((1 ≤ k.toInt ∧ k.toInt ≤ 20) ∧ (0 ≤ c.toInt ∧ c.toInt < Y 10 0))) (nI (ot_outAt Y (ot_n k) (ot_n c)))) Y (ot_zr Z (ot_rc ((1 ≤ k.toInt ∧ k.toInt ≤ 20) ∧ (0 ≤ c.toInt ∧ c.toInt < Y 10 0)))) E K := by
  have bn := yw_n h.w
  have bc := yw_c h.w
  have bw := yw_w h.w
  refine ot_rc_split (motive := fun rc => ot_cc 8 mX4_outAt [.ref 1, .int k, .int c] G I J (ot_ans rc (nI (ot_outAt Y (ot_n k) (ot_n c)))) Y (ot_zr Z rc) E K) (fun hv => ?_) (fun hv => ?_)
  · obtain ⟨x, hx, rfl⟩ := ot_of (n := 21) (show 0 ≤ k.toInt ∧ k.toInt < ((21 : Nat) : Int) by omega) (by decide)
    rw [ot_n_nI (show x < 2 ^ 30 by omega)]
    have ex := nI_toInt (show x < 2 ^ 31 by omega)
    obtain ⟨z, hz, rfl⟩ := ot_of hv.2 (by omega)
    rw [ot_n_nI (show z < 2 ^ 30 by omega)]
    obtain ⟨I2, hA, hO, hF⟩ := oc_countOut h (k := x) (by omega) (by omega)
    refine ⟨I2, J, ?_, ot_C_out h hF, fun q hq => ⟨hF q (by omega) (by omega), rfl⟩⟩
    refine jv_enter okX4_outAt (L := [.ref 1, .int (nI x), .int (nI z), .null]) rfl (Nat.le_of_ble_eq_true rfl) ?_
    have loop : ∀ (n i : Nat) , Y 10 0 + 1 ≤ i + n → i ≤ Y 10 0 → (∀ j, j < i → ot_out Y x j ≠ z) → jv_V 8 mX4_outAt 38 [.ref 1, .int (nI x), .int (nI z), .int (nI i)] [] G I2 J (some (.int (nI (ot_outAt Y x z)))) G I2 J := by
      intro n
      induction n with
      | zero => intro i  h1 h2; omega
      | succ n ih =>
        intro i  h1 h2 hno
        refine jv_iload3 dX4_outAt_38 ?_
        refine jv_aload0 dX4_outAt_39 ?_
        refine jv_getR dX4_outAt_40 flX4_10 rfl (ck h.g) (cr_now h.g) ?_
        refine jv_getI dX4_outAt_43 flX4_128 rfl (yk (cg_now h.g)) ((congrFun (hF 2 (by decide) (by decide)) 0).trans h.r.1.1) ?_
        refine jv_icmp_geN dX4_outAt_46 (tgt := 70) (by decide) (by omega) (by omega) (fun h46 => ?_) (fun h46 => ?_)
        · obtain ⟨j, j1, j2⟩ := ot_out_ex h.w hz x
          exact absurd j2 (hno j (by omega))
        · refine jv_aload0 dX4_outAt_49 ?_
          refine jv_getR dX4_outAt_50 flX4_27 rfl (ck h.g) (cr_finder h.g) ?_
          refine jv_getR dX4_outAt_53 flX4_262 rfl (fk h.g) (fr_leaving h.g) ?_
          refine jv_iload3 dX4_outAt_56 ?_
          refine jv_ialdN dX4_outAt_57 (fk_leaving h.g) (by omega) (by decide) (hO _ (by omega)) ?_
          refine jv_iload2 dX4_outAt_58 ?_
          have hle := ot_out_le Y x i
          refine jv_icmp_neN dX4_outAt_59 (tgt := 64) (by decide) (show ot_out Y x i < 2 ^ 31 by omega) (by omega) (fun h59 => ?_) (fun h59 => ?_)
          · refine jv_iinc3N dX4_outAt_64 rfl ?_
            refine jv_goto dX4_outAt_67 (tgt := 38) (by decide) ?_
            exact ih (i + 1) (by omega) (by omega) (fun j hj => by
              by_cases e : j = i
              · rw [e]; exact h59
              · exact hno j (by omega))
          · refine jv_iload3 dX4_outAt_62 ?_
            exact jv_iret dX4_outAt_63 rfl rfl (by unfold ot_outAt; rw [ot_fst_some _ (show i < Y 10 0 by omega) (decide_eq_true h59) (fun j hj => decide_eq_false (hno j hj))]) rfl rfl
    refine jv_iload1 dX4_outAt_0 ?_
    refine jv_iconst dX4_outAt_1 jv_c_iconst_1 ?_
    refine jv_bipush dX4_outAt_2 jv_c_bipush_20 ?_
    refine jv_s31 dX4_outAt_4 okX4_within stX4_within mlX4_57 (oc_inC _ (a := 1) (b := 20) (by decide) (by decide)) (by decide) (Nat.le_of_ble_eq_true rfl) ?_
    refine jv_if_eqB dX4_outAt_7 (tgt := 21) (by decide) (fun hq7 => absurd (by omega) hq7) (fun hq7 => ?_)
    refine jv_aload0 dX4_outAt_10 ?_
    refine jv_getR dX4_outAt_11 flX4_10 rfl (ck h.g) (cr_now h.g) ?_
    refine jv_iload2 dX4_outAt_14 ?_
    refine jv_v11 dX4_outAt_15 okX3_hasChild inX3_hasChild seX3_hasChild mlX4_166 (ci := 3) (T := TX3) (N := 15) rfl (yk (cg_now h.g)) (ot_hasChild (cg_now h.g) h.r h.w _) (by decide) (Nat.le_of_ble_eq_true rfl) ?_
    refine jv_if_neB dX4_outAt_18 (tgt := 28) (by decide) (fun hq18 => ?_) (fun hq18 => absurd hv.2 hq18)
    refine jv_aload0 dX4_outAt_28 ?_
    refine jv_getR dX4_outAt_29 flX4_27 rfl (ck h.g) (cr_finder h.g) ?_
    refine jv_iload1 dX4_outAt_32 ?_
    refine jv_v10 dX4_outAt_33 okX0_countOut inX0_countOut seX0_countOut mlX4_259 (ci := 0) (T := TX0) (N := 6) rfl (fk h.g) hA (by decide) (Nat.le_of_ble_eq_true rfl) ?_
    refine jv_iconst dX4_outAt_36 jv_c_iconst_0 ?_
    refine jv_istore3 dX4_outAt_37 rfl ?_
    exact loop (Y 10 0 + 1) 0 (by omega) (by omega) (fun j hj => by omega)
  · obtain ⟨I2, hC, h2, h3⟩ := oc_refuse2 h
    refine ⟨I2, J, ?_, h2, h3⟩
    refine jv_enter okX4_outAt (L := [.ref 1, .int k, .int c, .null]) rfl (Nat.le_of_ble_eq_true rfl) ?_
    refine jv_iload1 dX4_outAt_0 ?_
    refine jv_iconst dX4_outAt_1 jv_c_iconst_1 ?_
    refine jv_bipush dX4_outAt_2 jv_c_bipush_20 ?_
    refine jv_s31 dX4_outAt_4 okX4_within stX4_within mlX4_57 (oc_inC _ (a := 1) (b := 20) (by decide) (by decide)) (by decide) (Nat.le_of_ble_eq_true rfl) ?_
    refine jv_if_eqB dX4_outAt_7 (tgt := 21) (by decide) (fun g7 => ?_) (fun g7 => ?_)
    · refine jv_aload0 dX4_outAt_21 ?_
      refine jv_bipush dX4_outAt_22 jv_c_bipush_m2 ?_
      refine jv_v11 dX4_outAt_24 okX4_refuse inX4_refuse seX4_refuse mlX4_61 (ci := 4) (T := TX4) (N := 8) rfl (ck h.g) hC (by decide) (Nat.le_of_ble_eq_true rfl) ?_
      exact jv_iret dX4_outAt_27 rfl rfl rfl rfl rfl
    · refine jv_aload0 dX4_outAt_10 ?_
      refine jv_getR dX4_outAt_11 flX4_10 rfl (ck h.g) (cr_now h.g) ?_
      refine jv_iload2 dX4_outAt_14 ?_
      refine jv_v11 dX4_outAt_15 okX3_hasChild inX3_hasChild seX3_hasChild mlX4_166 (ci := 3) (T := TX3) (N := 15) rfl (yk (cg_now h.g)) (ot_hasChild (cg_now h.g) h.r h.w _) (by decide) (Nat.le_of_ble_eq_true rfl) ?_
      refine jv_if_neB dX4_outAt_18 (tgt := 28) (by decide) (fun g18 => ?_) (fun g18 => ?_)
      · exact absurd ⟨by omega, g18⟩ hv
      · refine jv_aload0 dX4_outAt_21 ?_
        refine jv_bipush dX4_outAt_22 jv_c_bipush_m2 ?_
        refine jv_v11 dX4_outAt_24 okX4_refuse inX4_refuse seX4_refuse mlX4_61 (ci := 4) (T := TX4) (N := 8) rfl (ck h.g) hC (by decide) (Nat.le_of_ble_eq_true rfl) ?_
        exact jv_iret dX4_outAt_27 rfl rfl rfl rfl rfl
set_option maxRecDepth 20000 in
theorem pm_outAt {G : jv_Gr} {I : jv_I} {J : jv_J} {Y Z : ot_Y} {E : ot_E} {K : Option ot_Y} (h : ot_M G I J Y Z E K) (k : Int32) (c : Int32) : ot_mm 8 mX5_outAt [.ref 64, .int k, .int c] G I J (ot_ans (ot_rc ((1 ≤ k.toInt ∧ k.toInt ≤ 20) ∧ (0 ≤ c.toInt ∧ c.toInt < Y 10 0))) (nI (ot_outAt Y (ot_n k) (ot_n c)))) Y (ot_zr Z (ot_rc ((1 ≤ k.toInt ∧ k.toInt ≤ 20) ∧ (0 ≤ c.toInt ∧ c.toInt < Y 10 0)))) E K := by
  have bn := yw_n h.w
  have bc := yw_c h.w
  have bw := yw_w h.w
  refine ot_rc_split (motive := fun rc => ot_mm 8 mX5_outAt [.ref 64, .int k, .int c] G I J (ot_ans rc (nI (ot_outAt Y (ot_n k) (ot_n c)))) Y (ot_zr Z rc) E K) (fun hv => ?_) (fun hv => ?_)
  · obtain ⟨x, hx, rfl⟩ := ot_of (n := 21) (show 0 ≤ k.toInt ∧ k.toInt < ((21 : Nat) : Int) by omega) (by decide)
    rw [ot_n_nI (show x < 2 ^ 30 by omega)]
    have ex := nI_toInt (show x < 2 ^ 31 by omega)
    obtain ⟨z, hz, rfl⟩ := ot_of hv.2 (by omega)
    rw [ot_n_nI (show z < 2 ^ 30 by omega)]
    obtain ⟨I2, hA, hO, hF⟩ := om_findOut h (k := x) (by omega) (by omega)
    refine ⟨G, I2, J, ?_, ot_M_out h hF, fun q hq => ⟨hF q (by omega) (by omega), rfl⟩, ot_gx.rf⟩
    refine jv_enter okX5_outAt (L := [.ref 64, .int (nI x), .int (nI z), .null]) rfl (Nat.le_of_ble_eq_true rfl) ?_
    have loop : ∀ (n i : Nat) , Y 10 0 + 1 ≤ i + n → i ≤ Y 10 0 → (∀ j, j < i → ot_out Y x j ≠ z) → jv_V 8 mX5_outAt 35 [.ref 64, .int (nI x), .int (nI z), .int (nI i)] [] G I2 J (some (.int (nI (ot_outAt Y x z)))) G I2 J := by
      intro n
      induction n with
      | zero => intro i  h1 h2; omega
      | succ n ih =>
        intro i  h1 h2 hno
        have hi : i < Y 10 0 := by
          obtain ⟨j, j1, j2⟩ := ot_out_ex h.w hz x
          by_cases q : j < i
          · exact absurd j2 (hno j q)
          · omega
        refine jv_aload0 dX5_outAt_35 ?_
        refine jv_getR dX5_outAt_36 flX5_77 rfl (mk h.g) (mr_outs h.g) ?_
        refine jv_iload3 dX5_outAt_39 ?_
        refine jv_ialdN dX5_outAt_40 (mk_outs h.g) (by omega) (by decide) (hO _ (by omega)) ?_
        refine jv_iload2 dX5_outAt_41 ?_
        have hle := ot_out_le Y x i
        refine jv_icmp_eqN dX5_outAt_42 (tgt := 51) (by decide) (show ot_out Y x i < 2 ^ 31 by omega) (by omega) (fun h59 => ?_) (fun h59 => ?_)
        · refine jv_iload3 dX5_outAt_51 ?_
          exact jv_iret dX5_outAt_52 rfl rfl (by unfold ot_outAt; rw [ot_fst_some _ (show i < Y 10 0 by omega) (decide_eq_true h59) (fun j hj => decide_eq_false (hno j hj))]) rfl rfl
        · refine jv_iinc3N dX5_outAt_45 rfl ?_
          refine jv_goto dX5_outAt_48 (tgt := 35) (by decide) ?_
          exact ih (i + 1) (by omega) (by omega) (fun j hj => by
            by_cases e : j = i
            · rw [e]; exact h59
            · exact hno j (by omega))
    refine jv_iload1 dX5_outAt_0 ?_
    refine jv_i2l dX5_outAt_1 rfl ?_
    refine jv_lconst dX5_outAt_2 (v := lN 1) rfl ?_
    refine jv_ldc2 dX5_outAt_3 cnX5_307 ?_
    refine jv_s31 dX5_outAt_6 okX5_in stX5_in mlX5_83 (om_inC _ (a := 1) (b := 20) (by decide) (by decide)) (by decide) (Nat.le_of_ble_eq_true rfl) ?_
    refine jv_if_eqB dX5_outAt_9 (tgt := 21) (by decide) (fun hq7 => absurd (by omega) hq7) (fun hq7 => ?_)
    refine jv_aload0 dX5_outAt_12 ?_
    refine jv_iload2 dX5_outAt_13 ?_
    refine jv_i2l dX5_outAt_14 rfl ?_
    refine jv_v11 dX5_outAt_15 okX5_isChild inX5_isChild seX5_isChild mlX5_87 (ci := 5) (T := TX5) (N := 35) rfl (mk h.g) (om_isChildI h.g h.r h.w _) (by decide) (Nat.le_of_ble_eq_true rfl) ?_
    refine jv_if_neB dX5_outAt_18 (tgt := 28) (by decide) (fun hq18 => ?_) (fun hq18 => absurd hv.2 hq18)
    refine jv_aload0 dX5_outAt_28 ?_
    refine jv_iload1 dX5_outAt_29 ?_
    refine jv_v10 dX5_outAt_30 okX5_findOut inX5_findOut seX5_findOut mlX5_309 (ci := 5) (T := TX5) (N := 35) rfl (mk h.g) hA (by decide) (Nat.le_of_ble_eq_true rfl) ?_
    refine jv_iconst dX5_outAt_33 jv_c_iconst_0 ?_
    refine jv_istore3 dX5_outAt_34 rfl ?_
    exact loop (Y 10 0 + 1) 0 (by omega) (by omega) (fun j hj => by omega)
  · obtain ⟨I2, hC, h2, h3⟩ := om_refuse2 h
    refine ⟨G, I2, J, ?_, h2, h3, ot_gx.rf⟩
    refine jv_enter okX5_outAt (L := [.ref 64, .int k, .int c, .null]) rfl (Nat.le_of_ble_eq_true rfl) ?_
    refine jv_iload1 dX5_outAt_0 ?_
    refine jv_i2l dX5_outAt_1 rfl ?_
    refine jv_lconst dX5_outAt_2 (v := lN 1) rfl ?_
    refine jv_ldc2 dX5_outAt_3 cnX5_307 ?_
    refine jv_s31 dX5_outAt_6 okX5_in stX5_in mlX5_83 (om_inC _ (a := 1) (b := 20) (by decide) (by decide)) (by decide) (Nat.le_of_ble_eq_true rfl) ?_
    refine jv_if_eqB dX5_outAt_9 (tgt := 21) (by decide) (fun g7 => ?_) (fun g7 => ?_)
    · refine jv_aload0 dX5_outAt_21 ?_
      refine jv_bipush dX5_outAt_22 jv_c_bipush_m2 ?_
      refine jv_v11 dX5_outAt_24 okX5_refuse inX5_refuse seX5_refuse mlX5_104 (ci := 5) (T := TX5) (N := 35) rfl (mk h.g) hC (by decide) (Nat.le_of_ble_eq_true rfl) ?_
      exact jv_iret dX5_outAt_27 rfl rfl rfl rfl rfl
    · refine jv_aload0 dX5_outAt_12 ?_
      refine jv_iload2 dX5_outAt_13 ?_
      refine jv_i2l dX5_outAt_14 rfl ?_
      refine jv_v11 dX5_outAt_15 okX5_isChild inX5_isChild seX5_isChild mlX5_87 (ci := 5) (T := TX5) (N := 35) rfl (mk h.g) (om_isChildI h.g h.r h.w _) (by decide) (Nat.le_of_ble_eq_true rfl) ?_
      refine jv_if_neB dX5_outAt_18 (tgt := 28) (by decide) (fun g18 => ?_) (fun g18 => ?_)
      · exact absurd ⟨by omega, g18⟩ hv
      · refine jv_aload0 dX5_outAt_21 ?_
        refine jv_bipush dX5_outAt_22 jv_c_bipush_m2 ?_
        refine jv_v11 dX5_outAt_24 okX5_refuse inX5_refuse seX5_refuse mlX5_104 (ci := 5) (T := TX5) (N := 35) rfl (mk h.g) hC (by decide) (Nat.le_of_ble_eq_true rfl) ?_
        exact jv_iret dX5_outAt_27 rfl rfl rfl rfl rfl
set_option maxRecDepth 20000 in
theorem oc_stays {G : jv_Gr} {I : jv_I} {J : jv_J} {Y Z : ot_Y} {E : ot_E} {K : Option ot_Y} (h : ot_C G I J Y Z E K) {z : Nat} (hz0 : z < Y 10 0) : ∃ I2, jv_V 8 mX4_stays 20 [.ref 1, .int (nI z), .int (nI 1)] [] G I J (some (.int (ot_stays Y z))) G I2 J ∧ ot_C G I2 J Y Z E K ∧ ot_hi I I2 J J := by
  have bn := yw_n h.w
  have bc := yw_c h.w
  have bw := yw_w h.w
  have loop : ∀ (m k : Nat) (A : jv_I), 22 ≤ k + m → 1 ≤ k → k ≤ 21 → ot_C G A J Y Z E K → ot_hi I A J J → (∀ j, j < k - 1 → ot_out Y (j + 1) (Y 10 0 - 1) ≠ z) → ∃ I2, jv_V 8 mX4_stays 20 [.ref 1, .int (nI z), .int (nI k)] [] G A J (some (.int (ot_stays Y z))) G I2 J ∧ ot_C G I2 J Y Z E K ∧ ot_hi I I2 J J := by
    intro m
    induction m with
    | zero => intro k A b1 b2 b3; omega
    | succ m ih =>
      intro k A b1 b2 b3 hS hF0 hno
      by_cases hk : k ≤ 20
      · obtain ⟨A2, hA, hO, hF⟩ := oc_countOut hS (k := k) b2 hk
        have hS2 := ot_C_out hS hF
        have hF2 : ot_hi I A2 J J := hF0.tr (fun q hq => ⟨hF q (by omega) (by omega), rfl⟩)
        have hch := hS2.r.1.1
        have hle := ot_out_le Y k (Y 10 0 - 1)
        by_cases hz : ot_out Y k (Y 10 0 - 1) = z
        · have eS : ot_stF Y z = k - 1 := ot_fst_some _ (by omega) (decide_eq_true (by rw [show k - 1 + 1 = k by omega]; exact hz)) (fun j hj => decide_eq_false (hno j hj))
          refine ⟨A2, ?_, hS2, hF2⟩
          refine jv_iload2 dX4_stays_20 ?_
          refine jv_bipush dX4_stays_21 jv_c_bipush_20 ?_
          refine jv_icmp_gtN dX4_stays_23 (tgt := 63) (by decide) (by omega) (by omega) (fun hc23 => by omega) (fun hc23 => ?_)
          refine jv_aload0 dX4_stays_26 ?_
          refine jv_getR dX4_stays_27 flX4_27 rfl (ck h.g) (cr_finder h.g) ?_
          refine jv_iload2 dX4_stays_30 ?_
          refine jv_v10 dX4_stays_31 okX0_countOut inX0_countOut seX0_countOut mlX4_259 (ci := 0) (T := TX0) (N := 6) rfl (fk h.g) hA (by decide) (Nat.le_of_ble_eq_true rfl) ?_
          refine jv_aload0 dX4_stays_34 ?_
          refine jv_getR dX4_stays_35 flX4_27 rfl (ck h.g) (cr_finder h.g) ?_
          refine jv_getR dX4_stays_38 flX4_262 rfl (fk h.g) (fr_leaving h.g) ?_
          refine jv_aload0 dX4_stays_41 ?_
          refine jv_getR dX4_stays_42 flX4_10 rfl (ck h.g) (cr_now h.g) ?_
          refine jv_getI dX4_stays_45 flX4_128 rfl (yk (cg_now h.g)) hch ?_
          refine jv_iconst dX4_stays_48 jv_c_iconst_1 ?_
          refine jv_isubN dX4_stays_49 (by omega) ?_
          refine jv_ialdN dX4_stays_50 (fk_leaving h.g) (by omega) (by decide) (hO _ (by omega)) ?_
          refine jv_iload1 dX4_stays_51 ?_
          refine jv_icmp_neN dX4_stays_52 (tgt := 57) (by decide) (show ot_out Y k (Y 10 0 - 1) < 2 ^ 31 by omega) (by omega) (fun h52 => absurd hz h52) (fun h52 => ?_)
          refine jv_iload2 dX4_stays_55 ?_
          exact jv_iret dX4_stays_56 rfl rfl (by unfold ot_stays; rw [eS, if_neg (by omega), show k - 1 + 1 = k by omega]) rfl rfl
        · obtain ⟨I2, hV, p1, p2⟩ := ih (k + 1) A2 (by omega) (by omega) (by omega) hS2 hF2 (fun j hj => by
            by_cases e : j = k - 1
            · rw [e, show k - 1 + 1 = k by omega]; exact hz
            · exact hno j (by omega))
          refine ⟨I2, ?_, p1, p2⟩
          refine jv_iload2 dX4_stays_20 ?_
          refine jv_bipush dX4_stays_21 jv_c_bipush_20 ?_
          refine jv_icmp_gtN dX4_stays_23 (tgt := 63) (by decide) (by omega) (by omega) (fun hc23 => by omega) (fun hc23 => ?_)
          refine jv_aload0 dX4_stays_26 ?_
          refine jv_getR dX4_stays_27 flX4_27 rfl (ck h.g) (cr_finder h.g) ?_
          refine jv_iload2 dX4_stays_30 ?_
          refine jv_v10 dX4_stays_31 okX0_countOut inX0_countOut seX0_countOut mlX4_259 (ci := 0) (T := TX0) (N := 6) rfl (fk h.g) hA (by decide) (Nat.le_of_ble_eq_true rfl) ?_
          refine jv_aload0 dX4_stays_34 ?_
          refine jv_getR dX4_stays_35 flX4_27 rfl (ck h.g) (cr_finder h.g) ?_
          refine jv_getR dX4_stays_38 flX4_262 rfl (fk h.g) (fr_leaving h.g) ?_
          refine jv_aload0 dX4_stays_41 ?_
          refine jv_getR dX4_stays_42 flX4_10 rfl (ck h.g) (cr_now h.g) ?_
          refine jv_getI dX4_stays_45 flX4_128 rfl (yk (cg_now h.g)) hch ?_
          refine jv_iconst dX4_stays_48 jv_c_iconst_1 ?_
          refine jv_isubN dX4_stays_49 (by omega) ?_
          refine jv_ialdN dX4_stays_50 (fk_leaving h.g) (by omega) (by decide) (hO _ (by omega)) ?_
          refine jv_iload1 dX4_stays_51 ?_
          refine jv_icmp_neN dX4_stays_52 (tgt := 57) (by decide) (show ot_out Y k (Y 10 0 - 1) < 2 ^ 31 by omega) (by omega) (fun h52 => ?_) (fun h52 => absurd h52 hz)
          refine jv_iinc2N dX4_stays_57 rfl ?_
          refine jv_goto dX4_stays_60 (tgt := 20) (by decide) ?_
          exact hV
      · have eS : ot_stF Y z = 20 := ot_fst_none _ (fun j hj => decide_eq_false (hno j (by omega)))
        have hch := hS.r.1.1
        refine ⟨A, ?_, hS, hF0⟩
        refine jv_iload2 dX4_stays_20 ?_
        refine jv_bipush dX4_stays_21 jv_c_bipush_20 ?_
        refine jv_icmp_gtN dX4_stays_23 (tgt := 63) (by decide) (by omega) (by omega) (fun hc23 => ?_) (fun hc23 => by omega)
        refine jv_iconst dX4_stays_63 jv_c_iconst_m1 ?_
        exact jv_iret dX4_stays_64 rfl rfl (by unfold ot_stays; rw [eS, if_pos rfl]) rfl rfl
  exact loop 22 1 I (by omega) (by omega) (by omega) h ot_hi.rf (fun j hj => by omega)
set_option maxRecDepth 20000 in
theorem om_stays {G : jv_Gr} {I : jv_I} {J : jv_J} {Y Z : ot_Y} {E : ot_E} {K : Option ot_Y} (h : ot_M G I J Y Z E K) {z : Nat} (hz0 : z < Y 10 0) : ∃ I2, jv_V 8 mX5_stays 18 [.ref 64, .int (nI z), .int (nI 1)] [] G I J (some (.int (ot_stays Y z))) G I2 J ∧ ot_M G I2 J Y Z E K ∧ ot_lo I I2 J J := by
  have bn := yw_n h.w
  have bc := yw_c h.w
  have bw := yw_w h.w
  have loop : ∀ (m k : Nat) (A : jv_I), 22 ≤ k + m → 1 ≤ k → k ≤ 21 → ot_M G A J Y Z E K → ot_lo I A J J → (∀ j, j < k - 1 → ot_out Y (j + 1) (Y 10 0 - 1) ≠ z) → ∃ I2, jv_V 8 mX5_stays 18 [.ref 64, .int (nI z), .int (nI k)] [] G A J (some (.int (ot_stays Y z))) G I2 J ∧ ot_M G I2 J Y Z E K ∧ ot_lo I I2 J J := by
    intro m
    induction m with
    | zero => intro k A b1 b2 b3; omega
    | succ m ih =>
      intro k A b1 b2 b3 hS hF0 hno
      by_cases hk : k ≤ 20
      · obtain ⟨A2, hA, hO, hF⟩ := om_findOut hS (k := k) b2 hk
        have hS2 := ot_M_out hS hF
        have hF2 : ot_lo I A2 J J := hF0.tr (fun q hq => ⟨hF q (by omega) (by omega), rfl⟩)
        have hch := hS2.r.1.1
        have hle := ot_out_le Y k (Y 10 0 - 1)
        by_cases hz : ot_out Y k (Y 10 0 - 1) = z
        · have eS : ot_stF Y z = k - 1 := ot_fst_some _ (by omega) (decide_eq_true (by rw [show k - 1 + 1 = k by omega]; exact hz)) (fun j hj => decide_eq_false (hno j hj))
          refine ⟨A2, ?_, hS2, hF2⟩
          refine jv_iload2 dX5_stays_18 ?_
          refine jv_bipush dX5_stays_19 jv_c_bipush_20 ?_
          refine jv_icmp_gtN dX5_stays_21 (tgt := 52) (by decide) (by omega) (by omega) (fun hc21 => by omega) (fun hc21 => ?_)
          refine jv_aload0 dX5_stays_24 ?_
          refine jv_iload2 dX5_stays_25 ?_
          refine jv_v10 dX5_stays_26 okX5_findOut inX5_findOut seX5_findOut mlX5_309 (ci := 5) (T := TX5) (N := 35) rfl (mk h.g) hA (by decide) (Nat.le_of_ble_eq_true rfl) ?_
          refine jv_aload0 dX5_stays_29 ?_
          refine jv_getR dX5_stays_30 flX5_77 rfl (mk h.g) (mr_outs h.g) ?_
          refine jv_aload0 dX5_stays_33 ?_
          refine jv_getI dX5_stays_34 flX5_80 rfl (mk h.g) hch ?_
          refine jv_iconst dX5_stays_37 jv_c_iconst_1 ?_
          refine jv_isubN dX5_stays_38 (by omega) ?_
          refine jv_ialdN dX5_stays_39 (mk_outs h.g) (by omega) (by decide) (hO _ (by omega)) ?_
          refine jv_iload1 dX5_stays_40 ?_
          refine jv_icmp_neN dX5_stays_41 (tgt := 46) (by decide) (show ot_out Y k (Y 10 0 - 1) < 2 ^ 31 by omega) (by omega) (fun h52 => absurd hz h52) (fun h52 => ?_)
          refine jv_iload2 dX5_stays_44 ?_
          exact jv_iret dX5_stays_45 rfl rfl (by unfold ot_stays; rw [eS, if_neg (by omega), show k - 1 + 1 = k by omega]) rfl rfl
        · obtain ⟨I2, hV, p1, p2⟩ := ih (k + 1) A2 (by omega) (by omega) (by omega) hS2 hF2 (fun j hj => by
            by_cases e : j = k - 1
            · rw [e, show k - 1 + 1 = k by omega]; exact hz
            · exact hno j (by omega))
          refine ⟨I2, ?_, p1, p2⟩
          refine jv_iload2 dX5_stays_18 ?_
          refine jv_bipush dX5_stays_19 jv_c_bipush_20 ?_
          refine jv_icmp_gtN dX5_stays_21 (tgt := 52) (by decide) (by omega) (by omega) (fun hc21 => by omega) (fun hc21 => ?_)
          refine jv_aload0 dX5_stays_24 ?_
          refine jv_iload2 dX5_stays_25 ?_
          refine jv_v10 dX5_stays_26 okX5_findOut inX5_findOut seX5_findOut mlX5_309 (ci := 5) (T := TX5) (N := 35) rfl (mk h.g) hA (by decide) (Nat.le_of_ble_eq_true rfl) ?_
          refine jv_aload0 dX5_stays_29 ?_
          refine jv_getR dX5_stays_30 flX5_77 rfl (mk h.g) (mr_outs h.g) ?_
          refine jv_aload0 dX5_stays_33 ?_
          refine jv_getI dX5_stays_34 flX5_80 rfl (mk h.g) hch ?_
          refine jv_iconst dX5_stays_37 jv_c_iconst_1 ?_
          refine jv_isubN dX5_stays_38 (by omega) ?_
          refine jv_ialdN dX5_stays_39 (mk_outs h.g) (by omega) (by decide) (hO _ (by omega)) ?_
          refine jv_iload1 dX5_stays_40 ?_
          refine jv_icmp_neN dX5_stays_41 (tgt := 46) (by decide) (show ot_out Y k (Y 10 0 - 1) < 2 ^ 31 by omega) (by omega) (fun h52 => ?_) (fun h52 => absurd h52 hz)
          refine jv_iinc2N dX5_stays_46 rfl ?_
          refine jv_goto dX5_stays_49 (tgt := 18) (by decide) ?_
          exact hV
      · have eS : ot_stF Y z = 20 := ot_fst_none _ (fun j hj => decide_eq_false (hno j (by omega)))
        have hch := hS.r.1.1
        refine ⟨A, ?_, hS, hF0⟩
        refine jv_iload2 dX5_stays_18 ?_
        refine jv_bipush dX5_stays_19 jv_c_bipush_20 ?_
        refine jv_icmp_gtN dX5_stays_21 (tgt := 52) (by decide) (by omega) (by omega) (fun hc21 => ?_) (fun hc21 => by omega)
        refine jv_iconst dX5_stays_52 jv_c_iconst_m1 ?_
        exact jv_iret dX5_stays_53 rfl rfl (by unfold ot_stays; rw [eS, if_pos rfl]) rfl rfl
  exact loop 22 1 I (by omega) (by omega) (by omega) h ot_lo.rf (fun j hj => by omega)
set_option maxRecDepth 20000 in
theorem pc_stays {G : jv_Gr} {I : jv_I} {J : jv_J} {Y Z : ot_Y} {E : ot_E} {K : Option ot_Y} (h : ot_C G I J Y Z E K) (c : Int32) : ot_cc 8 mX4_stays [.ref 1, .int c] G I J (ot_ans (ot_rc (0 ≤ c.toInt ∧ c.toInt < Y 10 0)) (ot_stays Y (ot_n c))) Y (ot_zr Z (ot_rc (0 ≤ c.toInt ∧ c.toInt < Y 10 0))) E K := by
  have bn := yw_n h.w
  have bc := yw_c h.w
  have bw := yw_w h.w
  refine ot_rc_split (motive := fun rc => ot_cc 8 mX4_stays [.ref 1, .int c] G I J (ot_ans rc (ot_stays Y (ot_n c))) Y (ot_zr Z rc) E K) (fun hv => ?_) (fun hv => ?_)
  · obtain ⟨z, hz, rfl⟩ := ot_of hv (by omega)
    rw [ot_n_nI (show z < 2 ^ 30 by omega)]
    obtain ⟨I2, hV, hS, hH⟩ := oc_stays h hz
    rw [ot_ans_0]
    refine ⟨I2, J, ?_, hS, hH⟩
    refine jv_enter okX4_stays (L := [.ref 1, .int (nI z), .null]) rfl (Nat.le_of_ble_eq_true rfl) ?_
    refine jv_aload0 dX4_stays_0 ?_
    refine jv_getR dX4_stays_1 flX4_10 rfl (ck h.g) (cr_now h.g) ?_
    refine jv_iload1 dX4_stays_4 ?_
    refine jv_v11 dX4_stays_5 okX3_hasChild inX3_hasChild seX3_hasChild mlX4_166 (ci := 3) (T := TX3) (N := 15) rfl (yk (cg_now h.g)) (ot_hasChild (cg_now h.g) h.r h.w _) (by decide) (Nat.le_of_ble_eq_true rfl) ?_
    refine jv_if_neB dX4_stays_8 (tgt := 18) (by decide) (fun hq8 => ?_) (fun hq8 => absurd hv hq8)
    refine jv_iconst dX4_stays_18 jv_c_iconst_1 ?_
    refine jv_istore2 dX4_stays_19 rfl ?_
    exact hV
  · obtain ⟨I2, hC, h2, h3⟩ := oc_refuse2 h
    refine ⟨I2, J, ?_, h2, h3⟩
    refine jv_enter okX4_stays (L := [.ref 1, .int c, .null]) rfl (Nat.le_of_ble_eq_true rfl) ?_
    refine jv_aload0 dX4_stays_0 ?_
    refine jv_getR dX4_stays_1 flX4_10 rfl (ck h.g) (cr_now h.g) ?_
    refine jv_iload1 dX4_stays_4 ?_
    refine jv_v11 dX4_stays_5 okX3_hasChild inX3_hasChild seX3_hasChild mlX4_166 (ci := 3) (T := TX3) (N := 15) rfl (yk (cg_now h.g)) (ot_hasChild (cg_now h.g) h.r h.w _) (by decide) (Nat.le_of_ble_eq_true rfl) ?_
    refine jv_if_neB dX4_stays_8 (tgt := 18) (by decide) (fun hq8 => absurd hq8 hv) (fun hq8 => ?_)
    refine jv_aload0 dX4_stays_11 ?_
    refine jv_bipush dX4_stays_12 jv_c_bipush_m2 ?_
    refine jv_v11 dX4_stays_14 okX4_refuse inX4_refuse seX4_refuse mlX4_61 (ci := 4) (T := TX4) (N := 8) rfl (ck h.g) hC (by decide) (Nat.le_of_ble_eq_true rfl) ?_
    exact jv_iret dX4_stays_17 rfl rfl rfl rfl rfl
set_option maxRecDepth 20000 in
theorem pm_stays {G : jv_Gr} {I : jv_I} {J : jv_J} {Y Z : ot_Y} {E : ot_E} {K : Option ot_Y} (h : ot_M G I J Y Z E K) (c : Int32) : ot_mm 8 mX5_stays [.ref 64, .int c] G I J (ot_ans (ot_rc (0 ≤ c.toInt ∧ c.toInt < Y 10 0)) (ot_stays Y (ot_n c))) Y (ot_zr Z (ot_rc (0 ≤ c.toInt ∧ c.toInt < Y 10 0))) E K := by
  have bn := yw_n h.w
  have bc := yw_c h.w
  have bw := yw_w h.w
  refine ot_rc_split (motive := fun rc => ot_mm 8 mX5_stays [.ref 64, .int c] G I J (ot_ans rc (ot_stays Y (ot_n c))) Y (ot_zr Z rc) E K) (fun hv => ?_) (fun hv => ?_)
  · obtain ⟨z, hz, rfl⟩ := ot_of hv (by omega)
    rw [ot_n_nI (show z < 2 ^ 30 by omega)]
    obtain ⟨I2, hV, hS, hH⟩ := om_stays h hz
    rw [ot_ans_0]
    refine ⟨G, I2, J, ?_, hS, hH, ot_gx.rf⟩
    refine jv_enter okX5_stays (L := [.ref 64, .int (nI z), .null]) rfl (Nat.le_of_ble_eq_true rfl) ?_
    refine jv_aload0 dX5_stays_0 ?_
    refine jv_iload1 dX5_stays_1 ?_
    refine jv_i2l dX5_stays_2 rfl ?_
    refine jv_v11 dX5_stays_3 okX5_isChild inX5_isChild seX5_isChild mlX5_87 (ci := 5) (T := TX5) (N := 35) rfl (mk h.g) (om_isChildI h.g h.r h.w _) (by decide) (Nat.le_of_ble_eq_true rfl) ?_
    refine jv_if_neB dX5_stays_6 (tgt := 16) (by decide) (fun hq8 => ?_) (fun hq8 => absurd hv hq8)
    refine jv_iconst dX5_stays_16 jv_c_iconst_1 ?_
    refine jv_istore2 dX5_stays_17 rfl ?_
    exact hV
  · obtain ⟨I2, hC, h2, h3⟩ := om_refuse2 h
    refine ⟨G, I2, J, ?_, h2, h3, ot_gx.rf⟩
    refine jv_enter okX5_stays (L := [.ref 64, .int c, .null]) rfl (Nat.le_of_ble_eq_true rfl) ?_
    refine jv_aload0 dX5_stays_0 ?_
    refine jv_iload1 dX5_stays_1 ?_
    refine jv_i2l dX5_stays_2 rfl ?_
    refine jv_v11 dX5_stays_3 okX5_isChild inX5_isChild seX5_isChild mlX5_87 (ci := 5) (T := TX5) (N := 35) rfl (mk h.g) (om_isChildI h.g h.r h.w _) (by decide) (Nat.le_of_ble_eq_true rfl) ?_
    refine jv_if_neB dX5_stays_6 (tgt := 16) (by decide) (fun hq8 => absurd hq8 hv) (fun hq8 => ?_)
    refine jv_aload0 dX5_stays_9 ?_
    refine jv_bipush dX5_stays_10 jv_c_bipush_m2 ?_
    refine jv_v11 dX5_stays_12 okX5_refuse inX5_refuse seX5_refuse mlX5_104 (ci := 5) (T := TX5) (N := 35) rfl (mk h.g) hC (by decide) (Nat.le_of_ble_eq_true rfl) ?_
    exact jv_iret dX5_stays_15 rfl rfl rfl rfl rfl
