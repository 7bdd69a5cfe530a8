/-! ===== the face: group 2 ===== -/
def ot_w4 (w a b c e : Nat) : Nat := match w with
  | 0 => a
  | 1 => b
  | 2 => c
  | _ => e
set_option maxRecDepth 20000 in
theorem pc_childOf {G : jv_Gr} {I : jv_I} {J : jv_J} {Y Z : ot_Y} {E : ot_E} {K : Option ot_Y} (h : ot_C G I J Y Z E K) (c : Int32) (w : Int32) : ot_cc 8 mX4_childOf [.ref 1, .int c, .int w] G I J (ot_ans (ot_rc ((0 ≤ c.toInt ∧ c.toInt < Y 10 0) ∧ (0 ≤ w.toInt ∧ w.toInt ≤ 3))) (nI (ot_w4 (ot_n w) (Y 0 (ot_n c)) (Y 1 (ot_n c)) (Y 2 (ot_n c)) (ot_wishesOf Y (ot_n c))))) Y (ot_zr Z (ot_rc ((0 ≤ c.toInt ∧ c.toInt < Y 10 0) ∧ (0 ≤ w.toInt ∧ w.toInt ≤ 3)))) E K := by
  have bn := yw_n h.w
  have bc := yw_c h.w
  have bw := yw_w h.w
  refine ot_case (motive := fun A Z' => ot_cc 8 mX4_childOf [.ref 1, .int c, .int w] G I J A Y Z' E K) (fun hv => ?_) (fun hv => ?_)
  · obtain ⟨x, hx, rfl⟩ := ot_of hv.1 (by omega)
    rw [ot_n_nI (show x < 2 ^ 30 by omega)]
    obtain ⟨q, hq, rfl⟩ := ot_of (n := 4) (show 0 ≤ w.toInt ∧ w.toInt < ((4 : Nat) : Int) by omega) (by decide)
    rw [ot_n_nI (show q < 2 ^ 30 by omega)]
    refine ⟨I, J, ?_, h, ot_hi.rf⟩
    refine jv_enter okX4_childOf (L := [.ref 1, .int (nI x), .int (nI q)]) rfl (Nat.le_of_ble_eq_true rfl) ?_
    rcases (show q = 0 ∨ q = 1 ∨ q = 2 ∨ q = 3 by omega) with rfl | rfl | rfl | rfl
    · refine jv_aload0 dX4_childOf_0 ?_
      refine jv_getR dX4_childOf_1 flX4_10 rfl (ck h.g) (cr_now h.g) ?_
      refine jv_iload1 dX4_childOf_4 ?_
      refine jv_v11 dX4_childOf_5 okX3_hasChild inX3_hasChild seX3_hasChild mlX4_166 (ci := 3) (T := TX3) (N := 15) rfl (yk (cg_now h.g)) (ot_hasChild (cg_now h.g) h.r h.w _) (by decide) (Nat.le_of_ble_eq_true rfl) ?_
      refine jv_if_neB dX4_childOf_8 (tgt := 18) (by decide) (fun hq8 => ?_) (fun hq8 => absurd hv.1 hq8)
      refine jv_iload2 dX4_childOf_18 ?_
      refine jv_tableIn dX4_childOf_19 (off := 29) (tgt := 48) (by decide) (by decide) (by decide) (by decide) ?_
      refine jv_aload0 dX4_childOf_48 ?_
      refine jv_getR dX4_childOf_49 flX4_10 rfl (ck h.g) (cr_now h.g) ?_
      refine jv_getR dX4_childOf_52 flX4_169 rfl (yk (cg_now h.g)) (yr_strong (cg_now h.g)) ?_
      refine jv_iload1 dX4_childOf_55 ?_
      refine jv_ialdN dX4_childOf_56 (yk_strong (cg_now h.g)) (by omega) (by decide) (ye_strong h.r (by omega)) ?_
      exact jv_iret dX4_childOf_57 rfl rfl rfl rfl rfl
    · refine jv_aload0 dX4_childOf_0 ?_
      refine jv_getR dX4_childOf_1 flX4_10 rfl (ck h.g) (cr_now h.g) ?_
      refine jv_iload1 dX4_childOf_4 ?_
      refine jv_v11 dX4_childOf_5 okX3_hasChild inX3_hasChild seX3_hasChild mlX4_166 (ci := 3) (T := TX3) (N := 15) rfl (yk (cg_now h.g)) (ot_hasChild (cg_now h.g) h.r h.w _) (by decide) (Nat.le_of_ble_eq_true rfl) ?_
      refine jv_if_neB dX4_childOf_8 (tgt := 18) (by decide) (fun hq8 => ?_) (fun hq8 => absurd hv.1 hq8)
      refine jv_iload2 dX4_childOf_18 ?_
      refine jv_tableIn dX4_childOf_19 (off := 39) (tgt := 58) (by decide) (by decide) (by decide) (by decide) ?_
      refine jv_aload0 dX4_childOf_58 ?_
      refine jv_getR dX4_childOf_59 flX4_10 rfl (ck h.g) (cr_now h.g) ?_
      refine jv_getR dX4_childOf_62 flX4_172 rfl (yk (cg_now h.g)) (yr_step (cg_now h.g)) ?_
      refine jv_iload1 dX4_childOf_65 ?_
      refine jv_ialdN dX4_childOf_66 (yk_step (cg_now h.g)) (by omega) (by decide) (ye_step h.r (by omega)) ?_
      exact jv_iret dX4_childOf_67 rfl rfl rfl rfl rfl
    · refine jv_aload0 dX4_childOf_0 ?_
      refine jv_getR dX4_childOf_1 flX4_10 rfl (ck h.g) (cr_now h.g) ?_
      refine jv_iload1 dX4_childOf_4 ?_
      refine jv_v11 dX4_childOf_5 okX3_hasChild inX3_hasChild seX3_hasChild mlX4_166 (ci := 3) (T := TX3) (N := 15) rfl (yk (cg_now h.g)) (ot_hasChild (cg_now h.g) h.r h.w _) (by decide) (Nat.le_of_ble_eq_true rfl) ?_
      refine jv_if_neB dX4_childOf_8 (tgt := 18) (by decide) (fun hq8 => ?_) (fun hq8 => absurd hv.1 hq8)
      refine jv_iload2 dX4_childOf_18 ?_
      refine jv_tableIn dX4_childOf_19 (off := 49) (tgt := 68) (by decide) (by decide) (by decide) (by decide) ?_
      refine jv_aload0 dX4_childOf_68 ?_
      refine jv_getR dX4_childOf_69 flX4_10 rfl (ck h.g) (cr_now h.g) ?_
      refine jv_getR dX4_childOf_72 flX4_175 rfl (yk (cg_now h.g)) (yr_where (cg_now h.g)) ?_
      refine jv_iload1 dX4_childOf_75 ?_
      refine jv_ialdN dX4_childOf_76 (yk_where (cg_now h.g)) (by omega) (by decide) (ye_where h.r (by omega)) ?_
      exact jv_iret dX4_childOf_77 rfl rfl rfl rfl rfl
    · refine jv_aload0 dX4_childOf_0 ?_
      refine jv_getR dX4_childOf_1 flX4_10 rfl (ck h.g) (cr_now h.g) ?_
      refine jv_iload1 dX4_childOf_4 ?_
      refine jv_v11 dX4_childOf_5 okX3_hasChild inX3_hasChild seX3_hasChild mlX4_166 (ci := 3) (T := TX3) (N := 15) rfl (yk (cg_now h.g)) (ot_hasChild (cg_now h.g) h.r h.w _) (by decide) (Nat.le_of_ble_eq_true rfl) ?_
      refine jv_if_neB dX4_childOf_8 (tgt := 18) (by decide) (fun hq8 => ?_) (fun hq8 => absurd hv.1 hq8)
      refine jv_iload2 dX4_childOf_18 ?_
      refine jv_tableIn dX4_childOf_19 (off := 59) (tgt := 78) (by decide) (by decide) (by decide) (by decide) ?_
      refine jv_aload0 dX4_childOf_78 ?_
      refine jv_getR dX4_childOf_79 flX4_10 rfl (ck h.g) (cr_now h.g) ?_
      refine jv_iload1 dX4_childOf_82 ?_
      refine jv_v11 dX4_childOf_83 okX3_wishesOf inX3_wishesOf seX3_wishesOf mlX4_178 (ci := 3) (T := TX3) (N := 15) rfl (yk (cg_now h.g)) (ot_wishesOfM (cg_now h.g) h.r h.w hx) (by decide) (Nat.le_of_ble_eq_true rfl) ?_
      exact jv_iret dX4_childOf_86 rfl rfl rfl rfl rfl
  · obtain ⟨I2, hC, h2, h3⟩ := oc_refuse2 h
    refine ⟨I2, J, ?_, h2, h3⟩
    refine jv_enter okX4_childOf (L := [.ref 1, .int c, .int w]) rfl (Nat.le_of_ble_eq_true rfl) ?_
    refine jv_aload0 dX4_childOf_0 ?_
    refine jv_getR dX4_childOf_1 flX4_10 rfl (ck h.g) (cr_now h.g) ?_
    refine jv_iload1 dX4_childOf_4 ?_
    refine jv_v11 dX4_childOf_5 okX3_hasChild inX3_hasChild seX3_hasChild mlX4_166 (ci := 3) (T := TX3) (N := 15) rfl (yk (cg_now h.g)) (ot_hasChild (cg_now h.g) h.r h.w _) (by decide) (Nat.le_of_ble_eq_true rfl) ?_
    refine jv_if_neB dX4_childOf_8 (tgt := 18) (by decide) (fun g8 => ?_) (fun g8 => ?_)
    · refine jv_iload2 dX4_childOf_18 ?_
      refine jv_tableOut dX4_childOf_19 (tgt := 87) (by omega) (by decide) ?_
      refine jv_aload0 dX4_childOf_87 ?_
      refine jv_bipush dX4_childOf_88 jv_c_bipush_m2 ?_
      refine jv_v11 dX4_childOf_90 okX4_refuse inX4_refuse seX4_refuse mlX4_61 (ci := 4) (T := TX4) (N := 8) rfl (ck h.g) hC (by decide) (Nat.le_of_ble_eq_true rfl) ?_
      exact jv_iret dX4_childOf_93 rfl rfl rfl rfl rfl
    · refine jv_aload0 dX4_childOf_11 ?_
      refine jv_bipush dX4_childOf_12 jv_c_bipush_m2 ?_
      refine jv_v11 dX4_childOf_14 okX4_refuse inX4_refuse seX4_refuse mlX4_61 (ci := 4) (T := TX4) (N := 8) rfl (ck h.g) hC (by decide) (Nat.le_of_ble_eq_true rfl) ?_
      exact jv_iret dX4_childOf_17 rfl rfl rfl rfl rfl
set_option maxRecDepth 20000 in
theorem pm_childOf {G : jv_Gr} {I : jv_I} {J : jv_J} {Y Z : ot_Y} {E : ot_E} {K : Option ot_Y} (h : ot_M G I J Y Z E K) (c : Int32) (w : Int32) : ot_mm 8 mX5_childOf [.ref 64, .int c, .int w] G I J (ot_ans (ot_rc ((0 ≤ c.toInt ∧ c.toInt < Y 10 0) ∧ (0 ≤ w.toInt ∧ w.toInt ≤ 3))) (nI (ot_w4 (ot_n w) (Y 0 (ot_n c)) (Y 1 (ot_n c)) (Y 2 (ot_n c)) (ot_wishesOf Y (ot_n c))))) Y (ot_zr Z (ot_rc ((0 ≤ c.toInt ∧ c.toInt < Y 10 0) ∧ (0 ≤ w.toInt ∧ w.toInt ≤ 3)))) E K := by
  have bn := yw_n h.w
  have bc := yw_c h.w
  have bw := yw_w h.w
  refine ot_case (motive := fun A Z' => ot_mm 8 mX5_childOf [.ref 64, .int c, .int w] G I J A Y Z' E K) (fun hv => ?_) (fun hv => ?_)
  · obtain ⟨x, hx, rfl⟩ := ot_of hv.1 (by omega)
    rw [ot_n_nI (show x < 2 ^ 30 by omega)]
    obtain ⟨q, hq, rfl⟩ := ot_of (n := 4) (show 0 ≤ w.toInt ∧ w.toInt < ((4 : Nat) : Int) by omega) (by decide)
    rw [ot_n_nI (show q < 2 ^ 30 by omega)]
    refine ⟨G, I, J, ?_, h, ot_lo.rf, ot_gx.rf⟩
    refine jv_enter okX5_childOf (L := [.ref 64, .int (nI x), .int (nI q), .null, .null]) rfl (Nat.le_of_ble_eq_true rfl) ?_
    have loop : ∀ (n i : Nat) (acc : Nat), Y 10 2 + 1 ≤ i + n → i ≤ Y 10 2 → acc = ot_sum (fun i => if ot_inW Y x i = true then 1 else 0) i → jv_V 8 mX5_childOf 80 [.ref 64, .int (nI x), .int (nI 3), .int (nI acc), .int (nI i)] [] G I J (some (.int (nI (ot_wishesOf Y x)))) G I J := by
      intro n
      induction n with
      | zero => intro i acc h1 h2; omega
      | succ n ih =>
        intro i acc h1 h2 ea
        refine jv_iload4 dX5_childOf_80 ?_
        refine jv_aload0 dX5_childOf_82 ?_
        refine jv_getI dX5_childOf_83 flX5_141 rfl (mk h.g) (mi_wishes h.r) ?_
        refine jv_icmp_geN dX5_childOf_86 (tgt := 125) (by decide) (by omega) (by omega) (fun hc86 => ?_) (fun hc86 => ?_)
        · refine jv_iload3 dX5_childOf_125 ?_
          exact jv_iret dX5_childOf_126 rfl rfl (by rw [ea, show i = Y 10 2 by omega]; rfl) rfl rfl
        · refine jv_iload3 dX5_childOf_89 ?_
          refine jv_aload0 dX5_childOf_90 ?_
          refine jv_getR dX5_childOf_91 flX5_55 rfl (mk h.g) (mr_one h.g) ?_
          refine jv_iload4 dX5_childOf_94 ?_
          refine jv_ialdN dX5_childOf_96 (mk_one h.g) (by omega) (by decide) (me_one h.r (by omega)) ?_
          refine jv_iload1 dX5_childOf_97 ?_
          refine jv_icmp_eqN dX5_childOf_98 (tgt := 112) (by decide) (by have := yw_wish h.w (show i < Y 10 2 by omega); omega) (by omega) (fun h98 => ?_) (fun h98 => ?_)
          · refine jv_iconst dX5_childOf_112 jv_c_iconst_1 ?_
            refine jv_goto dX5_childOf_113 (tgt := 117) (by decide) ?_
            refine jv_iaddN dX5_childOf_117 ?_
            refine jv_istore3 dX5_childOf_118 rfl ?_
            refine jv_iinc4N dX5_childOf_119 rfl ?_
            refine jv_goto dX5_childOf_122 (tgt := 80) (by decide) ?_
            exact ih (i + 1) _ (by omega) (by omega) (by rw [ot_sum, if_pos (by unfold ot_inW; simp [h98]), ea])
          · refine jv_aload0 dX5_childOf_101 ?_
            refine jv_getR dX5_childOf_102 flX5_58 rfl (mk h.g) (mr_other h.g) ?_
            refine jv_iload4 dX5_childOf_105 ?_
            refine jv_ialdN dX5_childOf_107 (mk_other h.g) (by omega) (by decide) (me_other h.r (by omega)) ?_
            refine jv_iload1 dX5_childOf_108 ?_
            refine jv_icmp_neN dX5_childOf_109 (tgt := 116) (by decide) (by have := yw_wish h.w (show i < Y 10 2 by omega); omega) (by omega) (fun h109 => ?_) (fun h109 => ?_)
            · refine jv_iconst dX5_childOf_116 jv_c_iconst_0 ?_
              refine jv_iaddN dX5_childOf_117 ?_
              refine jv_istore3 dX5_childOf_118 rfl ?_
              refine jv_iinc4N dX5_childOf_119 rfl ?_
              refine jv_goto dX5_childOf_122 (tgt := 80) (by decide) ?_
              exact ih (i + 1) _ (by omega) (by omega) (by rw [ot_sum, if_neg (by unfold ot_inW; simp [h98, h109]), ea])
            · refine jv_iconst dX5_childOf_112 jv_c_iconst_1 ?_
              refine jv_goto dX5_childOf_113 (tgt := 117) (by decide) ?_
              refine jv_iaddN dX5_childOf_117 ?_
              refine jv_istore3 dX5_childOf_118 rfl ?_
              refine jv_iinc4N dX5_childOf_119 rfl ?_
              refine jv_goto dX5_childOf_122 (tgt := 80) (by decide) ?_
              exact ih (i + 1) _ (by omega) (by omega) (by rw [ot_sum, if_pos (by unfold ot_inW; simp [h109]), ea])
    rcases (show q = 0 ∨ q = 1 ∨ q = 2 ∨ q = 3 by omega) with rfl | rfl | rfl | rfl
    · refine jv_aload0 dX5_childOf_0 ?_
      refine jv_iload1 dX5_childOf_1 ?_
      refine jv_i2l dX5_childOf_2 rfl ?_
      refine jv_v11 dX5_childOf_3 okX5_isChild inX5_isChild seX5_isChild mlX5_87 (ci := 5) (T := TX5) (N := 35) rfl (mk h.g) (om_isChildI h.g h.r h.w _) (by decide) (Nat.le_of_ble_eq_true rfl) ?_
      refine jv_if_eqB dX5_childOf_6 (tgt := 21) (by decide) (fun hq6 => absurd hv.1 hq6) (fun hq6 => ?_)
      refine jv_iload2 dX5_childOf_9 ?_
      refine jv_i2l dX5_childOf_10 rfl ?_
      refine jv_lconst dX5_childOf_11 (v := lN 0) rfl ?_
      refine jv_ldc2 dX5_childOf_12 cnX5_252 ?_
      refine jv_s31 dX5_childOf_15 okX5_in stX5_in mlX5_83 (om_inC _ (a := 0) (b := 3) (by decide) (by decide)) (by decide) (Nat.le_of_ble_eq_true rfl) ?_
      refine jv_if_neB dX5_childOf_18 (tgt := 28) (by decide) (fun hq18 => ?_) (fun hq18 => absurd (by omega) hq18)
      refine jv_iconst dX5_childOf_28 jv_c_iconst_0 ?_
      refine jv_istore3 dX5_childOf_29 rfl ?_
      refine jv_iload2 dX5_childOf_30 ?_
      refine jv_tableIn dX5_childOf_31 (off := 25) (tgt := 56) (by decide) (by decide) (by decide) (by decide) ?_
      refine jv_aload0 dX5_childOf_56 ?_
      refine jv_getR dX5_childOf_57 flX5_37 rfl (mk h.g) (mr_strong h.g) ?_
      refine jv_iload1 dX5_childOf_60 ?_
      refine jv_ialdN dX5_childOf_61 (mk_strong h.g) (by omega) (by decide) (me_strong h.r (by omega)) ?_
      exact jv_iret dX5_childOf_62 rfl rfl rfl rfl rfl
    · refine jv_aload0 dX5_childOf_0 ?_
      refine jv_iload1 dX5_childOf_1 ?_
      refine jv_i2l dX5_childOf_2 rfl ?_
      refine jv_v11 dX5_childOf_3 okX5_isChild inX5_isChild seX5_isChild mlX5_87 (ci := 5) (T := TX5) (N := 35) rfl (mk h.g) (om_isChildI h.g h.r h.w _) (by decide) (Nat.le_of_ble_eq_true rfl) ?_
      refine jv_if_eqB dX5_childOf_6 (tgt := 21) (by decide) (fun hq6 => absurd hv.1 hq6) (fun hq6 => ?_)
      refine jv_iload2 dX5_childOf_9 ?_
      refine jv_i2l dX5_childOf_10 rfl ?_
      refine jv_lconst dX5_childOf_11 (v := lN 0) rfl ?_
      refine jv_ldc2 dX5_childOf_12 cnX5_252 ?_
      refine jv_s31 dX5_childOf_15 okX5_in stX5_in mlX5_83 (om_inC _ (a := 0) (b := 3) (by decide) (by decide)) (by decide) (Nat.le_of_ble_eq_true rfl) ?_
      refine jv_if_neB dX5_childOf_18 (tgt := 28) (by decide) (fun hq18 => ?_) (fun hq18 => absurd (by omega) hq18)
      refine jv_iconst dX5_childOf_28 jv_c_iconst_0 ?_
      refine jv_istore3 dX5_childOf_29 rfl ?_
      refine jv_iload2 dX5_childOf_30 ?_
      refine jv_tableIn dX5_childOf_31 (off := 32) (tgt := 63) (by decide) (by decide) (by decide) (by decide) ?_
      refine jv_aload0 dX5_childOf_63 ?_
      refine jv_getR dX5_childOf_64 flX5_40 rfl (mk h.g) (mr_step h.g) ?_
      refine jv_iload1 dX5_childOf_67 ?_
      refine jv_ialdN dX5_childOf_68 (mk_step h.g) (by omega) (by decide) (me_step h.r (by omega)) ?_
      exact jv_iret dX5_childOf_69 rfl rfl rfl rfl rfl
    · refine jv_aload0 dX5_childOf_0 ?_
      refine jv_iload1 dX5_childOf_1 ?_
      refine jv_i2l dX5_childOf_2 rfl ?_
      refine jv_v11 dX5_childOf_3 okX5_isChild inX5_isChild seX5_isChild mlX5_87 (ci := 5) (T := TX5) (N := 35) rfl (mk h.g) (om_isChildI h.g h.r h.w _) (by decide) (Nat.le_of_ble_eq_true rfl) ?_
      refine jv_if_eqB dX5_childOf_6 (tgt := 21) (by decide) (fun hq6 => absurd hv.1 hq6) (fun hq6 => ?_)
      refine jv_iload2 dX5_childOf_9 ?_
      refine jv_i2l dX5_childOf_10 rfl ?_
      refine jv_lconst dX5_childOf_11 (v := lN 0) rfl ?_
      refine jv_ldc2 dX5_childOf_12 cnX5_252 ?_
      refine jv_s31 dX5_childOf_15 okX5_in stX5_in mlX5_83 (om_inC _ (a := 0) (b := 3) (by decide) (by decide)) (by decide) (Nat.le_of_ble_eq_true rfl) ?_
      refine jv_if_neB dX5_childOf_18 (tgt := 28) (by decide) (fun hq18 => ?_) (fun hq18 => absurd (by omega) hq18)
      refine jv_iconst dX5_childOf_28 jv_c_iconst_0 ?_
      refine jv_istore3 dX5_childOf_29 rfl ?_
      refine jv_iload2 dX5_childOf_30 ?_
      refine jv_tableIn dX5_childOf_31 (off := 39) (tgt := 70) (by decide) (by decide) (by decide) (by decide) ?_
      refine jv_aload0 dX5_childOf_70 ?_
      refine jv_getR dX5_childOf_71 flX5_43 rfl (mk h.g) (mr_place h.g) ?_
      refine jv_iload1 dX5_childOf_74 ?_
      refine jv_ialdN dX5_childOf_75 (mk_place h.g) (by omega) (by decide) (me_place h.r (by omega)) ?_
      exact jv_iret dX5_childOf_76 rfl rfl rfl rfl rfl
    · refine jv_aload0 dX5_childOf_0 ?_
      refine jv_iload1 dX5_childOf_1 ?_
      refine jv_i2l dX5_childOf_2 rfl ?_
      refine jv_v11 dX5_childOf_3 okX5_isChild inX5_isChild seX5_isChild mlX5_87 (ci := 5) (T := TX5) (N := 35) rfl (mk h.g) (om_isChildI h.g h.r h.w _) (by decide) (Nat.le_of_ble_eq_true rfl) ?_
      refine jv_if_eqB dX5_childOf_6 (tgt := 21) (by decide) (fun hq6 => absurd hv.1 hq6) (fun hq6 => ?_)
      refine jv_iload2 dX5_childOf_9 ?_
      refine jv_i2l dX5_childOf_10 rfl ?_
      refine jv_lconst dX5_childOf_11 (v := lN 0) rfl ?_
      refine jv_ldc2 dX5_childOf_12 cnX5_252 ?_
      refine jv_s31 dX5_childOf_15 okX5_in stX5_in mlX5_83 (om_inC _ (a := 0) (b := 3) (by decide) (by decide)) (by decide) (Nat.le_of_ble_eq_true rfl) ?_
      refine jv_if_neB dX5_childOf_18 (tgt := 28) (by decide) (fun hq18 => ?_) (fun hq18 => absurd (by omega) hq18)
      refine jv_iconst dX5_childOf_28 jv_c_iconst_0 ?_
      refine jv_istore3 dX5_childOf_29 rfl ?_
      refine jv_iload2 dX5_childOf_30 ?_
      refine jv_tableOut dX5_childOf_31 (tgt := 77) (by decide) (by decide) ?_
      refine jv_iconst dX5_childOf_77 jv_c_iconst_0 ?_
      refine jv_istore4 dX5_childOf_78 rfl ?_
      exact loop (Y 10 2 + 1) 0 0 (by omega) (by omega) rfl
  · obtain ⟨I2, hC, h2, h3⟩ := om_refuse2 h
    refine ⟨G, I2, J, ?_, h2, h3, ot_gx.rf⟩
    refine jv_enter okX5_childOf (L := [.ref 64, .int c, .int w, .null, .null]) rfl (Nat.le_of_ble_eq_true rfl) ?_
    refine jv_aload0 dX5_childOf_0 ?_
    refine jv_iload1 dX5_childOf_1 ?_
    refine jv_i2l dX5_childOf_2 rfl ?_
    refine jv_v11 dX5_childOf_3 okX5_isChild inX5_isChild seX5_isChild mlX5_87 (ci := 5) (T := TX5) (N := 35) rfl (mk h.g) (om_isChildI h.g h.r h.w _) (by decide) (Nat.le_of_ble_eq_true rfl) ?_
    refine jv_if_eqB dX5_childOf_6 (tgt := 21) (by decide) (fun g6 => ?_) (fun g6 => ?_)
    · refine jv_aload0 dX5_childOf_21 ?_
      refine jv_bipush dX5_childOf_22 jv_c_bipush_m2 ?_
      refine jv_v11 dX5_childOf_24 okX5_refuse inX5_refuse seX5_refuse mlX5_104 (ci := 5) (T := TX5) (N := 35) rfl (mk h.g) hC (by decide) (Nat.le_of_ble_eq_true rfl) ?_
      exact jv_iret dX5_childOf_27 rfl rfl rfl rfl rfl
    · refine jv_iload2 dX5_childOf_9 ?_
      refine jv_i2l dX5_childOf_10 rfl ?_
      refine jv_lconst dX5_childOf_11 (v := lN 0) rfl ?_
      refine jv_ldc2 dX5_childOf_12 cnX5_252 ?_
      refine jv_s31 dX5_childOf_15 okX5_in stX5_in mlX5_83 (om_inC _ (a := 0) (b := 3) (by decide) (by decide)) (by decide) (Nat.le_of_ble_eq_true rfl) ?_
      refine jv_if_neB dX5_childOf_18 (tgt := 28) (by decide) (fun g18 => ?_) (fun g18 => ?_)
      · omega
      · refine jv_aload0 dX5_childOf_21 ?_
        refine jv_bipush dX5_childOf_22 jv_c_bipush_m2 ?_
        refine jv_v11 dX5_childOf_24 okX5_refuse inX5_refuse seX5_refuse mlX5_104 (ci := 5) (T := TX5) (N := 35) rfl (mk h.g) hC (by decide) (Nat.le_of_ble_eq_true rfl) ?_
        exact jv_iret dX5_childOf_27 rfl rfl rfl rfl rfl
set_option maxRecDepth 20000 in
theorem pc_countOf {G : jv_Gr} {I : jv_I} {J : jv_J} {Y Z : ot_Y} {E : ot_E} {K : Option ot_Y} (h : ot_C G I J Y Z E K) (k : Int32) (w : Int32) : ot_cc 8 mX4_countOf [.ref 1, .int k, .int w] G I J (ot_ans (ot_rc ((0 ≤ k.toInt ∧ k.toInt < Y 10 1) ∧ (0 ≤ w.toInt ∧ w.toInt ≤ 2))) (nI (ot_w4 (ot_n w) (Y 3 (ot_n k)) (Y 4 (ot_n k)) (Y 5 (ot_n k)) 0))) Y (ot_zr Z (ot_rc ((0 ≤ k.toInt ∧ k.toInt < Y 10 1) ∧ (0 ≤ w.toInt ∧ w.toInt ≤ 2)))) E K := by
  have bn := yw_n h.w
  have bc := yw_c h.w
  have bw := yw_w h.w
  refine ot_case (motive := fun A Z' => ot_cc 8 mX4_countOf [.ref 1, .int k, .int w] G I J A Y Z' E K) (fun hv => ?_) (fun hv => ?_)
  · obtain ⟨x, hx, rfl⟩ := ot_of hv.1 (by omega)
    rw [ot_n_nI (show x < 2 ^ 30 by omega)]
    obtain ⟨q, hq, rfl⟩ := ot_of (n := 3) (show 0 ≤ w.toInt ∧ w.toInt < ((3 : Nat) : Int) by omega) (by decide)
    rw [ot_n_nI (show q < 2 ^ 30 by omega)]
    refine ⟨I, J, ?_, h, ot_hi.rf⟩
    refine jv_enter okX4_countOf (L := [.ref 1, .int (nI x), .int (nI q)]) rfl (Nat.le_of_ble_eq_true rfl) ?_
    rcases (show q = 0 ∨ q = 1 ∨ q = 2 by omega) with rfl | rfl | rfl
    · refine jv_aload0 dX4_countOf_0 ?_
      refine jv_getR dX4_countOf_1 flX4_10 rfl (ck h.g) (cr_now h.g) ?_
      refine jv_iload1 dX4_countOf_4 ?_
      refine jv_v11 dX4_countOf_5 okX3_hasCount inX3_hasCount seX3_hasCount mlX4_101 (ci := 3) (T := TX3) (N := 15) rfl (yk (cg_now h.g)) (ot_hasCount (cg_now h.g) h.r h.w _) (by decide) (Nat.le_of_ble_eq_true rfl) ?_
      refine jv_if_neB dX4_countOf_8 (tgt := 18) (by decide) (fun hq8 => ?_) (fun hq8 => absurd hv.1 hq8)
      refine jv_iload2 dX4_countOf_18 ?_
      refine jv_tableIn dX4_countOf_19 (off := 25) (tgt := 44) (by decide) (by decide) (by decide) (by decide) ?_
      refine jv_aload0 dX4_countOf_44 ?_
      refine jv_getR dX4_countOf_45 flX4_10 rfl (ck h.g) (cr_now h.g) ?_
      refine jv_getR dX4_countOf_48 flX4_119 rfl (yk (cg_now h.g)) (yr_kinds (cg_now h.g)) ?_
      refine jv_iload1 dX4_countOf_51 ?_
      refine jv_ialdN dX4_countOf_52 (yk_kinds (cg_now h.g)) (by omega) (by decide) (ye_kinds h.r (by omega)) ?_
      exact jv_iret dX4_countOf_53 rfl rfl rfl rfl rfl
    · refine jv_aload0 dX4_countOf_0 ?_
      refine jv_getR dX4_countOf_1 flX4_10 rfl (ck h.g) (cr_now h.g) ?_
      refine jv_iload1 dX4_countOf_4 ?_
      refine jv_v11 dX4_countOf_5 okX3_hasCount inX3_hasCount seX3_hasCount mlX4_101 (ci := 3) (T := TX3) (N := 15) rfl (yk (cg_now h.g)) (ot_hasCount (cg_now h.g) h.r h.w _) (by decide) (Nat.le_of_ble_eq_true rfl) ?_
      refine jv_if_neB dX4_countOf_8 (tgt := 18) (by decide) (fun hq8 => ?_) (fun hq8 => absurd hv.1 hq8)
      refine jv_iload2 dX4_countOf_18 ?_
      refine jv_tableIn dX4_countOf_19 (off := 35) (tgt := 54) (by decide) (by decide) (by decide) (by decide) ?_
      refine jv_aload0 dX4_countOf_54 ?_
      refine jv_getR dX4_countOf_55 flX4_10 rfl (ck h.g) (cr_now h.g) ?_
      refine jv_getR dX4_countOf_58 flX4_181 rfl (yk (cg_now h.g)) (yr_teams (cg_now h.g)) ?_
      refine jv_iload1 dX4_countOf_61 ?_
      refine jv_ialdN dX4_countOf_62 (yk_teams (cg_now h.g)) (by omega) (by decide) (ye_teams h.r (by omega)) ?_
      exact jv_iret dX4_countOf_63 rfl rfl rfl rfl rfl
    · refine jv_aload0 dX4_countOf_0 ?_
      refine jv_getR dX4_countOf_1 flX4_10 rfl (ck h.g) (cr_now h.g) ?_
      refine jv_iload1 dX4_countOf_4 ?_
      refine jv_v11 dX4_countOf_5 okX3_hasCount inX3_hasCount seX3_hasCount mlX4_101 (ci := 3) (T := TX3) (N := 15) rfl (yk (cg_now h.g)) (ot_hasCount (cg_now h.g) h.r h.w _) (by decide) (Nat.le_of_ble_eq_true rfl) ?_
      refine jv_if_neB dX4_countOf_8 (tgt := 18) (by decide) (fun hq8 => ?_) (fun hq8 => absurd hv.1 hq8)
      refine jv_iload2 dX4_countOf_18 ?_
      refine jv_tableIn dX4_countOf_19 (off := 45) (tgt := 64) (by decide) (by decide) (by decide) (by decide) ?_
      refine jv_aload0 dX4_countOf_64 ?_
      refine jv_getR dX4_countOf_65 flX4_10 rfl (ck h.g) (cr_now h.g) ?_
      refine jv_getR dX4_countOf_68 flX4_184 rfl (yk (cg_now h.g)) (yr_slips (cg_now h.g)) ?_
      refine jv_iload1 dX4_countOf_71 ?_
      refine jv_ialdN dX4_countOf_72 (yk_slips (cg_now h.g)) (by omega) (by decide) (ye_slips h.r (by omega)) ?_
      exact jv_iret dX4_countOf_73 rfl rfl rfl rfl rfl
  · obtain ⟨I2, hC, h2, h3⟩ := oc_refuse2 h
    refine ⟨I2, J, ?_, h2, h3⟩
    refine jv_enter okX4_countOf (L := [.ref 1, .int k, .int w]) rfl (Nat.le_of_ble_eq_true rfl) ?_
    refine jv_aload0 dX4_countOf_0 ?_
    refine jv_getR dX4_countOf_1 flX4_10 rfl (ck h.g) (cr_now h.g) ?_
    refine jv_iload1 dX4_countOf_4 ?_
    refine jv_v11 dX4_countOf_5 okX3_hasCount inX3_hasCount seX3_hasCount mlX4_101 (ci := 3) (T := TX3) (N := 15) rfl (yk (cg_now h.g)) (ot_hasCount (cg_now h.g) h.r h.w _) (by decide) (Nat.le_of_ble_eq_true rfl) ?_
    refine jv_if_neB dX4_countOf_8 (tgt := 18) (by decide) (fun g8 => ?_) (fun g8 => ?_)
    · refine jv_iload2 dX4_countOf_18 ?_
      refine jv_tableOut dX4_countOf_19 (tgt := 74) (by omega) (by decide) ?_
      refine jv_aload0 dX4_countOf_74 ?_
      refine jv_bipush dX4_countOf_75 jv_c_bipush_m2 ?_
      refine jv_v11 dX4_countOf_77 okX4_refuse inX4_refuse seX4_refuse mlX4_61 (ci := 4) (T := TX4) (N := 8) rfl (ck h.g) hC (by decide) (Nat.le_of_ble_eq_true rfl) ?_
      exact jv_iret dX4_countOf_80 rfl rfl rfl rfl rfl
    · refine jv_aload0 dX4_countOf_11 ?_
      refine jv_bipush dX4_countOf_12 jv_c_bipush_m2 ?_
      refine jv_v11 dX4_countOf_14 okX4_refuse inX4_refuse seX4_refuse mlX4_61 (ci := 4) (T := TX4) (N := 8) rfl (ck h.g) hC (by decide) (Nat.le_of_ble_eq_true rfl) ?_
      exact jv_iret dX4_countOf_17 rfl rfl rfl rfl rfl
set_option maxRecDepth 20000 in
theorem pm_countOf {G : jv_Gr} {I : jv_I} {J : jv_J} {Y Z : ot_Y} {E : ot_E} {K : Option ot_Y} (h : ot_M G I J Y Z E K) (k : Int32) (w : Int32) : ot_mm 8 mX5_countOf [.ref 64, .int k, .int w] G I J (ot_ans (ot_rc ((0 ≤ k.toInt ∧ k.toInt < Y 10 1) ∧ (0 ≤ w.toInt ∧ w.toInt ≤ 2))) (nI (ot_w4 (ot_n w) (Y 3 (ot_n k)) (Y 4 (ot_n k)) (Y 5 (ot_n k)) 0))) Y (ot_zr Z (ot_rc ((0 ≤ k.toInt ∧ k.toInt < Y 10 1) ∧ (0 ≤ w.toInt ∧ w.toInt ≤ 2)))) E K := by
  have bn := yw_n h.w
  have bc := yw_c h.w
  have bw := yw_w h.w
  refine ot_case (motive := fun A Z' => ot_mm 8 mX5_countOf [.ref 64, .int k, .int w] G I J A Y Z' E K) (fun hv => ?_) (fun hv => ?_)
  · obtain ⟨x, hx, rfl⟩ := ot_of hv.1 (by omega)
    rw [ot_n_nI (show x < 2 ^ 30 by omega)]
    obtain ⟨q, hq, rfl⟩ := ot_of (n := 3) (show 0 ≤ w.toInt ∧ w.toInt < ((3 : Nat) : Int) by omega) (by decide)
    rw [ot_n_nI (show q < 2 ^ 30 by omega)]
    refine ⟨G, I, J, ?_, h, ot_lo.rf, ot_gx.rf⟩
    refine jv_enter okX5_countOf (L := [.ref 64, .int (nI x), .int (nI q)]) rfl (Nat.le_of_ble_eq_true rfl) ?_
    rcases (show q = 0 ∨ q = 1 ∨ q = 2 by omega) with rfl | rfl | rfl
    · refine jv_aload0 dX5_countOf_0 ?_
      refine jv_iload1 dX5_countOf_1 ?_
      refine jv_v11 dX5_countOf_2 okX5_isCount inX5_isCount seX5_isCount mlX5_94 (ci := 5) (T := TX5) (N := 35) rfl (mk h.g) (om_isCount h.g h.r h.w _) (by decide) (Nat.le_of_ble_eq_true rfl) ?_
      refine jv_if_eqB dX5_countOf_5 (tgt := 20) (by decide) (fun hq5 => absurd hv.1 hq5) (fun hq5 => ?_)
      refine jv_iload2 dX5_countOf_8 ?_
      refine jv_i2l dX5_countOf_9 rfl ?_
      refine jv_lconst dX5_countOf_10 (v := lN 0) rfl ?_
      refine jv_ldc2 dX5_countOf_11 cnX5_133 ?_
      refine jv_s31 dX5_countOf_14 okX5_in stX5_in mlX5_83 (om_inC _ (a := 0) (b := 2) (by decide) (by decide)) (by decide) (Nat.le_of_ble_eq_true rfl) ?_
      refine jv_if_neB dX5_countOf_17 (tgt := 27) (by decide) (fun hq17 => ?_) (fun hq17 => absurd (by omega) hq17)
      refine jv_iload2 dX5_countOf_27 ?_
      refine jv_if_neN dX5_countOf_28 (tgt := 40) (by decide) (by omega) (fun hn28 => by omega) (fun hn28 => ?_)
      refine jv_aload0 dX5_countOf_31 ?_
      refine jv_getR dX5_countOf_32 flX5_46 rfl (mk h.g) (mr_kind h.g) ?_
      refine jv_iload1 dX5_countOf_35 ?_
      refine jv_ialdN dX5_countOf_36 (mk_kind h.g) (by omega) (by decide) (me_kind h.r (by omega)) ?_
      refine jv_goto dX5_countOf_37 (tgt := 60) (by decide) ?_
      exact jv_iret dX5_countOf_60 rfl rfl rfl rfl rfl
    · refine jv_aload0 dX5_countOf_0 ?_
      refine jv_iload1 dX5_countOf_1 ?_
      refine jv_v11 dX5_countOf_2 okX5_isCount inX5_isCount seX5_isCount mlX5_94 (ci := 5) (T := TX5) (N := 35) rfl (mk h.g) (om_isCount h.g h.r h.w _) (by decide) (Nat.le_of_ble_eq_true rfl) ?_
      refine jv_if_eqB dX5_countOf_5 (tgt := 20) (by decide) (fun hq5 => absurd hv.1 hq5) (fun hq5 => ?_)
      refine jv_iload2 dX5_countOf_8 ?_
      refine jv_i2l dX5_countOf_9 rfl ?_
      refine jv_lconst dX5_countOf_10 (v := lN 0) rfl ?_
      refine jv_ldc2 dX5_countOf_11 cnX5_133 ?_
      refine jv_s31 dX5_countOf_14 okX5_in stX5_in mlX5_83 (om_inC _ (a := 0) (b := 2) (by decide) (by decide)) (by decide) (Nat.le_of_ble_eq_true rfl) ?_
      refine jv_if_neB dX5_countOf_17 (tgt := 27) (by decide) (fun hq17 => ?_) (fun hq17 => absurd (by omega) hq17)
      refine jv_iload2 dX5_countOf_27 ?_
      refine jv_if_neN dX5_countOf_28 (tgt := 40) (by decide) (by omega) (fun hn28 => ?_) (fun hn28 => by omega)
      refine jv_iload2 dX5_countOf_40 ?_
      refine jv_iconst dX5_countOf_41 jv_c_iconst_1 ?_
      refine jv_icmp_neN dX5_countOf_42 (tgt := 54) (by decide) (by omega) (by omega) (fun hn42 => by omega) (fun hn42 => ?_)
      refine jv_aload0 dX5_countOf_45 ?_
      refine jv_getR dX5_countOf_46 flX5_49 rfl (mk h.g) (mr_by h.g) ?_
      refine jv_iload1 dX5_countOf_49 ?_
      refine jv_ialdN dX5_countOf_50 (mk_by h.g) (by omega) (by decide) (me_by h.r (by omega)) ?_
      refine jv_goto dX5_countOf_51 (tgt := 60) (by decide) ?_
      exact jv_iret dX5_countOf_60 rfl rfl rfl rfl rfl
    · refine jv_aload0 dX5_countOf_0 ?_
      refine jv_iload1 dX5_countOf_1 ?_
      refine jv_v11 dX5_countOf_2 okX5_isCount inX5_isCount seX5_isCount mlX5_94 (ci := 5) (T := TX5) (N := 35) rfl (mk h.g) (om_isCount h.g h.r h.w _) (by decide) (Nat.le_of_ble_eq_true rfl) ?_
      refine jv_if_eqB dX5_countOf_5 (tgt := 20) (by decide) (fun hq5 => absurd hv.1 hq5) (fun hq5 => ?_)
      refine jv_iload2 dX5_countOf_8 ?_
      refine jv_i2l dX5_countOf_9 rfl ?_
      refine jv_lconst dX5_countOf_10 (v := lN 0) rfl ?_
      refine jv_ldc2 dX5_countOf_11 cnX5_133 ?_
      refine jv_s31 dX5_countOf_14 okX5_in stX5_in mlX5_83 (om_inC _ (a := 0) (b := 2) (by decide) (by decide)) (by decide) (Nat.le_of_ble_eq_true rfl) ?_
      refine jv_if_neB dX5_countOf_17 (tgt := 27) (by decide) (fun hq17 => ?_) (fun hq17 => absurd (by omega) hq17)
      refine jv_iload2 dX5_countOf_27 ?_
      refine jv_if_neN dX5_countOf_28 (tgt := 40) (by decide) (by omega) (fun hn28 => ?_) (fun hn28 => by omega)
      refine jv_iload2 dX5_countOf_40 ?_
      refine jv_iconst dX5_countOf_41 jv_c_iconst_1 ?_
      refine jv_icmp_neN dX5_countOf_42 (tgt := 54) (by decide) (by omega) (by omega) (fun hn42 => ?_) (fun hn42 => by omega)
      refine jv_aload0 dX5_countOf_54 ?_
      refine jv_getR dX5_countOf_55 flX5_52 rfl (mk h.g) (mr_slips h.g) ?_
      refine jv_iload1 dX5_countOf_58 ?_
      refine jv_ialdN dX5_countOf_59 (mk_slips h.g) (by omega) (by decide) (me_slips h.r (by omega)) ?_
      exact jv_iret dX5_countOf_60 rfl rfl rfl rfl rfl
  · obtain ⟨I2, hC, h2, h3⟩ := om_refuse2 h
    refine ⟨G, I2, J, ?_, h2, h3, ot_gx.rf⟩
    refine jv_enter okX5_countOf (L := [.ref 64, .int k, .int w]) rfl (Nat.le_of_ble_eq_true rfl) ?_
    refine jv_aload0 dX5_countOf_0 ?_
    refine jv_iload1 dX5_countOf_1 ?_
    refine jv_v11 dX5_countOf_2 okX5_isCount inX5_isCount seX5_isCount mlX5_94 (ci := 5) (T := TX5) (N := 35) rfl (mk h.g) (om_isCount h.g h.r h.w _) (by decide) (Nat.le_of_ble_eq_true rfl) ?_
    refine jv_if_eqB dX5_countOf_5 (tgt := 20) (by decide) (fun g5 => ?_) (fun g5 => ?_)
    · refine jv_aload0 dX5_countOf_20 ?_
      refine jv_bipush dX5_countOf_21 jv_c_bipush_m2 ?_
      refine jv_v11 dX5_countOf_23 okX5_refuse inX5_refuse seX5_refuse mlX5_104 (ci := 5) (T := TX5) (N := 35) rfl (mk h.g) hC (by decide) (Nat.le_of_ble_eq_true rfl) ?_
      exact jv_iret dX5_countOf_26 rfl rfl rfl rfl rfl
    · refine jv_iload2 dX5_countOf_8 ?_
      refine jv_i2l dX5_countOf_9 rfl ?_
      refine jv_lconst dX5_countOf_10 (v := lN 0) rfl ?_
      refine jv_ldc2 dX5_countOf_11 cnX5_133 ?_
      refine jv_s31 dX5_countOf_14 okX5_in stX5_in mlX5_83 (om_inC _ (a := 0) (b := 2) (by decide) (by decide)) (by decide) (Nat.le_of_ble_eq_true rfl) ?_
      refine jv_if_neB dX5_countOf_17 (tgt := 27) (by decide) (fun g17 => ?_) (fun g17 => ?_)
      · omega
      · refine jv_aload0 dX5_countOf_20 ?_
        refine jv_bipush dX5_countOf_21 jv_c_bipush_m2 ?_
        refine jv_v11 dX5_countOf_23 okX5_refuse inX5_refuse seX5_refuse mlX5_104 (ci := 5) (T := TX5) (N := 35) rfl (mk h.g) hC (by decide) (Nat.le_of_ble_eq_true rfl) ?_
        exact jv_iret dX5_countOf_26 rfl rfl rfl rfl rfl
set_option maxRecDepth 20000 in
theorem pc_wishOf {G : jv_Gr} {I : jv_I} {J : jv_J} {Y Z : ot_Y} {E : ot_E} {K : Option ot_Y} (h : ot_C G I J Y Z E K) (k : Int32) (w : Int32) : ot_cc 8 mX4_wishOf [.ref 1, .int k, .int w] G I J (ot_ans (ot_rc ((0 ≤ k.toInt ∧ k.toInt < Y 10 2) ∧ (0 ≤ w.toInt ∧ w.toInt ≤ 3))) (nI (ot_w4 (ot_n w) (Y 6 (ot_n k)) (Y 7 (ot_n k)) (Y 8 (ot_n k)) (Y 9 (ot_n k))))) Y (ot_zr Z (ot_rc ((0 ≤ k.toInt ∧ k.toInt < Y 10 2) ∧ (0 ≤ w.toInt ∧ w.toInt ≤ 3)))) E K := by
  have bn := yw_n h.w
  have bc := yw_c h.w
  have bw := yw_w h.w
  refine ot_case (motive := fun A Z' => ot_cc 8 mX4_wishOf [.ref 1, .int k, .int w] G I J A Y Z' E K) (fun hv => ?_) (fun hv => ?_)
  · obtain ⟨x, hx, rfl⟩ := ot_of hv.1 (by omega)
    rw [ot_n_nI (show x < 2 ^ 30 by omega)]
    obtain ⟨q, hq, rfl⟩ := ot_of (n := 4) (show 0 ≤ w.toInt ∧ w.toInt < ((4 : Nat) : Int) by omega) (by decide)
    rw [ot_n_nI (show q < 2 ^ 30 by omega)]
    refine ⟨I, J, ?_, h, ot_hi.rf⟩
    refine jv_enter okX4_wishOf (L := [.ref 1, .int (nI x), .int (nI q)]) rfl (Nat.le_of_ble_eq_true rfl) ?_
    rcases (show q = 0 ∨ q = 1 ∨ q = 2 ∨ q = 3 by omega) with rfl | rfl | rfl | rfl
    · refine jv_aload0 dX4_wishOf_0 ?_
      refine jv_getR dX4_wishOf_1 flX4_10 rfl (ck h.g) (cr_now h.g) ?_
      refine jv_iload1 dX4_wishOf_4 ?_
      refine jv_v11 dX4_wishOf_5 okX3_hasWish inX3_hasWish seX3_hasWish mlX4_187 (ci := 3) (T := TX3) (N := 15) rfl (yk (cg_now h.g)) (ot_hasWish (cg_now h.g) h.r h.w _) (by decide) (Nat.le_of_ble_eq_true rfl) ?_
      refine jv_if_neB dX4_wishOf_8 (tgt := 18) (by decide) (fun hq8 => ?_) (fun hq8 => absurd hv.1 hq8)
      refine jv_iload2 dX4_wishOf_18 ?_
      refine jv_tableIn dX4_wishOf_19 (off := 29) (tgt := 48) (by decide) (by decide) (by decide) (by decide) ?_
      refine jv_aload0 dX4_wishOf_48 ?_
      refine jv_getR dX4_wishOf_49 flX4_10 rfl (ck h.g) (cr_now h.g) ?_
      refine jv_getR dX4_wishOf_52 flX4_190 rfl (yk (cg_now h.g)) (yr_firsts (cg_now h.g)) ?_
      refine jv_iload1 dX4_wishOf_55 ?_
      refine jv_ialdN dX4_wishOf_56 (yk_firsts (cg_now h.g)) (by omega) (by decide) (ye_firsts h.r (by omega)) ?_
      exact jv_iret dX4_wishOf_57 rfl rfl rfl rfl rfl
    · refine jv_aload0 dX4_wishOf_0 ?_
      refine jv_getR dX4_wishOf_1 flX4_10 rfl (ck h.g) (cr_now h.g) ?_
      refine jv_iload1 dX4_wishOf_4 ?_
      refine jv_v11 dX4_wishOf_5 okX3_hasWish inX3_hasWish seX3_hasWish mlX4_187 (ci := 3) (T := TX3) (N := 15) rfl (yk (cg_now h.g)) (ot_hasWish (cg_now h.g) h.r h.w _) (by decide) (Nat.le_of_ble_eq_true rfl) ?_
      refine jv_if_neB dX4_wishOf_8 (tgt := 18) (by decide) (fun hq8 => ?_) (fun hq8 => absurd hv.1 hq8)
      refine jv_iload2 dX4_wishOf_18 ?_
      refine jv_tableIn dX4_wishOf_19 (off := 39) (tgt := 58) (by decide) (by decide) (by decide) (by decide) ?_
      refine jv_aload0 dX4_wishOf_58 ?_
      refine jv_getR dX4_wishOf_59 flX4_10 rfl (ck h.g) (cr_now h.g) ?_
      refine jv_getR dX4_wishOf_62 flX4_193 rfl (yk (cg_now h.g)) (yr_seconds (cg_now h.g)) ?_
      refine jv_iload1 dX4_wishOf_65 ?_
      refine jv_ialdN dX4_wishOf_66 (yk_seconds (cg_now h.g)) (by omega) (by decide) (ye_seconds h.r (by omega)) ?_
      exact jv_iret dX4_wishOf_67 rfl rfl rfl rfl rfl
    · refine jv_aload0 dX4_wishOf_0 ?_
      refine jv_getR dX4_wishOf_1 flX4_10 rfl (ck h.g) (cr_now h.g) ?_
      refine jv_iload1 dX4_wishOf_4 ?_
      refine jv_v11 dX4_wishOf_5 okX3_hasWish inX3_hasWish seX3_hasWish mlX4_187 (ci := 3) (T := TX3) (N := 15) rfl (yk (cg_now h.g)) (ot_hasWish (cg_now h.g) h.r h.w _) (by decide) (Nat.le_of_ble_eq_true rfl) ?_
      refine jv_if_neB dX4_wishOf_8 (tgt := 18) (by decide) (fun hq8 => ?_) (fun hq8 => absurd hv.1 hq8)
      refine jv_iload2 dX4_wishOf_18 ?_
      refine jv_tableIn dX4_wishOf_19 (off := 49) (tgt := 68) (by decide) (by decide) (by decide) (by decide) ?_
      refine jv_aload0 dX4_wishOf_68 ?_
      refine jv_getR dX4_wishOf_69 flX4_10 rfl (ck h.g) (cr_now h.g) ?_
      refine jv_getR dX4_wishOf_72 flX4_196 rfl (yk (cg_now h.g)) (yr_together (cg_now h.g)) ?_
      refine jv_iload1 dX4_wishOf_75 ?_
      refine jv_ialdN dX4_wishOf_76 (yk_together (cg_now h.g)) (by omega) (by decide) (ye_together h.r (by omega)) ?_
      exact jv_iret dX4_wishOf_77 rfl rfl rfl rfl rfl
    · refine jv_aload0 dX4_wishOf_0 ?_
      refine jv_getR dX4_wishOf_1 flX4_10 rfl (ck h.g) (cr_now h.g) ?_
      refine jv_iload1 dX4_wishOf_4 ?_
      refine jv_v11 dX4_wishOf_5 okX3_hasWish inX3_hasWish seX3_hasWish mlX4_187 (ci := 3) (T := TX3) (N := 15) rfl (yk (cg_now h.g)) (ot_hasWish (cg_now h.g) h.r h.w _) (by decide) (Nat.le_of_ble_eq_true rfl) ?_
      refine jv_if_neB dX4_wishOf_8 (tgt := 18) (by decide) (fun hq8 => ?_) (fun hq8 => absurd hv.1 hq8)
      refine jv_iload2 dX4_wishOf_18 ?_
      refine jv_tableIn dX4_wishOf_19 (off := 59) (tgt := 78) (by decide) (by decide) (by decide) (by decide) ?_
      refine jv_aload0 dX4_wishOf_78 ?_
      refine jv_getR dX4_wishOf_79 flX4_10 rfl (ck h.g) (cr_now h.g) ?_
      refine jv_getR dX4_wishOf_82 flX4_199 rfl (yk (cg_now h.g)) (yr_worths (cg_now h.g)) ?_
      refine jv_iload1 dX4_wishOf_85 ?_
      refine jv_ialdN dX4_wishOf_86 (yk_worths (cg_now h.g)) (by omega) (by decide) (ye_worths h.r (by omega)) ?_
      exact jv_iret dX4_wishOf_87 rfl rfl rfl rfl rfl
  · obtain ⟨I2, hC, h2, h3⟩ := oc_refuse2 h
    refine ⟨I2, J, ?_, h2, h3⟩
    refine jv_enter okX4_wishOf (L := [.ref 1, .int k, .int w]) rfl (Nat.le_of_ble_eq_true rfl) ?_
    refine jv_aload0 dX4_wishOf_0 ?_
    refine jv_getR dX4_wishOf_1 flX4_10 rfl (ck h.g) (cr_now h.g) ?_
    refine jv_iload1 dX4_wishOf_4 ?_
    refine jv_v11 dX4_wishOf_5 okX3_hasWish inX3_hasWish seX3_hasWish mlX4_187 (ci := 3) (T := TX3) (N := 15) rfl (yk (cg_now h.g)) (ot_hasWish (cg_now h.g) h.r h.w _) (by decide) (Nat.le_of_ble_eq_true rfl) ?_
    refine jv_if_neB dX4_wishOf_8 (tgt := 18) (by decide) (fun g8 => ?_) (fun g8 => ?_)
    · refine jv_iload2 dX4_wishOf_18 ?_
      refine jv_tableOut dX4_wishOf_19 (tgt := 88) (by omega) (by decide) ?_
      refine jv_aload0 dX4_wishOf_88 ?_
      refine jv_bipush dX4_wishOf_89 jv_c_bipush_m2 ?_
      refine jv_v11 dX4_wishOf_91 okX4_refuse inX4_refuse seX4_refuse mlX4_61 (ci := 4) (T := TX4) (N := 8) rfl (ck h.g) hC (by decide) (Nat.le_of_ble_eq_true rfl) ?_
      exact jv_iret dX4_wishOf_94 rfl rfl rfl rfl rfl
    · refine jv_aload0 dX4_wishOf_11 ?_
      refine jv_bipush dX4_wishOf_12 jv_c_bipush_m2 ?_
      refine jv_v11 dX4_wishOf_14 okX4_refuse inX4_refuse seX4_refuse mlX4_61 (ci := 4) (T := TX4) (N := 8) rfl (ck h.g) hC (by decide) (Nat.le_of_ble_eq_true rfl) ?_
      exact jv_iret dX4_wishOf_17 rfl rfl rfl rfl rfl
set_option maxRecDepth 20000 in
theorem pm_wishOf {G : jv_Gr} {I : jv_I} {J : jv_J} {Y Z : ot_Y} {E : ot_E} {K : Option ot_Y} (h : ot_M G I J Y Z E K) (k : Int32) (w : Int32) : ot_mm 8 mX5_wishOf [.ref 64, .int k, .int w] G I J (ot_ans (ot_rc ((0 ≤ k.toInt ∧ k.toInt < Y 10 2) ∧ (0 ≤ w.toInt ∧ w.toInt ≤ 3))) (nI (ot_w4 (ot_n w) (Y 6 (ot_n k)) (Y 7 (ot_n k)) (Y 8 (ot_n k)) (Y 9 (ot_n k))))) Y (ot_zr Z (ot_rc ((0 ≤ k.toInt ∧ k.toInt < Y 10 2) ∧ (0 ≤ w.toInt ∧ w.toInt ≤ 3)))) E K := by
  have bn := yw_n h.w
  have bc := yw_c h.w
  have bw := yw_w h.w
  refine ot_case (motive := fun A Z' => ot_mm 8 mX5_wishOf [.ref 64, .int k, .int w] G I J A Y Z' E K) (fun hv => ?_) (fun hv => ?_)
  · obtain ⟨x, hx, rfl⟩ := ot_of hv.1 (by omega)
    rw [ot_n_nI (show x < 2 ^ 30 by omega)]
    obtain ⟨q, hq, rfl⟩ := ot_of (n := 4) (show 0 ≤ w.toInt ∧ w.toInt < ((4 : Nat) : Int) by omega) (by decide)
    rw [ot_n_nI (show q < 2 ^ 30 by omega)]
    refine ⟨G, I, J, ?_, h, ot_lo.rf, ot_gx.rf⟩
    refine jv_enter okX5_wishOf (L := [.ref 64, .int (nI x), .int (nI q)]) rfl (Nat.le_of_ble_eq_true rfl) ?_
    rcases (show q = 0 ∨ q = 1 ∨ q = 2 ∨ q = 3 by omega) with rfl | rfl | rfl | rfl
    · refine jv_iload1 dX5_wishOf_0 ?_
      refine jv_i2l dX5_wishOf_1 rfl ?_
      refine jv_lconst dX5_wishOf_2 (v := lN 0) rfl ?_
      refine jv_aload0 dX5_wishOf_3 ?_
      refine jv_getI dX5_wishOf_4 flX5_141 rfl (mk h.g) (mi_wishes h.r) ?_
      refine jv_iconst dX5_wishOf_7 jv_c_iconst_1 ?_
      refine jv_isub dX5_wishOf_8 ?_
      refine jv_i2l dX5_wishOf_9 rfl ?_
      refine jv_s31 dX5_wishOf_10 okX5_in stX5_in mlX5_83 (om_inN _ (show Y 10 2 < 2 ^ 30 by omega)) (by decide) (Nat.le_of_ble_eq_true rfl) ?_
      refine jv_if_eqB dX5_wishOf_13 (tgt := 28) (by decide) (fun hq13 => absurd hv.1 hq13) (fun hq13 => ?_)
      refine jv_iload2 dX5_wishOf_16 ?_
      refine jv_i2l dX5_wishOf_17 rfl ?_
      refine jv_lconst dX5_wishOf_18 (v := lN 0) rfl ?_
      refine jv_ldc2 dX5_wishOf_19 cnX5_252 ?_
      refine jv_s31 dX5_wishOf_22 okX5_in stX5_in mlX5_83 (om_inC _ (a := 0) (b := 3) (by decide) (by decide)) (by decide) (Nat.le_of_ble_eq_true rfl) ?_
      refine jv_if_neB dX5_wishOf_25 (tgt := 35) (by decide) (fun hq25 => ?_) (fun hq25 => absurd (by omega) hq25)
      refine jv_iload2 dX5_wishOf_35 ?_
      refine jv_if_neN dX5_wishOf_36 (tgt := 48) (by decide) (by omega) (fun hn36 => by omega) (fun hn36 => ?_)
      refine jv_aload0 dX5_wishOf_39 ?_
      refine jv_getR dX5_wishOf_40 flX5_55 rfl (mk h.g) (mr_one h.g) ?_
      refine jv_iload1 dX5_wishOf_43 ?_
      refine jv_ialdN dX5_wishOf_44 (mk_one h.g) (by omega) (by decide) (me_one h.r (by omega)) ?_
      refine jv_goto dX5_wishOf_45 (tgt := 82) (by decide) ?_
      exact jv_iret dX5_wishOf_82 rfl rfl rfl rfl rfl
    · refine jv_iload1 dX5_wishOf_0 ?_
      refine jv_i2l dX5_wishOf_1 rfl ?_
      refine jv_lconst dX5_wishOf_2 (v := lN 0) rfl ?_
      refine jv_aload0 dX5_wishOf_3 ?_
      refine jv_getI dX5_wishOf_4 flX5_141 rfl (mk h.g) (mi_wishes h.r) ?_
      refine jv_iconst dX5_wishOf_7 jv_c_iconst_1 ?_
      refine jv_isub dX5_wishOf_8 ?_
      refine jv_i2l dX5_wishOf_9 rfl ?_
      refine jv_s31 dX5_wishOf_10 okX5_in stX5_in mlX5_83 (om_inN _ (show Y 10 2 < 2 ^ 30 by omega)) (by decide) (Nat.le_of_ble_eq_true rfl) ?_
      refine jv_if_eqB dX5_wishOf_13 (tgt := 28) (by decide) (fun hq13 => absurd hv.1 hq13) (fun hq13 => ?_)
      refine jv_iload2 dX5_wishOf_16 ?_
      refine jv_i2l dX5_wishOf_17 rfl ?_
      refine jv_lconst dX5_wishOf_18 (v := lN 0) rfl ?_
      refine jv_ldc2 dX5_wishOf_19 cnX5_252 ?_
      refine jv_s31 dX5_wishOf_22 okX5_in stX5_in mlX5_83 (om_inC _ (a := 0) (b := 3) (by decide) (by decide)) (by decide) (Nat.le_of_ble_eq_true rfl) ?_
      refine jv_if_neB dX5_wishOf_25 (tgt := 35) (by decide) (fun hq25 => ?_) (fun hq25 => absurd (by omega) hq25)
      refine jv_iload2 dX5_wishOf_35 ?_
      refine jv_if_neN dX5_wishOf_36 (tgt := 48) (by decide) (by omega) (fun hn36 => ?_) (fun hn36 => by omega)
      refine jv_iload2 dX5_wishOf_48 ?_
      refine jv_iconst dX5_wishOf_49 jv_c_iconst_1 ?_
      refine jv_icmp_neN dX5_wishOf_50 (tgt := 62) (by decide) (by omega) (by omega) (fun hn50 => by omega) (fun hn50 => ?_)
      refine jv_aload0 dX5_wishOf_53 ?_
      refine jv_getR dX5_wishOf_54 flX5_58 rfl (mk h.g) (mr_other h.g) ?_
      refine jv_iload1 dX5_wishOf_57 ?_
      refine jv_ialdN dX5_wishOf_58 (mk_other h.g) (by omega) (by decide) (me_other h.r (by omega)) ?_
      refine jv_goto dX5_wishOf_59 (tgt := 82) (by decide) ?_
      exact jv_iret dX5_wishOf_82 rfl rfl rfl rfl rfl
    · refine jv_iload1 dX5_wishOf_0 ?_
      refine jv_i2l dX5_wishOf_1 rfl ?_
      refine jv_lconst dX5_wishOf_2 (v := lN 0) rfl ?_
      refine jv_aload0 dX5_wishOf_3 ?_
      refine jv_getI dX5_wishOf_4 flX5_141 rfl (mk h.g) (mi_wishes h.r) ?_
      refine jv_iconst dX5_wishOf_7 jv_c_iconst_1 ?_
      refine jv_isub dX5_wishOf_8 ?_
      refine jv_i2l dX5_wishOf_9 rfl ?_
      refine jv_s31 dX5_wishOf_10 okX5_in stX5_in mlX5_83 (om_inN _ (show Y 10 2 < 2 ^ 30 by omega)) (by decide) (Nat.le_of_ble_eq_true rfl) ?_
      refine jv_if_eqB dX5_wishOf_13 (tgt := 28) (by decide) (fun hq13 => absurd hv.1 hq13) (fun hq13 => ?_)
      refine jv_iload2 dX5_wishOf_16 ?_
      refine jv_i2l dX5_wishOf_17 rfl ?_
      refine jv_lconst dX5_wishOf_18 (v := lN 0) rfl ?_
      refine jv_ldc2 dX5_wishOf_19 cnX5_252 ?_
      refine jv_s31 dX5_wishOf_22 okX5_in stX5_in mlX5_83 (om_inC _ (a := 0) (b := 3) (by decide) (by decide)) (by decide) (Nat.le_of_ble_eq_true rfl) ?_
      refine jv_if_neB dX5_wishOf_25 (tgt := 35) (by decide) (fun hq25 => ?_) (fun hq25 => absurd (by omega) hq25)
      refine jv_iload2 dX5_wishOf_35 ?_
      refine jv_if_neN dX5_wishOf_36 (tgt := 48) (by decide) (by omega) (fun hn36 => ?_) (fun hn36 => by omega)
      refine jv_iload2 dX5_wishOf_48 ?_
      refine jv_iconst dX5_wishOf_49 jv_c_iconst_1 ?_
      refine jv_icmp_neN dX5_wishOf_50 (tgt := 62) (by decide) (by omega) (by omega) (fun hn50 => ?_) (fun hn50 => by omega)
      refine jv_iload2 dX5_wishOf_62 ?_
      refine jv_iconst dX5_wishOf_63 jv_c_iconst_2 ?_
      refine jv_icmp_neN dX5_wishOf_64 (tgt := 76) (by decide) (by omega) (by omega) (fun hn64 => by omega) (fun hn64 => ?_)
      refine jv_aload0 dX5_wishOf_67 ?_
      refine jv_getR dX5_wishOf_68 flX5_61 rfl (mk h.g) (mr_together h.g) ?_
      refine jv_iload1 dX5_wishOf_71 ?_
      refine jv_ialdN dX5_wishOf_72 (mk_together h.g) (by omega) (by decide) (me_together h.r (by omega)) ?_
      refine jv_goto dX5_wishOf_73 (tgt := 82) (by decide) ?_
      exact jv_iret dX5_wishOf_82 rfl rfl rfl rfl rfl
    · refine jv_iload1 dX5_wishOf_0 ?_
      refine jv_i2l dX5_wishOf_1 rfl ?_
      refine jv_lconst dX5_wishOf_2 (v := lN 0) rfl ?_
      refine jv_aload0 dX5_wishOf_3 ?_
      refine jv_getI dX5_wishOf_4 flX5_141 rfl (mk h.g) (mi_wishes h.r) ?_
      refine jv_iconst dX5_wishOf_7 jv_c_iconst_1 ?_
      refine jv_isub dX5_wishOf_8 ?_
      refine jv_i2l dX5_wishOf_9 rfl ?_
      refine jv_s31 dX5_wishOf_10 okX5_in stX5_in mlX5_83 (om_inN _ (show Y 10 2 < 2 ^ 30 by omega)) (by decide) (Nat.le_of_ble_eq_true rfl) ?_
      refine jv_if_eqB dX5_wishOf_13 (tgt := 28) (by decide) (fun hq13 => absurd hv.1 hq13) (fun hq13 => ?_)
      refine jv_iload2 dX5_wishOf_16 ?_
      refine jv_i2l dX5_wishOf_17 rfl ?_
      refine jv_lconst dX5_wishOf_18 (v := lN 0) rfl ?_
      refine jv_ldc2 dX5_wishOf_19 cnX5_252 ?_
      refine jv_s31 dX5_wishOf_22 okX5_in stX5_in mlX5_83 (om_inC _ (a := 0) (b := 3) (by decide) (by decide)) (by decide) (Nat.le_of_ble_eq_true rfl) ?_
      refine jv_if_neB dX5_wishOf_25 (tgt := 35) (by decide) (fun hq25 => ?_) (fun hq25 => absurd (by omega) hq25)
      refine jv_iload2 dX5_wishOf_35 ?_
      refine jv_if_neN dX5_wishOf_36 (tgt := 48) (by decide) (by omega) (fun hn36 => ?_) (fun hn36 => by omega)
      refine jv_iload2 dX5_wishOf_48 ?_
      refine jv_iconst dX5_wishOf_49 jv_c_iconst_1 ?_
      refine jv_icmp_neN dX5_wishOf_50 (tgt := 62) (by decide) (by omega) (by omega) (fun hn50 => ?_) (fun hn50 => by omega)
      refine jv_iload2 dX5_wishOf_62 ?_
      refine jv_iconst dX5_wishOf_63 jv_c_iconst_2 ?_
      refine jv_icmp_neN dX5_wishOf_64 (tgt := 76) (by decide) (by omega) (by omega) (fun hn64 => ?_) (fun hn64 => by omega)
      refine jv_aload0 dX5_wishOf_76 ?_
      refine jv_getR dX5_wishOf_77 flX5_64 rfl (mk h.g) (mr_worth h.g) ?_
      refine jv_iload1 dX5_wishOf_80 ?_
      refine jv_ialdN dX5_wishOf_81 (mk_worth h.g) (by omega) (by decide) (me_worth h.r (by omega)) ?_
      exact jv_iret dX5_wishOf_82 rfl rfl rfl rfl rfl
  · obtain ⟨I2, hC, h2, h3⟩ := om_refuse2 h
    refine ⟨G, I2, J, ?_, h2, h3, ot_gx.rf⟩
    refine jv_enter okX5_wishOf (L := [.ref 64, .int k, .int w]) rfl (Nat.le_of_ble_eq_true rfl) ?_
    refine jv_iload1 dX5_wishOf_0 ?_
    refine jv_i2l dX5_wishOf_1 rfl ?_
    refine jv_lconst dX5_wishOf_2 (v := lN 0) rfl ?_
    refine jv_aload0 dX5_wishOf_3 ?_
    refine jv_getI dX5_wishOf_4 flX5_141 rfl (mk h.g) (mi_wishes h.r) ?_
    refine jv_iconst dX5_wishOf_7 jv_c_iconst_1 ?_
    refine jv_isub dX5_wishOf_8 ?_
    refine jv_i2l dX5_wishOf_9 rfl ?_
    refine jv_s31 dX5_wishOf_10 okX5_in stX5_in mlX5_83 (om_inN _ (show Y 10 2 < 2 ^ 30 by omega)) (by decide) (Nat.le_of_ble_eq_true rfl) ?_
    refine jv_if_eqB dX5_wishOf_13 (tgt := 28) (by decide) (fun g13 => ?_) (fun g13 => ?_)
    · refine jv_aload0 dX5_wishOf_28 ?_
      refine jv_bipush dX5_wishOf_29 jv_c_bipush_m2 ?_
      refine jv_v11 dX5_wishOf_31 okX5_refuse inX5_refuse seX5_refuse mlX5_104 (ci := 5) (T := TX5) (N := 35) rfl (mk h.g) hC (by decide) (Nat.le_of_ble_eq_true rfl) ?_
      exact jv_iret dX5_wishOf_34 rfl rfl rfl rfl rfl
    · refine jv_iload2 dX5_wishOf_16 ?_
      refine jv_i2l dX5_wishOf_17 rfl ?_
      refine jv_lconst dX5_wishOf_18 (v := lN 0) rfl ?_
      refine jv_ldc2 dX5_wishOf_19 cnX5_252 ?_
      refine jv_s31 dX5_wishOf_22 okX5_in stX5_in mlX5_83 (om_inC _ (a := 0) (b := 3) (by decide) (by decide)) (by decide) (Nat.le_of_ble_eq_true rfl) ?_
      refine jv_if_neB dX5_wishOf_25 (tgt := 35) (by decide) (fun g25 => ?_) (fun g25 => ?_)
      · omega
      · refine jv_aload0 dX5_wishOf_28 ?_
        refine jv_bipush dX5_wishOf_29 jv_c_bipush_m2 ?_
        refine jv_v11 dX5_wishOf_31 okX5_refuse inX5_refuse seX5_refuse mlX5_104 (ci := 5) (T := TX5) (N := 35) rfl (mk h.g) hC (by decide) (Nat.le_of_ble_eq_true rfl) ?_
        exact jv_iret dX5_wishOf_34 rfl rfl rfl rfl rfl
def ot_heavy (Y : ot_Y) (k : Nat) : Nat := ot_arg (fun t => ot_strongOf Y k t) (Y 4 k)
set_option maxRecDepth 20000 in
theorem pc_heaviest {G : jv_Gr} {I : jv_I} {J : jv_J} {Y Z : ot_Y} {E : ot_E} {K : Option ot_Y} (h : ot_C G I J Y Z E K) (k : Int32) : ot_cc 8 mX4_heaviest [.ref 1, .int k] G I J (ot_ans (ot_rc (0 ≤ k.toInt ∧ k.toInt < Y 10 1)) (nI (ot_heavy Y (ot_n k)))) Y (ot_zr Z (ot_rc (0 ≤ k.toInt ∧ k.toInt < Y 10 1))) E K := by
  have bn := yw_n h.w
  have bc := yw_c h.w
  have bw := yw_w h.w
  refine ot_case (motive := fun A Z' => ot_cc 8 mX4_heaviest [.ref 1, .int k] G I J A Y Z' E K) (fun hv => ?_) (fun hv => ?_)
  · obtain ⟨j, hj, rfl⟩ := ot_of hv (by omega)
    rw [ot_n_nI (show j < 2 ^ 30 by omega)]
    have hq4 := yw_count h.w hj
    refine ⟨I, J, ?_, h, ot_hi.rf⟩
    refine jv_enter okX4_heaviest (L := [.ref 1, .int (nI j), .null, .null]) rfl (Nat.le_of_ble_eq_true rfl) ?_
    have loop : ∀ (n i : Nat) (acc : Nat), Y 4 j + 1 ≤ i + n → i ≤ Y 4 j → acc < i → acc = ot_arg (fun t => ot_strongOf Y j t) i → jv_V 8 mX4_heaviest 22 [.ref 1, .int (nI j), .int (nI acc), .int (nI i)] [] G I J (some (.int (nI (ot_heavy Y j)))) G I J := by
      intro n
      induction n with
      | zero => intro i acc h1 h2; omega
      | succ n ih =>
        intro i acc h1 h2 el ea
        refine jv_iload3 dX4_heaviest_22 ?_
        refine jv_aload0 dX4_heaviest_23 ?_
        refine jv_getR dX4_heaviest_24 flX4_10 rfl (ck h.g) (cr_now h.g) ?_
        refine jv_getR dX4_heaviest_27 flX4_181 rfl (yk (cg_now h.g)) (yr_teams (cg_now h.g)) ?_
        refine jv_iload1 dX4_heaviest_30 ?_
        refine jv_ialdN dX4_heaviest_31 (yk_teams (cg_now h.g)) (by omega) (by decide) (ye_teams h.r (by omega)) ?_
        refine jv_icmp_geN dX4_heaviest_32 (tgt := 64) (by decide) (by omega) (by omega) (fun hc32 => ?_) (fun hc32 => ?_)
        · refine jv_iload2 dX4_heaviest_64 ?_
          exact jv_iret dX4_heaviest_65 rfl rfl (by rw [ea, show i = Y 4 j by omega]; rfl) rfl rfl
        · refine jv_aload0 dX4_heaviest_35 ?_
          refine jv_getR dX4_heaviest_36 flX4_10 rfl (ck h.g) (cr_now h.g) ?_
          refine jv_iload1 dX4_heaviest_39 ?_
          refine jv_iload3 dX4_heaviest_40 ?_
          refine jv_v21 dX4_heaviest_41 okX3_strongOfSide inX3_strongOfSide seX3_strongOfSide mlX4_217 (ci := 3) (T := TX3) (N := 15) rfl (yk (cg_now h.g)) (ot_strongOfM (cg_now h.g) h.r h.w hj (show i < 5 by omega)) (by decide) (Nat.le_of_ble_eq_true rfl) ?_
          refine jv_aload0 dX4_heaviest_44 ?_
          refine jv_getR dX4_heaviest_45 flX4_10 rfl (ck h.g) (cr_now h.g) ?_
          refine jv_iload1 dX4_heaviest_48 ?_
          refine jv_iload2 dX4_heaviest_49 ?_
          refine jv_v21 dX4_heaviest_50 okX3_strongOfSide inX3_strongOfSide seX3_strongOfSide mlX4_217 (ci := 3) (T := TX3) (N := 15) rfl (yk (cg_now h.g)) (ot_strongOfM (cg_now h.g) h.r h.w hj (show acc < 5 by omega)) (by decide) (Nat.le_of_ble_eq_true rfl) ?_
          refine jv_icmp_leN dX4_heaviest_53 (tgt := 58) (by decide) (by have := ot_strongOf_le h.w j i; omega) (by have := ot_strongOf_le h.w j acc; omega) (fun h53 => ?_) (fun h53 => ?_)
          · refine jv_iinc3N dX4_heaviest_58 rfl ?_
            refine jv_goto dX4_heaviest_61 (tgt := 22) (by decide) ?_
            exact ih (i + 1) acc (by omega) (by omega) (by omega) (by rw [ot_arg, ← ea, if_neg (by omega)])
          · refine jv_iload3 dX4_heaviest_56 ?_
            refine jv_istore2 dX4_heaviest_57 rfl ?_
            refine jv_iinc3N dX4_heaviest_58 rfl ?_
            refine jv_goto dX4_heaviest_61 (tgt := 22) (by decide) ?_
            exact ih (i + 1) i (by omega) (by omega) (by omega) (by rw [ot_arg, ← ea, if_pos (by omega)])
    refine jv_aload0 dX4_heaviest_0 ?_
    refine jv_getR dX4_heaviest_1 flX4_10 rfl (ck h.g) (cr_now h.g) ?_
    refine jv_iload1 dX4_heaviest_4 ?_
    refine jv_v11 dX4_heaviest_5 okX3_hasCount inX3_hasCount seX3_hasCount mlX4_101 (ci := 3) (T := TX3) (N := 15) rfl (yk (cg_now h.g)) (ot_hasCount (cg_now h.g) h.r h.w _) (by decide) (Nat.le_of_ble_eq_true rfl) ?_
    refine jv_if_neB dX4_heaviest_8 (tgt := 18) (by decide) (fun hq8 => ?_) (fun hq8 => absurd hv hq8)
    refine jv_iconst dX4_heaviest_18 jv_c_iconst_0 ?_
    refine jv_istore2 dX4_heaviest_19 rfl ?_
    refine jv_iconst dX4_heaviest_20 jv_c_iconst_1 ?_
    refine jv_istore3 dX4_heaviest_21 rfl ?_
    exact loop (Y 4 j + 1) 1 0 (by omega) (by omega) (by omega) (ot_arg_one _).symm
  · obtain ⟨I2, hC, h2, h3⟩ := oc_refuse2 h
    refine ⟨I2, J, ?_, h2, h3⟩
    refine jv_enter okX4_heaviest (L := [.ref 1, .int k, .null, .null]) rfl (Nat.le_of_ble_eq_true rfl) ?_
    refine jv_aload0 dX4_heaviest_0 ?_
    refine jv_getR dX4_heaviest_1 flX4_10 rfl (ck h.g) (cr_now h.g) ?_
    refine jv_iload1 dX4_heaviest_4 ?_
    refine jv_v11 dX4_heaviest_5 okX3_hasCount inX3_hasCount seX3_hasCount mlX4_101 (ci := 3) (T := TX3) (N := 15) rfl (yk (cg_now h.g)) (ot_hasCount (cg_now h.g) h.r h.w _) (by decide) (Nat.le_of_ble_eq_true rfl) ?_
    refine jv_if_neB dX4_heaviest_8 (tgt := 18) (by decide) (fun g8 => ?_) (fun g8 => ?_)
    · exact absurd g8 hv
    · refine jv_aload0 dX4_heaviest_11 ?_
      refine jv_bipush dX4_heaviest_12 jv_c_bipush_m2 ?_
      refine jv_v11 dX4_heaviest_14 okX4_refuse inX4_refuse seX4_refuse mlX4_61 (ci := 4) (T := TX4) (N := 8) rfl (ck h.g) hC (by decide) (Nat.le_of_ble_eq_true rfl) ?_
      exact jv_iret dX4_heaviest_17 rfl rfl rfl rfl rfl
set_option maxRecDepth 20000 in
theorem pm_heaviest {G : jv_Gr} {I : jv_I} {J : jv_J} {Y Z : ot_Y} {E : ot_E} {K : Option ot_Y} (h : ot_M G I J Y Z E K) (k : Int32) : ot_mm 8 mX5_heaviest [.ref 64, .int k] G I J (ot_ans (ot_rc (0 ≤ k.toInt ∧ k.toInt < Y 10 1)) (nI (ot_heavy Y (ot_n k)))) Y (ot_zr Z (ot_rc (0 ≤ k.toInt ∧ k.toInt < Y 10 1))) E K := by
  have bn := yw_n h.w
  have bc := yw_c h.w
  have bw := yw_w h.w
  refine ot_case (motive := fun A Z' => ot_mm 8 mX5_heaviest [.ref 64, .int k] G I J A Y Z' E K) (fun hv => ?_) (fun hv => ?_)
  · obtain ⟨j, hj, rfl⟩ := ot_of hv (by omega)
    rw [ot_n_nI (show j < 2 ^ 30 by omega)]
    have hq4 := yw_count h.w hj
    refine ⟨G, I, J, ?_, h, ot_lo.rf, ot_gx.rf⟩
    refine jv_enter okX5_heaviest (L := [.ref 64, .int (nI j), .null, .null]) rfl (Nat.le_of_ble_eq_true rfl) ?_
    have loop : ∀ (n i : Nat) (acc : Nat), Y 4 j + 1 ≤ i + n → i ≤ Y 4 j → acc < i → acc = ot_arg (fun t => ot_strongOf Y j t) i → jv_V 8 mX5_heaviest 19 [.ref 64, .int (nI j), .int (nI acc), .int (nI i)] [] G I J (some (.int (nI (ot_heavy Y j)))) G I J := by
      intro n
      induction n with
      | zero => intro i acc h1 h2; omega
      | succ n ih =>
        intro i acc h1 h2 el ea
        refine jv_iload3 dX5_heaviest_19 ?_
        refine jv_aload0 dX5_heaviest_20 ?_
        refine jv_getR dX5_heaviest_21 flX5_49 rfl (mk h.g) (mr_by h.g) ?_
        refine jv_iload1 dX5_heaviest_24 ?_
        refine jv_ialdN dX5_heaviest_25 (mk_by h.g) (by omega) (by decide) (me_by h.r (by omega)) ?_
        refine jv_icmp_geN dX5_heaviest_26 (tgt := 56) (by decide) (by omega) (by omega) (fun hc26 => ?_) (fun hc26 => ?_)
        · refine jv_iload2 dX5_heaviest_56 ?_
          exact jv_iret dX5_heaviest_57 rfl rfl (by rw [ea, show i = Y 4 j by omega]; rfl) rfl rfl
        · refine jv_aload0 dX5_heaviest_29 ?_
          refine jv_iload1 dX5_heaviest_30 ?_
          refine jv_iload3 dX5_heaviest_31 ?_
          refine jv_v21 dX5_heaviest_32 okX5_strengthOf inX5_strengthOf seX5_strengthOf mlX5_272 (ci := 5) (T := TX5) (N := 35) rfl (mk h.g) (om_strengthOf h.g h.r h.w hj (show i < 5 by omega)) (by decide) (Nat.le_of_ble_eq_true rfl) ?_
          refine jv_aload0 dX5_heaviest_35 ?_
          refine jv_iload1 dX5_heaviest_36 ?_
          refine jv_iload2 dX5_heaviest_37 ?_
          refine jv_v21 dX5_heaviest_38 okX5_strengthOf inX5_strengthOf seX5_strengthOf mlX5_272 (ci := 5) (T := TX5) (N := 35) rfl (mk h.g) (om_strengthOf h.g h.r h.w hj (show acc < 5 by omega)) (by decide) (Nat.le_of_ble_eq_true rfl) ?_
          refine jv_icmp_leN dX5_heaviest_41 (tgt := 48) (by decide) (by have := ot_strongOf_le h.w j i; omega) (by have := ot_strongOf_le h.w j acc; omega) (fun h53 => ?_) (fun h53 => ?_)
          · refine jv_iload2 dX5_heaviest_48 ?_
            refine jv_istore2 dX5_heaviest_49 rfl ?_
            refine jv_iinc3N dX5_heaviest_50 rfl ?_
            refine jv_goto dX5_heaviest_53 (tgt := 19) (by decide) ?_
            exact ih (i + 1) acc (by omega) (by omega) (by omega) (by rw [ot_arg, ← ea, if_neg (by omega)])
          · refine jv_iload3 dX5_heaviest_44 ?_
            refine jv_goto dX5_heaviest_45 (tgt := 49) (by decide) ?_
            refine jv_istore2 dX5_heaviest_49 rfl ?_
            refine jv_iinc3N dX5_heaviest_50 rfl ?_
            refine jv_goto dX5_heaviest_53 (tgt := 19) (by decide) ?_
            exact ih (i + 1) i (by omega) (by omega) (by omega) (by rw [ot_arg, ← ea, if_pos (by omega)])
    refine jv_aload0 dX5_heaviest_0 ?_
    refine jv_iload1 dX5_heaviest_1 ?_
    refine jv_v11 dX5_heaviest_2 okX5_isCount inX5_isCount seX5_isCount mlX5_94 (ci := 5) (T := TX5) (N := 35) rfl (mk h.g) (om_isCount h.g h.r h.w _) (by decide) (Nat.le_of_ble_eq_true rfl) ?_
    refine jv_if_neB dX5_heaviest_5 (tgt := 15) (by decide) (fun hq5 => ?_) (fun hq5 => absurd hv hq5)
    refine jv_iconst dX5_heaviest_15 jv_c_iconst_0 ?_
    refine jv_istore2 dX5_heaviest_16 rfl ?_
    refine jv_iconst dX5_heaviest_17 jv_c_iconst_1 ?_
    refine jv_istore3 dX5_heaviest_18 rfl ?_
    exact loop (Y 4 j + 1) 1 0 (by omega) (by omega) (by omega) (ot_arg_one _).symm
  · obtain ⟨I2, hC, h2, h3⟩ := om_refuse2 h
    refine ⟨G, I2, J, ?_, h2, h3, ot_gx.rf⟩
    refine jv_enter okX5_heaviest (L := [.ref 64, .int k, .null, .null]) rfl (Nat.le_of_ble_eq_true rfl) ?_
    refine jv_aload0 dX5_heaviest_0 ?_
    refine jv_iload1 dX5_heaviest_1 ?_
    refine jv_v11 dX5_heaviest_2 okX5_isCount inX5_isCount seX5_isCount mlX5_94 (ci := 5) (T := TX5) (N := 35) rfl (mk h.g) (om_isCount h.g h.r h.w _) (by decide) (Nat.le_of_ble_eq_true rfl) ?_
    refine jv_if_neB dX5_heaviest_5 (tgt := 15) (by decide) (fun g5 => ?_) (fun g5 => ?_)
    · exact absurd g5 hv
    · refine jv_aload0 dX5_heaviest_8 ?_
      refine jv_bipush dX5_heaviest_9 jv_c_bipush_m2 ?_
      refine jv_v11 dX5_heaviest_11 okX5_refuse inX5_refuse seX5_refuse mlX5_104 (ci := 5) (T := TX5) (N := 35) rfl (mk h.g) hC (by decide) (Nat.le_of_ble_eq_true rfl) ?_
      exact jv_iret dX5_heaviest_14 rfl rfl rfl rfl rfl
set_option maxRecDepth 20000 in
theorem pc_unlike {G : jv_Gr} {I : jv_I} {J : jv_J} {Y Z : ot_Y} {E : ot_E} {K : Option ot_Y} (h : ot_C G I J Y Z E K) (k : Int32) (b : Int32) : ot_cc 8 mX4_unlike [.ref 1, .int k, .int b] G I J (ot_ans (ot_rc ((0 ≤ k.toInt ∧ k.toInt < Y 10 1) ∧ (0 ≤ b.toInt ∧ b.toInt < Y 10 1))) (nI (ot_unlike Y (ot_n k) (ot_n b)))) Y (ot_zr Z (ot_rc ((0 ≤ k.toInt ∧ k.toInt < Y 10 1) ∧ (0 ≤ b.toInt ∧ b.toInt < Y 10 1)))) E K := by
  have bn := yw_n h.w
  have bc := yw_c h.w
  have bw := yw_w h.w
  refine ot_case (motive := fun A Z' => ot_cc 8 mX4_unlike [.ref 1, .int k, .int b] G I J A Y Z' E K) (fun hv => ?_) (fun hv => ?_)
  · obtain ⟨j, hj, rfl⟩ := ot_of hv.1 (by omega)
    rw [ot_n_nI (show j < 2 ^ 30 by omega)]
    obtain ⟨z, hz, rfl⟩ := ot_of hv.2 (by omega)
    rw [ot_n_nI (show z < 2 ^ 30 by omega)]
    refine ⟨I, J, ?_, h, ot_hi.rf⟩
    refine jv_enter okX4_unlike (L := [.ref 1, .int (nI j), .int (nI z), .null, .null]) rfl (Nat.le_of_ble_eq_true rfl) ?_
    have loop : ∀ (n i : Nat) (acc : Nat), Y 10 0 + 1 ≤ i + n → i ≤ Y 10 0 → acc = ot_sum (fun c => if ot_sideOf Y j c = ot_sideOf Y z c then 0 else 1) i → jv_V 8 mX4_unlike 34 [.ref 1, .int (nI j), .int (nI z), .int (nI acc), .int (nI i)] [] G I J (some (.int (nI (ot_unlike Y j z)))) G I J := by
      intro n
      induction n with
      | zero => intro i acc h1 h2; omega
      | succ n ih =>
        intro i acc h1 h2 ea
        refine jv_iload4 dX4_unlike_34 ?_
        refine jv_aload0 dX4_unlike_36 ?_
        refine jv_getR dX4_unlike_37 flX4_10 rfl (ck h.g) (cr_now h.g) ?_
        refine jv_getI dX4_unlike_40 flX4_128 rfl (yk (cg_now h.g)) (yi_children h.r) ?_
        refine jv_icmp_geN dX4_unlike_43 (tgt := 78) (by decide) (by omega) (by omega) (fun hc43 => ?_) (fun hc43 => ?_)
        · refine jv_iload3 dX4_unlike_78 ?_
          exact jv_iret dX4_unlike_79 rfl rfl (by rw [ea, show i = Y 10 0 by omega]; rfl) rfl rfl
        · refine jv_aload0 dX4_unlike_46 ?_
          refine jv_getR dX4_unlike_47 flX4_10 rfl (ck h.g) (cr_now h.g) ?_
          refine jv_iload1 dX4_unlike_50 ?_
          refine jv_iload4 dX4_unlike_51 ?_
          refine jv_v21 dX4_unlike_53 okX3_sideOf inX3_sideOf seX3_sideOf mlX4_208 (ci := 3) (T := TX3) (N := 15) rfl (yk (cg_now h.g)) (ot_sideOfM (cg_now h.g) h.r h.w hj (show i < Y 10 0 by omega)) (by decide) (Nat.le_of_ble_eq_true rfl) ?_
          refine jv_aload0 dX4_unlike_56 ?_
          refine jv_getR dX4_unlike_57 flX4_10 rfl (ck h.g) (cr_now h.g) ?_
          refine jv_iload2 dX4_unlike_60 ?_
          refine jv_iload4 dX4_unlike_61 ?_
          refine jv_v21 dX4_unlike_63 okX3_sideOf inX3_sideOf seX3_sideOf mlX4_208 (ci := 3) (T := TX3) (N := 15) rfl (yk (cg_now h.g)) (ot_sideOfM (cg_now h.g) h.r h.w hz (show i < Y 10 0 by omega)) (by decide) (Nat.le_of_ble_eq_true rfl) ?_
          refine jv_icmp_eqN dX4_unlike_66 (tgt := 72) (by decide) (by have := ot_side_5 h.w hj (Y 2 i); unfold ot_sideOf; omega) (by have := ot_side_5 h.w hz (Y 2 i); unfold ot_sideOf; omega) (fun h66 => ?_) (fun h66 => ?_)
          · refine jv_iinc4N dX4_unlike_72 rfl ?_
            refine jv_goto dX4_unlike_75 (tgt := 34) (by decide) ?_
            exact ih (i + 1) _ (by omega) (by omega) (by rw [ot_sum, if_pos h66, Nat.add_zero, ea])
          · refine jv_iinc3N dX4_unlike_69 rfl ?_
            refine jv_iinc4N dX4_unlike_72 rfl ?_
            refine jv_goto dX4_unlike_75 (tgt := 34) (by decide) ?_
            exact ih (i + 1) _ (by omega) (by omega) (by rw [ot_sum, if_neg h66, ea])
    refine jv_aload0 dX4_unlike_0 ?_
    refine jv_getR dX4_unlike_1 flX4_10 rfl (ck h.g) (cr_now h.g) ?_
    refine jv_iload1 dX4_unlike_4 ?_
    refine jv_v11 dX4_unlike_5 okX3_hasCount inX3_hasCount seX3_hasCount mlX4_101 (ci := 3) (T := TX3) (N := 15) rfl (yk (cg_now h.g)) (ot_hasCount (cg_now h.g) h.r h.w _) (by decide) (Nat.le_of_ble_eq_true rfl) ?_
    refine jv_if_eqB dX4_unlike_8 (tgt := 22) (by decide) (fun hq8 => absurd hv.1 hq8) (fun hq8 => ?_)
    refine jv_aload0 dX4_unlike_11 ?_
    refine jv_getR dX4_unlike_12 flX4_10 rfl (ck h.g) (cr_now h.g) ?_
    refine jv_iload2 dX4_unlike_15 ?_
    refine jv_v11 dX4_unlike_16 okX3_hasCount inX3_hasCount seX3_hasCount mlX4_101 (ci := 3) (T := TX3) (N := 15) rfl (yk (cg_now h.g)) (ot_hasCount (cg_now h.g) h.r h.w _) (by decide) (Nat.le_of_ble_eq_true rfl) ?_
    refine jv_if_neB dX4_unlike_19 (tgt := 29) (by decide) (fun hq19 => ?_) (fun hq19 => absurd hv.2 hq19)
    refine jv_iconst dX4_unlike_29 jv_c_iconst_0 ?_
    refine jv_istore3 dX4_unlike_30 rfl ?_
    refine jv_iconst dX4_unlike_31 jv_c_iconst_0 ?_
    refine jv_istore4 dX4_unlike_32 rfl ?_
    exact loop (Y 10 0 + 1) 0 0 (by omega) (by omega) rfl
  · obtain ⟨I2, hC, h2, h3⟩ := oc_refuse2 h
    refine ⟨I2, J, ?_, h2, h3⟩
    refine jv_enter okX4_unlike (L := [.ref 1, .int k, .int b, .null, .null]) rfl (Nat.le_of_ble_eq_true rfl) ?_
    refine jv_aload0 dX4_unlike_0 ?_
    refine jv_getR dX4_unlike_1 flX4_10 rfl (ck h.g) (cr_now h.g) ?_
    refine jv_iload1 dX4_unlike_4 ?_
    refine jv_v11 dX4_unlike_5 okX3_hasCount inX3_hasCount seX3_hasCount mlX4_101 (ci := 3) (T := TX3) (N := 15) rfl (yk (cg_now h.g)) (ot_hasCount (cg_now h.g) h.r h.w _) (by decide) (Nat.le_of_ble_eq_true rfl) ?_
    refine jv_if_eqB dX4_unlike_8 (tgt := 22) (by decide) (fun g8 => ?_) (fun g8 => ?_)
    · refine jv_aload0 dX4_unlike_22 ?_
      refine jv_bipush dX4_unlike_23 jv_c_bipush_m2 ?_
      refine jv_v11 dX4_unlike_25 okX4_refuse inX4_refuse seX4_refuse mlX4_61 (ci := 4) (T := TX4) (N := 8) rfl (ck h.g) hC (by decide) (Nat.le_of_ble_eq_true rfl) ?_
      exact jv_iret dX4_unlike_28 rfl rfl rfl rfl rfl
    · refine jv_aload0 dX4_unlike_11 ?_
      refine jv_getR dX4_unlike_12 flX4_10 rfl (ck h.g) (cr_now h.g) ?_
      refine jv_iload2 dX4_unlike_15 ?_
      refine jv_v11 dX4_unlike_16 okX3_hasCount inX3_hasCount seX3_hasCount mlX4_101 (ci := 3) (T := TX3) (N := 15) rfl (yk (cg_now h.g)) (ot_hasCount (cg_now h.g) h.r h.w _) (by decide) (Nat.le_of_ble_eq_true rfl) ?_
      refine jv_if_neB dX4_unlike_19 (tgt := 29) (by decide) (fun g19 => ?_) (fun g19 => ?_)
      · exact absurd ⟨g8, g19⟩ hv
      · refine jv_aload0 dX4_unlike_22 ?_
        refine jv_bipush dX4_unlike_23 jv_c_bipush_m2 ?_
        refine jv_v11 dX4_unlike_25 okX4_refuse inX4_refuse seX4_refuse mlX4_61 (ci := 4) (T := TX4) (N := 8) rfl (ck h.g) hC (by decide) (Nat.le_of_ble_eq_true rfl) ?_
        exact jv_iret dX4_unlike_28 rfl rfl rfl rfl rfl
set_option maxRecDepth 20000 in
theorem pm_unlike {G : jv_Gr} {I : jv_I} {J : jv_J} {Y Z : ot_Y} {E : ot_E} {K : Option ot_Y} (h : ot_M G I J Y Z E K) (k : Int32) (b : Int32) : ot_mm 8 mX5_unlike [.ref 64, .int k, .int b] G I J (ot_ans (ot_rc ((0 ≤ k.toInt ∧ k.toInt < Y 10 1) ∧ (0 ≤ b.toInt ∧ b.toInt < Y 10 1))) (nI (ot_unlike Y (ot_n k) (ot_n b)))) Y (ot_zr Z (ot_rc ((0 ≤ k.toInt ∧ k.toInt < Y 10 1) ∧ (0 ≤ b.toInt ∧ b.toInt < Y 10 1)))) E K := by
  have bn := yw_n h.w
  have bc := yw_c h.w
  have bw := yw_w h.w
  refine ot_case (motive := fun A Z' => ot_mm 8 mX5_unlike [.ref 64, .int k, .int b] G I J A Y Z' E K) (fun hv => ?_) (fun hv => ?_)
  · obtain ⟨j, hj, rfl⟩ := ot_of hv.1 (by omega)
    rw [ot_n_nI (show j < 2 ^ 30 by omega)]
    obtain ⟨z, hz, rfl⟩ := ot_of hv.2 (by omega)
    rw [ot_n_nI (show z < 2 ^ 30 by omega)]
    refine ⟨G, I, J, ?_, h, ot_lo.rf, ot_gx.rf⟩
    refine jv_enter okX5_unlike (L := [.ref 64, .int (nI j), .int (nI z), .null, .null]) rfl (Nat.le_of_ble_eq_true rfl) ?_
    have loop : ∀ (n i : Nat) (acc : Nat), Y 10 0 + 1 ≤ i + n → i ≤ Y 10 0 → acc = ot_sum (fun c => if ot_sideOf Y j c = ot_sideOf Y z c then 0 else 1) i → jv_V 8 mX5_unlike 28 [.ref 64, .int (nI j), .int (nI z), .int (nI acc), .int (nI i)] [] G I J (some (.int (nI (ot_unlike Y j z)))) G I J := by
      intro n
      induction n with
      | zero => intro i acc h1 h2; omega
      | succ n ih =>
        intro i acc h1 h2 ea
        refine jv_iload4 dX5_unlike_28 ?_
        refine jv_aload0 dX5_unlike_30 ?_
        refine jv_getI dX5_unlike_31 flX5_80 rfl (mk h.g) (mi_children h.r) ?_
        refine jv_icmp_geN dX5_unlike_34 (tgt := 68) (by decide) (by omega) (by omega) (fun hc34 => ?_) (fun hc34 => ?_)
        · refine jv_iload3 dX5_unlike_68 ?_
          exact jv_iret dX5_unlike_69 rfl rfl (by rw [ea, show i = Y 10 0 by omega]; rfl) rfl rfl
        · refine jv_iload3 dX5_unlike_37 ?_
          refine jv_aload0 dX5_unlike_38 ?_
          refine jv_iload1 dX5_unlike_39 ?_
          refine jv_iload4 dX5_unlike_40 ?_
          refine jv_v21 dX5_unlike_42 okX5_teamOf inX5_teamOf seX5_teamOf mlX5_260 (ci := 5) (T := TX5) (N := 35) rfl (mk h.g) (om_teamOf h.g h.r h.w hj (show i < Y 10 0 by omega)) (by decide) (Nat.le_of_ble_eq_true rfl) ?_
          refine jv_aload0 dX5_unlike_45 ?_
          refine jv_iload2 dX5_unlike_46 ?_
          refine jv_iload4 dX5_unlike_47 ?_
          refine jv_v21 dX5_unlike_49 okX5_teamOf inX5_teamOf seX5_teamOf mlX5_260 (ci := 5) (T := TX5) (N := 35) rfl (mk h.g) (om_teamOf h.g h.r h.w hz (show i < Y 10 0 by omega)) (by decide) (Nat.le_of_ble_eq_true rfl) ?_
          refine jv_icmp_eqN dX5_unlike_52 (tgt := 59) (by decide) (by have := ot_side_5 h.w hj (Y 2 i); unfold ot_sideOf; omega) (by have := ot_side_5 h.w hz (Y 2 i); unfold ot_sideOf; omega) (fun h66 => ?_) (fun h66 => ?_)
          · refine jv_iconst dX5_unlike_59 jv_c_iconst_0 ?_
            refine jv_iaddN dX5_unlike_60 ?_
            refine jv_istore3 dX5_unlike_61 rfl ?_
            refine jv_iinc4N dX5_unlike_62 rfl ?_
            refine jv_goto dX5_unlike_65 (tgt := 28) (by decide) ?_
            exact ih (i + 1) _ (by omega) (by omega) (by rw [ot_sum, if_pos h66, ea])
          · refine jv_iconst dX5_unlike_55 jv_c_iconst_1 ?_
            refine jv_goto dX5_unlike_56 (tgt := 60) (by decide) ?_
            refine jv_iaddN dX5_unlike_60 ?_
            refine jv_istore3 dX5_unlike_61 rfl ?_
            refine jv_iinc4N dX5_unlike_62 rfl ?_
            refine jv_goto dX5_unlike_65 (tgt := 28) (by decide) ?_
            exact ih (i + 1) _ (by omega) (by omega) (by rw [ot_sum, if_neg h66, ea])
    refine jv_aload0 dX5_unlike_0 ?_
    refine jv_iload1 dX5_unlike_1 ?_
    refine jv_v11 dX5_unlike_2 okX5_isCount inX5_isCount seX5_isCount mlX5_94 (ci := 5) (T := TX5) (N := 35) rfl (mk h.g) (om_isCount h.g h.r h.w _) (by decide) (Nat.le_of_ble_eq_true rfl) ?_
    refine jv_if_eqB dX5_unlike_5 (tgt := 16) (by decide) (fun hq5 => absurd hv.1 hq5) (fun hq5 => ?_)
    refine jv_aload0 dX5_unlike_8 ?_
    refine jv_iload2 dX5_unlike_9 ?_
    refine jv_v11 dX5_unlike_10 okX5_isCount inX5_isCount seX5_isCount mlX5_94 (ci := 5) (T := TX5) (N := 35) rfl (mk h.g) (om_isCount h.g h.r h.w _) (by decide) (Nat.le_of_ble_eq_true rfl) ?_
    refine jv_if_neB dX5_unlike_13 (tgt := 23) (by decide) (fun hq13 => ?_) (fun hq13 => absurd hv.2 hq13)
    refine jv_iconst dX5_unlike_23 jv_c_iconst_0 ?_
    refine jv_istore3 dX5_unlike_24 rfl ?_
    refine jv_iconst dX5_unlike_25 jv_c_iconst_0 ?_
    refine jv_istore4 dX5_unlike_26 rfl ?_
    exact loop (Y 10 0 + 1) 0 0 (by omega) (by omega) rfl
  · obtain ⟨I2, hC, h2, h3⟩ := om_refuse2 h
    refine ⟨G, I2, J, ?_, h2, h3, ot_gx.rf⟩
    refine jv_enter okX5_unlike (L := [.ref 64, .int k, .int b, .null, .null]) rfl (Nat.le_of_ble_eq_true rfl) ?_
    refine jv_aload0 dX5_unlike_0 ?_
    refine jv_iload1 dX5_unlike_1 ?_
    refine jv_v11 dX5_unlike_2 okX5_isCount inX5_isCount seX5_isCount mlX5_94 (ci := 5) (T := TX5) (N := 35) rfl (mk h.g) (om_isCount h.g h.r h.w _) (by decide) (Nat.le_of_ble_eq_true rfl) ?_
    refine jv_if_eqB dX5_unlike_5 (tgt := 16) (by decide) (fun g5 => ?_) (fun g5 => ?_)
    · refine jv_aload0 dX5_unlike_16 ?_
      refine jv_bipush dX5_unlike_17 jv_c_bipush_m2 ?_
      refine jv_v11 dX5_unlike_19 okX5_refuse inX5_refuse seX5_refuse mlX5_104 (ci := 5) (T := TX5) (N := 35) rfl (mk h.g) hC (by decide) (Nat.le_of_ble_eq_true rfl) ?_
      exact jv_iret dX5_unlike_22 rfl rfl rfl rfl rfl
    · refine jv_aload0 dX5_unlike_8 ?_
      refine jv_iload2 dX5_unlike_9 ?_
      refine jv_v11 dX5_unlike_10 okX5_isCount inX5_isCount seX5_isCount mlX5_94 (ci := 5) (T := TX5) (N := 35) rfl (mk h.g) (om_isCount h.g h.r h.w _) (by decide) (Nat.le_of_ble_eq_true rfl) ?_
      refine jv_if_neB dX5_unlike_13 (tgt := 23) (by decide) (fun g13 => ?_) (fun g13 => ?_)
      · exact absurd ⟨g5, g13⟩ hv
      · refine jv_aload0 dX5_unlike_16 ?_
        refine jv_bipush dX5_unlike_17 jv_c_bipush_m2 ?_
        refine jv_v11 dX5_unlike_19 okX5_refuse inX5_refuse seX5_refuse mlX5_104 (ci := 5) (T := TX5) (N := 35) rfl (mk h.g) hC (by decide) (Nat.le_of_ble_eq_true rfl) ?_
        exact jv_iret dX5_unlike_22 rfl rfl rfl rfl rfl
