/-! ===== the face: group 3 ===== -/
set_option maxRecDepth 20000 in
theorem pc_unmet {G : jv_Gr} {I : jv_I} {J : jv_J} {Y Z : ot_Y} {E : ot_E} {K : Option ot_Y} (h : ot_C G I J Y Z E K) (k : Int32) : ot_cc 8 mX4_unmet [.ref 1, .int k] G I J (ot_ans (ot_rc (0 ≤ k.toInt ∧ k.toInt < Y 10 1)) (ot_o (ot_unmet Y (ot_n k) (Y 10 2)))) Y (ot_zr Z (ot_rc (0 ≤ k.toInt ∧ k.toInt < Y 10 1))) E K := by
  have bn := yw_n h.w
  have bc := yw_c h.w
  have bw := yw_w h.w
  refine ot_case (motive := fun A Z' => ot_cc 8 mX4_unmet [.ref 1, .int k] G I J A Y Z' E K) (fun hv => ?_) (fun hv => ?_)
  · obtain ⟨j, hj, rfl⟩ := ot_of hv (by omega)
    rw [ot_n_nI (show j < 2 ^ 30 by omega)]
    refine ⟨I, J, ?_, h, ot_hi.rf⟩
    refine jv_enter okX4_unmet (L := [.ref 1, .int (nI j), .null, .null, .null]) rfl (Nat.le_of_ble_eq_true rfl) ?_
    have loop : ∀ (n i : Nat) (acc : Option Nat) (sv : Value), Y 10 2 + 1 ≤ i + n → i ≤ Y 10 2 → acc = ot_unmet Y j i → jv_V 8 mX4_unmet 22 [.ref 1, .int (nI j), .int (ot_o acc), .int (nI i), sv] [] G I J (some (.int (ot_o (ot_unmet Y j (Y 10 2))))) G I J := by
      intro n
      induction n with
      | zero => intro i acc sv h1 h2; omega
      | succ n ih =>
        intro i acc sv h1 h2 ea
        cases acc with
        | none =>
          dsimp only [ot_o]
          refine jv_iload3 dX4_unmet_22 ?_
          refine jv_aload0 dX4_unmet_23 ?_
          refine jv_getR dX4_unmet_24 flX4_10 rfl (ck h.g) (cr_now h.g) ?_
          refine jv_getI dX4_unmet_27 flX4_144 rfl (yk (cg_now h.g)) (yi_wishes h.r) ?_
          refine jv_icmp_geN dX4_unmet_30 (tgt := 91) (by decide) (by omega) (by omega) (fun hc30 => ?_) (fun hc30 => ?_)
          · refine jv_iload2 dX4_unmet_91 ?_
            exact jv_iret dX4_unmet_92 rfl rfl (by have e := congrArg ot_o ea; rw [show i = Y 10 2 by omega] at e; exact e) rfl rfl
          · refine jv_iload2 dX4_unmet_33 ?_
            refine jv_iconst dX4_unmet_34 jv_c_iconst_m1 ?_
            refine jv_icmp_eq dX4_unmet_35 (tgt := 59) (by decide) (fun hc35 => ?_) (fun hc35 => absurd rfl hc35)
            refine jv_iconst dX4_unmet_59 jv_c_iconst_1 ?_
            refine jv_goto dX4_unmet_60 (tgt := 64) (by decide) ?_
            refine jv_istore4 dX4_unmet_64 rfl ?_
            refine jv_iload4 dX4_unmet_66 ?_
            refine jv_if_eqN dX4_unmet_68 (tgt := 85) (by decide) (by omega) (fun hc68 => by omega) (fun hc68 => ?_)
            refine jv_aload0 dX4_unmet_71 ?_
            refine jv_getR dX4_unmet_72 flX4_10 rfl (ck h.g) (cr_now h.g) ?_
            refine jv_iload1 dX4_unmet_75 ?_
            refine jv_iload3 dX4_unmet_76 ?_
            refine jv_v21 dX4_unmet_77 okX3_isMet inX3_isMet seX3_isMet mlX4_226 (ci := 3) (T := TX3) (N := 15) rfl (yk (cg_now h.g)) (ot_isMetM (cg_now h.g) h.r h.w hj (show i < Y 10 2 by omega)) (by decide) (Nat.le_of_ble_eq_true rfl) ?_
            refine jv_if_neB dX4_unmet_80 (tgt := 85) (by decide) (fun h80 => ?_) (fun h80 => ?_)
            · refine jv_iinc3N dX4_unmet_85 rfl ?_
              refine jv_goto dX4_unmet_88 (tgt := 22) (by decide) ?_
              exact ih (i + 1) none _ (by omega) (by omega) (by rw [ot_unmet, if_pos h80, ea])
            · refine jv_iload3 dX4_unmet_83 ?_
              refine jv_istore2 dX4_unmet_84 rfl ?_
              refine jv_iinc3N dX4_unmet_85 rfl ?_
              refine jv_goto dX4_unmet_88 (tgt := 22) (by decide) ?_
              exact ih (i + 1) (some i) _ (by omega) (by omega) (by rw [ot_unmet, if_neg h80, ← ea])
        | some x =>
          dsimp only [ot_o]
          have hx := ot_unmet_lt i ea.symm
          refine jv_iload3 dX4_unmet_22 ?_
          refine jv_aload0 dX4_unmet_23 ?_
          refine jv_getR dX4_unmet_24 flX4_10 rfl (ck h.g) (cr_now h.g) ?_
          refine jv_getI dX4_unmet_27 flX4_144 rfl (yk (cg_now h.g)) (yi_wishes h.r) ?_
          refine jv_icmp_geN dX4_unmet_30 (tgt := 91) (by decide) (by omega) (by omega) (fun hc30 => ?_) (fun hc30 => ?_)
          · refine jv_iload2 dX4_unmet_91 ?_
            exact jv_iret dX4_unmet_92 rfl rfl (by have e := congrArg ot_o ea; rw [show i = Y 10 2 by omega] at e; exact e) rfl rfl
          · refine jv_iload2 dX4_unmet_33 ?_
            refine jv_iconst dX4_unmet_34 jv_c_iconst_m1 ?_
            refine jv_icmp_eq dX4_unmet_35 (tgt := 59) (by decide) (fun hq35 => absurd hq35 (ot_nI_n1 (by omega))) (fun hq35 => ?_)
            refine jv_aload0 dX4_unmet_38 ?_
            refine jv_getR dX4_unmet_39 flX4_10 rfl (ck h.g) (cr_now h.g) ?_
            refine jv_getR dX4_unmet_42 flX4_199 rfl (yk (cg_now h.g)) (yr_worths (cg_now h.g)) ?_
            refine jv_iload3 dX4_unmet_45 ?_
            refine jv_ialdN dX4_unmet_46 (yk_worths (cg_now h.g)) (by omega) (by decide) (ye_worths h.r (by omega)) ?_
            refine jv_aload0 dX4_unmet_47 ?_
            refine jv_getR dX4_unmet_48 flX4_10 rfl (ck h.g) (cr_now h.g) ?_
            refine jv_getR dX4_unmet_51 flX4_199 rfl (yk (cg_now h.g)) (yr_worths (cg_now h.g)) ?_
            refine jv_iload2 dX4_unmet_54 ?_
            refine jv_ialdN dX4_unmet_55 (yk_worths (cg_now h.g)) (by omega) (by decide) (ye_worths h.r (by omega)) ?_
            refine jv_icmp_leN dX4_unmet_56 (tgt := 63) (by decide) (by have := yw_wish h.w (show i < Y 10 2 by omega); omega) (by have := yw_wish h.w (show x < Y 10 2 by omega); omega) (fun h56 => ?_) (fun h56 => ?_)
            · refine jv_iconst dX4_unmet_63 jv_c_iconst_0 ?_
              refine jv_istore4 dX4_unmet_64 rfl ?_
              refine jv_iload4 dX4_unmet_66 ?_
              refine jv_if_eqN dX4_unmet_68 (tgt := 85) (by decide) (by omega) (fun hc68 => ?_) (fun hc68 => by omega)
              refine jv_iinc3N dX4_unmet_85 rfl ?_
              refine jv_goto dX4_unmet_88 (tgt := 22) (by decide) ?_
              exact ih (i + 1) (some x) _ (by omega) (by omega) (by rw [ot_unmet, ← ea]; dsimp only; rw [if_neg (show ¬ Y 9 x < Y 9 i by omega)]; split <;> rfl)
            · refine jv_iconst dX4_unmet_59 jv_c_iconst_1 ?_
              refine jv_goto dX4_unmet_60 (tgt := 64) (by decide) ?_
              refine jv_istore4 dX4_unmet_64 rfl ?_
              refine jv_iload4 dX4_unmet_66 ?_
              refine jv_if_eqN dX4_unmet_68 (tgt := 85) (by decide) (by omega) (fun hc68 => by omega) (fun hc68 => ?_)
              refine jv_aload0 dX4_unmet_71 ?_
              refine jv_getR dX4_unmet_72 flX4_10 rfl (ck h.g) (cr_now h.g) ?_
              refine jv_iload1 dX4_unmet_75 ?_
              refine jv_iload3 dX4_unmet_76 ?_
              refine jv_v21 dX4_unmet_77 okX3_isMet inX3_isMet seX3_isMet mlX4_226 (ci := 3) (T := TX3) (N := 15) rfl (yk (cg_now h.g)) (ot_isMetM (cg_now h.g) h.r h.w hj (show i < Y 10 2 by omega)) (by decide) (Nat.le_of_ble_eq_true rfl) ?_
              refine jv_if_neB dX4_unmet_80 (tgt := 85) (by decide) (fun h80 => ?_) (fun h80 => ?_)
              · refine jv_iinc3N dX4_unmet_85 rfl ?_
                refine jv_goto dX4_unmet_88 (tgt := 22) (by decide) ?_
                exact ih (i + 1) (some x) _ (by omega) (by omega) (by rw [ot_unmet, if_pos h80, ea])
              · refine jv_iload3 dX4_unmet_83 ?_
                refine jv_istore2 dX4_unmet_84 rfl ?_
                refine jv_iinc3N dX4_unmet_85 rfl ?_
                refine jv_goto dX4_unmet_88 (tgt := 22) (by decide) ?_
                exact ih (i + 1) (some i) _ (by omega) (by omega) (by rw [ot_unmet, if_neg h80, ← ea]; dsimp only; rw [if_pos (by omega)])
    refine jv_aload0 dX4_unmet_0 ?_
    refine jv_getR dX4_unmet_1 flX4_10 rfl (ck h.g) (cr_now h.g) ?_
    refine jv_iload1 dX4_unmet_4 ?_
    refine jv_v11 dX4_unmet_5 okX3_hasCount inX3_hasCount seX3_hasCount mlX4_101 (ci := 3) (T := TX3) (N := 15) rfl (yk (cg_now h.g)) (ot_hasCount (cg_now h.g) h.r h.w _) (by decide) (Nat.le_of_ble_eq_true rfl) ?_
    refine jv_if_neB dX4_unmet_8 (tgt := 18) (by decide) (fun hq8 => ?_) (fun hq8 => absurd hv hq8)
    refine jv_iconst dX4_unmet_18 jv_c_iconst_m1 ?_
    refine jv_istore2 dX4_unmet_19 rfl ?_
    refine jv_iconst dX4_unmet_20 jv_c_iconst_0 ?_
    refine jv_istore3 dX4_unmet_21 rfl ?_
    exact loop (Y 10 2 + 1) 0 none _ (by omega) (by omega) rfl
  · obtain ⟨I2, hC, h2, h3⟩ := oc_refuse2 h
    refine ⟨I2, J, ?_, h2, h3⟩
    refine jv_enter okX4_unmet (L := [.ref 1, .int k, .null, .null, .null]) rfl (Nat.le_of_ble_eq_true rfl) ?_
    refine jv_aload0 dX4_unmet_0 ?_
    refine jv_getR dX4_unmet_1 flX4_10 rfl (ck h.g) (cr_now h.g) ?_
    refine jv_iload1 dX4_unmet_4 ?_
    refine jv_v11 dX4_unmet_5 okX3_hasCount inX3_hasCount seX3_hasCount mlX4_101 (ci := 3) (T := TX3) (N := 15) rfl (yk (cg_now h.g)) (ot_hasCount (cg_now h.g) h.r h.w _) (by decide) (Nat.le_of_ble_eq_true rfl) ?_
    refine jv_if_neB dX4_unmet_8 (tgt := 18) (by decide) (fun g8 => ?_) (fun g8 => ?_)
    · exact absurd g8 hv
    · refine jv_aload0 dX4_unmet_11 ?_
      refine jv_bipush dX4_unmet_12 jv_c_bipush_m2 ?_
      refine jv_v11 dX4_unmet_14 okX4_refuse inX4_refuse seX4_refuse mlX4_61 (ci := 4) (T := TX4) (N := 8) rfl (ck h.g) hC (by decide) (Nat.le_of_ble_eq_true rfl) ?_
      exact jv_iret dX4_unmet_17 rfl rfl rfl rfl rfl
set_option maxRecDepth 20000 in
theorem pm_unmet {G : jv_Gr} {I : jv_I} {J : jv_J} {Y Z : ot_Y} {E : ot_E} {K : Option ot_Y} (h : ot_M G I J Y Z E K) (k : Int32) : ot_mm 8 mX5_unmet [.ref 64, .int k] G I J (ot_ans (ot_rc (0 ≤ k.toInt ∧ k.toInt < Y 10 1)) (ot_o (ot_unmet Y (ot_n k) (Y 10 2)))) Y (ot_zr Z (ot_rc (0 ≤ k.toInt ∧ k.toInt < Y 10 1))) E K := by
  have bn := yw_n h.w
  have bc := yw_c h.w
  have bw := yw_w h.w
  refine ot_case (motive := fun A Z' => ot_mm 8 mX5_unmet [.ref 64, .int k] G I J A Y Z' E K) (fun hv => ?_) (fun hv => ?_)
  · obtain ⟨j, hj, rfl⟩ := ot_of hv (by omega)
    rw [ot_n_nI (show j < 2 ^ 30 by omega)]
    refine ⟨G, I, J, ?_, h, ot_lo.rf, ot_gx.rf⟩
    refine jv_enter okX5_unmet (L := [.ref 64, .int (nI j), .null, .null]) rfl (Nat.le_of_ble_eq_true rfl) ?_
    have loop : ∀ (n i : Nat) (acc : Option Nat), Y 10 2 + 1 ≤ i + n → i ≤ Y 10 2 → acc = ot_unmet Y j i → jv_V 8 mX5_unmet 19 [.ref 64, .int (nI j), .int (ot_o acc), .int (nI i)] [] G I J (some (.int (ot_o (ot_unmet Y j (Y 10 2))))) G I J := by
      intro n
      induction n with
      | zero => intro i acc h1 h2; omega
      | succ n ih =>
        intro i acc h1 h2 ea
        cases acc with
        | none =>
          dsimp only [ot_o]
          refine jv_iload3 dX5_unmet_19 ?_
          refine jv_aload0 dX5_unmet_20 ?_
          refine jv_getI dX5_unmet_21 flX5_141 rfl (mk h.g) (mi_wishes h.r) ?_
          refine jv_icmp_geN dX5_unmet_24 (tgt := 64) (by decide) (by omega) (by omega) (fun hc24 => ?_) (fun hc24 => ?_)
          · refine jv_iload2 dX5_unmet_64 ?_
            exact jv_iret dX5_unmet_65 rfl rfl (by have e := congrArg ot_o ea; rw [show i = Y 10 2 by omega] at e; exact e) rfl rfl
          · refine jv_aload0 dX5_unmet_27 ?_
            refine jv_iload1 dX5_unmet_28 ?_
            refine jv_iload3 dX5_unmet_29 ?_
            refine jv_v21 dX5_unmet_30 okX5_isMet inX5_isMet seX5_isMet mlX5_266 (ci := 5) (T := TX5) (N := 35) rfl (mk h.g) (om_isMet h.g h.r h.w hj (show i < Y 10 2 by omega)) (by decide) (Nat.le_of_ble_eq_true rfl) ?_
            refine jv_if_neB dX5_unmet_33 (tgt := 58) (by decide) (fun h80 => ?_) (fun h80 => ?_)
            · refine jv_iinc3N dX5_unmet_58 rfl ?_
              refine jv_goto dX5_unmet_61 (tgt := 19) (by decide) ?_
              exact ih (i + 1) none (by omega) (by omega) (by rw [ot_unmet, if_pos h80, ea])
            · refine jv_iload2 dX5_unmet_36 ?_
              refine jv_iconst dX5_unmet_37 jv_c_iconst_m1 ?_
              refine jv_icmp_eq dX5_unmet_38 (tgt := 56) (by decide) (fun hc38 => ?_) (fun hc38 => absurd rfl hc38)
              refine jv_iload3 dX5_unmet_56 ?_
              refine jv_istore2 dX5_unmet_57 rfl ?_
              refine jv_iinc3N dX5_unmet_58 rfl ?_
              refine jv_goto dX5_unmet_61 (tgt := 19) (by decide) ?_
              exact ih (i + 1) (some i) (by omega) (by omega) (by rw [ot_unmet, if_neg h80, ← ea])
        | some x =>
          dsimp only [ot_o]
          have hx := ot_unmet_lt i ea.symm
          refine jv_iload3 dX5_unmet_19 ?_
          refine jv_aload0 dX5_unmet_20 ?_
          refine jv_getI dX5_unmet_21 flX5_141 rfl (mk h.g) (mi_wishes h.r) ?_
          refine jv_icmp_geN dX5_unmet_24 (tgt := 64) (by decide) (by omega) (by omega) (fun hc24 => ?_) (fun hc24 => ?_)
          · refine jv_iload2 dX5_unmet_64 ?_
            exact jv_iret dX5_unmet_65 rfl rfl (by have e := congrArg ot_o ea; rw [show i = Y 10 2 by omega] at e; exact e) rfl rfl
          · refine jv_aload0 dX5_unmet_27 ?_
            refine jv_iload1 dX5_unmet_28 ?_
            refine jv_iload3 dX5_unmet_29 ?_
            refine jv_v21 dX5_unmet_30 okX5_isMet inX5_isMet seX5_isMet mlX5_266 (ci := 5) (T := TX5) (N := 35) rfl (mk h.g) (om_isMet h.g h.r h.w hj (show i < Y 10 2 by omega)) (by decide) (Nat.le_of_ble_eq_true rfl) ?_
            refine jv_if_neB dX5_unmet_33 (tgt := 58) (by decide) (fun h80 => ?_) (fun h80 => ?_)
            · refine jv_iinc3N dX5_unmet_58 rfl ?_
              refine jv_goto dX5_unmet_61 (tgt := 19) (by decide) ?_
              exact ih (i + 1) (some x) (by omega) (by omega) (by rw [ot_unmet, if_pos h80, ea])
            · refine jv_iload2 dX5_unmet_36 ?_
              refine jv_iconst dX5_unmet_37 jv_c_iconst_m1 ?_
              refine jv_icmp_eq dX5_unmet_38 (tgt := 56) (by decide) (fun hq38 => absurd hq38 (ot_nI_n1 (by omega))) (fun hq38 => ?_)
              refine jv_aload0 dX5_unmet_41 ?_
              refine jv_getR dX5_unmet_42 flX5_64 rfl (mk h.g) (mr_worth h.g) ?_
              refine jv_iload3 dX5_unmet_45 ?_
              refine jv_ialdN dX5_unmet_46 (mk_worth h.g) (by omega) (by decide) (me_worth h.r (by omega)) ?_
              refine jv_aload0 dX5_unmet_47 ?_
              refine jv_getR dX5_unmet_48 flX5_64 rfl (mk h.g) (mr_worth h.g) ?_
              refine jv_iload2 dX5_unmet_51 ?_
              refine jv_ialdN dX5_unmet_52 (mk_worth h.g) (by omega) (by decide) (me_worth h.r (by omega)) ?_
              refine jv_icmp_leN dX5_unmet_53 (tgt := 58) (by decide) (by have := yw_wish h.w (show i < Y 10 2 by omega); omega) (by have := yw_wish h.w (show x < Y 10 2 by omega); omega) (fun h53 => ?_) (fun h53 => ?_)
              · refine jv_iinc3N dX5_unmet_58 rfl ?_
                refine jv_goto dX5_unmet_61 (tgt := 19) (by decide) ?_
                exact ih (i + 1) (some x) (by omega) (by omega) (by rw [ot_unmet, if_neg h80, ← ea]; dsimp only; rw [if_neg (by omega)])
              · refine jv_iload3 dX5_unmet_56 ?_
                refine jv_istore2 dX5_unmet_57 rfl ?_
                refine jv_iinc3N dX5_unmet_58 rfl ?_
                refine jv_goto dX5_unmet_61 (tgt := 19) (by decide) ?_
                exact ih (i + 1) (some i) (by omega) (by omega) (by rw [ot_unmet, if_neg h80, ← ea]; dsimp only; rw [if_pos (by omega)])
    refine jv_aload0 dX5_unmet_0 ?_
    refine jv_iload1 dX5_unmet_1 ?_
    refine jv_v11 dX5_unmet_2 okX5_isCount inX5_isCount seX5_isCount mlX5_94 (ci := 5) (T := TX5) (N := 35) rfl (mk h.g) (om_isCount h.g h.r h.w _) (by decide) (Nat.le_of_ble_eq_true rfl) ?_
    refine jv_if_neB dX5_unmet_5 (tgt := 15) (by decide) (fun hq5 => ?_) (fun hq5 => absurd hv hq5)
    refine jv_iconst dX5_unmet_15 jv_c_iconst_m1 ?_
    refine jv_istore2 dX5_unmet_16 rfl ?_
    refine jv_iconst dX5_unmet_17 jv_c_iconst_0 ?_
    refine jv_istore3 dX5_unmet_18 rfl ?_
    exact loop (Y 10 2 + 1) 0 none (by omega) (by omega) rfl
  · obtain ⟨I2, hC, h2, h3⟩ := om_refuse2 h
    refine ⟨G, I2, J, ?_, h2, h3, ot_gx.rf⟩
    refine jv_enter okX5_unmet (L := [.ref 64, .int k, .null, .null]) rfl (Nat.le_of_ble_eq_true rfl) ?_
    refine jv_aload0 dX5_unmet_0 ?_
    refine jv_iload1 dX5_unmet_1 ?_
    refine jv_v11 dX5_unmet_2 okX5_isCount inX5_isCount seX5_isCount mlX5_94 (ci := 5) (T := TX5) (N := 35) rfl (mk h.g) (om_isCount h.g h.r h.w _) (by decide) (Nat.le_of_ble_eq_true rfl) ?_
    refine jv_if_neB dX5_unmet_5 (tgt := 15) (by decide) (fun g5 => ?_) (fun g5 => ?_)
    · exact absurd g5 hv
    · refine jv_aload0 dX5_unmet_8 ?_
      refine jv_bipush dX5_unmet_9 jv_c_bipush_m2 ?_
      refine jv_v11 dX5_unmet_11 okX5_refuse inX5_refuse seX5_refuse mlX5_104 (ci := 5) (T := TX5) (N := 35) rfl (mk h.g) hC (by decide) (Nat.le_of_ble_eq_true rfl) ?_
      exact jv_iret dX5_unmet_14 rfl rfl rfl rfl rfl
def ot_always (Y : ot_Y) (c : Nat) : Int32 := ot_bits (fun e => decide (ot_times Y c e = Y 10 1)) (Y 10 0)
theorem ot_times_le (Y : ot_Y) (a b : Nat) : ot_times Y a b ≤ Y 10 1 := (ot_times_all (Y 10 1)).2
set_option maxRecDepth 20000 in
theorem pc_always {G : jv_Gr} {I : jv_I} {J : jv_J} {Y Z : ot_Y} {E : ot_E} {K : Option ot_Y} (h : ot_C G I J Y Z E K) (c : Int32) : ot_cc 8 mX4_always [.ref 1, .int c] G I J (ot_ans (ot_rc (0 ≤ c.toInt ∧ c.toInt < Y 10 0)) (ot_always Y (ot_n c))) Y (ot_zr Z (ot_rc (0 ≤ c.toInt ∧ c.toInt < Y 10 0))) E K := by
  have bn := yw_n h.w
  have bc := yw_c h.w
  have bw := yw_w h.w
  refine ot_case (motive := fun A Z' => ot_cc 8 mX4_always [.ref 1, .int c] G I J A Y Z' E K) (fun hv => ?_) (fun hv => ?_)
  · obtain ⟨j, hj, rfl⟩ := ot_of hv (by omega)
    rw [ot_n_nI (show j < 2 ^ 30 by omega)]
    refine ⟨I, J, ?_, h, ot_hi.rf⟩
    refine jv_enter okX4_always (L := [.ref 1, .int (nI j), .null, .null]) rfl (Nat.le_of_ble_eq_true rfl) ?_
    have loop : ∀ (n i : Nat) (acc : Int32), Y 10 0 + 1 ≤ i + n → i ≤ Y 10 0 → acc = ot_bits (fun e => decide (ot_times Y j e = Y 10 1)) i → jv_V 8 mX4_always 22 [.ref 1, .int (nI j), .int acc, .int (nI i)] [] G I J (some (.int (ot_always Y j))) G I J := by
      intro n
      induction n with
      | zero => intro i acc h1 h2; omega
      | succ n ih =>
        intro i acc h1 h2 ea
        refine jv_iload3 dX4_always_22 ?_
        refine jv_aload0 dX4_always_23 ?_
        refine jv_getR dX4_always_24 flX4_10 rfl (ck h.g) (cr_now h.g) ?_
        refine jv_getI dX4_always_27 flX4_128 rfl (yk (cg_now h.g)) (yi_children h.r) ?_
        refine jv_icmp_geN dX4_always_30 (tgt := 64) (by decide) (by omega) (by omega) (fun hc30 => ?_) (fun hc30 => ?_)
        · refine jv_iload2 dX4_always_64 ?_
          exact jv_iret dX4_always_65 rfl rfl (by rw [ea, show i = Y 10 0 by omega]; rfl) rfl rfl
        · refine jv_aload0 dX4_always_33 ?_
          refine jv_getR dX4_always_34 flX4_10 rfl (ck h.g) (cr_now h.g) ?_
          refine jv_iload1 dX4_always_37 ?_
          refine jv_iload3 dX4_always_38 ?_
          refine jv_v21 dX4_always_39 okX3_timesTogether inX3_timesTogether seX3_timesTogether mlX4_253 (ci := 3) (T := TX3) (N := 15) rfl (yk (cg_now h.g)) (ot_timesM (cg_now h.g) h.r h.w hj (show i < Y 10 0 by omega)) (by decide) (Nat.le_of_ble_eq_true rfl) ?_
          refine jv_aload0 dX4_always_42 ?_
          refine jv_getR dX4_always_43 flX4_10 rfl (ck h.g) (cr_now h.g) ?_
          refine jv_getI dX4_always_46 flX4_134 rfl (yk (cg_now h.g)) (yi_counts h.r) ?_
          refine jv_icmp_neN dX4_always_49 (tgt := 58) (by decide) (by have := ot_times_le Y j i; omega) (by omega) (fun h49 => ?_) (fun h49 => ?_)
          · refine jv_iinc3N dX4_always_58 rfl ?_
            refine jv_goto dX4_always_61 (tgt := 22) (by decide) ?_
            exact ih (i + 1) _ (by omega) (by omega) (by rw [ot_bits, if_neg (by simp [h49]), ea])
          · refine jv_iload2 dX4_always_52 ?_
            refine jv_iconst dX4_always_53 jv_c_iconst_1 ?_
            refine jv_iload3 dX4_always_54 ?_
            refine jv_ishl dX4_always_55 ?_
            refine jv_ior dX4_always_56 ?_
            refine jv_istore2 dX4_always_57 rfl ?_
            refine jv_iinc3N dX4_always_58 rfl ?_
            refine jv_goto dX4_always_61 (tgt := 22) (by decide) ?_
            exact ih (i + 1) _ (by omega) (by omega) (by rw [ot_bits, if_pos (decide_eq_true h49), ea])
    refine jv_aload0 dX4_always_0 ?_
    refine jv_getR dX4_always_1 flX4_10 rfl (ck h.g) (cr_now h.g) ?_
    refine jv_iload1 dX4_always_4 ?_
    refine jv_v11 dX4_always_5 okX3_hasChild inX3_hasChild seX3_hasChild mlX4_166 (ci := 3) (T := TX3) (N := 15) rfl (yk (cg_now h.g)) (ot_hasChild (cg_now h.g) h.r h.w _) (by decide) (Nat.le_of_ble_eq_true rfl) ?_
    refine jv_if_neB dX4_always_8 (tgt := 18) (by decide) (fun hq8 => ?_) (fun hq8 => absurd hv hq8)
    refine jv_iconst dX4_always_18 jv_c_iconst_0 ?_
    refine jv_istore2 dX4_always_19 rfl ?_
    refine jv_iconst dX4_always_20 jv_c_iconst_0 ?_
    refine jv_istore3 dX4_always_21 rfl ?_
    exact loop (Y 10 0 + 1) 0 _ (by omega) (by omega) rfl
  · obtain ⟨I2, hC, h2, h3⟩ := oc_refuse2 h
    refine ⟨I2, J, ?_, h2, h3⟩
    refine jv_enter okX4_always (L := [.ref 1, .int c, .null, .null]) rfl (Nat.le_of_ble_eq_true rfl) ?_
    refine jv_aload0 dX4_always_0 ?_
    refine jv_getR dX4_always_1 flX4_10 rfl (ck h.g) (cr_now h.g) ?_
    refine jv_iload1 dX4_always_4 ?_
    refine jv_v11 dX4_always_5 okX3_hasChild inX3_hasChild seX3_hasChild mlX4_166 (ci := 3) (T := TX3) (N := 15) rfl (yk (cg_now h.g)) (ot_hasChild (cg_now h.g) h.r h.w _) (by decide) (Nat.le_of_ble_eq_true rfl) ?_
    refine jv_if_neB dX4_always_8 (tgt := 18) (by decide) (fun g8 => ?_) (fun g8 => ?_)
    · exact absurd g8 hv
    · refine jv_aload0 dX4_always_11 ?_
      refine jv_bipush dX4_always_12 jv_c_bipush_m2 ?_
      refine jv_v11 dX4_always_14 okX4_refuse inX4_refuse seX4_refuse mlX4_61 (ci := 4) (T := TX4) (N := 8) rfl (ck h.g) hC (by decide) (Nat.le_of_ble_eq_true rfl) ?_
      exact jv_iret dX4_always_17 rfl rfl rfl rfl rfl
set_option maxRecDepth 20000 in
theorem pm_always {G : jv_Gr} {I : jv_I} {J : jv_J} {Y Z : ot_Y} {E : ot_E} {K : Option ot_Y} (h : ot_M G I J Y Z E K) (c : Int32) : ot_mm 8 mX5_always [.ref 64, .int c] G I J (ot_ans (ot_rc (0 ≤ c.toInt ∧ c.toInt < Y 10 0)) (ot_always Y (ot_n c))) Y (ot_zr Z (ot_rc (0 ≤ c.toInt ∧ c.toInt < Y 10 0))) E K := by
  have bn := yw_n h.w
  have bc := yw_c h.w
  have bw := yw_w h.w
  refine ot_case (motive := fun A Z' => ot_mm 8 mX5_always [.ref 64, .int c] G I J A Y Z' E K) (fun hv => ?_) (fun hv => ?_)
  · obtain ⟨j, hj, rfl⟩ := ot_of hv (by omega)
    rw [ot_n_nI (show j < 2 ^ 30 by omega)]
    refine ⟨G, I, J, ?_, h, ot_lo.rf, ot_gx.rf⟩
    refine jv_enter okX5_always (L := [.ref 64, .int (nI j), .null, .null, .null, .null]) rfl (Nat.le_of_ble_eq_true rfl) ?_
    have loop : ∀ (n i : Nat) (acc : Int32) (s4 : Value) (s5 : Value), Y 10 0 + 1 ≤ i + n → i ≤ Y 10 0 → acc = ot_bits (fun e => decide (ot_times Y j e = Y 10 1)) i → jv_V 8 mX5_always 20 [.ref 64, .int (nI j), .int acc, .int (nI i), s4, s5] [] G I J (some (.int (ot_always Y j))) G I J := by
      intro n
      induction n with
      | zero => intro i acc s4 s5 h1 h2; omega
      | succ n ih =>
        intro i acc s4 s5 h1 h2 ea
        refine jv_iload3 dX5_always_20 ?_
        refine jv_aload0 dX5_always_21 ?_
        refine jv_getI dX5_always_22 flX5_80 rfl (mk h.g) (mi_children h.r) ?_
        refine jv_icmp_geN dX5_always_25 (tgt := 83) (by decide) (by omega) (by omega) (fun h25 => ?_) (fun h25 => ?_)
        · refine jv_iload2 dX5_always_83 ?_
          exact jv_iret dX5_always_84 rfl rfl (by rw [ea, show i = Y 10 0 by omega]; rfl) rfl rfl
        · have join : ∀ (b : Bool), (b = true ↔ ot_times Y j i = Y 10 1) → ∀ sv, jv_V 8 mX5_always 62 [.ref 64, .int (nI j), .int acc, .int (nI i), .int (jv_b (b = true)), sv] [] G I J (some (.int (ot_always Y j))) G I J := by
            intro b eb sv
            refine jv_iload2 dX5_always_62 ?_
            refine jv_iload4 dX5_always_63 ?_
            refine jv_if_eqB dX5_always_65 (tgt := 74) (by decide) (fun h65 => ?_) (fun h65 => ?_)
            · refine jv_iconst dX5_always_74 jv_c_iconst_0 ?_
              refine jv_ior dX5_always_75 ?_
              refine jv_istore2 dX5_always_76 rfl ?_
              refine jv_iinc3N dX5_always_77 rfl ?_
              refine jv_goto dX5_always_80 (tgt := 20) (by decide) ?_
              exact ih (i + 1) _ _ _ (by omega) (by omega) (by rw [ot_bits, if_neg (by rw [decide_eq_true_eq]; exact fun z => h65 (eb.mpr z)), ea]; exact ot_or0 _)
            · refine jv_iconst dX5_always_68 jv_c_iconst_1 ?_
              refine jv_iload3 dX5_always_69 ?_
              refine jv_ishl dX5_always_70 ?_
              refine jv_goto dX5_always_71 (tgt := 75) (by decide) ?_
              refine jv_ior dX5_always_75 ?_
              refine jv_istore2 dX5_always_76 rfl ?_
              refine jv_iinc3N dX5_always_77 rfl ?_
              refine jv_goto dX5_always_80 (tgt := 20) (by decide) ?_
              exact ih (i + 1) _ _ _ (by omega) (by omega) (by rw [ot_bits, if_pos (decide_eq_true (eb.mp h65)), ea])
          have inner : ∀ (m2 q : Nat) (b : Bool), Y 10 1 + 1 ≤ q + m2 → q ≤ Y 10 1 → (b = true ↔ ∀ u, u < q → ot_sideOf Y u j = ot_sideOf Y u i) → jv_V 8 mX5_always 34 [.ref 64, .int (nI j), .int acc, .int (nI i), .int (jv_b (b = true)), .int (nI q)] [] G I J (some (.int (ot_always Y j))) G I J := by
            intro m2
            induction m2 with
            | zero => intro q b q1 q2; omega
            | succ m2 ih2 =>
              intro q b q1 q2 eb
              refine jv_iload5 dX5_always_34 ?_
              refine jv_aload0 dX5_always_36 ?_
              refine jv_getI dX5_always_37 flX5_91 rfl (mk h.g) (mi_counts h.r) ?_
              refine jv_icmp_geN dX5_always_40 (tgt := 62) (by decide) (by omega) (by omega) (fun h40 => ?_) (fun h40 => ?_)
              · have e := (ot_times_all (Y := Y) (a := j) (b := i) (Y 10 1)).1
                rw [show q = Y 10 1 by omega] at eb ⊢
                exact join b (eb.trans e.symm) _
              · refine jv_iload4 dX5_always_43 ?_
                refine jv_aload0 dX5_always_45 ?_
                refine jv_iload5 dX5_always_46 ?_
                refine jv_iload1 dX5_always_48 ?_
                refine jv_iload3 dX5_always_49 ?_
                refine jv_v31 dX5_always_50 okX5_areIn inX5_areIn seX5_areIn mlX5_263 (ci := 5) (T := TX5) (N := 35) rfl (mk h.g) (om_areIn h.g h.r h.w (show q < Y 10 1 by omega) hj (show i < Y 10 0 by omega)) (by decide) (Nat.le_of_ble_eq_true rfl) ?_
                refine jv_iand dX5_always_53 ?_
                rw [jv_b_and, ← jv_b_iff (show (b && decide (ot_sideOf Y q j = ot_sideOf Y q i)) = true ↔ (b = true ∧ ot_sideOf Y q j = ot_sideOf Y q i) by rw [Bool.and_eq_true, decide_eq_true_eq])]
                refine jv_istore4 dX5_always_54 rfl ?_
                refine jv_iinc5N dX5_always_56 rfl ?_
                refine jv_goto dX5_always_59 (tgt := 34) (by decide) ?_
                refine ih2 (q + 1) _ (by omega) (by omega) ?_
                rw [Bool.and_eq_true, decide_eq_true_eq, eb]
                exact ⟨fun z u hu => by
                  by_cases e : u = q
                  · rw [e]; exact z.2
                  · exact z.1 u (by omega), fun z => ⟨fun u hu => z u (by omega), z q (by omega)⟩⟩
          refine jv_iconst dX5_always_28 jv_c_iconst_1 ?_
          refine jv_istore4 dX5_always_29 rfl ?_
          refine jv_iconst dX5_always_31 jv_c_iconst_0 ?_
          refine jv_istore5 dX5_always_32 rfl ?_
          exact inner (Y 10 1 + 1) 0 true (by omega) (by omega) ⟨fun _ u hu => absurd hu (by omega), fun _ => rfl⟩
    refine jv_aload0 dX5_always_0 ?_
    refine jv_iload1 dX5_always_1 ?_
    refine jv_i2l dX5_always_2 rfl ?_
    refine jv_v11 dX5_always_3 okX5_isChild inX5_isChild seX5_isChild mlX5_87 (ci := 5) (T := TX5) (N := 35) rfl (mk h.g) (om_isChildI h.g h.r h.w _) (by decide) (Nat.le_of_ble_eq_true rfl) ?_
    refine jv_if_neB dX5_always_6 (tgt := 16) (by decide) (fun hq6 => ?_) (fun hq6 => absurd hv hq6)
    refine jv_iconst dX5_always_16 jv_c_iconst_0 ?_
    refine jv_istore2 dX5_always_17 rfl ?_
    refine jv_iconst dX5_always_18 jv_c_iconst_0 ?_
    refine jv_istore3 dX5_always_19 rfl ?_
    exact loop (Y 10 0 + 1) 0 _ _ _ (by omega) (by omega) rfl
  · obtain ⟨I2, hC, h2, h3⟩ := om_refuse2 h
    refine ⟨G, I2, J, ?_, h2, h3, ot_gx.rf⟩
    refine jv_enter okX5_always (L := [.ref 64, .int c, .null, .null, .null, .null]) rfl (Nat.le_of_ble_eq_true rfl) ?_
    refine jv_aload0 dX5_always_0 ?_
    refine jv_iload1 dX5_always_1 ?_
    refine jv_i2l dX5_always_2 rfl ?_
    refine jv_v11 dX5_always_3 okX5_isChild inX5_isChild seX5_isChild mlX5_87 (ci := 5) (T := TX5) (N := 35) rfl (mk h.g) (om_isChildI h.g h.r h.w _) (by decide) (Nat.le_of_ble_eq_true rfl) ?_
    refine jv_if_neB dX5_always_6 (tgt := 16) (by decide) (fun g6 => ?_) (fun g6 => ?_)
    · exact absurd g6 hv
    · refine jv_aload0 dX5_always_9 ?_
      refine jv_bipush dX5_always_10 jv_c_bipush_m2 ?_
      refine jv_v11 dX5_always_12 okX5_refuse inX5_refuse seX5_refuse mlX5_104 (ci := 5) (T := TX5) (N := 35) rfl (mk h.g) hC (by decide) (Nat.le_of_ble_eq_true rfl) ?_
      exact jv_iret dX5_always_15 rfl rfl rfl rfl rfl
def ot_merit (Y : ot_Y) (w k : Nat) : Int32 := if w = 2 then -(nI (ot_even Y k)) else if w = 0 then nI (ot_value Y k) else -(nI (ot_value Y k))
def ot_argI (f : Nat → Int32) : Nat → Nat
  | 0 => 0
  | n + 1 => if f n ≤ f (ot_argI f n) then ot_argI f n else n
theorem ot_argI_lt (f : Nat → Int32) : ∀ n, 0 < n → ot_argI f n < n
  | 0, h => absurd h (by omega)
  | 1, _ => by rw [ot_argI]; split <;> exact Nat.zero_lt_one
  | n + 2, _ => by have := ot_argI_lt f (n + 1) (by omega); rw [ot_argI]; split <;> omega
theorem ot_argI_one (f : Nat → Int32) : ot_argI f 1 = 0 := by have := ot_argI_lt f 1 (by decide); omega
set_option maxRecDepth 20000 in
theorem oc_merit0 {G : jv_Gr} {I : jv_I} {J : jv_J} {Y Z : ot_Y} {E : ot_E} {K : Option ot_Y} (h : ot_C G I J Y Z E K) {k : Nat} (hk : k < Y 10 1) : jv_C 6 mX4_merit [.ref 1, .int (nI k), .int (nI 0)] G I J (some (.int (ot_merit Y 0 k))) G I J := by
  refine jv_enter okX4_merit (L := [.ref 1, .int (nI k), .int (nI 0), .null]) rfl (Nat.le_of_ble_eq_true rfl) ?_
  have bn := yw_n h.w
  have bc := yw_c h.w
  have bw := yw_w h.w
  refine jv_iload2 dX4_merit_0 ?_
  refine jv_iconst dX4_merit_1 jv_c_iconst_2 ?_
  refine jv_icmp_neN dX4_merit_2 (tgt := 15) (by decide) (by omega) (by omega) (fun h2 => ?_) (fun h2 => by omega)
  refine jv_aload0 dX4_merit_15 ?_
  refine jv_getR dX4_merit_16 flX4_10 rfl (ck h.g) (cr_now h.g) ?_
  refine jv_iload1 dX4_merit_19 ?_
  refine jv_v11 dX4_merit_20 okX3_valueBy inX3_valueBy seX3_valueBy mlX4_223 (ci := 3) (T := TX3) (N := 15) rfl (yk (cg_now h.g)) (ot_valueByM (cg_now h.g) h.r h.w hk) (by decide) (Nat.le_of_ble_eq_true rfl) ?_
  refine jv_istore3 dX4_merit_23 rfl ?_
  refine jv_iload2 dX4_merit_24 ?_
  refine jv_if_neN dX4_merit_25 (tgt := 32) (by decide) (by omega) (fun h25 => by omega) (fun h25 => ?_)
  refine jv_iload3 dX4_merit_28 ?_
  refine jv_goto dX4_merit_29 (tgt := 34) (by decide) ?_
  exact jv_iret dX4_merit_34 rfl rfl rfl rfl rfl
set_option maxRecDepth 20000 in
theorem oc_merit1 {G : jv_Gr} {I : jv_I} {J : jv_J} {Y Z : ot_Y} {E : ot_E} {K : Option ot_Y} (h : ot_C G I J Y Z E K) {k : Nat} (hk : k < Y 10 1) : jv_C 6 mX4_merit [.ref 1, .int (nI k), .int (nI 1)] G I J (some (.int (ot_merit Y 1 k))) G I J := by
  refine jv_enter okX4_merit (L := [.ref 1, .int (nI k), .int (nI 1), .null]) rfl (Nat.le_of_ble_eq_true rfl) ?_
  have bn := yw_n h.w
  have bc := yw_c h.w
  have bw := yw_w h.w
  refine jv_iload2 dX4_merit_0 ?_
  refine jv_iconst dX4_merit_1 jv_c_iconst_2 ?_
  refine jv_icmp_neN dX4_merit_2 (tgt := 15) (by decide) (by omega) (by omega) (fun h2 => ?_) (fun h2 => by omega)
  refine jv_aload0 dX4_merit_15 ?_
  refine jv_getR dX4_merit_16 flX4_10 rfl (ck h.g) (cr_now h.g) ?_
  refine jv_iload1 dX4_merit_19 ?_
  refine jv_v11 dX4_merit_20 okX3_valueBy inX3_valueBy seX3_valueBy mlX4_223 (ci := 3) (T := TX3) (N := 15) rfl (yk (cg_now h.g)) (ot_valueByM (cg_now h.g) h.r h.w hk) (by decide) (Nat.le_of_ble_eq_true rfl) ?_
  refine jv_istore3 dX4_merit_23 rfl ?_
  refine jv_iload2 dX4_merit_24 ?_
  refine jv_if_neN dX4_merit_25 (tgt := 32) (by decide) (by omega) (fun h25 => ?_) (fun h25 => by omega)
  refine jv_iload3 dX4_merit_32 ?_
  refine jv_ineg dX4_merit_33 ?_
  exact jv_iret dX4_merit_34 rfl rfl rfl rfl rfl
set_option maxRecDepth 20000 in
theorem oc_merit2 {G : jv_Gr} {I : jv_I} {J : jv_J} {Y Z : ot_Y} {E : ot_E} {K : Option ot_Y} (h : ot_C G I J Y Z E K) {k : Nat} (hk : k < Y 10 1) : jv_C 6 mX4_merit [.ref 1, .int (nI k), .int (nI 2)] G I J (some (.int (ot_merit Y 2 k))) G I J := by
  refine jv_enter okX4_merit (L := [.ref 1, .int (nI k), .int (nI 2), .null]) rfl (Nat.le_of_ble_eq_true rfl) ?_
  have bn := yw_n h.w
  have bc := yw_c h.w
  have bw := yw_w h.w
  refine jv_iload2 dX4_merit_0 ?_
  refine jv_iconst dX4_merit_1 jv_c_iconst_2 ?_
  refine jv_icmp_neN dX4_merit_2 (tgt := 15) (by decide) (by omega) (by omega) (fun h2 => by omega) (fun h2 => ?_)
  refine jv_aload0 dX4_merit_5 ?_
  refine jv_getR dX4_merit_6 flX4_10 rfl (ck h.g) (cr_now h.g) ?_
  refine jv_iload1 dX4_merit_9 ?_
  refine jv_v11 dX4_merit_10 okX3_unevenness inX3_unevenness seX3_unevenness mlX4_241 (ci := 3) (T := TX3) (N := 15) rfl (yk (cg_now h.g)) (ot_evenM (cg_now h.g) h.r h.w hk) (by decide) (Nat.le_of_ble_eq_true rfl) ?_
  refine jv_ineg dX4_merit_13 ?_
  exact jv_iret dX4_merit_14 rfl rfl rfl rfl rfl
set_option maxRecDepth 20000 in
theorem pc_best {G : jv_Gr} {I : jv_I} {J : jv_J} {Y Z : ot_Y} {E : ot_E} {K : Option ot_Y} (h : ot_C G I J Y Z E K) (w : Int32) : ot_cc 8 mX4_best [.ref 1, .int w] G I J (ot_ans (ot_rc2 (0 ≤ w.toInt ∧ w.toInt ≤ 2) (0 < Y 10 1) 5) (nI (ot_argI (ot_merit Y (ot_n w)) (Y 10 1)))) Y (ot_zr Z (ot_rc2 (0 ≤ w.toInt ∧ w.toInt ≤ 2) (0 < Y 10 1) 5)) E K := by
  have bn := yw_n h.w
  have bc := yw_c h.w
  have bw := yw_w h.w
  refine ot_rc2_split (motive := fun rc => ot_cc 8 mX4_best [.ref 1, .int w] G I J (ot_ans rc (nI (ot_argI (ot_merit Y (ot_n w)) (Y 10 1)))) Y (ot_zr Z rc) E K) (fun hv hw => ?_) (fun hv hw => ?_) (fun hv => ?_)
  · obtain ⟨q, hq, rfl⟩ := ot_of (n := 3) (show 0 ≤ w.toInt ∧ w.toInt < ((3 : Nat) : Int) by omega) (by decide)
    rw [ot_n_nI (show q < 2 ^ 30 by omega)]
    refine ⟨I, J, ?_, h, ot_hi.rf⟩
    refine jv_enter okX4_best (L := [.ref 1, .int (nI q), .null, .null]) rfl (Nat.le_of_ble_eq_true rfl) ?_
    rcases (show q = 0 ∨ q = 1 ∨ q = 2 by omega) with rfl | rfl | rfl
    · have loop : ∀ (n i : Nat) (acc : Nat), Y 10 1 + 1 ≤ i + n → i ≤ Y 10 1 → acc < i → acc = ot_argI (ot_merit Y 0) i → jv_V 8 mX4_best 37 [.ref 1, .int (nI 0), .int (nI acc), .int (nI i)] [] G I J (some (.int (nI (ot_argI (ot_merit Y 0) (Y 10 1))))) G I J := by
        intro n
        induction n with
        | zero => intro i acc h1 h2; omega
        | succ n ih =>
          intro i acc h1 h2 el ea
          refine jv_iload3 dX4_best_37 ?_
          refine jv_aload0 dX4_best_38 ?_
          refine jv_getR dX4_best_39 flX4_10 rfl (ck h.g) (cr_now h.g) ?_
          refine jv_getI dX4_best_42 flX4_134 rfl (yk (cg_now h.g)) (yi_counts h.r) ?_
          refine jv_icmp_geN dX4_best_45 (tgt := 71) (by decide) (by omega) (by omega) (fun hc45 => ?_) (fun hc45 => ?_)
          · refine jv_iload2 dX4_best_71 ?_
            exact jv_iret dX4_best_72 rfl rfl (by rw [ea, show i = Y 10 1 by omega]) rfl rfl
          · refine jv_aload0 dX4_best_48 ?_
            refine jv_iload3 dX4_best_49 ?_
            refine jv_iload1 dX4_best_50 ?_
            refine jv_v21 dX4_best_51 okX4_merit inX4_merit seX4_merit mlX4_238 (ci := 4) (T := TX4) (N := 8) rfl (ck h.g) (oc_merit0 h (show i < Y 10 1 by omega)) (by decide) (Nat.le_of_ble_eq_true rfl) ?_
            refine jv_aload0 dX4_best_54 ?_
            refine jv_iload2 dX4_best_55 ?_
            refine jv_iload1 dX4_best_56 ?_
            refine jv_v21 dX4_best_57 okX4_merit inX4_merit seX4_merit mlX4_238 (ci := 4) (T := TX4) (N := 8) rfl (ck h.g) (oc_merit0 h (show acc < Y 10 1 by omega)) (by decide) (Nat.le_of_ble_eq_true rfl) ?_
            refine jv_icmp_le dX4_best_60 (tgt := 65) (by decide) (fun h60 => ?_) (fun h60 => ?_)
            · refine jv_iinc3N dX4_best_65 rfl ?_
              refine jv_goto dX4_best_68 (tgt := 37) (by decide) ?_
              exact ih (i + 1) acc (by omega) (by omega) (by omega) (by rw [ot_argI, ← ea, if_pos h60])
            · refine jv_iload3 dX4_best_63 ?_
              refine jv_istore2 dX4_best_64 rfl ?_
              refine jv_iinc3N dX4_best_65 rfl ?_
              refine jv_goto dX4_best_68 (tgt := 37) (by decide) ?_
              exact ih (i + 1) i (by omega) (by omega) (by omega) (by rw [ot_argI, ← ea, if_neg h60])
      refine jv_iload1 dX4_best_0 ?_
      refine jv_iconst dX4_best_1 jv_c_iconst_0 ?_
      refine jv_iconst dX4_best_2 jv_c_iconst_2 ?_
      refine jv_s31 dX4_best_3 okX4_within stX4_within mlX4_57 (oc_inC _ (a := 0) (b := 2) (by decide) (by decide)) (by decide) (Nat.le_of_ble_eq_true rfl) ?_
      refine jv_if_neB dX4_best_6 (tgt := 16) (by decide) (fun hq6 => ?_) (fun hq6 => absurd (by omega) hq6)
      refine jv_aload0 dX4_best_16 ?_
      refine jv_getR dX4_best_17 flX4_10 rfl (ck h.g) (cr_now h.g) ?_
      refine jv_getI dX4_best_20 flX4_134 rfl (yk (cg_now h.g)) (yi_counts h.r) ?_
      refine jv_if_neN dX4_best_23 (tgt := 33) (by decide) (by omega) (fun hc23 => ?_) (fun hc23 => by omega)
      refine jv_iconst dX4_best_33 jv_c_iconst_0 ?_
      refine jv_istore2 dX4_best_34 rfl ?_
      refine jv_iconst dX4_best_35 jv_c_iconst_1 ?_
      refine jv_istore3 dX4_best_36 rfl ?_
      exact loop (Y 10 1 + 1) 1 0 (by omega) (by omega) (by omega) (ot_argI_one _).symm
    · have loop : ∀ (n i : Nat) (acc : Nat), Y 10 1 + 1 ≤ i + n → i ≤ Y 10 1 → acc < i → acc = ot_argI (ot_merit Y 1) i → jv_V 8 mX4_best 37 [.ref 1, .int (nI 1), .int (nI acc), .int (nI i)] [] G I J (some (.int (nI (ot_argI (ot_merit Y 1) (Y 10 1))))) G I J := by
        intro n
        induction n with
        | zero => intro i acc h1 h2; omega
        | succ n ih =>
          intro i acc h1 h2 el ea
          refine jv_iload3 dX4_best_37 ?_
          refine jv_aload0 dX4_best_38 ?_
          refine jv_getR dX4_best_39 flX4_10 rfl (ck h.g) (cr_now h.g) ?_
          refine jv_getI dX4_best_42 flX4_134 rfl (yk (cg_now h.g)) (yi_counts h.r) ?_
          refine jv_icmp_geN dX4_best_45 (tgt := 71) (by decide) (by omega) (by omega) (fun hc45 => ?_) (fun hc45 => ?_)
          · refine jv_iload2 dX4_best_71 ?_
            exact jv_iret dX4_best_72 rfl rfl (by rw [ea, show i = Y 10 1 by omega]) rfl rfl
          · refine jv_aload0 dX4_best_48 ?_
            refine jv_iload3 dX4_best_49 ?_
            refine jv_iload1 dX4_best_50 ?_
            refine jv_v21 dX4_best_51 okX4_merit inX4_merit seX4_merit mlX4_238 (ci := 4) (T := TX4) (N := 8) rfl (ck h.g) (oc_merit1 h (show i < Y 10 1 by omega)) (by decide) (Nat.le_of_ble_eq_true rfl) ?_
            refine jv_aload0 dX4_best_54 ?_
            refine jv_iload2 dX4_best_55 ?_
            refine jv_iload1 dX4_best_56 ?_
            refine jv_v21 dX4_best_57 okX4_merit inX4_merit seX4_merit mlX4_238 (ci := 4) (T := TX4) (N := 8) rfl (ck h.g) (oc_merit1 h (show acc < Y 10 1 by omega)) (by decide) (Nat.le_of_ble_eq_true rfl) ?_
            refine jv_icmp_le dX4_best_60 (tgt := 65) (by decide) (fun h60 => ?_) (fun h60 => ?_)
            · refine jv_iinc3N dX4_best_65 rfl ?_
              refine jv_goto dX4_best_68 (tgt := 37) (by decide) ?_
              exact ih (i + 1) acc (by omega) (by omega) (by omega) (by rw [ot_argI, ← ea, if_pos h60])
            · refine jv_iload3 dX4_best_63 ?_
              refine jv_istore2 dX4_best_64 rfl ?_
              refine jv_iinc3N dX4_best_65 rfl ?_
              refine jv_goto dX4_best_68 (tgt := 37) (by decide) ?_
              exact ih (i + 1) i (by omega) (by omega) (by omega) (by rw [ot_argI, ← ea, if_neg h60])
      refine jv_iload1 dX4_best_0 ?_
      refine jv_iconst dX4_best_1 jv_c_iconst_0 ?_
      refine jv_iconst dX4_best_2 jv_c_iconst_2 ?_
      refine jv_s31 dX4_best_3 okX4_within stX4_within mlX4_57 (oc_inC _ (a := 0) (b := 2) (by decide) (by decide)) (by decide) (Nat.le_of_ble_eq_true rfl) ?_
      refine jv_if_neB dX4_best_6 (tgt := 16) (by decide) (fun hq6 => ?_) (fun hq6 => absurd (by omega) hq6)
      refine jv_aload0 dX4_best_16 ?_
      refine jv_getR dX4_best_17 flX4_10 rfl (ck h.g) (cr_now h.g) ?_
      refine jv_getI dX4_best_20 flX4_134 rfl (yk (cg_now h.g)) (yi_counts h.r) ?_
      refine jv_if_neN dX4_best_23 (tgt := 33) (by decide) (by omega) (fun hc23 => ?_) (fun hc23 => by omega)
      refine jv_iconst dX4_best_33 jv_c_iconst_0 ?_
      refine jv_istore2 dX4_best_34 rfl ?_
      refine jv_iconst dX4_best_35 jv_c_iconst_1 ?_
      refine jv_istore3 dX4_best_36 rfl ?_
      exact loop (Y 10 1 + 1) 1 0 (by omega) (by omega) (by omega) (ot_argI_one _).symm
    · have loop : ∀ (n i : Nat) (acc : Nat), Y 10 1 + 1 ≤ i + n → i ≤ Y 10 1 → acc < i → acc = ot_argI (ot_merit Y 2) i → jv_V 8 mX4_best 37 [.ref 1, .int (nI 2), .int (nI acc), .int (nI i)] [] G I J (some (.int (nI (ot_argI (ot_merit Y 2) (Y 10 1))))) G I J := by
        intro n
        induction n with
        | zero => intro i acc h1 h2; omega
        | succ n ih =>
          intro i acc h1 h2 el ea
          refine jv_iload3 dX4_best_37 ?_
          refine jv_aload0 dX4_best_38 ?_
          refine jv_getR dX4_best_39 flX4_10 rfl (ck h.g) (cr_now h.g) ?_
          refine jv_getI dX4_best_42 flX4_134 rfl (yk (cg_now h.g)) (yi_counts h.r) ?_
          refine jv_icmp_geN dX4_best_45 (tgt := 71) (by decide) (by omega) (by omega) (fun hc45 => ?_) (fun hc45 => ?_)
          · refine jv_iload2 dX4_best_71 ?_
            exact jv_iret dX4_best_72 rfl rfl (by rw [ea, show i = Y 10 1 by omega]) rfl rfl
          · refine jv_aload0 dX4_best_48 ?_
            refine jv_iload3 dX4_best_49 ?_
            refine jv_iload1 dX4_best_50 ?_
            refine jv_v21 dX4_best_51 okX4_merit inX4_merit seX4_merit mlX4_238 (ci := 4) (T := TX4) (N := 8) rfl (ck h.g) (oc_merit2 h (show i < Y 10 1 by omega)) (by decide) (Nat.le_of_ble_eq_true rfl) ?_
            refine jv_aload0 dX4_best_54 ?_
            refine jv_iload2 dX4_best_55 ?_
            refine jv_iload1 dX4_best_56 ?_
            refine jv_v21 dX4_best_57 okX4_merit inX4_merit seX4_merit mlX4_238 (ci := 4) (T := TX4) (N := 8) rfl (ck h.g) (oc_merit2 h (show acc < Y 10 1 by omega)) (by decide) (Nat.le_of_ble_eq_true rfl) ?_
            refine jv_icmp_le dX4_best_60 (tgt := 65) (by decide) (fun h60 => ?_) (fun h60 => ?_)
            · refine jv_iinc3N dX4_best_65 rfl ?_
              refine jv_goto dX4_best_68 (tgt := 37) (by decide) ?_
              exact ih (i + 1) acc (by omega) (by omega) (by omega) (by rw [ot_argI, ← ea, if_pos h60])
            · refine jv_iload3 dX4_best_63 ?_
              refine jv_istore2 dX4_best_64 rfl ?_
              refine jv_iinc3N dX4_best_65 rfl ?_
              refine jv_goto dX4_best_68 (tgt := 37) (by decide) ?_
              exact ih (i + 1) i (by omega) (by omega) (by omega) (by rw [ot_argI, ← ea, if_neg h60])
      refine jv_iload1 dX4_best_0 ?_
      refine jv_iconst dX4_best_1 jv_c_iconst_0 ?_
      refine jv_iconst dX4_best_2 jv_c_iconst_2 ?_
      refine jv_s31 dX4_best_3 okX4_within stX4_within mlX4_57 (oc_inC _ (a := 0) (b := 2) (by decide) (by decide)) (by decide) (Nat.le_of_ble_eq_true rfl) ?_
      refine jv_if_neB dX4_best_6 (tgt := 16) (by decide) (fun hq6 => ?_) (fun hq6 => absurd (by omega) hq6)
      refine jv_aload0 dX4_best_16 ?_
      refine jv_getR dX4_best_17 flX4_10 rfl (ck h.g) (cr_now h.g) ?_
      refine jv_getI dX4_best_20 flX4_134 rfl (yk (cg_now h.g)) (yi_counts h.r) ?_
      refine jv_if_neN dX4_best_23 (tgt := 33) (by decide) (by omega) (fun hc23 => ?_) (fun hc23 => by omega)
      refine jv_iconst dX4_best_33 jv_c_iconst_0 ?_
      refine jv_istore2 dX4_best_34 rfl ?_
      refine jv_iconst dX4_best_35 jv_c_iconst_1 ?_
      refine jv_istore3 dX4_best_36 rfl ?_
      exact loop (Y 10 1 + 1) 1 0 (by omega) (by omega) (by omega) (ot_argI_one _).symm
  · obtain ⟨I2, hC, h2, h3⟩ := oc_refuse5 h
    refine ⟨I2, J, ?_, h2, h3⟩
    refine jv_enter okX4_best (L := [.ref 1, .int w, .null, .null]) rfl (Nat.le_of_ble_eq_true rfl) ?_
    refine jv_iload1 dX4_best_0 ?_
    refine jv_iconst dX4_best_1 jv_c_iconst_0 ?_
    refine jv_iconst dX4_best_2 jv_c_iconst_2 ?_
    refine jv_s31 dX4_best_3 okX4_within stX4_within mlX4_57 (oc_inC _ (a := 0) (b := 2) (by decide) (by decide)) (by decide) (Nat.le_of_ble_eq_true rfl) ?_
    refine jv_if_neB dX4_best_6 (tgt := 16) (by decide) (fun hq6 => ?_) (fun hq6 => absurd (by omega) hq6)
    refine jv_aload0 dX4_best_16 ?_
    refine jv_getR dX4_best_17 flX4_10 rfl (ck h.g) (cr_now h.g) ?_
    refine jv_getI dX4_best_20 flX4_134 rfl (yk (cg_now h.g)) (yi_counts h.r) ?_
    refine jv_if_neN dX4_best_23 (tgt := 33) (by decide) (by omega) (fun hc23 => by omega) (fun hc23 => ?_)
    refine jv_aload0 dX4_best_26 ?_
    refine jv_bipush dX4_best_27 jv_c_bipush_m5 ?_
    refine jv_v11 dX4_best_29 okX4_refuse inX4_refuse seX4_refuse mlX4_61 (ci := 4) (T := TX4) (N := 8) rfl (ck h.g) hC (by decide) (Nat.le_of_ble_eq_true rfl) ?_
    exact jv_iret dX4_best_32 rfl rfl rfl rfl rfl
  · obtain ⟨I2, hC, h2, h3⟩ := oc_refuse2 h
    refine ⟨I2, J, ?_, h2, h3⟩
    refine jv_enter okX4_best (L := [.ref 1, .int w, .null, .null]) rfl (Nat.le_of_ble_eq_true rfl) ?_
    refine jv_iload1 dX4_best_0 ?_
    refine jv_iconst dX4_best_1 jv_c_iconst_0 ?_
    refine jv_iconst dX4_best_2 jv_c_iconst_2 ?_
    refine jv_s31 dX4_best_3 okX4_within stX4_within mlX4_57 (oc_inC _ (a := 0) (b := 2) (by decide) (by decide)) (by decide) (Nat.le_of_ble_eq_true rfl) ?_
    refine jv_if_neB dX4_best_6 (tgt := 16) (by decide) (fun hq6 => by omega) (fun hq6 => ?_)
    refine jv_aload0 dX4_best_9 ?_
    refine jv_bipush dX4_best_10 jv_c_bipush_m2 ?_
    refine jv_v11 dX4_best_12 okX4_refuse inX4_refuse seX4_refuse mlX4_61 (ci := 4) (T := TX4) (N := 8) rfl (ck h.g) hC (by decide) (Nat.le_of_ble_eq_true rfl) ?_
    exact jv_iret dX4_best_15 rfl rfl rfl rfl rfl
set_option maxRecDepth 20000 in
theorem pm_best {G : jv_Gr} {I : jv_I} {J : jv_J} {Y Z : ot_Y} {E : ot_E} {K : Option ot_Y} (h : ot_M G I J Y Z E K) (w : Int32) : ot_mm 8 mX5_best [.ref 64, .int w] G I J (ot_ans (ot_rc2 (0 ≤ w.toInt ∧ w.toInt ≤ 2) (0 < Y 10 1) 5) (nI (ot_argI (ot_merit Y (ot_n w)) (Y 10 1)))) Y (ot_zr Z (ot_rc2 (0 ≤ w.toInt ∧ w.toInt ≤ 2) (0 < Y 10 1) 5)) E K := by
  have bn := yw_n h.w
  have bc := yw_c h.w
  have bw := yw_w h.w
  refine ot_rc2_split (motive := fun rc => ot_mm 8 mX5_best [.ref 64, .int w] G I J (ot_ans rc (nI (ot_argI (ot_merit Y (ot_n w)) (Y 10 1)))) Y (ot_zr Z rc) E K) (fun hv hw => ?_) (fun hv hw => ?_) (fun hv => ?_)
  · obtain ⟨q, hq, rfl⟩ := ot_of (n := 3) (show 0 ≤ w.toInt ∧ w.toInt < ((3 : Nat) : Int) by omega) (by decide)
    rw [ot_n_nI (show q < 2 ^ 30 by omega)]
    refine ⟨G, I, J, ?_, h, ot_lo.rf, ot_gx.rf⟩
    refine jv_enter okX5_best (L := [.ref 64, .int (nI q), .null, .null, .null, .null]) rfl (Nat.le_of_ble_eq_true rfl) ?_
    rcases (show q = 0 ∨ q = 1 ∨ q = 2 by omega) with rfl | rfl | rfl
    · have loop : ∀ (n i : Nat) (acc : Nat) (mo : Int32) (s5 : Value), Y 10 1 + 1 ≤ i + n → i ≤ Y 10 1 → acc ≤ i → acc = ot_argI (ot_merit Y 0) i → (0 < i → mo = (ot_merit Y 0) acc) → jv_V 8 mX5_best 40 [.ref 64, .int (nI 0), .int (nI acc), .int mo, .int (nI i), s5] [] G I J (some (.int (nI (ot_argI (ot_merit Y 0) (Y 10 1))))) G I J := by
        intro n
        induction n with
        | zero => intro i acc mo s5 h1 h2; omega
        | succ n ih =>
          intro i acc mo s5 h1 h2 el ea em
          refine jv_iload4 dX5_best_40 ?_
          refine jv_aload0 dX5_best_42 ?_
          refine jv_getI dX5_best_43 flX5_91 rfl (mk h.g) (mi_counts h.r) ?_
          refine jv_icmp_geN dX5_best_46 (tgt := 109) (by decide) (by omega) (by omega) (fun h46 => ?_) (fun h46 => ?_)
          · refine jv_iload2 dX5_best_109 ?_
            exact jv_iret dX5_best_110 rfl rfl (by rw [ea, show i = Y 10 1 by omega]) rfl rfl
          · have join : ∀ sv, jv_V 8 mX5_best 84 [.ref 64, .int (nI 0), .int (nI acc), .int mo, .int (nI i), sv] [.int ((ot_merit Y 0) i)] G I J (some (.int (nI (ot_argI (ot_merit Y 0) (Y 10 1))))) G I J := by
              intro sv
              refine jv_istore5 dX5_best_84 rfl ?_
              refine jv_iload4 dX5_best_86 ?_
              refine jv_if_eqN dX5_best_88 (tgt := 97) (by decide) (by omega) (fun h88 => ?_) (fun h88 => ?_)
              · refine jv_iload4 dX5_best_97 ?_
                refine jv_istore2 dX5_best_99 rfl ?_
                refine jv_iload5 dX5_best_100 ?_
                refine jv_istore3 dX5_best_102 rfl ?_
                refine jv_iinc4N dX5_best_103 rfl ?_
                refine jv_goto dX5_best_106 (tgt := 40) (by decide) ?_
                exact ih (i + 1) i _ _ (by omega) (by omega) (by omega) (by subst h88; exact (ot_argI_one _).symm) (fun _ => rfl)
              · refine jv_iload5 dX5_best_91 ?_
                refine jv_iload3 dX5_best_93 ?_
                refine jv_icmp_le dX5_best_94 (tgt := 103) (by decide) (fun h94 => ?_) (fun h94 => ?_)
                · rw [em (by omega)] at h94
                  refine jv_iinc4N dX5_best_103 rfl ?_
                  refine jv_goto dX5_best_106 (tgt := 40) (by decide) ?_
                  exact ih (i + 1) acc mo _ (by omega) (by omega) (by omega) (by rw [ot_argI, ← ea, if_pos h94]) (fun _ => em (by omega))
                · rw [em (by omega)] at h94
                  refine jv_iload4 dX5_best_97 ?_
                  refine jv_istore2 dX5_best_99 rfl ?_
                  refine jv_iload5 dX5_best_100 ?_
                  refine jv_istore3 dX5_best_102 rfl ?_
                  refine jv_iinc4N dX5_best_103 rfl ?_
                  refine jv_goto dX5_best_106 (tgt := 40) (by decide) ?_
                  exact ih (i + 1) i _ _ (by omega) (by omega) (by omega) (by rw [ot_argI, ← ea, if_neg h94]) (fun _ => rfl)
            refine jv_iload1 dX5_best_49 ?_
            refine jv_if_neN dX5_best_50 (tgt := 62) (by decide) (by omega) (fun h50 => by omega) (fun h50 => ?_)
            refine jv_aload0 dX5_best_53 ?_
            refine jv_iload4 dX5_best_54 ?_
            refine jv_v11 dX5_best_56 okX5_valueOf inX5_valueOf seX5_valueOf mlX5_278 (ci := 5) (T := TX5) (N := 35) rfl (mk h.g) (om_valueOf h.g h.r h.w (show i < Y 10 1 by omega)) (by decide) (Nat.le_of_ble_eq_true rfl) ?_
            refine jv_goto dX5_best_59 (tgt := 84) (by decide) ?_
            exact join _
      refine jv_iload1 dX5_best_0 ?_
      refine jv_i2l dX5_best_1 rfl ?_
      refine jv_lconst dX5_best_2 (v := lN 0) rfl ?_
      refine jv_ldc2 dX5_best_3 cnX5_133 ?_
      refine jv_s31 dX5_best_6 okX5_in stX5_in mlX5_83 (om_inC _ (a := 0) (b := 2) (by decide) (by decide)) (by decide) (Nat.le_of_ble_eq_true rfl) ?_
      refine jv_if_neB dX5_best_9 (tgt := 19) (by decide) (fun hq6 => ?_) (fun hq6 => absurd (by omega) hq6)
      refine jv_aload0 dX5_best_19 ?_
      refine jv_getI dX5_best_20 flX5_91 rfl (mk h.g) (mi_counts h.r) ?_
      refine jv_if_neN dX5_best_23 (tgt := 33) (by decide) (by omega) (fun hc23 => ?_) (fun hc23 => by omega)
      refine jv_iconst dX5_best_33 jv_c_iconst_0 ?_
      refine jv_istore2 dX5_best_34 rfl ?_
      refine jv_iconst dX5_best_35 jv_c_iconst_0 ?_
      refine jv_istore3 dX5_best_36 rfl ?_
      refine jv_iconst dX5_best_37 jv_c_iconst_0 ?_
      refine jv_istore4 dX5_best_38 rfl ?_
      exact loop (Y 10 1 + 1) 0 0 _ _ (by omega) (by omega) (by omega) rfl (fun z => absurd z (by omega))
    · have loop : ∀ (n i : Nat) (acc : Nat) (mo : Int32) (s5 : Value), Y 10 1 + 1 ≤ i + n → i ≤ Y 10 1 → acc ≤ i → acc = ot_argI (ot_merit Y 1) i → (0 < i → mo = (ot_merit Y 1) acc) → jv_V 8 mX5_best 40 [.ref 64, .int (nI 1), .int (nI acc), .int mo, .int (nI i), s5] [] G I J (some (.int (nI (ot_argI (ot_merit Y 1) (Y 10 1))))) G I J := by
        intro n
        induction n with
        | zero => intro i acc mo s5 h1 h2; omega
        | succ n ih =>
          intro i acc mo s5 h1 h2 el ea em
          refine jv_iload4 dX5_best_40 ?_
          refine jv_aload0 dX5_best_42 ?_
          refine jv_getI dX5_best_43 flX5_91 rfl (mk h.g) (mi_counts h.r) ?_
          refine jv_icmp_geN dX5_best_46 (tgt := 109) (by decide) (by omega) (by omega) (fun h46 => ?_) (fun h46 => ?_)
          · refine jv_iload2 dX5_best_109 ?_
            exact jv_iret dX5_best_110 rfl rfl (by rw [ea, show i = Y 10 1 by omega]) rfl rfl
          · have join : ∀ sv, jv_V 8 mX5_best 84 [.ref 64, .int (nI 1), .int (nI acc), .int mo, .int (nI i), sv] [.int ((ot_merit Y 1) i)] G I J (some (.int (nI (ot_argI (ot_merit Y 1) (Y 10 1))))) G I J := by
              intro sv
              refine jv_istore5 dX5_best_84 rfl ?_
              refine jv_iload4 dX5_best_86 ?_
              refine jv_if_eqN dX5_best_88 (tgt := 97) (by decide) (by omega) (fun h88 => ?_) (fun h88 => ?_)
              · refine jv_iload4 dX5_best_97 ?_
                refine jv_istore2 dX5_best_99 rfl ?_
                refine jv_iload5 dX5_best_100 ?_
                refine jv_istore3 dX5_best_102 rfl ?_
                refine jv_iinc4N dX5_best_103 rfl ?_
                refine jv_goto dX5_best_106 (tgt := 40) (by decide) ?_
                exact ih (i + 1) i _ _ (by omega) (by omega) (by omega) (by subst h88; exact (ot_argI_one _).symm) (fun _ => rfl)
              · refine jv_iload5 dX5_best_91 ?_
                refine jv_iload3 dX5_best_93 ?_
                refine jv_icmp_le dX5_best_94 (tgt := 103) (by decide) (fun h94 => ?_) (fun h94 => ?_)
                · rw [em (by omega)] at h94
                  refine jv_iinc4N dX5_best_103 rfl ?_
                  refine jv_goto dX5_best_106 (tgt := 40) (by decide) ?_
                  exact ih (i + 1) acc mo _ (by omega) (by omega) (by omega) (by rw [ot_argI, ← ea, if_pos h94]) (fun _ => em (by omega))
                · rw [em (by omega)] at h94
                  refine jv_iload4 dX5_best_97 ?_
                  refine jv_istore2 dX5_best_99 rfl ?_
                  refine jv_iload5 dX5_best_100 ?_
                  refine jv_istore3 dX5_best_102 rfl ?_
                  refine jv_iinc4N dX5_best_103 rfl ?_
                  refine jv_goto dX5_best_106 (tgt := 40) (by decide) ?_
                  exact ih (i + 1) i _ _ (by omega) (by omega) (by omega) (by rw [ot_argI, ← ea, if_neg h94]) (fun _ => rfl)
            refine jv_iload1 dX5_best_49 ?_
            refine jv_if_neN dX5_best_50 (tgt := 62) (by decide) (by omega) (fun h50 => ?_) (fun h50 => by omega)
            refine jv_iload1 dX5_best_62 ?_
            refine jv_iconst dX5_best_63 jv_c_iconst_1 ?_
            refine jv_icmp_neN dX5_best_64 (tgt := 77) (by decide) (by omega) (by omega) (fun h64 => by omega) (fun h64 => ?_)
            refine jv_aload0 dX5_best_67 ?_
            refine jv_iload4 dX5_best_68 ?_
            refine jv_v11 dX5_best_70 okX5_valueOf inX5_valueOf seX5_valueOf mlX5_278 (ci := 5) (T := TX5) (N := 35) rfl (mk h.g) (om_valueOf h.g h.r h.w (show i < Y 10 1 by omega)) (by decide) (Nat.le_of_ble_eq_true rfl) ?_
            refine jv_ineg dX5_best_73 ?_
            refine jv_goto dX5_best_74 (tgt := 84) (by decide) ?_
            exact join _
      refine jv_iload1 dX5_best_0 ?_
      refine jv_i2l dX5_best_1 rfl ?_
      refine jv_lconst dX5_best_2 (v := lN 0) rfl ?_
      refine jv_ldc2 dX5_best_3 cnX5_133 ?_
      refine jv_s31 dX5_best_6 okX5_in stX5_in mlX5_83 (om_inC _ (a := 0) (b := 2) (by decide) (by decide)) (by decide) (Nat.le_of_ble_eq_true rfl) ?_
      refine jv_if_neB dX5_best_9 (tgt := 19) (by decide) (fun hq6 => ?_) (fun hq6 => absurd (by omega) hq6)
      refine jv_aload0 dX5_best_19 ?_
      refine jv_getI dX5_best_20 flX5_91 rfl (mk h.g) (mi_counts h.r) ?_
      refine jv_if_neN dX5_best_23 (tgt := 33) (by decide) (by omega) (fun hc23 => ?_) (fun hc23 => by omega)
      refine jv_iconst dX5_best_33 jv_c_iconst_0 ?_
      refine jv_istore2 dX5_best_34 rfl ?_
      refine jv_iconst dX5_best_35 jv_c_iconst_0 ?_
      refine jv_istore3 dX5_best_36 rfl ?_
      refine jv_iconst dX5_best_37 jv_c_iconst_0 ?_
      refine jv_istore4 dX5_best_38 rfl ?_
      exact loop (Y 10 1 + 1) 0 0 _ _ (by omega) (by omega) (by omega) rfl (fun z => absurd z (by omega))
    · have loop : ∀ (n i : Nat) (acc : Nat) (mo : Int32) (s5 : Value), Y 10 1 + 1 ≤ i + n → i ≤ Y 10 1 → acc ≤ i → acc = ot_argI (ot_merit Y 2) i → (0 < i → mo = (ot_merit Y 2) acc) → jv_V 8 mX5_best 40 [.ref 64, .int (nI 2), .int (nI acc), .int mo, .int (nI i), s5] [] G I J (some (.int (nI (ot_argI (ot_merit Y 2) (Y 10 1))))) G I J := by
        intro n
        induction n with
        | zero => intro i acc mo s5 h1 h2; omega
        | succ n ih =>
          intro i acc mo s5 h1 h2 el ea em
          refine jv_iload4 dX5_best_40 ?_
          refine jv_aload0 dX5_best_42 ?_
          refine jv_getI dX5_best_43 flX5_91 rfl (mk h.g) (mi_counts h.r) ?_
          refine jv_icmp_geN dX5_best_46 (tgt := 109) (by decide) (by omega) (by omega) (fun h46 => ?_) (fun h46 => ?_)
          · refine jv_iload2 dX5_best_109 ?_
            exact jv_iret dX5_best_110 rfl rfl (by rw [ea, show i = Y 10 1 by omega]) rfl rfl
          · have join : ∀ sv, jv_V 8 mX5_best 84 [.ref 64, .int (nI 2), .int (nI acc), .int mo, .int (nI i), sv] [.int ((ot_merit Y 2) i)] G I J (some (.int (nI (ot_argI (ot_merit Y 2) (Y 10 1))))) G I J := by
              intro sv
              refine jv_istore5 dX5_best_84 rfl ?_
              refine jv_iload4 dX5_best_86 ?_
              refine jv_if_eqN dX5_best_88 (tgt := 97) (by decide) (by omega) (fun h88 => ?_) (fun h88 => ?_)
              · refine jv_iload4 dX5_best_97 ?_
                refine jv_istore2 dX5_best_99 rfl ?_
                refine jv_iload5 dX5_best_100 ?_
                refine jv_istore3 dX5_best_102 rfl ?_
                refine jv_iinc4N dX5_best_103 rfl ?_
                refine jv_goto dX5_best_106 (tgt := 40) (by decide) ?_
                exact ih (i + 1) i _ _ (by omega) (by omega) (by omega) (by subst h88; exact (ot_argI_one _).symm) (fun _ => rfl)
              · refine jv_iload5 dX5_best_91 ?_
                refine jv_iload3 dX5_best_93 ?_
                refine jv_icmp_le dX5_best_94 (tgt := 103) (by decide) (fun h94 => ?_) (fun h94 => ?_)
                · rw [em (by omega)] at h94
                  refine jv_iinc4N dX5_best_103 rfl ?_
                  refine jv_goto dX5_best_106 (tgt := 40) (by decide) ?_
                  exact ih (i + 1) acc mo _ (by omega) (by omega) (by omega) (by rw [ot_argI, ← ea, if_pos h94]) (fun _ => em (by omega))
                · rw [em (by omega)] at h94
                  refine jv_iload4 dX5_best_97 ?_
                  refine jv_istore2 dX5_best_99 rfl ?_
                  refine jv_iload5 dX5_best_100 ?_
                  refine jv_istore3 dX5_best_102 rfl ?_
                  refine jv_iinc4N dX5_best_103 rfl ?_
                  refine jv_goto dX5_best_106 (tgt := 40) (by decide) ?_
                  exact ih (i + 1) i _ _ (by omega) (by omega) (by omega) (by rw [ot_argI, ← ea, if_neg h94]) (fun _ => rfl)
            refine jv_iload1 dX5_best_49 ?_
            refine jv_if_neN dX5_best_50 (tgt := 62) (by decide) (by omega) (fun h50 => ?_) (fun h50 => by omega)
            refine jv_iload1 dX5_best_62 ?_
            refine jv_iconst dX5_best_63 jv_c_iconst_1 ?_
            refine jv_icmp_neN dX5_best_64 (tgt := 77) (by decide) (by omega) (by omega) (fun h64 => ?_) (fun h64 => by omega)
            refine jv_aload0 dX5_best_77 ?_
            refine jv_iload4 dX5_best_78 ?_
            refine jv_v11 dX5_best_80 okX5_evenOf inX5_evenOf seX5_evenOf mlX5_287 (ci := 5) (T := TX5) (N := 35) rfl (mk h.g) (om_evenOf h.g h.r h.w (show i < Y 10 1 by omega)) (by decide) (Nat.le_of_ble_eq_true rfl) ?_
            refine jv_ineg dX5_best_83 ?_
            exact join _
      refine jv_iload1 dX5_best_0 ?_
      refine jv_i2l dX5_best_1 rfl ?_
      refine jv_lconst dX5_best_2 (v := lN 0) rfl ?_
      refine jv_ldc2 dX5_best_3 cnX5_133 ?_
      refine jv_s31 dX5_best_6 okX5_in stX5_in mlX5_83 (om_inC _ (a := 0) (b := 2) (by decide) (by decide)) (by decide) (Nat.le_of_ble_eq_true rfl) ?_
      refine jv_if_neB dX5_best_9 (tgt := 19) (by decide) (fun hq6 => ?_) (fun hq6 => absurd (by omega) hq6)
      refine jv_aload0 dX5_best_19 ?_
      refine jv_getI dX5_best_20 flX5_91 rfl (mk h.g) (mi_counts h.r) ?_
      refine jv_if_neN dX5_best_23 (tgt := 33) (by decide) (by omega) (fun hc23 => ?_) (fun hc23 => by omega)
      refine jv_iconst dX5_best_33 jv_c_iconst_0 ?_
      refine jv_istore2 dX5_best_34 rfl ?_
      refine jv_iconst dX5_best_35 jv_c_iconst_0 ?_
      refine jv_istore3 dX5_best_36 rfl ?_
      refine jv_iconst dX5_best_37 jv_c_iconst_0 ?_
      refine jv_istore4 dX5_best_38 rfl ?_
      exact loop (Y 10 1 + 1) 0 0 _ _ (by omega) (by omega) (by omega) rfl (fun z => absurd z (by omega))
  · obtain ⟨I2, hC, h2, h3⟩ := om_refuse5 h
    refine ⟨G, I2, J, ?_, h2, h3, ot_gx.rf⟩
    refine jv_enter okX5_best (L := [.ref 64, .int w, .null, .null, .null, .null]) rfl (Nat.le_of_ble_eq_true rfl) ?_
    refine jv_iload1 dX5_best_0 ?_
    refine jv_i2l dX5_best_1 rfl ?_
    refine jv_lconst dX5_best_2 (v := lN 0) rfl ?_
    refine jv_ldc2 dX5_best_3 cnX5_133 ?_
    refine jv_s31 dX5_best_6 okX5_in stX5_in mlX5_83 (om_inC _ (a := 0) (b := 2) (by decide) (by decide)) (by decide) (Nat.le_of_ble_eq_true rfl) ?_
    refine jv_if_neB dX5_best_9 (tgt := 19) (by decide) (fun hq6 => ?_) (fun hq6 => absurd (by omega) hq6)
    refine jv_aload0 dX5_best_19 ?_
    refine jv_getI dX5_best_20 flX5_91 rfl (mk h.g) (mi_counts h.r) ?_
    refine jv_if_neN dX5_best_23 (tgt := 33) (by decide) (by omega) (fun hc23 => by omega) (fun hc23 => ?_)
    refine jv_aload0 dX5_best_26 ?_
    refine jv_bipush dX5_best_27 jv_c_bipush_m5 ?_
    refine jv_v11 dX5_best_29 okX5_refuse inX5_refuse seX5_refuse mlX5_104 (ci := 5) (T := TX5) (N := 35) rfl (mk h.g) hC (by decide) (Nat.le_of_ble_eq_true rfl) ?_
    exact jv_iret dX5_best_32 rfl rfl rfl rfl rfl
  · obtain ⟨I2, hC, h2, h3⟩ := om_refuse2 h
    refine ⟨G, I2, J, ?_, h2, h3, ot_gx.rf⟩
    refine jv_enter okX5_best (L := [.ref 64, .int w, .null, .null, .null, .null]) rfl (Nat.le_of_ble_eq_true rfl) ?_
    refine jv_iload1 dX5_best_0 ?_
    refine jv_i2l dX5_best_1 rfl ?_
    refine jv_lconst dX5_best_2 (v := lN 0) rfl ?_
    refine jv_ldc2 dX5_best_3 cnX5_133 ?_
    refine jv_s31 dX5_best_6 okX5_in stX5_in mlX5_83 (om_inC _ (a := 0) (b := 2) (by decide) (by decide)) (by decide) (Nat.le_of_ble_eq_true rfl) ?_
    refine jv_if_neB dX5_best_9 (tgt := 19) (by decide) (fun hq6 => by omega) (fun hq6 => ?_)
    refine jv_aload0 dX5_best_12 ?_
    refine jv_bipush dX5_best_13 jv_c_bipush_m2 ?_
    refine jv_v11 dX5_best_15 okX5_refuse inX5_refuse seX5_refuse mlX5_104 (ci := 5) (T := TX5) (N := 35) rfl (mk h.g) hC (by decide) (Nat.le_of_ble_eq_true rfl) ?_
    exact jv_iret dX5_best_18 rfl rfl rfl rfl rfl
