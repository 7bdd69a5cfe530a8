/-! ===== the face: group 17 (place, safe: the reference) ===== -/
set_option maxRecDepth 20000 in
theorem om_place {G : jv_Gr} {I : jv_I} {J : jv_J} {Y Z : ot_Y} {E : ot_E} {K : Option ot_Y} (h : ot_M G I J Y Z E K) {c : Nat} (hc : c < Y 10 0) : ∃ G2 I2 J2, jv_V 9 mX5_place 23 [.ref 64, .int (nI c), .int (-1), .int (nI 0), .int (nI 0), .null, .null, .null] [] G I J (some (.int (nI (ot_arg (ot_pg Y c) (Y 10 0))))) G2 I2 J2 ∧ ot_M G2 I2 J2 Y Z E K ∧ ot_lo I I2 J J2 ∧ ot_gx G G2 := by
  have bn := yw_n h.w
  have bc := yw_c h.w
  have bw := yw_w h.w
  have bd : ∀ p, p < Y 10 0 → ot_pg Y c p ≤ 20000 := fun p hp => by have := ot_valueAll_b (ot_YW_move h.w hc hp) (Y 10 1) bc; have e : ot_pg Y c p = ot_sum (fun k => ot_value (ot_move Y c p) k) (Y 10 1) := rfl; rw [e]; omega
  have loop : ∀ (m i : Nat) (G1 : jv_Gr) (A : jv_I) (J1 : jv_J) (be mo : Int32) (s5 s6 s7 : Value), Y 10 0 + 1 ≤ i + m → i ≤ Y 10 0 → ot_M G1 A J1 Y Z E K → ot_lo I A J J1 → ot_gx G G1 → (∀ r : Nat, s5 = .ref r → r ≤ jv_n G1 ∨ 1000000 ≤ r) → (∀ r : Nat, s6 = .ref r → r ≤ jv_n G1 ∨ 1000000 ≤ r) → (∀ r : Nat, s7 = .ref r → r ≤ jv_n G1 ∨ 1000000 ≤ r) → ((i = 0 ∧ be = -1) ∨ (0 < i ∧ be = nI (ot_arg (ot_pg Y c) i) ∧ mo = nI ((ot_pg Y c) (ot_arg (ot_pg Y c) i)))) → ∃ G2 I2 J2, jv_V 9 mX5_place 23 [.ref 64, .int (nI c), .int be, .int mo, .int (nI i), s5, s6, s7] [] G1 A J1 (some (.int (nI (ot_arg (ot_pg Y c) (Y 10 0))))) G2 I2 J2 ∧ ot_M G2 I2 J2 Y Z E K ∧ ot_lo I I2 J J2 ∧ ot_gx G G2 := by
    intro m
    induction m with
    | zero => intro i G1 A J1 be mo s5 s6 s7 b1 b2; omega
    | succ m ih =>
      intro i G1 A J1 be mo s5 s6 s7 b1 b2 hM1 hl hx s5o s6o s7o hg
      by_cases hi : i < Y 10 0
      · obtain ⟨G3, I3, J3, q, hFr, hM, hq, hqq, hqG, hqR, hql, hqx⟩ := om_fresh hM1
        have hFn : jv_n G3 < 1000000 := by have := hM.n; unfold ot_NM at this; omega
        have hGn := ot_M_n hM1
        obtain ⟨I4, hB, hR4, hF4⟩ := om_moves (J := J3) hqG hqR h.w hc hi
        have hf : ot_fr I3 I4 q (q + 29) := fun u hu => hF4 u (by omega)
        have hT := ot_M_try hM hq (by omega) hf (fun _ _ => rfl)
        have hl3 := (hl.tr hql).tr (ot_lo.fr (J := J3) hf (by omega))
        have hx3 := hx.tr hqx
        have hqn := (jv_k_in (mk hqG) (by decide)).2
        have hW4 := ot_YW_move h.w hc hi
        have hbi := bd i hi
        have inner : ∀ (r2 : Option Value) (G2 : jv_Gr) (I2 : jv_I) (J2 : jv_J), jv_V 9 mX5_place 79 [.ref 64, .int (nI c), .int be, .int mo, .int (nI i), .ref q, .int (nI (ot_pg Y c i)), .int (nI (Y 10 1))] [] G3 I4 J3 r2 G2 I2 J2 → ∀ (m2 k : Nat), Y 10 1 + 1 ≤ k + m2 → k ≤ Y 10 1 → jv_V 9 mX5_place 52 [.ref 64, .int (nI c), .int be, .int mo, .int (nI i), .ref q, .int (nI (ot_sum (fun k => ot_value (ot_move Y c i) k) k)), .int (nI k)] [] G3 I4 J3 r2 G2 I2 J2 := by
          intro r2 G2 I2 J2 hj m2
          induction m2 with
          | zero => intro k q1 q2; omega
          | succ m2 ih2 =>
            intro k q1 q2
            refine jv_iload7 dX5_place_52 ?_
            refine jv_aload0 dX5_place_54 ?_
            refine jv_getI dX5_place_55 flX5_91 rfl (mk hT.g) (mi_counts hT.r) ?_
            refine jv_icmp_geN dX5_place_58 (tgt := 79) (by decide) (by omega) (by omega) (fun h58 => ?_) (fun h58 => ?_)
            · rw [show k = Y 10 1 by omega]
              exact hj
            · refine jv_iload6 dX5_place_61 ?_
              refine jv_aload5 dX5_place_63 ?_
              refine jv_iload7 dX5_place_65 ?_
              refine jv_v11 dX5_place_67 okX5_valueOf inX5_valueOf seX5_valueOf mlX5_278 (ci := 5) (T := TX5) (N := 35) rfl (mk hqG) (om_valueOf hqG hR4 hW4 (show k < Y 10 1 by omega)) (by decide) (Nat.le_of_ble_eq_true rfl) ?_
              refine jv_iaddN dX5_place_70 ?_
              refine jv_istore6 dX5_place_71 rfl ?_
              refine jv_iinc7N dX5_place_73 rfl ?_
              refine jv_goto dX5_place_76 (tgt := 52) (by decide) ?_
              exact ih2 (k + 1) (by omega) (by omega)
        rcases hg with ⟨e1, e2⟩ | ⟨e1, e2, e3⟩
        · subst e2
          obtain ⟨G2, I2, J2, hV, hP⟩ := ih (i + 1) G3 I4 J3 (nI i) (nI ((ot_pg Y c) i)) (.ref q) (.int (nI (ot_pg Y c i))) (.int (nI (Y 10 1))) (by omega) (by omega) hT hl3 hx3 (fun r e => by cases e; exact .inl hqn) (fun r e => by cases e) (fun r e => by cases e) (.inr ⟨by omega, by subst e1; rw [ot_arg_one], by subst e1; rw [ot_arg_one]⟩)
          refine ⟨G2, I2, J2, ?_, hP⟩
          have hj : jv_V 9 mX5_place 79 [.ref 64, .int (nI c), .int (-1), .int mo, .int (nI i), .ref q, .int (nI (ot_pg Y c i)), .int (nI (Y 10 1))] [] G3 I4 J3 (some (.int (nI (ot_arg (ot_pg Y c) (Y 10 0))))) G2 I2 J2 := by
            refine jv_iload2 dX5_place_79 ?_
            refine jv_iconst dX5_place_80 jv_c_iconst_m1 ?_
            refine jv_icmp_eq dX5_place_81 (tgt := 90) (by decide) (fun h81 => ?_) (fun h81 => absurd rfl h81)
            refine jv_iload4 dX5_place_90 ?_
            refine jv_istore2 dX5_place_92 rfl ?_
            refine jv_iload6 dX5_place_93 ?_
            refine jv_istore3 dX5_place_95 rfl ?_
            refine jv_iinc4N dX5_place_96 rfl ?_
            refine jv_goto dX5_place_99 (tgt := 23) (by decide) ?_
            exact hV
          refine jv_iload4 dX5_place_23 ?_
          refine jv_aload0 dX5_place_25 ?_
          refine jv_getI dX5_place_26 flX5_80 rfl (mk hM1.g) (mi_children hM1.r) ?_
          refine jv_icmp_geN dX5_place_29 (tgt := 102) (by decide) (by omega) (by omega) (fun hc29 => by omega) (fun hc29 => ?_)
          refine jv_aload0 dX5_place_32 ?_
          refine jv_callV (a := 64) (As := []) (rest := []) dX5_place_33 okX5_fresh inX5_fresh seX5_fresh mlX5_245 (ci := 5) (T := TX5) (N := 35) rfl (mk hM1.g) hFr (by decide) rfl rfl (Nat.le_of_ble_eq_true rfl) (.inr ⟨(ot_ow_r (by omega) (ot_ow_i (ot_ow_i (ot_ow_i (ot_ow_i (ot_ow_cons s5o (ot_ow_cons s6o (ot_ow_cons s7o ot_ow_nil)))))))), ot_ow_nil, hFn⟩) ?_
          refine jv_astore5 dX5_place_36 rfl ?_
          refine jv_aload5 dX5_place_38 ?_
          refine jv_iload1 dX5_place_40 ?_
          refine jv_iload4 dX5_place_41 ?_
          refine jv_v20 dX5_place_43 okX5_moves inX5_moves seX5_moves mlX5_227 (ci := 5) (T := TX5) (N := 35) rfl (mk hqG) hB (by decide) (Nat.le_of_ble_eq_true rfl) ?_
          refine jv_iconst dX5_place_46 jv_c_iconst_0 ?_
          refine jv_istore6 dX5_place_47 rfl ?_
          refine jv_iconst dX5_place_49 jv_c_iconst_0 ?_
          refine jv_istore7 dX5_place_50 rfl ?_
          exact inner _ _ _ _ hj (Y 10 1 + 1) 0 (by omega) (by omega)
        · have hal := ot_arg_lt (ot_pg Y c) i e1
          have hba := bd (ot_arg (ot_pg Y c) i) (by omega)
          subst e2
          subst e3
          by_cases hlt : (ot_pg Y c) (ot_arg (ot_pg Y c) i) < (ot_pg Y c) i
          · obtain ⟨G2, I2, J2, hV, hP⟩ := ih (i + 1) G3 I4 J3 (nI i) (nI ((ot_pg Y c) i)) (.ref q) (.int (nI (ot_pg Y c i))) (.int (nI (Y 10 1))) (by omega) (by omega) hT hl3 hx3 (fun r e => by cases e; exact .inl hqn) (fun r e => by cases e) (fun r e => by cases e) (.inr ⟨by omega, by rw [ot_arg, if_pos hlt], by rw [ot_arg, if_pos hlt]⟩)
            refine ⟨G2, I2, J2, ?_, hP⟩
            have hj : jv_V 9 mX5_place 79 [.ref 64, .int (nI c), .int (nI (ot_arg (ot_pg Y c) i)), .int (nI ((ot_pg Y c) (ot_arg (ot_pg Y c) i))), .int (nI i), .ref q, .int (nI (ot_pg Y c i)), .int (nI (Y 10 1))] [] G3 I4 J3 (some (.int (nI (ot_arg (ot_pg Y c) (Y 10 0))))) G2 I2 J2 := by
              refine jv_iload2 dX5_place_79 ?_
              refine jv_iconst dX5_place_80 jv_c_iconst_m1 ?_
              refine jv_icmp_eq dX5_place_81 (tgt := 90) (by decide) (fun h81 => absurd h81 (ot_nI_n1 (by omega))) (fun h81 => ?_)
              refine jv_iload6 dX5_place_84 ?_
              refine jv_iload3 dX5_place_86 ?_
              refine jv_icmp_le dX5_place_87 (tgt := 96) (by decide) (fun h87 => absurd ((nI_leI (by omega) (by omega)).mp h87) (by omega)) (fun h87 => ?_)
              refine jv_iload4 dX5_place_90 ?_
              refine jv_istore2 dX5_place_92 rfl ?_
              refine jv_iload6 dX5_place_93 ?_
              refine jv_istore3 dX5_place_95 rfl ?_
              refine jv_iinc4N dX5_place_96 rfl ?_
              refine jv_goto dX5_place_99 (tgt := 23) (by decide) ?_
              exact hV
            refine jv_iload4 dX5_place_23 ?_
            refine jv_aload0 dX5_place_25 ?_
            refine jv_getI dX5_place_26 flX5_80 rfl (mk hM1.g) (mi_children hM1.r) ?_
            refine jv_icmp_geN dX5_place_29 (tgt := 102) (by decide) (by omega) (by omega) (fun hc29 => by omega) (fun hc29 => ?_)
            refine jv_aload0 dX5_place_32 ?_
            refine jv_callV (a := 64) (As := []) (rest := []) dX5_place_33 okX5_fresh inX5_fresh seX5_fresh mlX5_245 (ci := 5) (T := TX5) (N := 35) rfl (mk hM1.g) hFr (by decide) rfl rfl (Nat.le_of_ble_eq_true rfl) (.inr ⟨(ot_ow_r (by omega) (ot_ow_i (ot_ow_i (ot_ow_i (ot_ow_i (ot_ow_cons s5o (ot_ow_cons s6o (ot_ow_cons s7o ot_ow_nil)))))))), ot_ow_nil, hFn⟩) ?_
            refine jv_astore5 dX5_place_36 rfl ?_
            refine jv_aload5 dX5_place_38 ?_
            refine jv_iload1 dX5_place_40 ?_
            refine jv_iload4 dX5_place_41 ?_
            refine jv_v20 dX5_place_43 okX5_moves inX5_moves seX5_moves mlX5_227 (ci := 5) (T := TX5) (N := 35) rfl (mk hqG) hB (by decide) (Nat.le_of_ble_eq_true rfl) ?_
            refine jv_iconst dX5_place_46 jv_c_iconst_0 ?_
            refine jv_istore6 dX5_place_47 rfl ?_
            refine jv_iconst dX5_place_49 jv_c_iconst_0 ?_
            refine jv_istore7 dX5_place_50 rfl ?_
            exact inner _ _ _ _ hj (Y 10 1 + 1) 0 (by omega) (by omega)
          · obtain ⟨G2, I2, J2, hV, hP⟩ := ih (i + 1) G3 I4 J3 (nI (ot_arg (ot_pg Y c) i)) (nI ((ot_pg Y c) (ot_arg (ot_pg Y c) i))) (.ref q) (.int (nI (ot_pg Y c i))) (.int (nI (Y 10 1))) (by omega) (by omega) hT hl3 hx3 (fun r e => by cases e; exact .inl hqn) (fun r e => by cases e) (fun r e => by cases e) (.inr ⟨by omega, by rw [ot_arg, if_neg hlt], by rw [ot_arg, if_neg hlt]⟩)
            refine ⟨G2, I2, J2, ?_, hP⟩
            have hj : jv_V 9 mX5_place 79 [.ref 64, .int (nI c), .int (nI (ot_arg (ot_pg Y c) i)), .int (nI ((ot_pg Y c) (ot_arg (ot_pg Y c) i))), .int (nI i), .ref q, .int (nI (ot_pg Y c i)), .int (nI (Y 10 1))] [] G3 I4 J3 (some (.int (nI (ot_arg (ot_pg Y c) (Y 10 0))))) G2 I2 J2 := by
              refine jv_iload2 dX5_place_79 ?_
              refine jv_iconst dX5_place_80 jv_c_iconst_m1 ?_
              refine jv_icmp_eq dX5_place_81 (tgt := 90) (by decide) (fun h81 => absurd h81 (ot_nI_n1 (by omega))) (fun h81 => ?_)
              refine jv_iload6 dX5_place_84 ?_
              refine jv_iload3 dX5_place_86 ?_
              refine jv_icmp_le dX5_place_87 (tgt := 96) (by decide) (fun h87 => ?_) (fun h87 => absurd ((nI_leI (by omega) (by omega)).mpr (by omega)) h87)
              refine jv_iinc4N dX5_place_96 rfl ?_
              refine jv_goto dX5_place_99 (tgt := 23) (by decide) ?_
              exact hV
            refine jv_iload4 dX5_place_23 ?_
            refine jv_aload0 dX5_place_25 ?_
            refine jv_getI dX5_place_26 flX5_80 rfl (mk hM1.g) (mi_children hM1.r) ?_
            refine jv_icmp_geN dX5_place_29 (tgt := 102) (by decide) (by omega) (by omega) (fun hc29 => by omega) (fun hc29 => ?_)
            refine jv_aload0 dX5_place_32 ?_
            refine jv_callV (a := 64) (As := []) (rest := []) dX5_place_33 okX5_fresh inX5_fresh seX5_fresh mlX5_245 (ci := 5) (T := TX5) (N := 35) rfl (mk hM1.g) hFr (by decide) rfl rfl (Nat.le_of_ble_eq_true rfl) (.inr ⟨(ot_ow_r (by omega) (ot_ow_i (ot_ow_i (ot_ow_i (ot_ow_i (ot_ow_cons s5o (ot_ow_cons s6o (ot_ow_cons s7o ot_ow_nil)))))))), ot_ow_nil, hFn⟩) ?_
            refine jv_astore5 dX5_place_36 rfl ?_
            refine jv_aload5 dX5_place_38 ?_
            refine jv_iload1 dX5_place_40 ?_
            refine jv_iload4 dX5_place_41 ?_
            refine jv_v20 dX5_place_43 okX5_moves inX5_moves seX5_moves mlX5_227 (ci := 5) (T := TX5) (N := 35) rfl (mk hqG) hB (by decide) (Nat.le_of_ble_eq_true rfl) ?_
            refine jv_iconst dX5_place_46 jv_c_iconst_0 ?_
            refine jv_istore6 dX5_place_47 rfl ?_
            refine jv_iconst dX5_place_49 jv_c_iconst_0 ?_
            refine jv_istore7 dX5_place_50 rfl ?_
            exact inner _ _ _ _ hj (Y 10 1 + 1) 0 (by omega) (by omega)
      · obtain ⟨e1, e2, e3⟩ := hg.resolve_left (by omega)
        refine ⟨G1, A, J1, ?_, hM1, hl, hx⟩
        refine jv_iload4 dX5_place_23 ?_
        refine jv_aload0 dX5_place_25 ?_
        refine jv_getI dX5_place_26 flX5_80 rfl (mk hM1.g) (mi_children hM1.r) ?_
        refine jv_icmp_geN dX5_place_29 (tgt := 102) (by decide) (by omega) (by omega) (fun hc29 => ?_) (fun hc29 => by omega)
        refine jv_iload2 dX5_place_102 ?_
        exact jv_iret dX5_place_103 rfl rfl (by rw [e2, show i = Y 10 0 by omega]) rfl rfl
  exact loop (Y 10 0 + 1) 0 G I J (-1) (nI 0) .null .null .null (by omega) (by omega) h ot_lo.rf ot_gx.rf (fun r e => by cases e) (fun r e => by cases e) (fun r e => by cases e) (.inl ⟨rfl, rfl⟩)
set_option maxRecDepth 20000 in
theorem pm_place {G : jv_Gr} {I : jv_I} {J : jv_J} {Y Z : ot_Y} {E : ot_E} {K : Option ot_Y} (h : ot_M G I J Y Z E K) (c : Int32) : ot_mm 9 mX5_place [.ref 64, .int c] G I J (ot_ans (ot_rc (0 ≤ c.toInt ∧ c.toInt < Y 10 0)) (nI (ot_arg (ot_pg Y (ot_n c)) (Y 10 0)))) Y (ot_zr Z (ot_rc (0 ≤ c.toInt ∧ c.toInt < Y 10 0))) E K := by
  have bn := yw_n h.w
  have bc := yw_c h.w
  have bw := yw_w h.w
  refine ot_rc_split (motive := fun rc => ot_mm 9 mX5_place [.ref 64, .int c] G I J (ot_ans rc (nI (ot_arg (ot_pg Y (ot_n c)) (Y 10 0)))) Y (ot_zr Z rc) E K) (fun hv => ?_) (fun hv => ?_)
  · obtain ⟨j, hj, rfl⟩ := ot_of hv (by omega)
    rw [ot_n_nI (show j < 2 ^ 30 by omega)]
    obtain ⟨G2, I2, J2, hV, hP⟩ := om_place h hj
    refine ⟨G2, I2, J2, ?_, hP⟩
    refine jv_enter okX5_place (L := [.ref 64, .int (nI j), .null, .null, .null, .null, .null, .null]) rfl (Nat.le_of_ble_eq_true rfl) ?_
    refine jv_aload0 dX5_place_0 ?_
    refine jv_iload1 dX5_place_1 ?_
    refine jv_i2l dX5_place_2 rfl ?_
    refine jv_v11 dX5_place_3 okX5_isChild inX5_isChild seX5_isChild mlX5_87 (ci := 5) (T := TX5) (N := 35) rfl (mk h.g) (om_isChildI h.g h.r h.w _) (by decide) (Nat.le_of_ble_eq_true rfl) ?_
    refine jv_if_neB dX5_place_6 (tgt := 16) (by decide) (fun hq8 => ?_) (fun hq8 => absurd hv hq8)
    refine jv_iconst dX5_place_16 jv_c_iconst_m1 ?_
    refine jv_istore2 dX5_place_17 rfl ?_
    refine jv_iconst dX5_place_18 jv_c_iconst_0 ?_
    refine jv_istore3 dX5_place_19 rfl ?_
    refine jv_iconst dX5_place_20 jv_c_iconst_0 ?_
    refine jv_istore4 dX5_place_21 rfl ?_
    exact hV
  · obtain ⟨I2, hC, h2, h3⟩ := om_refuse2 h
    refine ⟨G, I2, J, ?_, h2, h3, ot_gx.rf⟩
    refine jv_enter okX5_place (L := [.ref 64, .int c, .null, .null, .null, .null, .null, .null]) rfl (Nat.le_of_ble_eq_true rfl) ?_
    refine jv_aload0 dX5_place_0 ?_
    refine jv_iload1 dX5_place_1 ?_
    refine jv_i2l dX5_place_2 rfl ?_
    refine jv_v11 dX5_place_3 okX5_isChild inX5_isChild seX5_isChild mlX5_87 (ci := 5) (T := TX5) (N := 35) rfl (mk h.g) (om_isChildI h.g h.r h.w _) (by decide) (Nat.le_of_ble_eq_true rfl) ?_
    refine jv_if_neB dX5_place_6 (tgt := 16) (by decide) (fun hq8 => absurd hq8 hv) (fun hq8 => ?_)
    refine jv_aload0 dX5_place_9 ?_
    refine jv_bipush dX5_place_10 jv_c_bipush_m2 ?_
    refine jv_v11 dX5_place_12 okX5_refuse inX5_refuse seX5_refuse mlX5_104 (ci := 5) (T := TX5) (N := 35) rfl (mk h.g) hC (by decide) (Nat.le_of_ble_eq_true rfl) ?_
    exact jv_iret dX5_place_15 rfl rfl rfl rfl rfl
set_option maxRecDepth 20000 in
theorem om_safe {G : jv_Gr} {I : jv_I} {J : jv_J} {Y Z : ot_Y} {E : ot_E} {K : Option ot_Y} (h : ot_M G I J Y Z E K) {a c : Nat} (ha : a < Y 10 0) (hc : c < Y 10 0) : ∃ G2 I2 J2, jv_V 9 mX5_safe 26 [.ref 64, .int (nI a), .int (nI c), .int (-1), .int (-1), .int (nI 0), .null] [] G I J (some (.int (nI (ot_arg (ot_sg Y a c) (Y 10 0))))) G2 I2 J2 ∧ ot_M G2 I2 J2 Y Z E K ∧ ot_lo I I2 J J2 ∧ ot_gx G G2 := by
  have bn := yw_n h.w
  have bc := yw_c h.w
  have bw := yw_w h.w
  have bd : ∀ p, p < Y 10 0 → ot_sg Y a c p ≤ 20000 := fun p hp => by have := ot_times_le (ot_move Y c p) a c; have e : (ot_move Y c p) 10 1 = Y 10 1 := rfl; have e2 : ot_sg Y a c p = ot_times (ot_move Y c p) a c := rfl; omega
  have loop : ∀ (m i : Nat) (G1 : jv_Gr) (A : jv_I) (J1 : jv_J) (be mo : Int32) (s6 : Value), Y 10 0 + 1 ≤ i + m → i ≤ Y 10 0 → ot_M G1 A J1 Y Z E K → ot_lo I A J J1 → ot_gx G G1 → (∀ r : Nat, s6 = .ref r → r ≤ jv_n G1 ∨ 1000000 ≤ r) → ((i = 0 ∧ mo = -1) ∨ (0 < i ∧ be = nI (ot_arg (ot_sg Y a c) i) ∧ mo = nI ((ot_sg Y a c) (ot_arg (ot_sg Y a c) i)))) → ∃ G2 I2 J2, jv_V 9 mX5_safe 26 [.ref 64, .int (nI a), .int (nI c), .int be, .int mo, .int (nI i), s6] [] G1 A J1 (some (.int (nI (ot_arg (ot_sg Y a c) (Y 10 0))))) G2 I2 J2 ∧ ot_M G2 I2 J2 Y Z E K ∧ ot_lo I I2 J J2 ∧ ot_gx G G2 := by
    intro m
    induction m with
    | zero => intro i G1 A J1 be mo s6 b1 b2; omega
    | succ m ih =>
      intro i G1 A J1 be mo s6 b1 b2 hM1 hl hx s6o hg
      by_cases hi : i < Y 10 0
      · obtain ⟨G3, I3, J3, q, hFr, hM, hq, hqq, hqG, hqR, hql, hqx⟩ := om_fresh hM1
        have hFn : jv_n G3 < 1000000 := by have := hM.n; unfold ot_NM at this; omega
        have hGn := ot_M_n hM1
        obtain ⟨I4, hB, hR4, hF4⟩ := om_moves (J := J3) hqG hqR h.w hc hi
        have hf : ot_fr I3 I4 q (q + 29) := fun u hu => hF4 u (by omega)
        have hT := ot_M_try hM hq (by omega) hf (fun _ _ => rfl)
        have hl3 := (hl.tr hql).tr (ot_lo.fr (J := J3) hf (by omega))
        have hx3 := hx.tr hqx
        have hqn := (jv_k_in (mk hqG) (by decide)).2
        have hW4 := ot_YW_move h.w hc hi
        have hbi := bd i hi
        have c2 : jv_C 5 mX5_oftenOf [.ref q, .int (nI a), .int (nI c)] G3 I4 J3 (some (.int (nI (ot_sg Y a c i)))) G3 I4 J3 := om_oftenOf hqG hR4 hW4 (a := a) (b := c) ha hc
        rcases hg with ⟨e1, e2⟩ | ⟨e1, e2, e3⟩
        · subst e2
          obtain ⟨G2, I2, J2, hV, hP⟩ := ih (i + 1) G3 I4 J3 (nI i) (nI ((ot_sg Y a c) i)) (.ref q) (by omega) (by omega) hT hl3 hx3 (fun r e => by cases e; exact .inl hqn) (.inr ⟨by omega, by subst e1; rw [ot_arg_one], by subst e1; rw [ot_arg_one]⟩)
          refine ⟨G2, I2, J2, ?_, hP⟩
          refine jv_iload5 dX5_safe_26 ?_
          refine jv_aload0 dX5_safe_28 ?_
          refine jv_getI dX5_safe_29 flX5_80 rfl (mk hM1.g) (mi_children hM1.r) ?_
          refine jv_icmp_geN dX5_safe_32 (tgt := 79) (by decide) (by omega) (by omega) (fun hc32 => by omega) (fun hc32 => ?_)
          refine jv_aload0 dX5_safe_35 ?_
          refine jv_callV (a := 64) (As := []) (rest := []) dX5_safe_36 okX5_fresh inX5_fresh seX5_fresh mlX5_245 (ci := 5) (T := TX5) (N := 35) rfl (mk hM1.g) hFr (by decide) rfl rfl (Nat.le_of_ble_eq_true rfl) (.inr ⟨(ot_ow_r (by omega) (ot_ow_i (ot_ow_i (ot_ow_i (ot_ow_i (ot_ow_i (ot_ow_cons s6o ot_ow_nil))))))), ot_ow_nil, hFn⟩) ?_
          refine jv_astore6 dX5_safe_39 rfl ?_
          refine jv_aload6 dX5_safe_41 ?_
          refine jv_iload2 dX5_safe_43 ?_
          refine jv_iload5 dX5_safe_44 ?_
          refine jv_v20 dX5_safe_46 okX5_moves inX5_moves seX5_moves mlX5_227 (ci := 5) (T := TX5) (N := 35) rfl (mk hqG) hB (by decide) (Nat.le_of_ble_eq_true rfl) ?_
          refine jv_aload6 dX5_safe_49 ?_
          refine jv_iload1 dX5_safe_51 ?_
          refine jv_iload2 dX5_safe_52 ?_
          refine jv_v21 dX5_safe_53 okX5_oftenOf inX5_oftenOf seX5_oftenOf mlX5_304 (ci := 5) (T := TX5) (N := 35) rfl (mk hqG) c2 (by decide) (Nat.le_of_ble_eq_true rfl) ?_
          refine jv_iload4 dX5_safe_56 ?_
          refine jv_icmp_le dX5_safe_58 (tgt := 73) (by decide) (fun h58 => absurd h58 (ot_gt1 (by omega))) (fun h58 => ?_)
          refine jv_iload5 dX5_safe_61 ?_
          refine jv_istore3 dX5_safe_63 rfl ?_
          refine jv_aload6 dX5_safe_64 ?_
          refine jv_iload1 dX5_safe_66 ?_
          refine jv_iload2 dX5_safe_67 ?_
          refine jv_v21 dX5_safe_68 okX5_oftenOf inX5_oftenOf seX5_oftenOf mlX5_304 (ci := 5) (T := TX5) (N := 35) rfl (mk hqG) c2 (by decide) (Nat.le_of_ble_eq_true rfl) ?_
          refine jv_istore4 dX5_safe_71 rfl ?_
          refine jv_iinc5N dX5_safe_73 rfl ?_
          refine jv_goto dX5_safe_76 (tgt := 26) (by decide) ?_
          exact hV
        · have hal := ot_arg_lt (ot_sg Y a c) i e1
          have hba := bd (ot_arg (ot_sg Y a c) i) (by omega)
          subst e2
          subst e3
          by_cases hlt : (ot_sg Y a c) (ot_arg (ot_sg Y a c) i) < (ot_sg Y a c) i
          · obtain ⟨G2, I2, J2, hV, hP⟩ := ih (i + 1) G3 I4 J3 (nI i) (nI ((ot_sg Y a c) i)) (.ref q) (by omega) (by omega) hT hl3 hx3 (fun r e => by cases e; exact .inl hqn) (.inr ⟨by omega, by rw [ot_arg, if_pos hlt], by rw [ot_arg, if_pos hlt]⟩)
            refine ⟨G2, I2, J2, ?_, hP⟩
            refine jv_iload5 dX5_safe_26 ?_
            refine jv_aload0 dX5_safe_28 ?_
            refine jv_getI dX5_safe_29 flX5_80 rfl (mk hM1.g) (mi_children hM1.r) ?_
            refine jv_icmp_geN dX5_safe_32 (tgt := 79) (by decide) (by omega) (by omega) (fun hc32 => by omega) (fun hc32 => ?_)
            refine jv_aload0 dX5_safe_35 ?_
            refine jv_callV (a := 64) (As := []) (rest := []) dX5_safe_36 okX5_fresh inX5_fresh seX5_fresh mlX5_245 (ci := 5) (T := TX5) (N := 35) rfl (mk hM1.g) hFr (by decide) rfl rfl (Nat.le_of_ble_eq_true rfl) (.inr ⟨(ot_ow_r (by omega) (ot_ow_i (ot_ow_i (ot_ow_i (ot_ow_i (ot_ow_i (ot_ow_cons s6o ot_ow_nil))))))), ot_ow_nil, hFn⟩) ?_
            refine jv_astore6 dX5_safe_39 rfl ?_
            refine jv_aload6 dX5_safe_41 ?_
            refine jv_iload2 dX5_safe_43 ?_
            refine jv_iload5 dX5_safe_44 ?_
            refine jv_v20 dX5_safe_46 okX5_moves inX5_moves seX5_moves mlX5_227 (ci := 5) (T := TX5) (N := 35) rfl (mk hqG) hB (by decide) (Nat.le_of_ble_eq_true rfl) ?_
            refine jv_aload6 dX5_safe_49 ?_
            refine jv_iload1 dX5_safe_51 ?_
            refine jv_iload2 dX5_safe_52 ?_
            refine jv_v21 dX5_safe_53 okX5_oftenOf inX5_oftenOf seX5_oftenOf mlX5_304 (ci := 5) (T := TX5) (N := 35) rfl (mk hqG) c2 (by decide) (Nat.le_of_ble_eq_true rfl) ?_
            refine jv_iload4 dX5_safe_56 ?_
            refine jv_icmp_le dX5_safe_58 (tgt := 73) (by decide) (fun h58 => absurd ((nI_leI (by omega) (by omega)).mp h58) (by omega)) (fun h58 => ?_)
            refine jv_iload5 dX5_safe_61 ?_
            refine jv_istore3 dX5_safe_63 rfl ?_
            refine jv_aload6 dX5_safe_64 ?_
            refine jv_iload1 dX5_safe_66 ?_
            refine jv_iload2 dX5_safe_67 ?_
            refine jv_v21 dX5_safe_68 okX5_oftenOf inX5_oftenOf seX5_oftenOf mlX5_304 (ci := 5) (T := TX5) (N := 35) rfl (mk hqG) c2 (by decide) (Nat.le_of_ble_eq_true rfl) ?_
            refine jv_istore4 dX5_safe_71 rfl ?_
            refine jv_iinc5N dX5_safe_73 rfl ?_
            refine jv_goto dX5_safe_76 (tgt := 26) (by decide) ?_
            exact hV
          · obtain ⟨G2, I2, J2, hV, hP⟩ := ih (i + 1) G3 I4 J3 (nI (ot_arg (ot_sg Y a c) i)) (nI ((ot_sg Y a c) (ot_arg (ot_sg Y a c) i))) (.ref q) (by omega) (by omega) hT hl3 hx3 (fun r e => by cases e; exact .inl hqn) (.inr ⟨by omega, by rw [ot_arg, if_neg hlt], by rw [ot_arg, if_neg hlt]⟩)
            refine ⟨G2, I2, J2, ?_, hP⟩
            refine jv_iload5 dX5_safe_26 ?_
            refine jv_aload0 dX5_safe_28 ?_
            refine jv_getI dX5_safe_29 flX5_80 rfl (mk hM1.g) (mi_children hM1.r) ?_
            refine jv_icmp_geN dX5_safe_32 (tgt := 79) (by decide) (by omega) (by omega) (fun hc32 => by omega) (fun hc32 => ?_)
            refine jv_aload0 dX5_safe_35 ?_
            refine jv_callV (a := 64) (As := []) (rest := []) dX5_safe_36 okX5_fresh inX5_fresh seX5_fresh mlX5_245 (ci := 5) (T := TX5) (N := 35) rfl (mk hM1.g) hFr (by decide) rfl rfl (Nat.le_of_ble_eq_true rfl) (.inr ⟨(ot_ow_r (by omega) (ot_ow_i (ot_ow_i (ot_ow_i (ot_ow_i (ot_ow_i (ot_ow_cons s6o ot_ow_nil))))))), ot_ow_nil, hFn⟩) ?_
            refine jv_astore6 dX5_safe_39 rfl ?_
            refine jv_aload6 dX5_safe_41 ?_
            refine jv_iload2 dX5_safe_43 ?_
            refine jv_iload5 dX5_safe_44 ?_
            refine jv_v20 dX5_safe_46 okX5_moves inX5_moves seX5_moves mlX5_227 (ci := 5) (T := TX5) (N := 35) rfl (mk hqG) hB (by decide) (Nat.le_of_ble_eq_true rfl) ?_
            refine jv_aload6 dX5_safe_49 ?_
            refine jv_iload1 dX5_safe_51 ?_
            refine jv_iload2 dX5_safe_52 ?_
            refine jv_v21 dX5_safe_53 okX5_oftenOf inX5_oftenOf seX5_oftenOf mlX5_304 (ci := 5) (T := TX5) (N := 35) rfl (mk hqG) c2 (by decide) (Nat.le_of_ble_eq_true rfl) ?_
            refine jv_iload4 dX5_safe_56 ?_
            refine jv_icmp_le dX5_safe_58 (tgt := 73) (by decide) (fun h58 => ?_) (fun h58 => absurd ((nI_leI (by omega) (by omega)).mpr (by omega)) h58)
            refine jv_iinc5N dX5_safe_73 rfl ?_
            refine jv_goto dX5_safe_76 (tgt := 26) (by decide) ?_
            exact hV
      · obtain ⟨e1, e2, e3⟩ := hg.resolve_left (by omega)
        refine ⟨G1, A, J1, ?_, hM1, hl, hx⟩
        refine jv_iload5 dX5_safe_26 ?_
        refine jv_aload0 dX5_safe_28 ?_
        refine jv_getI dX5_safe_29 flX5_80 rfl (mk hM1.g) (mi_children hM1.r) ?_
        refine jv_icmp_geN dX5_safe_32 (tgt := 79) (by decide) (by omega) (by omega) (fun hc32 => ?_) (fun hc32 => by omega)
        refine jv_iload3 dX5_safe_79 ?_
        exact jv_iret dX5_safe_80 rfl rfl (by rw [e2, show i = Y 10 0 by omega]) rfl rfl
  exact loop (Y 10 0 + 1) 0 G I J (-1) (-1) .null (by omega) (by omega) h ot_lo.rf ot_gx.rf (fun r e => by cases e) (.inl ⟨rfl, rfl⟩)
set_option maxRecDepth 20000 in
theorem pm_safe {G : jv_Gr} {I : jv_I} {J : jv_J} {Y Z : ot_Y} {E : ot_E} {K : Option ot_Y} (h : ot_M G I J Y Z E K) (a : Int32) (b : Int32) : ot_mm 9 mX5_safe [.ref 64, .int a, .int b] G I J (ot_ans (ot_rc ((0 ≤ a.toInt ∧ a.toInt < Y 10 0) ∧ (0 ≤ b.toInt ∧ b.toInt < Y 10 0) ∧ a ≠ b)) (nI (ot_arg (ot_sg Y (ot_n a) (ot_n b)) (Y 10 0)))) Y (ot_zr Z (ot_rc ((0 ≤ a.toInt ∧ a.toInt < Y 10 0) ∧ (0 ≤ b.toInt ∧ b.toInt < Y 10 0) ∧ a ≠ b))) E K := by
  have bn := yw_n h.w
  have bc := yw_c h.w
  have bw := yw_w h.w
  refine ot_rc_split (motive := fun rc => ot_mm 9 mX5_safe [.ref 64, .int a, .int b] G I J (ot_ans rc (nI (ot_arg (ot_sg Y (ot_n a) (ot_n b)) (Y 10 0)))) Y (ot_zr Z rc) E K) (fun hv => ?_) (fun hv => ?_)
  · obtain ⟨x, hx, rfl⟩ := ot_of hv.1 (by omega)
    rw [ot_n_nI (show x < 2 ^ 30 by omega)]
    obtain ⟨z, hz, rfl⟩ := ot_of hv.2.1 (by omega)
    rw [ot_n_nI (show z < 2 ^ 30 by omega)]
    obtain ⟨G2, I2, J2, hV, hP⟩ := om_safe h hx hz
    refine ⟨G2, I2, J2, ?_, hP⟩
    refine jv_enter okX5_safe (L := [.ref 64, .int (nI x), .int (nI z), .null, .null, .null, .null]) rfl (Nat.le_of_ble_eq_true rfl) ?_
    refine jv_aload0 dX5_safe_0 ?_
    refine jv_iload1 dX5_safe_1 ?_
    refine jv_i2l dX5_safe_2 rfl ?_
    refine jv_iload2 dX5_safe_3 ?_
    refine jv_i2l dX5_safe_4 rfl ?_
    refine jv_v21 dX5_safe_5 okX5_areTwo inX5_areTwo seX5_areTwo mlX5_144 (ci := 5) (T := TX5) (N := 35) rfl (mk h.g) (om_areTwoI h.g h.r h.w _ _) (by decide) (Nat.le_of_ble_eq_true rfl) ?_
    refine jv_if_neB dX5_safe_8 (tgt := 18) (by decide) (fun hq8 => ?_) (fun hq8 => absurd hv hq8)
    refine jv_iconst dX5_safe_18 jv_c_iconst_m1 ?_
    refine jv_istore3 dX5_safe_19 rfl ?_
    refine jv_iconst dX5_safe_20 jv_c_iconst_m1 ?_
    refine jv_istore4 dX5_safe_21 rfl ?_
    refine jv_iconst dX5_safe_23 jv_c_iconst_0 ?_
    refine jv_istore5 dX5_safe_24 rfl ?_
    exact hV
  · obtain ⟨I2, hC, h2, h3⟩ := om_refuse2 h
    refine ⟨G, I2, J, ?_, h2, h3, ot_gx.rf⟩
    refine jv_enter okX5_safe (L := [.ref 64, .int a, .int b, .null, .null, .null, .null]) rfl (Nat.le_of_ble_eq_true rfl) ?_
    refine jv_aload0 dX5_safe_0 ?_
    refine jv_iload1 dX5_safe_1 ?_
    refine jv_i2l dX5_safe_2 rfl ?_
    refine jv_iload2 dX5_safe_3 ?_
    refine jv_i2l dX5_safe_4 rfl ?_
    refine jv_v21 dX5_safe_5 okX5_areTwo inX5_areTwo seX5_areTwo mlX5_144 (ci := 5) (T := TX5) (N := 35) rfl (mk h.g) (om_areTwoI h.g h.r h.w _ _) (by decide) (Nat.le_of_ble_eq_true rfl) ?_
    refine jv_if_neB dX5_safe_8 (tgt := 18) (by decide) (fun hq8 => absurd hq8 hv) (fun hq8 => ?_)
    refine jv_aload0 dX5_safe_11 ?_
    refine jv_bipush dX5_safe_12 jv_c_bipush_m2 ?_
    refine jv_v11 dX5_safe_14 okX5_refuse inX5_refuse seX5_refuse mlX5_104 (ci := 5) (T := TX5) (N := 35) rfl (mk h.g) hC (by decide) (Nat.le_of_ble_eq_true rfl) ?_
    exact jv_iret dX5_safe_17 rfl rfl rfl rfl rfl
