/-! ===== yard: the reference's text, and face ===== -/
theorem ot_mw.tq {I A : jv_I} {n : Nat} {t : Nat → Nat} (h : ot_mw I A) (hP : ot_tq I n t) : ot_tq A n t := ⟨⟨h.2.trans hP.1.1, fun i hi => by rw [h.1 (64 + 15) (by decide) (by decide)]; exact hP.1.2 i hi⟩, hP.2⟩
theorem ot_mw.u {I A : jv_I} (h : ot_mw I A) {k : Nat} {v : Int32} (hk : k ≠ 7) : ot_mw I (jv_up A 64 k v) := ⟨fun q a b => by rw [jv_up_ne _ _ _ a]; exact h.1 q a b, by rw [jv_up_at_ne _ _ _ (fun z => hk z.symm)]; exact h.2⟩
theorem ot_MR_u {I : jv_I} {Y : ot_Y} (h : ot_MR I 64 Y) {k : Nat} {v : Int32} (hk : 22 < k) : ot_MR (jv_up I 64 k v) 64 Y := by
  obtain ⟨h1, h2, h3, h4⟩ := h
  unfold ot_MR
  have e : ∀ q, q ≠ 64 → jv_up I 64 k v q = I q := fun q hq => jv_up_ne _ _ _ hq
  rw [jv_up_at_ne _ _ _ (show 9 ≠ k by omega), jv_up_at_ne _ _ _ (show 13 ≠ k by omega), jv_up_at_ne _ _ _ (show 17 ≠ k by omega), jv_up_at_ne _ _ _ (show 22 ≠ k by omega), e (64 + 17) (by decide), e (64 + 18) (by decide), e (64 + 19) (by decide), e (64 + 20) (by decide), e (64 + 21) (by decide), e (64 + 22) (by decide), e (64 + 23) (by decide), e (64 + 24) (by decide), e (64 + 25) (by decide), e (64 + 26) (by decide)]
  exact ⟨h1, h2, h3, h4⟩
theorem ot_MR_7 {I : jv_I} {m : Nat} {Y : ot_Y} (h : ot_MR I m Y) {v : Int32} : ot_MR (jv_up I m 7 v) m Y := by
  obtain ⟨h1, h2, h3, h4⟩ := h
  unfold ot_MR
  have e : ∀ q, q ≠ m → jv_up I m 7 v q = I q := fun q hq => jv_up_ne _ _ _ hq
  rw [jv_up_at_ne _ _ _ (show 9 ≠ 7 by decide), jv_up_at_ne _ _ _ (show 13 ≠ 7 by decide), jv_up_at_ne _ _ _ (show 17 ≠ 7 by decide), jv_up_at_ne _ _ _ (show 22 ≠ 7 by decide), e (m + 17) (by omega), e (m + 18) (by omega), e (m + 19) (by omega), e (m + 20) (by omega), e (m + 21) (by omega), e (m + 22) (by omega), e (m + 23) (by omega), e (m + 24) (by omega), e (m + 25) (by omega), e (m + 26) (by omega)]
  exact ⟨h1, h2, h3, h4⟩
theorem ot_lf.mw {I A : jv_I} (h : ot_lf I A) : ot_mw I A := h.qf.mw
theorem ot_lf.mr {I A : jv_I} {Y : ot_Y} (h : ot_lf I A) (hR : ot_MR I 64 Y) : ot_MR A 64 Y := h.qf.mr hR
set_option maxRecDepth 20000 in
theorem om_readAll {G : jv_Gr} {I : jv_I} {J : jv_J} (hG : ot_MG G 64) {n : Nat} {t : Nat → Nat} (hP : ot_tq I n t) {Y : ot_Y} (hR : ot_MR I 64 Y) (hW : ot_YW Y) : ∃ I2, jv_C 8 mX5_readAll [.ref 64] G I J (some (.int (jv_b ((ot_rd t n 250 Y 0 1).1.isSome = true)))) G I2 J ∧ ot_mw I I2 ∧ ((ot_rd t n 250 Y 0 1).1 = none → I2 64 29 = nI (ot_rd t n 250 Y 0 1).2) ∧ ∀ Y3, (ot_rd t n 250 Y 0 1).1 = some Y3 → ot_MR I2 64 Y3 ∧ I2 64 31 = nI (ot_rd t n 250 Y 0 1).2 := by
  have hn := hP.2.1
  have loop : ∀ (f c e2 : Nat) (Y2 : ot_Y) (A : jv_I), n < e2 + 1 + 2 * f → e2 ≤ n → ot_mw I A → A 64 31 = nI c → ot_L4 A t n e2 → ot_MR A 64 Y2 → ot_YW Y2 → ∃ I2, jv_V 8 mX5_readAll 23 [.ref 64] [] G A J (some (.int (jv_b ((if ot_tn t n e2 = 0 then (some Y2, c) else if ot_tn t n e2 = 3 then ot_rd t n f Y2 (ot_te t n e2) (c + 1) else (none, ot_ts t n e2)).1.isSome = true)))) G I2 J ∧ ot_mw I I2 ∧ ((if ot_tn t n e2 = 0 then (some Y2, c) else if ot_tn t n e2 = 3 then ot_rd t n f Y2 (ot_te t n e2) (c + 1) else (none, ot_ts t n e2)).1 = none → I2 64 29 = nI (if ot_tn t n e2 = 0 then (some Y2, c) else if ot_tn t n e2 = 3 then ot_rd t n f Y2 (ot_te t n e2) (c + 1) else (none, ot_ts t n e2)).2) ∧ ∀ Y3, (if ot_tn t n e2 = 0 then (some Y2, c) else if ot_tn t n e2 = 3 then ot_rd t n f Y2 (ot_te t n e2) (c + 1) else (none, ot_ts t n e2)).1 = some Y3 → ot_MR I2 64 Y3 ∧ I2 64 31 = nI (if ot_tn t n e2 = 0 then (some Y2, c) else if ot_tn t n e2 = 3 then ot_rd t n f Y2 (ot_te t n e2) (c + 1) else (none, ot_ts t n e2)).2 := by
    intro f
    induction f with
    | zero =>
      intro c e2 Y2 A b1 b2 hF h31 hl hR2 hW2
      have b4 := ot_tn_4 t n e2
      by_cases k0 : ot_tn t n e2 = 0
      · rw [if_pos k0]
        refine ⟨A, ?_, hF, (fun z => by cases z), fun Y3 z => by cases z; exact ⟨hR2, h31⟩⟩
        refine jv_aload0 dX5_readAll_23 ?_
        refine jv_getI dX5_readAll_24 flX5_166 rfl (mk hG) hl.1 ?_
        refine jv_if_eqN dX5_readAll_27 (tgt := 69) (by decide) (by omega) (fun hc27 => ?_) (fun hc27 => by omega)
        refine jv_iconst dX5_readAll_69 jv_c_iconst_1 ?_
        exact jv_iret dX5_readAll_70 rfl (by decide) (ot_b1 rfl) rfl rfl
      · have g1 := ot_te_gt t k0
        have g2 := ot_te_le t b2
        have g3 := ot_ts_ge t n e2
        omega
    | succ f ih =>
      intro c e2 Y2 A b1 b2 hF h31 hl hR2 hW2
      have b4 := ot_tn_4 t n e2
      have hPA := hF.tq hP
      by_cases k0 : ot_tn t n e2 = 0
      · rw [if_pos k0]
        refine ⟨A, ?_, hF, (fun z => by cases z), fun Y3 z => by cases z; exact ⟨hR2, h31⟩⟩
        refine jv_aload0 dX5_readAll_23 ?_
        refine jv_getI dX5_readAll_24 flX5_166 rfl (mk hG) hl.1 ?_
        refine jv_if_eqN dX5_readAll_27 (tgt := 69) (by decide) (by omega) (fun hc27 => ?_) (fun hc27 => by omega)
        refine jv_iconst dX5_readAll_69 jv_c_iconst_1 ?_
        exact jv_iret dX5_readAll_70 rfl (by decide) (ot_b1 rfl) rfl rfl
      · rw [if_neg k0]
        by_cases k3 : ot_tn t n e2 = 3
        · rw [if_pos k3]
          have g1 := ot_te_gt t k0
          have g2 := ot_te_le t b2
          have g3 := ot_ts_ge t n e2
          obtain ⟨A1, c1, f1, l1⟩ := om_look (J := J) (e := ot_te t n e2) hG hPA g2 hl.2.2.1
          obtain ⟨A2, c2, s1, s2, s3, s4⟩ := om_statement (J := J) hG (f1.tq hPA) (f1.mr hR2) hW2 g2 l1
          have hGm := ot_stm_G hW2 t g2
          cases hs : ot_stm Y2 t n (ot_te t n e2) with
          | mk a b =>
            rw [hs] at c2 s3 s4 hGm
            have hb : b ≤ n := hGm.1
            cases a with
            | none =>
              rw [ot_rd_none hs]
              refine ⟨A2, ?_, hF.tr (f1.mw.tr s1), fun _ => s3 rfl, fun Y3 z => by cases z⟩
              refine jv_aload0 dX5_readAll_23 ?_
              refine jv_getI dX5_readAll_24 flX5_166 rfl (mk hG) hl.1 ?_
              refine jv_if_eqN dX5_readAll_27 (tgt := 69) (by decide) (by omega) (fun hc27 => by omega) (fun hc27 => ?_)
              refine jv_aload0 dX5_readAll_30 ?_
              refine jv_getI dX5_readAll_31 flX5_166 rfl (mk hG) hl.1 ?_
              refine jv_iconst dX5_readAll_34 jv_c_iconst_3 ?_
              refine jv_icmp_eqN dX5_readAll_35 (tgt := 43) (by decide) (by omega) (by omega) (fun hc35 => ?_) (fun hc35 => by omega)
              refine jv_aload0 dX5_readAll_43 ?_
              refine jv_v00 dX5_readAll_44 okX5_look inX5_look seX5_look mlX5_192 (ci := 5) (T := TX5) (N := 35) rfl (mk hG) c1 (by decide) (Nat.le_of_ble_eq_true rfl) ?_
              refine jv_aload0 dX5_readAll_47 ?_
              refine jv_v01 dX5_readAll_48 okX5_statement inX5_statement seX5_statement mlX5_233 (ci := 5) (T := TX5) (N := 35) rfl (mk hG) c2 (by decide) (Nat.le_of_ble_eq_true rfl) ?_
              refine jv_if_neB dX5_readAll_51 (tgt := 56) (by decide) (fun hz => absurd hz (fun z => Bool.noConfusion z)) (fun hz => ?_)
              refine jv_iconst dX5_readAll_54 jv_c_iconst_0 ?_
              exact jv_iret dX5_readAll_55 rfl (by decide) (ot_b0 (fun z => Bool.noConfusion z)) rfl rfl
            | some Y3 =>
              rw [ot_rd_some hs]
              have hy := s4 Y3 rfl
              have hg2 := hGm.2 Y3 rfl
              have hbe : ot_te t n e2 + 1 ≤ b := hg2.2.2
              have g31 : A2 64 31 = nI c := s2.trans ((f1.2 31 (by decide)).trans h31)
              have hl2 : ot_L4 (jv_up A2 64 31 (nI (c + 1))) t n b := ⟨by rw [jv_up_at_ne _ _ _ (by decide)]; exact hy.2.1, by rw [jv_up_at_ne _ _ _ (by decide)]; exact hy.2.2.1, by rw [jv_up_at_ne _ _ _ (by decide)]; exact hy.2.2.2.1, by rw [jv_up_at_ne _ _ _ (by decide)]; exact hy.2.2.2.2⟩
              obtain ⟨I2, hV, hQ⟩ := ih (c + 1) b Y3 (jv_up A2 64 31 (nI (c + 1))) (by omega) hb ((hF.tr (f1.mw.tr s1)).u (by decide)) (jv_up_at _ _ _ _) hl2 (ot_MR_u hy.1 (by decide)) hg2.1
              refine ⟨I2, ?_, hQ⟩
              refine jv_aload0 dX5_readAll_23 ?_
              refine jv_getI dX5_readAll_24 flX5_166 rfl (mk hG) hl.1 ?_
              refine jv_if_eqN dX5_readAll_27 (tgt := 69) (by decide) (by omega) (fun hc27 => by omega) (fun hc27 => ?_)
              refine jv_aload0 dX5_readAll_30 ?_
              refine jv_getI dX5_readAll_31 flX5_166 rfl (mk hG) hl.1 ?_
              refine jv_iconst dX5_readAll_34 jv_c_iconst_3 ?_
              refine jv_icmp_eqN dX5_readAll_35 (tgt := 43) (by decide) (by omega) (by omega) (fun hc35 => ?_) (fun hc35 => by omega)
              refine jv_aload0 dX5_readAll_43 ?_
              refine jv_v00 dX5_readAll_44 okX5_look inX5_look seX5_look mlX5_192 (ci := 5) (T := TX5) (N := 35) rfl (mk hG) c1 (by decide) (Nat.le_of_ble_eq_true rfl) ?_
              refine jv_aload0 dX5_readAll_47 ?_
              refine jv_v01 dX5_readAll_48 okX5_statement inX5_statement seX5_statement mlX5_233 (ci := 5) (T := TX5) (N := 35) rfl (mk hG) c2 (by decide) (Nat.le_of_ble_eq_true rfl) ?_
              refine jv_if_neB dX5_readAll_51 (tgt := 56) (by decide) (fun hz => ?_) (fun hz => absurd rfl hz)
              refine jv_aload0 dX5_readAll_56 ?_
              refine jv_dup dX5_readAll_57 rfl ?_
              refine jv_getI dX5_readAll_58 flX5_230 rfl (mk hG) g31 ?_
              refine jv_iconst dX5_readAll_61 jv_c_iconst_1 ?_
              refine jv_iaddN dX5_readAll_62 ?_
              refine jv_putI dX5_readAll_63 flX5_230 rfl (mk hG) rfl rfl ?_
              refine jv_goto dX5_readAll_66 (tgt := 23) (by decide) ?_
              exact hV
        · rw [if_neg k3]
          refine ⟨jv_up A 64 29 (nI (ot_ts t n e2)), ?_, hF.u (by decide), fun _ => jv_up_at _ _ _ _, fun Y3 z => by cases z⟩
          refine jv_aload0 dX5_readAll_23 ?_
          refine jv_getI dX5_readAll_24 flX5_166 rfl (mk hG) hl.1 ?_
          refine jv_if_eqN dX5_readAll_27 (tgt := 69) (by decide) (by omega) (fun hc27 => by omega) (fun hc27 => ?_)
          refine jv_aload0 dX5_readAll_30 ?_
          refine jv_getI dX5_readAll_31 flX5_166 rfl (mk hG) hl.1 ?_
          refine jv_iconst dX5_readAll_34 jv_c_iconst_3 ?_
          refine jv_icmp_eqN dX5_readAll_35 (tgt := 43) (by decide) (by omega) (by omega) (fun hc35 => by omega) (fun hc35 => ?_)
          refine jv_aload0 dX5_readAll_38 ?_
          refine jv_v01 dX5_readAll_39 okX5_wrong inX5_wrong seX5_wrong mlX5_188 (ci := 5) (T := TX5) (N := 35) rfl (mk hG) (om_wrong hG hl.2.1) (by decide) (Nat.le_of_ble_eq_true rfl) ?_
          exact jv_iret dX5_readAll_42 rfl (by decide) (ot_b0 (fun z => Bool.noConfusion z)) rfl rfl
  obtain ⟨A1, e1⟩ : ∃ A1, A1 = jv_up I 64 31 (nI 1) := ⟨_, rfl⟩
  obtain ⟨A2, e2⟩ : ∃ A2, A2 = jv_up A1 64 25 (nI 0) := ⟨_, rfl⟩
  have hF2 : ot_mw I A2 := by rw [e2, e1]; exact (ot_mw.rf.u (by decide)).u (by decide)
  have hR2 : ot_MR A2 64 Y := by rw [e2, e1]; exact ot_MR_u (ot_MR_u hR (by decide)) (by decide)
  have h31 : A2 64 31 = nI 1 := by rw [e2, e1, jv_up_at_ne _ _ _ (by decide)]; exact jv_up_at _ _ _ _
  have h25 : A2 64 25 = nI 0 := by rw [e2]; exact jv_up_at _ _ _ _
  have hP2 := hF2.tq hP
  obtain ⟨A3, c1, f1, l1⟩ := om_look (J := J) (e := 0) hG hP2 (by omega) h25
  obtain ⟨A4, c2, s1, s2, s3, s4⟩ := om_statement (J := J) hG (f1.tq hP2) (f1.mr hR2) hW (Nat.zero_le _) l1
  have hGm := ot_stm_G hW t (Nat.zero_le n)
  cases hs : ot_stm Y t n 0 with
  | mk a b =>
    rw [hs] at c2 s3 s4 hGm
    have hb : b ≤ n := hGm.1
    cases a with
    | none =>
      rw [ot_rd_none hs]
      refine ⟨A4, ?_, hF2.tr (f1.mw.tr s1), fun _ => s3 rfl, fun Y3 z => by cases z⟩
      refine jv_enter okX5_readAll (L := [.ref 64]) rfl (Nat.le_of_ble_eq_true rfl) ?_
      refine jv_aload0 dX5_readAll_0 ?_
      refine jv_iconst dX5_readAll_1 jv_c_iconst_1 ?_
      refine jv_putI dX5_readAll_2 flX5_230 rfl (mk hG) rfl rfl ?_
      rw [← e1]
      refine jv_aload0 dX5_readAll_5 ?_
      refine jv_iconst dX5_readAll_6 jv_c_iconst_0 ?_
      refine jv_putI dX5_readAll_7 flX5_157 rfl (mk hG) rfl rfl ?_
      rw [← e2]
      refine jv_aload0 dX5_readAll_10 ?_
      refine jv_v00 dX5_readAll_11 okX5_look inX5_look seX5_look mlX5_192 (ci := 5) (T := TX5) (N := 35) rfl (mk hG) c1 (by decide) (Nat.le_of_ble_eq_true rfl) ?_
      refine jv_aload0 dX5_readAll_14 ?_
      refine jv_v01 dX5_readAll_15 okX5_statement inX5_statement seX5_statement mlX5_233 (ci := 5) (T := TX5) (N := 35) rfl (mk hG) c2 (by decide) (Nat.le_of_ble_eq_true rfl) ?_
      refine jv_if_neB dX5_readAll_18 (tgt := 23) (by decide) (fun hz => absurd hz (fun z => Bool.noConfusion z)) (fun hz => ?_)
      refine jv_iconst dX5_readAll_21 jv_c_iconst_0 ?_
      exact jv_iret dX5_readAll_22 rfl (by decide) (ot_b0 (fun z => Bool.noConfusion z)) rfl rfl
    | some Y3 =>
      rw [ot_rd_some hs]
      have hy := s4 Y3 rfl
      have hg2 := hGm.2 Y3 rfl
      have hbe : 0 + 1 ≤ b := hg2.2.2
      obtain ⟨I2, hV, hQ⟩ := loop 249 1 b Y3 A4 (by omega) hb (hF2.tr (f1.mw.tr s1)) (s2.trans ((f1.2 31 (by decide)).trans h31)) hy.2 hy.1 hg2.1
      refine ⟨I2, ?_, hQ⟩
      refine jv_enter okX5_readAll (L := [.ref 64]) rfl (Nat.le_of_ble_eq_true rfl) ?_
      refine jv_aload0 dX5_readAll_0 ?_
      refine jv_iconst dX5_readAll_1 jv_c_iconst_1 ?_
      refine jv_putI dX5_readAll_2 flX5_230 rfl (mk hG) rfl rfl ?_
      rw [← e1]
      refine jv_aload0 dX5_readAll_5 ?_
      refine jv_iconst dX5_readAll_6 jv_c_iconst_0 ?_
      refine jv_putI dX5_readAll_7 flX5_157 rfl (mk hG) rfl rfl ?_
      rw [← e2]
      refine jv_aload0 dX5_readAll_10 ?_
      refine jv_v00 dX5_readAll_11 okX5_look inX5_look seX5_look mlX5_192 (ci := 5) (T := TX5) (N := 35) rfl (mk hG) c1 (by decide) (Nat.le_of_ble_eq_true rfl) ?_
      refine jv_aload0 dX5_readAll_14 ?_
      refine jv_v01 dX5_readAll_15 okX5_statement inX5_statement seX5_statement mlX5_233 (ci := 5) (T := TX5) (N := 35) rfl (mk hG) c2 (by decide) (Nat.le_of_ble_eq_true rfl) ?_
      refine jv_if_neB dX5_readAll_18 (tgt := 23) (by decide) (fun hz => ?_) (fun hz => absurd rfl hz)
      exact hV
set_option maxRecDepth 20000 in
theorem pm_yard {G : jv_Gr} {I : jv_I} {J : jv_J} {Y Z : ot_Y} {E : ot_E} {K : Option ot_Y} (h : ot_M G I J Y Z E K) : ot_mm 9 mX5_yard [.ref 64] G I J (ot_yA (ot_rd (Z 5) (Z 4 0) 250 Y 0 1)) (ot_yY Y (ot_rd (Z 5) (Z 4 0) 250 Y 0 1)) (ot_zr (ot_wipe Z) (ot_yR (ot_rd (Z 5) (Z 4 0) 250 Y 0 1))) E K := by
  have bn := yw_n h.w
  have bc := yw_c h.w
  have bw := yw_w h.w
  obtain ⟨G3, I3, J3, q, hFr, hM, hq, hqq, hqG, hqR, hql, hqx⟩ := om_fresh h
  have hFn : jv_n G3 < 1000000 := by have := hM.n; unfold ot_NM at this; omega
  have hGn := ot_M_n h
  have hP : ot_tq I3 (Z 4 0) (Z 5) := ⟨⟨nr_tsize hM.s, fun i hi => nr_tape hM.s hi⟩, hM.z.2.1, hM.z.2.2⟩
  obtain ⟨A2, c2, m2, n2, y2⟩ := om_readAll (J := J3) hM.g hP hM.r hM.w
  have hGd := ot_rd_G (Z 5) (Z 4 0) 250 Y 0 1 h.w (by omega)
  have h250 := hP.2.1
  obtain ⟨A3, e3⟩ : ∃ A3, A3 = jv_up A2 64 7 (nI 0) := ⟨_, rfl⟩
  have f3 : ∀ q, q ≠ 64 → A3 q = A2 q := fun q hq => by rw [e3]; exact jv_up_ne _ _ _ hq
  have k3 : ∀ j, j ≠ 7 → A3 64 j = A2 64 j := fun j hj => by rw [e3]; exact jv_up_at_ne _ _ _ hj
  cases hr : (ot_rd (Z 5) (Z 4 0) 250 Y 0 1) with
  | mk a p =>
    rw [hr] at c2 n2 y2 hGd
    cases a with
    | none =>
      have g29 : A2 64 29 = nI p := n2 rfl
      have hq3 : ot_MR A3 q Y := ot_MR_fr (lo := 64) (hi := 93) hqR (fun b hb => (f3 b (by omega)).trans (m2.1 b (by omega) (by omega))) (by omega)
      obtain ⟨A4, c4, r4, f4, a4, b4, k4⟩ := om_takeFrom (J := J3) (m := 64) (m2 := q) hM.g hqG hq3 h.w (by omega)
      have hM1 := ot_M_tape (I2 := jv_up I3 64 7 (nI 0)) hM ot_wipe_z (by rw [ot_wipe_4]; omega) (fun i hi => by rw [ot_wipe_4] at hi; omega) (fun q q1 q2 => jv_up_ne _ _ _ q1) (fun k hk => jv_up_at_ne _ _ _ hk) (by rw [ot_wipe_4, jv_up_at]) (fun i hi => by rw [ot_wipe_4] at hi; omega)
      have hM4 : ot_M G3 A4 J3 Y (ot_wipe Z) E K := ot_M_yard hM1 r4 h.w hM1.z ⟨fun b b1 b2 => by
        rw [jv_up_ne _ _ _ b1, ← m2.1 b b1 b2, ← f3 b b1]
        by_cases hb : b < 64
        · exact f4 b (.inl hb)
        · by_cases hb2 : b < 81
          · exact a4 b (by omega) (by omega)
          · exact b4 b (by omega), by rw [jv_up_at, k4 7 (by decide) (by decide) (by decide) (by decide), e3, jv_up_at]⟩
      have g29 : (jv_up A4 80 2 (nI (ot_wipe Z 6 0 + 1))) 64 29 = nI p := by rw [jv_up_ne _ _ _ (by decide), k4 29 (by decide) (by decide) (by decide) (by decide), k3 29 (by decide)]; exact g29
      refine ⟨G3, jv_up A4 80 2 (nI (ot_wipe Z 6 0 + 1)), J3, ?_, ot_M_ref hM4 (j := 0) (by decide), hql.tr (fun b hb => ⟨(jv_up_ne _ _ _ (by omega)).trans ((f4 b (by omega)).trans ((f3 b (by omega)).trans (m2.1 b (by omega) (by omega)))), rfl⟩), hqx⟩
      refine jv_enter okX5_yard (L := [.ref 64, .null, .null]) rfl (Nat.le_of_ble_eq_true rfl) ?_
      refine jv_aload0 dX5_yard_0 ?_
      refine jv_callV (a := 64) (As := []) (rest := []) dX5_yard_1 okX5_fresh inX5_fresh seX5_fresh mlX5_245 (ci := 5) (T := TX5) (N := 35) rfl (mk h.g) hFr (by decide) rfl rfl (Nat.le_of_ble_eq_true rfl) (.inr ⟨(ot_ow_r (by omega) (ot_ow_n (ot_ow_n ot_ow_nil))), ot_ow_nil, hFn⟩) ?_
      refine jv_astore1 dX5_yard_4 rfl ?_
      refine jv_aload0 dX5_yard_5 ?_
      refine jv_v01 dX5_yard_6 okX5_readAll inX5_readAll seX5_readAll mlX5_249 (ci := 5) (T := TX5) (N := 35) rfl (mk hM.g) c2 (by decide) (Nat.le_of_ble_eq_true rfl) ?_
      refine jv_istore2 dX5_yard_9 rfl ?_
      refine jv_aload0 dX5_yard_10 ?_
      refine jv_iconst dX5_yard_11 jv_c_iconst_0 ?_
      refine jv_putI dX5_yard_12 flX5_154 rfl (mk hM.g) rfl rfl ?_
      rw [← e3]
      refine jv_iload2 dX5_yard_15 ?_
      refine jv_if_neB dX5_yard_16 (tgt := 39) (by decide) (fun hz => absurd hz (fun z => Bool.noConfusion z)) (fun hz => ?_)
      refine jv_aload0 dX5_yard_19 ?_
      refine jv_aload1 dX5_yard_20 ?_
      refine jv_v10 dX5_yard_21 okX5_takeFrom inX5_takeFrom seX5_takeFrom mlX5_241 (ci := 5) (T := TX5) (N := 35) rfl (mk hM.g) c4 (by decide) (Nat.le_of_ble_eq_true rfl) ?_
      refine jv_aload0 dX5_yard_24 ?_
      refine jv_bipush dX5_yard_25 jv_c_bipush_m2 ?_
      refine jv_v11 dX5_yard_27 okX5_refuse inX5_refuse seX5_refuse mlX5_104 (ci := 5) (T := TX5) (N := 35) rfl (mk hM.g) (om_refuse20 hM4) (by decide) (Nat.le_of_ble_eq_true rfl) ?_
      refine jv_pop dX5_yard_30 rfl ?_
      refine jv_bipush dX5_yard_31 jv_c_bipush_m20 ?_
      refine jv_aload0 dX5_yard_33 ?_
      refine jv_getI dX5_yard_34 flX5_175 rfl (mk hM.g) g29 ?_
      refine jv_isub dX5_yard_37 ?_
      exact jv_iret dX5_yard_38 rfl rfl rfl rfl rfl
    | some Y2 =>
      have hy := y2 Y2 rfl
      have hg2 := hGd.2 Y2 rfl
      have hMy := ot_M_yard hM hy.1 hg2.1 (ot_ZW_y hM.z hg2.2) m2
      have hM3 := ot_M_tape (I2 := A3) hMy ot_wipe_z (by rw [ot_wipe_4]; omega) (fun i hi => by rw [ot_wipe_4] at hi; omega) (fun q q1 q2 => f3 q q1) (fun k hk => k3 k hk) (by rw [ot_wipe_4, e3, jv_up_at]) (fun i hi => by rw [ot_wipe_4] at hi; omega)
      have g31 : A3 64 31 = nI p := (k3 31 (by decide)).trans hy.2
      refine ⟨G3, A3, J3, ?_, hM3, hql.tr (fun b hb => ⟨(f3 b (by omega)).trans (m2.1 b (by omega) (by omega)), rfl⟩), hqx⟩
      refine jv_enter okX5_yard (L := [.ref 64, .null, .null]) rfl (Nat.le_of_ble_eq_true rfl) ?_
      refine jv_aload0 dX5_yard_0 ?_
      refine jv_callV (a := 64) (As := []) (rest := []) dX5_yard_1 okX5_fresh inX5_fresh seX5_fresh mlX5_245 (ci := 5) (T := TX5) (N := 35) rfl (mk h.g) hFr (by decide) rfl rfl (Nat.le_of_ble_eq_true rfl) (.inr ⟨(ot_ow_r (by omega) (ot_ow_n (ot_ow_n ot_ow_nil))), ot_ow_nil, hFn⟩) ?_
      refine jv_astore1 dX5_yard_4 rfl ?_
      refine jv_aload0 dX5_yard_5 ?_
      refine jv_v01 dX5_yard_6 okX5_readAll inX5_readAll seX5_readAll mlX5_249 (ci := 5) (T := TX5) (N := 35) rfl (mk hM.g) c2 (by decide) (Nat.le_of_ble_eq_true rfl) ?_
      refine jv_istore2 dX5_yard_9 rfl ?_
      refine jv_aload0 dX5_yard_10 ?_
      refine jv_iconst dX5_yard_11 jv_c_iconst_0 ?_
      refine jv_putI dX5_yard_12 flX5_154 rfl (mk hM.g) rfl rfl ?_
      rw [← e3]
      refine jv_iload2 dX5_yard_15 ?_
      refine jv_if_neB dX5_yard_16 (tgt := 39) (by decide) (fun hz => ?_) (fun hz => absurd rfl hz)
      refine jv_aload0 dX5_yard_39 ?_
      refine jv_getI dX5_yard_40 flX5_230 rfl (mk hM.g) g31 ?_
      exact jv_iret dX5_yard_43 rfl rfl rfl rfl rfl
