/-! ===== yard: the reference's statement, text, and face ===== -/
def ot_sq (I I2 : jv_I) (t : Nat → Nat) (n : Nat) (r : Option ot_Y × Nat) : Prop := ot_mw I I2 ∧ I2 64 31 = I 64 31 ∧ (r.1 = none → I2 64 29 = nI r.2) ∧ ∀ Y2, r.1 = some Y2 → ot_MR I2 64 Y2 ∧ ot_L4 I2 t n r.2
theorem ot_sq.no {I A : jv_I} {t : Nat → Nat} {n p : Nat} (h : ot_qf I A) (h3 : A 64 29 = nI p) : ot_sq I A t n (none, p) := ⟨h.mw, h.2 31 (by decide), fun _ => h3, fun Y2 z => by cases z⟩
theorem ot_sq.yes {I A I2 : jv_I} {t : Nat → Nat} {n e : Nat} {Y2 : ot_Y} (h : ot_qf I A) (hl : ot_L4 A t n e) (hf : ot_mf A I2 64) (hR : ot_MR I2 64 Y2) : ot_sq I I2 t n (some Y2, e) := by
  have k : ∀ j, 25 ≤ j → I2 64 j = A 64 j := fun j hj => hf.2 j (by omega) (by omega) (by omega) (by omega)
  refine ⟨h.mw.tr hf.mw, (k 31 (by decide)).trans (h.2 31 (by decide)), (fun z => by cases z), fun Y3 z => ?_⟩
  cases z
  exact ⟨hR, (k 26 (by decide)).trans hl.1, (k 27 (by decide)).trans hl.2.1, (k 25 (by decide)).trans hl.2.2.1, (k 28 (by decide)).trans hl.2.2.2⟩
theorem ot_sq.pre {I A I2 : jv_I} {t : Nat → Nat} {n : Nat} {r : Option ot_Y × Nat} (h : ot_mw I A) (h1 : A 64 31 = I 64 31) (h2 : ot_sq A I2 t n r) : ot_sq I I2 t n r := ⟨h.tr h2.1, h2.2.1.trans h1, h2.2.2⟩
set_option maxRecDepth 20000 in
theorem om_wishTold {G : jv_Gr} {I : jv_I} {J : jv_J} (hG : ot_MG G 64) {n : Nat} {t : Nat → Nat} (hP : ot_tq I n t) {Y : ot_Y} (hR : ot_MR I 64 Y) (hW : ot_YW Y) {e : Nat} (he : e ≤ n) (h25 : I 64 25 = nI e) {g : Nat} (h20 : Y 10 2 < 20) : ∃ I2, jv_C 6 mX5_wishTold [.ref 64, .int (nI g)] G I J (some (.int (jv_b ((ot_stW Y t n e g).1.isSome = true)))) G I2 J ∧ ot_sq I I2 t n (ot_stW Y t n e g) := by
  have bn := yw_n hW
  have bc := yw_c hW
  have bw := yw_w hW
  have he1 := ot_te_le t he
  have he2 := ot_te_le t he1
  by_cases k1 : ot_nok t n e 0 (Y 10 0)
  · by_cases k2 : ot_nok t n (ot_te t n e) 0 (Y 10 0)
    · by_cases es : ot_fg t n (ot_te t n e) = ot_fg t n e
      · have hr : ot_stW Y t n e g = (none, ot_ts t n (ot_te t n e)) := by unfold ot_stW ot_st2; rw [ot_numk_y k1, ot_numk_y k2, if_pos es]
        rw [hr]
        obtain ⟨A2, c2, f2, u2⟩ := om_two_n3 (J := J) hG hP hR hW he h25 k1 k2 es
        refine ⟨A2, ?_, ot_sq.no f2 u2⟩
        refine jv_enter okX5_wishTold (L := [.ref 64, .int (nI g)]) rfl (Nat.le_of_ble_eq_true rfl) ?_
        refine jv_aload0 dX5_wishTold_0 ?_
        refine jv_v01 dX5_wishTold_1 okX5_twoTold inX5_twoTold seX5_twoTold mlX5_202 (ci := 5) (T := TX5) (N := 35) rfl (mk hG) c2 (by decide) (Nat.le_of_ble_eq_true rfl) ?_
        refine jv_if_eq dX5_wishTold_4 (tgt := 18) (by decide) (fun hz => ?_) (fun hz => absurd rfl hz)
        refine jv_iconst dX5_wishTold_18 jv_c_iconst_0 ?_
        exact jv_iret dX5_wishTold_19 rfl (by decide) (ot_b0 (fun z => Bool.noConfusion z)) rfl rfl
      · obtain ⟨A2, c2, f2, l2, u0, u1⟩ := om_two_y (J := J) hG hP hR hW he h25 k1 k2 es
        by_cases k3 : ot_nok t n (ot_te t n (ot_te t n e)) 1 100
        · obtain ⟨A3, c3, f3, l3, u3o, u3⟩ := om_number_y (J := J) hG (f2.tq hP) he2 l2 (i := 2) (by decide) (by decide) (ot_hib_c (c := 99) (by decide)) k3
          have v0 := (u3o 0 (by decide)).trans u0
          have v1 := (u3o 1 (by decide)).trans u1
          obtain ⟨Az, cz, hRz, hFz⟩ := om_addWish (J := J) hG ((f2.tr f3).mr hR) hW (a := (ot_fg t n e)) (b := (ot_fg t n (ot_te t n e))) (g := g) (w := (ot_fg t n (ot_te t n (ot_te t n e)))) h20
          have hr : ot_stW Y t n e g = (some (ot_addWish Y (ot_fg t n e) (ot_fg t n (ot_te t n e)) g (ot_fg t n (ot_te t n (ot_te t n e)))), (ot_te t n (ot_te t n (ot_te t n e)))) := by unfold ot_stW ot_st2; rw [ot_numk_y k1, ot_numk_y k2, if_neg es]; exact ot_numk_y k3
          rw [hr]
          refine ⟨Az, ?_, ot_sq.yes (f2.tr f3) l3 hFz hRz⟩
          refine jv_enter okX5_wishTold (L := [.ref 64, .int (nI g)]) rfl (Nat.le_of_ble_eq_true rfl) ?_
          refine jv_aload0 dX5_wishTold_0 ?_
          refine jv_v01 dX5_wishTold_1 okX5_twoTold inX5_twoTold seX5_twoTold mlX5_202 (ci := 5) (T := TX5) (N := 35) rfl (mk hG) c2 (by decide) (Nat.le_of_ble_eq_true rfl) ?_
          refine jv_if_eq dX5_wishTold_4 (tgt := 18) (by decide) (fun hz => absurd hz (by decide)) (fun hz => ?_)
          refine jv_aload0 dX5_wishTold_7 ?_
          refine jv_iconst dX5_wishTold_8 jv_c_iconst_2 ?_
          refine jv_iconst dX5_wishTold_9 jv_c_iconst_1 ?_
          refine jv_bipush dX5_wishTold_10 jv_c_bipush_99 ?_
          refine jv_v31 dX5_wishTold_12 okX5_number inX5_number seX5_number mlX5_195 (ci := 5) (T := TX5) (N := 35) rfl (mk hG) c3 (by decide) (Nat.le_of_ble_eq_true rfl) ?_
          refine jv_if_ne dX5_wishTold_15 (tgt := 20) (by decide) (fun hz => ?_) (fun hz => absurd hz (by decide))
          refine jv_aload0 dX5_wishTold_20 ?_
          refine jv_aload0 dX5_wishTold_21 ?_
          refine jv_getR dX5_wishTold_22 flX5_71 rfl (mk hG) (mr_told hG) ?_
          refine jv_iconst dX5_wishTold_25 jv_c_iconst_0 ?_
          refine jv_ialdN dX5_wishTold_26 (mk_told hG) (by omega) (by decide) v0 ?_
          refine jv_aload0 dX5_wishTold_27 ?_
          refine jv_getR dX5_wishTold_28 flX5_71 rfl (mk hG) (mr_told hG) ?_
          refine jv_iconst dX5_wishTold_31 jv_c_iconst_1 ?_
          refine jv_ialdN dX5_wishTold_32 (mk_told hG) (by omega) (by decide) v1 ?_
          refine jv_iload1 dX5_wishTold_33 ?_
          refine jv_aload0 dX5_wishTold_34 ?_
          refine jv_getR dX5_wishTold_35 flX5_71 rfl (mk hG) (mr_told hG) ?_
          refine jv_iconst dX5_wishTold_38 jv_c_iconst_2 ?_
          refine jv_ialdN dX5_wishTold_39 (mk_told hG) (by omega) (by decide) u3 ?_
          refine jv_v40 dX5_wishTold_40 okX5_addWish inX5_addWish seX5_addWish mlX5_148 (ci := 5) (T := TX5) (N := 35) rfl (mk hG) cz (by decide) (Nat.le_of_ble_eq_true rfl) ?_
          refine jv_iconst dX5_wishTold_43 jv_c_iconst_1 ?_
          exact jv_iret dX5_wishTold_44 rfl (by decide) (ot_b1 rfl) rfl rfl
        · obtain ⟨A3, c3, f3, u3⟩ := om_number_n (J := J) hG (f2.tq hP) he2 l2 (i := 2) (by decide) (by decide) (ot_hib_c (c := 99) (by decide)) k3
          have hr : ot_stW Y t n e g = (none, ot_ts t n (ot_te t n (ot_te t n e))) := by unfold ot_stW ot_st2; rw [ot_numk_y k1, ot_numk_y k2, if_neg es]; exact ot_numk_n k3
          rw [hr]
          refine ⟨A3, ?_, ot_sq.no (f2.tr f3) u3⟩
          refine jv_enter okX5_wishTold (L := [.ref 64, .int (nI g)]) rfl (Nat.le_of_ble_eq_true rfl) ?_
          refine jv_aload0 dX5_wishTold_0 ?_
          refine jv_v01 dX5_wishTold_1 okX5_twoTold inX5_twoTold seX5_twoTold mlX5_202 (ci := 5) (T := TX5) (N := 35) rfl (mk hG) c2 (by decide) (Nat.le_of_ble_eq_true rfl) ?_
          refine jv_if_eq dX5_wishTold_4 (tgt := 18) (by decide) (fun hz => absurd hz (by decide)) (fun hz => ?_)
          refine jv_aload0 dX5_wishTold_7 ?_
          refine jv_iconst dX5_wishTold_8 jv_c_iconst_2 ?_
          refine jv_iconst dX5_wishTold_9 jv_c_iconst_1 ?_
          refine jv_bipush dX5_wishTold_10 jv_c_bipush_99 ?_
          refine jv_v31 dX5_wishTold_12 okX5_number inX5_number seX5_number mlX5_195 (ci := 5) (T := TX5) (N := 35) rfl (mk hG) c3 (by decide) (Nat.le_of_ble_eq_true rfl) ?_
          refine jv_if_ne dX5_wishTold_15 (tgt := 20) (by decide) (fun hz => absurd rfl hz) (fun hz => ?_)
          refine jv_iconst dX5_wishTold_18 jv_c_iconst_0 ?_
          exact jv_iret dX5_wishTold_19 rfl (by decide) (ot_b0 (fun z => Bool.noConfusion z)) rfl rfl
    · have hr : ot_stW Y t n e g = (none, ot_ts t n (ot_te t n e)) := by unfold ot_stW ot_st2; rw [ot_numk_y k1, ot_numk_n k2]
      rw [hr]
      obtain ⟨A2, c2, f2, u2⟩ := om_two_n2 (J := J) hG hP hR hW he h25 k1 k2
      refine ⟨A2, ?_, ot_sq.no f2 u2⟩
      refine jv_enter okX5_wishTold (L := [.ref 64, .int (nI g)]) rfl (Nat.le_of_ble_eq_true rfl) ?_
      refine jv_aload0 dX5_wishTold_0 ?_
      refine jv_v01 dX5_wishTold_1 okX5_twoTold inX5_twoTold seX5_twoTold mlX5_202 (ci := 5) (T := TX5) (N := 35) rfl (mk hG) c2 (by decide) (Nat.le_of_ble_eq_true rfl) ?_
      refine jv_if_eq dX5_wishTold_4 (tgt := 18) (by decide) (fun hz => ?_) (fun hz => absurd rfl hz)
      refine jv_iconst dX5_wishTold_18 jv_c_iconst_0 ?_
      exact jv_iret dX5_wishTold_19 rfl (by decide) (ot_b0 (fun z => Bool.noConfusion z)) rfl rfl
  · have hr : ot_stW Y t n e g = (none, ot_ts t n e) := by unfold ot_stW ot_st2; rw [ot_numk_n k1]
    rw [hr]
    obtain ⟨A2, c2, f2, u2⟩ := om_two_n1 (J := J) hG hP hR hW he h25 k1
    refine ⟨A2, ?_, ot_sq.no f2 u2⟩
    refine jv_enter okX5_wishTold (L := [.ref 64, .int (nI g)]) rfl (Nat.le_of_ble_eq_true rfl) ?_
    refine jv_aload0 dX5_wishTold_0 ?_
    refine jv_v01 dX5_wishTold_1 okX5_twoTold inX5_twoTold seX5_twoTold mlX5_202 (ci := 5) (T := TX5) (N := 35) rfl (mk hG) c2 (by decide) (Nat.le_of_ble_eq_true rfl) ?_
    refine jv_if_eq dX5_wishTold_4 (tgt := 18) (by decide) (fun hz => ?_) (fun hz => absurd rfl hz)
    refine jv_iconst dX5_wishTold_18 jv_c_iconst_0 ?_
    exact jv_iret dX5_wishTold_19 rfl (by decide) (ot_b0 (fun z => Bool.noConfusion z)) rfl rfl
set_option maxRecDepth 20000 in
theorem om_statement {G : jv_Gr} {I : jv_I} {J : jv_J} (hG : ot_MG G 64) {n : Nat} {t : Nat → Nat} (hP : ot_tq I n t) {Y : ot_Y} (hR : ot_MR I 64 Y) (hW : ot_YW Y) {e : Nat} (he : e ≤ n) (h4 : ot_L4 I t n e) : ∃ I2, jv_C 7 mX5_statement [.ref 64] G I J (some (.int (jv_b ((ot_stm Y t n e).1.isSome = true)))) G I2 J ∧ ot_sq I I2 t n (ot_stm Y t n e) := by
  have bn := yw_n hW
  have bc := yw_c hW
  have bw := yw_w hW
  have he1 := ot_te_le t he
  have he2 := ot_te_le t he1
  have he3 := ot_te_le t he2
  have h25 := h4.2.2.1
  have bk := ot_tn_4 t n e
  by_cases w0 : ot_isW t n e 0 = true
  · have hr : ot_stm Y t n e = (if Y 10 0 < 14 then ot_stC Y t n (ot_te t n e) else (none, ot_ts t n e)) := by unfold ot_stm; rw [if_pos w0]
    rw [hr]
    by_cases hlt : Y 10 0 < 14
    · rw [if_pos hlt]
      by_cases k1 : ot_nok t n (ot_te t n e) 1 100
      · obtain ⟨A1, c1, f1, l1, u1⟩ := om_tells_y (J := J) hG hP he1 h25 (lo := 1) (h1 := 100) (by decide) (ot_hib_c (c := 99) (by decide)) k1
        have F1 : ot_qf I A1 := f1
        have kb1 := k1.2
        by_cases k2 : ot_nok t n (ot_te t n (ot_te t n e)) 0 10
        · obtain ⟨A2, c2, f2, l2, o2, u2⟩ := om_number_y (J := J) hG (F1.tq hP) he2 l1 (i := 1) (by decide) (lo := 0) (h1 := 10) (by decide) (ot_hib_c (c := 9) (by decide)) k2
          have F2 : ot_qf I A2 := F1.tr f2
          have kb2 := k2.2
          have v0 := (o2 0 (by decide)).trans (u1)
          have v1 := u2
          obtain ⟨Az, cz, hRz, hFz⟩ := om_addChild (J := J) hG (F2.mr hR) hW (s := (ot_fg t n (ot_te t n e))) (t := (ot_fg t n (ot_te t n (ot_te t n e)))) hlt
          have hr2 : ot_stC Y t n (ot_te t n e) = (some (ot_addChild Y (ot_fg t n (ot_te t n e)) (ot_fg t n (ot_te t n (ot_te t n e)))), (ot_te t n (ot_te t n (ot_te t n e)))) := by unfold ot_stC; rw [ot_numk_y k1, ot_numk_y k2]
          rw [hr2]
          refine ⟨Az, ?_, ot_sq.yes F2 l2 hFz hRz⟩
          refine jv_enter okX5_statement (L := [.ref 64]) rfl (Nat.le_of_ble_eq_true rfl) ?_
          refine jv_aload0 dX5_statement_0 ?_
          refine jv_ldcS (k := 0) (tx := "child") dX5_statement_1 (List.mem_of_getElem? (i := 6) rfl) ?_
          refine jv_v11 dX5_statement_3 okX5_isWord inX5_isWord seX5_isWord mlX5_207 (ci := 5) (T := TX5) (N := 35) rfl (mk hG) (om_isWord hG hP (show 0 < 6 by decide) he h4) (by decide) (Nat.le_of_ble_eq_true rfl) ?_
          refine jv_if_eqB dX5_statement_6 (tgt := 59) (by decide) (fun hz => absurd w0 hz) (fun hz => ?_)
          refine jv_aload0 dX5_statement_9 ?_
          refine jv_getI dX5_statement_10 flX5_80 rfl (mk hG) (mi_children hR) ?_
          refine jv_bipush dX5_statement_13 jv_c_bipush_14 ?_
          refine jv_icmp_geN dX5_statement_15 (tgt := 59) (by decide) (by omega) (by omega) (fun hc15 => by omega) (fun hc15 => ?_)
          refine jv_aload0 dX5_statement_18 ?_
          refine jv_iconst dX5_statement_19 jv_c_iconst_1 ?_
          refine jv_bipush dX5_statement_20 jv_c_bipush_99 ?_
          refine jv_v21 dX5_statement_22 okX5_tells inX5_tells seX5_tells mlX5_199 (ci := 5) (T := TX5) (N := 35) rfl (mk hG) c1 (by decide) (Nat.le_of_ble_eq_true rfl) ?_
          refine jv_if_eq dX5_statement_25 (tgt := 39) (by decide) (fun hz => absurd hz (by decide)) (fun hz => ?_)
          refine jv_aload0 dX5_statement_28 ?_
          refine jv_iconst dX5_statement_29 jv_c_iconst_1 ?_
          refine jv_iconst dX5_statement_30 jv_c_iconst_0 ?_
          refine jv_bipush dX5_statement_31 jv_c_bipush_9 ?_
          refine jv_v31 dX5_statement_33 okX5_number inX5_number seX5_number mlX5_195 (ci := 5) (T := TX5) (N := 35) rfl (mk hG) c2 (by decide) (Nat.le_of_ble_eq_true rfl) ?_
          refine jv_if_ne dX5_statement_36 (tgt := 41) (by decide) (fun hz => ?_) (fun hz => absurd hz (by decide))
          refine jv_aload0 dX5_statement_41 ?_
          refine jv_aload0 dX5_statement_42 ?_
          refine jv_getR dX5_statement_43 flX5_71 rfl (mk hG) (mr_told hG) ?_
          refine jv_iconst dX5_statement_46 jv_c_iconst_0 ?_
          refine jv_ialdN dX5_statement_47 (mk_told hG) (by omega) (by decide) v0 ?_
          refine jv_aload0 dX5_statement_48 ?_
          refine jv_getR dX5_statement_49 flX5_71 rfl (mk hG) (mr_told hG) ?_
          refine jv_iconst dX5_statement_52 jv_c_iconst_1 ?_
          refine jv_ialdN dX5_statement_53 (mk_told hG) (by omega) (by decide) v1 ?_
          refine jv_v20 dX5_statement_54 okX5_addChild inX5_addChild seX5_addChild mlX5_129 (ci := 5) (T := TX5) (N := 35) rfl (mk hG) cz (by decide) (Nat.le_of_ble_eq_true rfl) ?_
          refine jv_iconst dX5_statement_57 jv_c_iconst_1 ?_
          exact jv_iret dX5_statement_58 rfl (by decide) (ot_b1 rfl) rfl rfl
        · obtain ⟨A2, c2, f2, u2⟩ := om_number_n (J := J) hG (F1.tq hP) he2 l1 (i := 1) (by decide) (lo := 0) (h1 := 10) (by decide) (ot_hib_c (c := 9) (by decide)) k2
          have F2 : ot_qf I A2 := F1.tr f2
          have hr2 : ot_stC Y t n (ot_te t n e) = (none, ot_ts t n (ot_te t n (ot_te t n e))) := by unfold ot_stC; rw [ot_numk_y k1, ot_numk_n k2]
          rw [hr2]
          refine ⟨A2, ?_, ot_sq.no F2 u2⟩
          refine jv_enter okX5_statement (L := [.ref 64]) rfl (Nat.le_of_ble_eq_true rfl) ?_
          refine jv_aload0 dX5_statement_0 ?_
          refine jv_ldcS (k := 0) (tx := "child") dX5_statement_1 (List.mem_of_getElem? (i := 6) rfl) ?_
          refine jv_v11 dX5_statement_3 okX5_isWord inX5_isWord seX5_isWord mlX5_207 (ci := 5) (T := TX5) (N := 35) rfl (mk hG) (om_isWord hG hP (show 0 < 6 by decide) he h4) (by decide) (Nat.le_of_ble_eq_true rfl) ?_
          refine jv_if_eqB dX5_statement_6 (tgt := 59) (by decide) (fun hz => absurd w0 hz) (fun hz => ?_)
          refine jv_aload0 dX5_statement_9 ?_
          refine jv_getI dX5_statement_10 flX5_80 rfl (mk hG) (mi_children hR) ?_
          refine jv_bipush dX5_statement_13 jv_c_bipush_14 ?_
          refine jv_icmp_geN dX5_statement_15 (tgt := 59) (by decide) (by omega) (by omega) (fun hc15 => by omega) (fun hc15 => ?_)
          refine jv_aload0 dX5_statement_18 ?_
          refine jv_iconst dX5_statement_19 jv_c_iconst_1 ?_
          refine jv_bipush dX5_statement_20 jv_c_bipush_99 ?_
          refine jv_v21 dX5_statement_22 okX5_tells inX5_tells seX5_tells mlX5_199 (ci := 5) (T := TX5) (N := 35) rfl (mk hG) c1 (by decide) (Nat.le_of_ble_eq_true rfl) ?_
          refine jv_if_eq dX5_statement_25 (tgt := 39) (by decide) (fun hz => absurd hz (by decide)) (fun hz => ?_)
          refine jv_aload0 dX5_statement_28 ?_
          refine jv_iconst dX5_statement_29 jv_c_iconst_1 ?_
          refine jv_iconst dX5_statement_30 jv_c_iconst_0 ?_
          refine jv_bipush dX5_statement_31 jv_c_bipush_9 ?_
          refine jv_v31 dX5_statement_33 okX5_number inX5_number seX5_number mlX5_195 (ci := 5) (T := TX5) (N := 35) rfl (mk hG) c2 (by decide) (Nat.le_of_ble_eq_true rfl) ?_
          refine jv_if_ne dX5_statement_36 (tgt := 41) (by decide) (fun hz => absurd rfl hz) (fun hz => ?_)
          refine jv_iconst dX5_statement_39 jv_c_iconst_0 ?_
          exact jv_iret dX5_statement_40 rfl (by decide) (ot_b0 (fun z => Bool.noConfusion z)) rfl rfl
      · obtain ⟨A1, c1, f1, u1⟩ := om_tells_n (J := J) hG hP he1 h25 (lo := 1) (h1 := 100) (by decide) (ot_hib_c (c := 99) (by decide)) k1
        have F1 : ot_qf I A1 := f1
        have hr2 : ot_stC Y t n (ot_te t n e) = (none, ot_ts t n (ot_te t n e)) := by unfold ot_stC; rw [ot_numk_n k1]
        rw [hr2]
        refine ⟨A1, ?_, ot_sq.no F1 u1⟩
        refine jv_enter okX5_statement (L := [.ref 64]) rfl (Nat.le_of_ble_eq_true rfl) ?_
        refine jv_aload0 dX5_statement_0 ?_
        refine jv_ldcS (k := 0) (tx := "child") dX5_statement_1 (List.mem_of_getElem? (i := 6) rfl) ?_
        refine jv_v11 dX5_statement_3 okX5_isWord inX5_isWord seX5_isWord mlX5_207 (ci := 5) (T := TX5) (N := 35) rfl (mk hG) (om_isWord hG hP (show 0 < 6 by decide) he h4) (by decide) (Nat.le_of_ble_eq_true rfl) ?_
        refine jv_if_eqB dX5_statement_6 (tgt := 59) (by decide) (fun hz => absurd w0 hz) (fun hz => ?_)
        refine jv_aload0 dX5_statement_9 ?_
        refine jv_getI dX5_statement_10 flX5_80 rfl (mk hG) (mi_children hR) ?_
        refine jv_bipush dX5_statement_13 jv_c_bipush_14 ?_
        refine jv_icmp_geN dX5_statement_15 (tgt := 59) (by decide) (by omega) (by omega) (fun hc15 => by omega) (fun hc15 => ?_)
        refine jv_aload0 dX5_statement_18 ?_
        refine jv_iconst dX5_statement_19 jv_c_iconst_1 ?_
        refine jv_bipush dX5_statement_20 jv_c_bipush_99 ?_
        refine jv_v21 dX5_statement_22 okX5_tells inX5_tells seX5_tells mlX5_199 (ci := 5) (T := TX5) (N := 35) rfl (mk hG) c1 (by decide) (Nat.le_of_ble_eq_true rfl) ?_
        refine jv_if_eq dX5_statement_25 (tgt := 39) (by decide) (fun hz => ?_) (fun hz => absurd rfl hz)
        refine jv_iconst dX5_statement_39 jv_c_iconst_0 ?_
        exact jv_iret dX5_statement_40 rfl (by decide) (ot_b0 (fun z => Bool.noConfusion z)) rfl rfl
    · rw [if_neg hlt]
      have w1 := ot_isW_one (show 0 < 6 by decide) (show 1 < 6 by decide) w0 (by decide)
      have w2 := ot_isW_one (show 0 < 6 by decide) (show 2 < 6 by decide) w0 (by decide)
      have w3 := ot_isW_one (show 0 < 6 by decide) (show 3 < 6 by decide) w0 (by decide)
      have w4 := ot_isW_one (show 0 < 6 by decide) (show 4 < 6 by decide) w0 (by decide)
      have w5 := ot_isW_one (show 0 < 6 by decide) (show 5 < 6 by decide) w0 (by decide)
      refine ⟨jv_up I 64 29 (nI (ot_ts t n e)), ?_, ot_sq.no ot_qf.rf.w (jv_up_at _ _ _ _)⟩
      refine jv_enter okX5_statement (L := [.ref 64]) rfl (Nat.le_of_ble_eq_true rfl) ?_
      refine jv_aload0 dX5_statement_0 ?_
      refine jv_ldcS (k := 0) (tx := "child") dX5_statement_1 (List.mem_of_getElem? (i := 6) rfl) ?_
      refine jv_v11 dX5_statement_3 okX5_isWord inX5_isWord seX5_isWord mlX5_207 (ci := 5) (T := TX5) (N := 35) rfl (mk hG) (om_isWord hG hP (show 0 < 6 by decide) he h4) (by decide) (Nat.le_of_ble_eq_true rfl) ?_
      refine jv_if_eqB dX5_statement_6 (tgt := 59) (by decide) (fun hz => absurd w0 hz) (fun hz => ?_)
      refine jv_aload0 dX5_statement_9 ?_
      refine jv_getI dX5_statement_10 flX5_80 rfl (mk hG) (mi_children hR) ?_
      refine jv_bipush dX5_statement_13 jv_c_bipush_14 ?_
      refine jv_icmp_geN dX5_statement_15 (tgt := 59) (by decide) (by omega) (by omega) (fun hc15 => ?_) (fun hc15 => by omega)
      refine jv_aload0 dX5_statement_59 ?_
      refine jv_ldcS (k := 1) (tx := "count") dX5_statement_60 (List.mem_of_getElem? (i := 7) rfl) ?_
      refine jv_v11 dX5_statement_62 okX5_isWord inX5_isWord seX5_isWord mlX5_207 (ci := 5) (T := TX5) (N := 35) rfl (mk hG) (om_isWord hG hP (show 1 < 6 by decide) he h4) (by decide) (Nat.le_of_ble_eq_true rfl) ?_
      refine jv_if_eqB dX5_statement_65 (tgt := 133) (by decide) (fun hz => ?_) (fun hz => absurd hz w1)
      refine jv_aload0 dX5_statement_133 ?_
      refine jv_ldcS (k := 2) (tx := "with") dX5_statement_134 (List.mem_of_getElem? (i := 8) rfl) ?_
      refine jv_v11 dX5_statement_136 okX5_isWord inX5_isWord seX5_isWord mlX5_207 (ci := 5) (T := TX5) (N := 35) rfl (mk hG) (om_isWord hG hP (show 2 < 6 by decide) he h4) (by decide) (Nat.le_of_ble_eq_true rfl) ?_
      refine jv_if_eqB dX5_statement_139 (tgt := 157) (by decide) (fun hz => ?_) (fun hz => absurd hz w2)
      refine jv_aload0 dX5_statement_157 ?_
      refine jv_ldcS (k := 3) (tx := "without") dX5_statement_158 (List.mem_of_getElem? (i := 9) rfl) ?_
      refine jv_v11 dX5_statement_160 okX5_isWord inX5_isWord seX5_isWord mlX5_207 (ci := 5) (T := TX5) (N := 35) rfl (mk hG) (om_isWord hG hP (show 3 < 6 by decide) he h4) (by decide) (Nat.le_of_ble_eq_true rfl) ?_
      refine jv_if_eqB dX5_statement_163 (tgt := 181) (by decide) (fun hz => ?_) (fun hz => absurd hz w3)
      refine jv_aload0 dX5_statement_181 ?_
      refine jv_ldcS (k := 4) (tx := "swap") dX5_statement_182 (List.mem_of_getElem? (i := 10) rfl) ?_
      refine jv_v11 dX5_statement_184 okX5_isWord inX5_isWord seX5_isWord mlX5_207 (ci := 5) (T := TX5) (N := 35) rfl (mk hG) (om_isWord hG hP (show 4 < 6 by decide) he h4) (by decide) (Nat.le_of_ble_eq_true rfl) ?_
      refine jv_if_eqB dX5_statement_187 (tgt := 217) (by decide) (fun hz => ?_) (fun hz => absurd hz w4)
      refine jv_aload0 dX5_statement_217 ?_
      refine jv_ldcS (k := 5) (tx := "move") dX5_statement_218 (List.mem_of_getElem? (i := 11) rfl) ?_
      refine jv_v11 dX5_statement_220 okX5_isWord inX5_isWord seX5_isWord mlX5_207 (ci := 5) (T := TX5) (N := 35) rfl (mk hG) (om_isWord hG hP (show 5 < 6 by decide) he h4) (by decide) (Nat.le_of_ble_eq_true rfl) ?_
      refine jv_if_eqB dX5_statement_223 (tgt := 275) (by decide) (fun hz => ?_) (fun hz => absurd hz w5)
      refine jv_aload0 dX5_statement_275 ?_
      refine jv_v01 dX5_statement_276 okX5_wrong inX5_wrong seX5_wrong mlX5_188 (ci := 5) (T := TX5) (N := 35) rfl (mk hG) (om_wrong hG h4.2.1) (by decide) (Nat.le_of_ble_eq_true rfl) ?_
      exact jv_iret dX5_statement_279 rfl (by decide) (ot_b0 (fun z => Bool.noConfusion z)) rfl rfl
  · skip
    by_cases w1 : ot_isW t n e 1 = true
    · have hr : ot_stm Y t n e = (if Y 10 1 < 6 then ot_stK Y t n (ot_te t n e) else (none, ot_ts t n e)) := by unfold ot_stm; rw [if_neg w0, if_pos w1]
      rw [hr]
      by_cases hlt : Y 10 1 < 6
      · rw [if_pos hlt]
        by_cases k1 : ot_nok t n (ot_te t n e) 0 6
        · obtain ⟨A1, c1, f1, l1, u1⟩ := om_tells_y (J := J) hG hP he1 h25 (lo := 0) (h1 := 6) (by decide) (ot_hib_c (c := 5) (by decide)) k1
          have F1 : ot_qf I A1 := f1
          have kb1 := k1.2
          by_cases k2 : ot_nok t n (ot_te t n (ot_te t n e)) 2 6
          · obtain ⟨A2, c2, f2, l2, o2, u2⟩ := om_number_y (J := J) hG (F1.tq hP) he2 l1 (i := 1) (by decide) (lo := 2) (h1 := 6) (by decide) (ot_hib_c (c := 5) (by decide)) k2
            have F2 : ot_qf I A2 := F1.tr f2
            have kb2 := k2.2
            by_cases k3 : ot_nok t n (ot_te t n (ot_te t n (ot_te t n e))) 0 14
            · obtain ⟨A3, c3, f3, l3, o3, u3⟩ := om_number_y (J := J) hG (F2.tq hP) he3 l2 (i := 2) (by decide) (lo := 0) (h1 := 14) (by decide) (ot_hib_c (c := 13) (by decide)) k3
              have F3 : ot_qf I A3 := F2.tr f3
              have kb3 := k3.2
              have v0 := (o3 0 (by decide)).trans ((o2 0 (by decide)).trans (u1))
              have v1 := (o3 1 (by decide)).trans (u2)
              have v2 := u3
              obtain ⟨Az, cz, hRz, hFz⟩ := om_addCount (J := J) hG (F3.mr hR) hW (k := (ot_fg t n (ot_te t n e))) (nn := (ot_fg t n (ot_te t n (ot_te t n e)))) (a := (ot_fg t n (ot_te t n (ot_te t n (ot_te t n e))))) hlt
              have hr2 : ot_stK Y t n (ot_te t n e) = (some (ot_addCount Y (ot_fg t n (ot_te t n e)) (ot_fg t n (ot_te t n (ot_te t n e))) (ot_fg t n (ot_te t n (ot_te t n (ot_te t n e))))), (ot_te t n (ot_te t n (ot_te t n (ot_te t n e))))) := by unfold ot_stK; rw [ot_numk_y k1, ot_numk_y k2, ot_numk_y k3]
              rw [hr2]
              refine ⟨Az, ?_, ot_sq.yes F3 l3 hFz hRz⟩
              refine jv_enter okX5_statement (L := [.ref 64]) rfl (Nat.le_of_ble_eq_true rfl) ?_
              refine jv_aload0 dX5_statement_0 ?_
              refine jv_ldcS (k := 0) (tx := "child") dX5_statement_1 (List.mem_of_getElem? (i := 6) rfl) ?_
              refine jv_v11 dX5_statement_3 okX5_isWord inX5_isWord seX5_isWord mlX5_207 (ci := 5) (T := TX5) (N := 35) rfl (mk hG) (om_isWord hG hP (show 0 < 6 by decide) he h4) (by decide) (Nat.le_of_ble_eq_true rfl) ?_
              refine jv_if_eqB dX5_statement_6 (tgt := 59) (by decide) (fun hz => ?_) (fun hz => absurd hz w0)
              refine jv_aload0 dX5_statement_59 ?_
              refine jv_ldcS (k := 1) (tx := "count") dX5_statement_60 (List.mem_of_getElem? (i := 7) rfl) ?_
              refine jv_v11 dX5_statement_62 okX5_isWord inX5_isWord seX5_isWord mlX5_207 (ci := 5) (T := TX5) (N := 35) rfl (mk hG) (om_isWord hG hP (show 1 < 6 by decide) he h4) (by decide) (Nat.le_of_ble_eq_true rfl) ?_
              refine jv_if_eqB dX5_statement_65 (tgt := 133) (by decide) (fun hz => absurd w1 hz) (fun hz => ?_)
              refine jv_aload0 dX5_statement_68 ?_
              refine jv_getI dX5_statement_69 flX5_91 rfl (mk hG) (mi_counts hR) ?_
              refine jv_bipush dX5_statement_72 jv_c_bipush_6 ?_
              refine jv_icmp_geN dX5_statement_74 (tgt := 133) (by decide) (by omega) (by omega) (fun hc74 => by omega) (fun hc74 => ?_)
              refine jv_aload0 dX5_statement_77 ?_
              refine jv_iconst dX5_statement_78 jv_c_iconst_0 ?_
              refine jv_iconst dX5_statement_79 jv_c_iconst_5 ?_
              refine jv_v21 dX5_statement_80 okX5_tells inX5_tells seX5_tells mlX5_199 (ci := 5) (T := TX5) (N := 35) rfl (mk hG) c1 (by decide) (Nat.le_of_ble_eq_true rfl) ?_
              refine jv_if_eq dX5_statement_83 (tgt := 107) (by decide) (fun hz => absurd hz (by decide)) (fun hz => ?_)
              refine jv_aload0 dX5_statement_86 ?_
              refine jv_iconst dX5_statement_87 jv_c_iconst_1 ?_
              refine jv_iconst dX5_statement_88 jv_c_iconst_2 ?_
              refine jv_iconst dX5_statement_89 jv_c_iconst_5 ?_
              refine jv_v31 dX5_statement_90 okX5_number inX5_number seX5_number mlX5_195 (ci := 5) (T := TX5) (N := 35) rfl (mk hG) c2 (by decide) (Nat.le_of_ble_eq_true rfl) ?_
              refine jv_if_eq dX5_statement_93 (tgt := 107) (by decide) (fun hz => absurd hz (by decide)) (fun hz => ?_)
              refine jv_aload0 dX5_statement_96 ?_
              refine jv_iconst dX5_statement_97 jv_c_iconst_2 ?_
              refine jv_iconst dX5_statement_98 jv_c_iconst_0 ?_
              refine jv_bipush dX5_statement_99 jv_c_bipush_13 ?_
              refine jv_v31 dX5_statement_101 okX5_number inX5_number seX5_number mlX5_195 (ci := 5) (T := TX5) (N := 35) rfl (mk hG) c3 (by decide) (Nat.le_of_ble_eq_true rfl) ?_
              refine jv_if_ne dX5_statement_104 (tgt := 109) (by decide) (fun hz => ?_) (fun hz => absurd hz (by decide))
              refine jv_aload0 dX5_statement_109 ?_
              refine jv_aload0 dX5_statement_110 ?_
              refine jv_getR dX5_statement_111 flX5_71 rfl (mk hG) (mr_told hG) ?_
              refine jv_iconst dX5_statement_114 jv_c_iconst_0 ?_
              refine jv_ialdN dX5_statement_115 (mk_told hG) (by omega) (by decide) v0 ?_
              refine jv_aload0 dX5_statement_116 ?_
              refine jv_getR dX5_statement_117 flX5_71 rfl (mk hG) (mr_told hG) ?_
              refine jv_iconst dX5_statement_120 jv_c_iconst_1 ?_
              refine jv_ialdN dX5_statement_121 (mk_told hG) (by omega) (by decide) v1 ?_
              refine jv_aload0 dX5_statement_122 ?_
              refine jv_getR dX5_statement_123 flX5_71 rfl (mk hG) (mr_told hG) ?_
              refine jv_iconst dX5_statement_126 jv_c_iconst_2 ?_
              refine jv_ialdN dX5_statement_127 (mk_told hG) (by omega) (by decide) v2 ?_
              refine jv_v30 dX5_statement_128 okX5_addCount inX5_addCount seX5_addCount mlX5_137 (ci := 5) (T := TX5) (N := 35) rfl (mk hG) cz (by decide) (Nat.le_of_ble_eq_true rfl) ?_
              refine jv_iconst dX5_statement_131 jv_c_iconst_1 ?_
              exact jv_iret dX5_statement_132 rfl (by decide) (ot_b1 rfl) rfl rfl
            · obtain ⟨A3, c3, f3, u3⟩ := om_number_n (J := J) hG (F2.tq hP) he3 l2 (i := 2) (by decide) (lo := 0) (h1 := 14) (by decide) (ot_hib_c (c := 13) (by decide)) k3
              have F3 : ot_qf I A3 := F2.tr f3
              have hr2 : ot_stK Y t n (ot_te t n e) = (none, ot_ts t n (ot_te t n (ot_te t n (ot_te t n e)))) := by unfold ot_stK; rw [ot_numk_y k1, ot_numk_y k2, ot_numk_n k3]
              rw [hr2]
              refine ⟨A3, ?_, ot_sq.no F3 u3⟩
              refine jv_enter okX5_statement (L := [.ref 64]) rfl (Nat.le_of_ble_eq_true rfl) ?_
              refine jv_aload0 dX5_statement_0 ?_
              refine jv_ldcS (k := 0) (tx := "child") dX5_statement_1 (List.mem_of_getElem? (i := 6) rfl) ?_
              refine jv_v11 dX5_statement_3 okX5_isWord inX5_isWord seX5_isWord mlX5_207 (ci := 5) (T := TX5) (N := 35) rfl (mk hG) (om_isWord hG hP (show 0 < 6 by decide) he h4) (by decide) (Nat.le_of_ble_eq_true rfl) ?_
              refine jv_if_eqB dX5_statement_6 (tgt := 59) (by decide) (fun hz => ?_) (fun hz => absurd hz w0)
              refine jv_aload0 dX5_statement_59 ?_
              refine jv_ldcS (k := 1) (tx := "count") dX5_statement_60 (List.mem_of_getElem? (i := 7) rfl) ?_
              refine jv_v11 dX5_statement_62 okX5_isWord inX5_isWord seX5_isWord mlX5_207 (ci := 5) (T := TX5) (N := 35) rfl (mk hG) (om_isWord hG hP (show 1 < 6 by decide) he h4) (by decide) (Nat.le_of_ble_eq_true rfl) ?_
              refine jv_if_eqB dX5_statement_65 (tgt := 133) (by decide) (fun hz => absurd w1 hz) (fun hz => ?_)
              refine jv_aload0 dX5_statement_68 ?_
              refine jv_getI dX5_statement_69 flX5_91 rfl (mk hG) (mi_counts hR) ?_
              refine jv_bipush dX5_statement_72 jv_c_bipush_6 ?_
              refine jv_icmp_geN dX5_statement_74 (tgt := 133) (by decide) (by omega) (by omega) (fun hc74 => by omega) (fun hc74 => ?_)
              refine jv_aload0 dX5_statement_77 ?_
              refine jv_iconst dX5_statement_78 jv_c_iconst_0 ?_
              refine jv_iconst dX5_statement_79 jv_c_iconst_5 ?_
              refine jv_v21 dX5_statement_80 okX5_tells inX5_tells seX5_tells mlX5_199 (ci := 5) (T := TX5) (N := 35) rfl (mk hG) c1 (by decide) (Nat.le_of_ble_eq_true rfl) ?_
              refine jv_if_eq dX5_statement_83 (tgt := 107) (by decide) (fun hz => absurd hz (by decide)) (fun hz => ?_)
              refine jv_aload0 dX5_statement_86 ?_
              refine jv_iconst dX5_statement_87 jv_c_iconst_1 ?_
              refine jv_iconst dX5_statement_88 jv_c_iconst_2 ?_
              refine jv_iconst dX5_statement_89 jv_c_iconst_5 ?_
              refine jv_v31 dX5_statement_90 okX5_number inX5_number seX5_number mlX5_195 (ci := 5) (T := TX5) (N := 35) rfl (mk hG) c2 (by decide) (Nat.le_of_ble_eq_true rfl) ?_
              refine jv_if_eq dX5_statement_93 (tgt := 107) (by decide) (fun hz => absurd hz (by decide)) (fun hz => ?_)
              refine jv_aload0 dX5_statement_96 ?_
              refine jv_iconst dX5_statement_97 jv_c_iconst_2 ?_
              refine jv_iconst dX5_statement_98 jv_c_iconst_0 ?_
              refine jv_bipush dX5_statement_99 jv_c_bipush_13 ?_
              refine jv_v31 dX5_statement_101 okX5_number inX5_number seX5_number mlX5_195 (ci := 5) (T := TX5) (N := 35) rfl (mk hG) c3 (by decide) (Nat.le_of_ble_eq_true rfl) ?_
              refine jv_if_ne dX5_statement_104 (tgt := 109) (by decide) (fun hz => absurd rfl hz) (fun hz => ?_)
              refine jv_iconst dX5_statement_107 jv_c_iconst_0 ?_
              exact jv_iret dX5_statement_108 rfl (by decide) (ot_b0 (fun z => Bool.noConfusion z)) rfl rfl
          · obtain ⟨A2, c2, f2, u2⟩ := om_number_n (J := J) hG (F1.tq hP) he2 l1 (i := 1) (by decide) (lo := 2) (h1 := 6) (by decide) (ot_hib_c (c := 5) (by decide)) k2
            have F2 : ot_qf I A2 := F1.tr f2
            have hr2 : ot_stK Y t n (ot_te t n e) = (none, ot_ts t n (ot_te t n (ot_te t n e))) := by unfold ot_stK; rw [ot_numk_y k1, ot_numk_n k2]
            rw [hr2]
            refine ⟨A2, ?_, ot_sq.no F2 u2⟩
            refine jv_enter okX5_statement (L := [.ref 64]) rfl (Nat.le_of_ble_eq_true rfl) ?_
            refine jv_aload0 dX5_statement_0 ?_
            refine jv_ldcS (k := 0) (tx := "child") dX5_statement_1 (List.mem_of_getElem? (i := 6) rfl) ?_
            refine jv_v11 dX5_statement_3 okX5_isWord inX5_isWord seX5_isWord mlX5_207 (ci := 5) (T := TX5) (N := 35) rfl (mk hG) (om_isWord hG hP (show 0 < 6 by decide) he h4) (by decide) (Nat.le_of_ble_eq_true rfl) ?_
            refine jv_if_eqB dX5_statement_6 (tgt := 59) (by decide) (fun hz => ?_) (fun hz => absurd hz w0)
            refine jv_aload0 dX5_statement_59 ?_
            refine jv_ldcS (k := 1) (tx := "count") dX5_statement_60 (List.mem_of_getElem? (i := 7) rfl) ?_
            refine jv_v11 dX5_statement_62 okX5_isWord inX5_isWord seX5_isWord mlX5_207 (ci := 5) (T := TX5) (N := 35) rfl (mk hG) (om_isWord hG hP (show 1 < 6 by decide) he h4) (by decide) (Nat.le_of_ble_eq_true rfl) ?_
            refine jv_if_eqB dX5_statement_65 (tgt := 133) (by decide) (fun hz => absurd w1 hz) (fun hz => ?_)
            refine jv_aload0 dX5_statement_68 ?_
            refine jv_getI dX5_statement_69 flX5_91 rfl (mk hG) (mi_counts hR) ?_
            refine jv_bipush dX5_statement_72 jv_c_bipush_6 ?_
            refine jv_icmp_geN dX5_statement_74 (tgt := 133) (by decide) (by omega) (by omega) (fun hc74 => by omega) (fun hc74 => ?_)
            refine jv_aload0 dX5_statement_77 ?_
            refine jv_iconst dX5_statement_78 jv_c_iconst_0 ?_
            refine jv_iconst dX5_statement_79 jv_c_iconst_5 ?_
            refine jv_v21 dX5_statement_80 okX5_tells inX5_tells seX5_tells mlX5_199 (ci := 5) (T := TX5) (N := 35) rfl (mk hG) c1 (by decide) (Nat.le_of_ble_eq_true rfl) ?_
            refine jv_if_eq dX5_statement_83 (tgt := 107) (by decide) (fun hz => absurd hz (by decide)) (fun hz => ?_)
            refine jv_aload0 dX5_statement_86 ?_
            refine jv_iconst dX5_statement_87 jv_c_iconst_1 ?_
            refine jv_iconst dX5_statement_88 jv_c_iconst_2 ?_
            refine jv_iconst dX5_statement_89 jv_c_iconst_5 ?_
            refine jv_v31 dX5_statement_90 okX5_number inX5_number seX5_number mlX5_195 (ci := 5) (T := TX5) (N := 35) rfl (mk hG) c2 (by decide) (Nat.le_of_ble_eq_true rfl) ?_
            refine jv_if_eq dX5_statement_93 (tgt := 107) (by decide) (fun hz => ?_) (fun hz => absurd rfl hz)
            refine jv_iconst dX5_statement_107 jv_c_iconst_0 ?_
            exact jv_iret dX5_statement_108 rfl (by decide) (ot_b0 (fun z => Bool.noConfusion z)) rfl rfl
        · obtain ⟨A1, c1, f1, u1⟩ := om_tells_n (J := J) hG hP he1 h25 (lo := 0) (h1 := 6) (by decide) (ot_hib_c (c := 5) (by decide)) k1
          have F1 : ot_qf I A1 := f1
          have hr2 : ot_stK Y t n (ot_te t n e) = (none, ot_ts t n (ot_te t n e)) := by unfold ot_stK; rw [ot_numk_n k1]
          rw [hr2]
          refine ⟨A1, ?_, ot_sq.no F1 u1⟩
          refine jv_enter okX5_statement (L := [.ref 64]) rfl (Nat.le_of_ble_eq_true rfl) ?_
          refine jv_aload0 dX5_statement_0 ?_
          refine jv_ldcS (k := 0) (tx := "child") dX5_statement_1 (List.mem_of_getElem? (i := 6) rfl) ?_
          refine jv_v11 dX5_statement_3 okX5_isWord inX5_isWord seX5_isWord mlX5_207 (ci := 5) (T := TX5) (N := 35) rfl (mk hG) (om_isWord hG hP (show 0 < 6 by decide) he h4) (by decide) (Nat.le_of_ble_eq_true rfl) ?_
          refine jv_if_eqB dX5_statement_6 (tgt := 59) (by decide) (fun hz => ?_) (fun hz => absurd hz w0)
          refine jv_aload0 dX5_statement_59 ?_
          refine jv_ldcS (k := 1) (tx := "count") dX5_statement_60 (List.mem_of_getElem? (i := 7) rfl) ?_
          refine jv_v11 dX5_statement_62 okX5_isWord inX5_isWord seX5_isWord mlX5_207 (ci := 5) (T := TX5) (N := 35) rfl (mk hG) (om_isWord hG hP (show 1 < 6 by decide) he h4) (by decide) (Nat.le_of_ble_eq_true rfl) ?_
          refine jv_if_eqB dX5_statement_65 (tgt := 133) (by decide) (fun hz => absurd w1 hz) (fun hz => ?_)
          refine jv_aload0 dX5_statement_68 ?_
          refine jv_getI dX5_statement_69 flX5_91 rfl (mk hG) (mi_counts hR) ?_
          refine jv_bipush dX5_statement_72 jv_c_bipush_6 ?_
          refine jv_icmp_geN dX5_statement_74 (tgt := 133) (by decide) (by omega) (by omega) (fun hc74 => by omega) (fun hc74 => ?_)
          refine jv_aload0 dX5_statement_77 ?_
          refine jv_iconst dX5_statement_78 jv_c_iconst_0 ?_
          refine jv_iconst dX5_statement_79 jv_c_iconst_5 ?_
          refine jv_v21 dX5_statement_80 okX5_tells inX5_tells seX5_tells mlX5_199 (ci := 5) (T := TX5) (N := 35) rfl (mk hG) c1 (by decide) (Nat.le_of_ble_eq_true rfl) ?_
          refine jv_if_eq dX5_statement_83 (tgt := 107) (by decide) (fun hz => ?_) (fun hz => absurd rfl hz)
          refine jv_iconst dX5_statement_107 jv_c_iconst_0 ?_
          exact jv_iret dX5_statement_108 rfl (by decide) (ot_b0 (fun z => Bool.noConfusion z)) rfl rfl
      · rw [if_neg hlt]
        have w2 := ot_isW_one (show 1 < 6 by decide) (show 2 < 6 by decide) w1 (by decide)
        have w3 := ot_isW_one (show 1 < 6 by decide) (show 3 < 6 by decide) w1 (by decide)
        have w4 := ot_isW_one (show 1 < 6 by decide) (show 4 < 6 by decide) w1 (by decide)
        have w5 := ot_isW_one (show 1 < 6 by decide) (show 5 < 6 by decide) w1 (by decide)
        refine ⟨jv_up I 64 29 (nI (ot_ts t n e)), ?_, ot_sq.no ot_qf.rf.w (jv_up_at _ _ _ _)⟩
        refine jv_enter okX5_statement (L := [.ref 64]) rfl (Nat.le_of_ble_eq_true rfl) ?_
        refine jv_aload0 dX5_statement_0 ?_
        refine jv_ldcS (k := 0) (tx := "child") dX5_statement_1 (List.mem_of_getElem? (i := 6) rfl) ?_
        refine jv_v11 dX5_statement_3 okX5_isWord inX5_isWord seX5_isWord mlX5_207 (ci := 5) (T := TX5) (N := 35) rfl (mk hG) (om_isWord hG hP (show 0 < 6 by decide) he h4) (by decide) (Nat.le_of_ble_eq_true rfl) ?_
        refine jv_if_eqB dX5_statement_6 (tgt := 59) (by decide) (fun hz => ?_) (fun hz => absurd hz w0)
        refine jv_aload0 dX5_statement_59 ?_
        refine jv_ldcS (k := 1) (tx := "count") dX5_statement_60 (List.mem_of_getElem? (i := 7) rfl) ?_
        refine jv_v11 dX5_statement_62 okX5_isWord inX5_isWord seX5_isWord mlX5_207 (ci := 5) (T := TX5) (N := 35) rfl (mk hG) (om_isWord hG hP (show 1 < 6 by decide) he h4) (by decide) (Nat.le_of_ble_eq_true rfl) ?_
        refine jv_if_eqB dX5_statement_65 (tgt := 133) (by decide) (fun hz => absurd w1 hz) (fun hz => ?_)
        refine jv_aload0 dX5_statement_68 ?_
        refine jv_getI dX5_statement_69 flX5_91 rfl (mk hG) (mi_counts hR) ?_
        refine jv_bipush dX5_statement_72 jv_c_bipush_6 ?_
        refine jv_icmp_geN dX5_statement_74 (tgt := 133) (by decide) (by omega) (by omega) (fun hc74 => ?_) (fun hc74 => by omega)
        refine jv_aload0 dX5_statement_133 ?_
        refine jv_ldcS (k := 2) (tx := "with") dX5_statement_134 (List.mem_of_getElem? (i := 8) rfl) ?_
        refine jv_v11 dX5_statement_136 okX5_isWord inX5_isWord seX5_isWord mlX5_207 (ci := 5) (T := TX5) (N := 35) rfl (mk hG) (om_isWord hG hP (show 2 < 6 by decide) he h4) (by decide) (Nat.le_of_ble_eq_true rfl) ?_
        refine jv_if_eqB dX5_statement_139 (tgt := 157) (by decide) (fun hz => ?_) (fun hz => absurd hz w2)
        refine jv_aload0 dX5_statement_157 ?_
        refine jv_ldcS (k := 3) (tx := "without") dX5_statement_158 (List.mem_of_getElem? (i := 9) rfl) ?_
        refine jv_v11 dX5_statement_160 okX5_isWord inX5_isWord seX5_isWord mlX5_207 (ci := 5) (T := TX5) (N := 35) rfl (mk hG) (om_isWord hG hP (show 3 < 6 by decide) he h4) (by decide) (Nat.le_of_ble_eq_true rfl) ?_
        refine jv_if_eqB dX5_statement_163 (tgt := 181) (by decide) (fun hz => ?_) (fun hz => absurd hz w3)
        refine jv_aload0 dX5_statement_181 ?_
        refine jv_ldcS (k := 4) (tx := "swap") dX5_statement_182 (List.mem_of_getElem? (i := 10) rfl) ?_
        refine jv_v11 dX5_statement_184 okX5_isWord inX5_isWord seX5_isWord mlX5_207 (ci := 5) (T := TX5) (N := 35) rfl (mk hG) (om_isWord hG hP (show 4 < 6 by decide) he h4) (by decide) (Nat.le_of_ble_eq_true rfl) ?_
        refine jv_if_eqB dX5_statement_187 (tgt := 217) (by decide) (fun hz => ?_) (fun hz => absurd hz w4)
        refine jv_aload0 dX5_statement_217 ?_
        refine jv_ldcS (k := 5) (tx := "move") dX5_statement_218 (List.mem_of_getElem? (i := 11) rfl) ?_
        refine jv_v11 dX5_statement_220 okX5_isWord inX5_isWord seX5_isWord mlX5_207 (ci := 5) (T := TX5) (N := 35) rfl (mk hG) (om_isWord hG hP (show 5 < 6 by decide) he h4) (by decide) (Nat.le_of_ble_eq_true rfl) ?_
        refine jv_if_eqB dX5_statement_223 (tgt := 275) (by decide) (fun hz => ?_) (fun hz => absurd hz w5)
        refine jv_aload0 dX5_statement_275 ?_
        refine jv_v01 dX5_statement_276 okX5_wrong inX5_wrong seX5_wrong mlX5_188 (ci := 5) (T := TX5) (N := 35) rfl (mk hG) (om_wrong hG h4.2.1) (by decide) (Nat.le_of_ble_eq_true rfl) ?_
        exact jv_iret dX5_statement_279 rfl (by decide) (ot_b0 (fun z => Bool.noConfusion z)) rfl rfl
    · skip
      by_cases w2 : ot_isW t n e 2 = true
      · have hr : ot_stm Y t n e = (if Y 10 2 < 20 then ot_stW Y t n (ot_te t n e) 1 else (none, ot_ts t n e)) := by unfold ot_stm; rw [if_neg w0, if_neg w1, if_pos w2]
        rw [hr]
        by_cases hlt : Y 10 2 < 20
        · rw [if_pos hlt]
          obtain ⟨I2, c2, hr2⟩ := om_wishTold (J := J) hG hP hR hW he1 h25 (g := 1) hlt
          refine ⟨I2, ?_, hr2⟩
          refine jv_enter okX5_statement (L := [.ref 64]) rfl (Nat.le_of_ble_eq_true rfl) ?_
          refine jv_aload0 dX5_statement_0 ?_
          refine jv_ldcS (k := 0) (tx := "child") dX5_statement_1 (List.mem_of_getElem? (i := 6) rfl) ?_
          refine jv_v11 dX5_statement_3 okX5_isWord inX5_isWord seX5_isWord mlX5_207 (ci := 5) (T := TX5) (N := 35) rfl (mk hG) (om_isWord hG hP (show 0 < 6 by decide) he h4) (by decide) (Nat.le_of_ble_eq_true rfl) ?_
          refine jv_if_eqB dX5_statement_6 (tgt := 59) (by decide) (fun hz => ?_) (fun hz => absurd hz w0)
          refine jv_aload0 dX5_statement_59 ?_
          refine jv_ldcS (k := 1) (tx := "count") dX5_statement_60 (List.mem_of_getElem? (i := 7) rfl) ?_
          refine jv_v11 dX5_statement_62 okX5_isWord inX5_isWord seX5_isWord mlX5_207 (ci := 5) (T := TX5) (N := 35) rfl (mk hG) (om_isWord hG hP (show 1 < 6 by decide) he h4) (by decide) (Nat.le_of_ble_eq_true rfl) ?_
          refine jv_if_eqB dX5_statement_65 (tgt := 133) (by decide) (fun hz => ?_) (fun hz => absurd hz w1)
          refine jv_aload0 dX5_statement_133 ?_
          refine jv_ldcS (k := 2) (tx := "with") dX5_statement_134 (List.mem_of_getElem? (i := 8) rfl) ?_
          refine jv_v11 dX5_statement_136 okX5_isWord inX5_isWord seX5_isWord mlX5_207 (ci := 5) (T := TX5) (N := 35) rfl (mk hG) (om_isWord hG hP (show 2 < 6 by decide) he h4) (by decide) (Nat.le_of_ble_eq_true rfl) ?_
          refine jv_if_eqB dX5_statement_139 (tgt := 157) (by decide) (fun hz => absurd w2 hz) (fun hz => ?_)
          refine jv_aload0 dX5_statement_142 ?_
          refine jv_getI dX5_statement_143 flX5_141 rfl (mk hG) (mi_wishes hR) ?_
          refine jv_bipush dX5_statement_146 jv_c_bipush_20 ?_
          refine jv_icmp_geN dX5_statement_148 (tgt := 157) (by decide) (by omega) (by omega) (fun hc148 => by omega) (fun hc148 => ?_)
          refine jv_aload0 dX5_statement_151 ?_
          refine jv_iconst dX5_statement_152 jv_c_iconst_1 ?_
          refine jv_v11 dX5_statement_153 okX5_wishTold inX5_wishTold seX5_wishTold mlX5_215 (ci := 5) (T := TX5) (N := 35) rfl (mk hG) c2 (by decide) (Nat.le_of_ble_eq_true rfl) ?_
          exact jv_iret dX5_statement_156 rfl jv_b_n rfl rfl rfl
        · rw [if_neg hlt]
          have w3 := ot_isW_one (show 2 < 6 by decide) (show 3 < 6 by decide) w2 (by decide)
          have w4 := ot_isW_one (show 2 < 6 by decide) (show 4 < 6 by decide) w2 (by decide)
          have w5 := ot_isW_one (show 2 < 6 by decide) (show 5 < 6 by decide) w2 (by decide)
          refine ⟨jv_up I 64 29 (nI (ot_ts t n e)), ?_, ot_sq.no ot_qf.rf.w (jv_up_at _ _ _ _)⟩
          refine jv_enter okX5_statement (L := [.ref 64]) rfl (Nat.le_of_ble_eq_true rfl) ?_
          refine jv_aload0 dX5_statement_0 ?_
          refine jv_ldcS (k := 0) (tx := "child") dX5_statement_1 (List.mem_of_getElem? (i := 6) rfl) ?_
          refine jv_v11 dX5_statement_3 okX5_isWord inX5_isWord seX5_isWord mlX5_207 (ci := 5) (T := TX5) (N := 35) rfl (mk hG) (om_isWord hG hP (show 0 < 6 by decide) he h4) (by decide) (Nat.le_of_ble_eq_true rfl) ?_
          refine jv_if_eqB dX5_statement_6 (tgt := 59) (by decide) (fun hz => ?_) (fun hz => absurd hz w0)
          refine jv_aload0 dX5_statement_59 ?_
          refine jv_ldcS (k := 1) (tx := "count") dX5_statement_60 (List.mem_of_getElem? (i := 7) rfl) ?_
          refine jv_v11 dX5_statement_62 okX5_isWord inX5_isWord seX5_isWord mlX5_207 (ci := 5) (T := TX5) (N := 35) rfl (mk hG) (om_isWord hG hP (show 1 < 6 by decide) he h4) (by decide) (Nat.le_of_ble_eq_true rfl) ?_
          refine jv_if_eqB dX5_statement_65 (tgt := 133) (by decide) (fun hz => ?_) (fun hz => absurd hz w1)
          refine jv_aload0 dX5_statement_133 ?_
          refine jv_ldcS (k := 2) (tx := "with") dX5_statement_134 (List.mem_of_getElem? (i := 8) rfl) ?_
          refine jv_v11 dX5_statement_136 okX5_isWord inX5_isWord seX5_isWord mlX5_207 (ci := 5) (T := TX5) (N := 35) rfl (mk hG) (om_isWord hG hP (show 2 < 6 by decide) he h4) (by decide) (Nat.le_of_ble_eq_true rfl) ?_
          refine jv_if_eqB dX5_statement_139 (tgt := 157) (by decide) (fun hz => absurd w2 hz) (fun hz => ?_)
          refine jv_aload0 dX5_statement_142 ?_
          refine jv_getI dX5_statement_143 flX5_141 rfl (mk hG) (mi_wishes hR) ?_
          refine jv_bipush dX5_statement_146 jv_c_bipush_20 ?_
          refine jv_icmp_geN dX5_statement_148 (tgt := 157) (by decide) (by omega) (by omega) (fun hc148 => ?_) (fun hc148 => by omega)
          refine jv_aload0 dX5_statement_157 ?_
          refine jv_ldcS (k := 3) (tx := "without") dX5_statement_158 (List.mem_of_getElem? (i := 9) rfl) ?_
          refine jv_v11 dX5_statement_160 okX5_isWord inX5_isWord seX5_isWord mlX5_207 (ci := 5) (T := TX5) (N := 35) rfl (mk hG) (om_isWord hG hP (show 3 < 6 by decide) he h4) (by decide) (Nat.le_of_ble_eq_true rfl) ?_
          refine jv_if_eqB dX5_statement_163 (tgt := 181) (by decide) (fun hz => ?_) (fun hz => absurd hz w3)
          refine jv_aload0 dX5_statement_181 ?_
          refine jv_ldcS (k := 4) (tx := "swap") dX5_statement_182 (List.mem_of_getElem? (i := 10) rfl) ?_
          refine jv_v11 dX5_statement_184 okX5_isWord inX5_isWord seX5_isWord mlX5_207 (ci := 5) (T := TX5) (N := 35) rfl (mk hG) (om_isWord hG hP (show 4 < 6 by decide) he h4) (by decide) (Nat.le_of_ble_eq_true rfl) ?_
          refine jv_if_eqB dX5_statement_187 (tgt := 217) (by decide) (fun hz => ?_) (fun hz => absurd hz w4)
          refine jv_aload0 dX5_statement_217 ?_
          refine jv_ldcS (k := 5) (tx := "move") dX5_statement_218 (List.mem_of_getElem? (i := 11) rfl) ?_
          refine jv_v11 dX5_statement_220 okX5_isWord inX5_isWord seX5_isWord mlX5_207 (ci := 5) (T := TX5) (N := 35) rfl (mk hG) (om_isWord hG hP (show 5 < 6 by decide) he h4) (by decide) (Nat.le_of_ble_eq_true rfl) ?_
          refine jv_if_eqB dX5_statement_223 (tgt := 275) (by decide) (fun hz => ?_) (fun hz => absurd hz w5)
          refine jv_aload0 dX5_statement_275 ?_
          refine jv_v01 dX5_statement_276 okX5_wrong inX5_wrong seX5_wrong mlX5_188 (ci := 5) (T := TX5) (N := 35) rfl (mk hG) (om_wrong hG h4.2.1) (by decide) (Nat.le_of_ble_eq_true rfl) ?_
          exact jv_iret dX5_statement_279 rfl (by decide) (ot_b0 (fun z => Bool.noConfusion z)) rfl rfl
      · skip
        by_cases w3 : ot_isW t n e 3 = true
        · have hr : ot_stm Y t n e = (if Y 10 2 < 20 then ot_stW Y t n (ot_te t n e) 0 else (none, ot_ts t n e)) := by unfold ot_stm; rw [if_neg w0, if_neg w1, if_neg w2, if_pos w3]
          rw [hr]
          by_cases hlt : Y 10 2 < 20
          · rw [if_pos hlt]
            obtain ⟨I2, c2, hr2⟩ := om_wishTold (J := J) hG hP hR hW he1 h25 (g := 0) hlt
            refine ⟨I2, ?_, hr2⟩
            refine jv_enter okX5_statement (L := [.ref 64]) rfl (Nat.le_of_ble_eq_true rfl) ?_
            refine jv_aload0 dX5_statement_0 ?_
            refine jv_ldcS (k := 0) (tx := "child") dX5_statement_1 (List.mem_of_getElem? (i := 6) rfl) ?_
            refine jv_v11 dX5_statement_3 okX5_isWord inX5_isWord seX5_isWord mlX5_207 (ci := 5) (T := TX5) (N := 35) rfl (mk hG) (om_isWord hG hP (show 0 < 6 by decide) he h4) (by decide) (Nat.le_of_ble_eq_true rfl) ?_
            refine jv_if_eqB dX5_statement_6 (tgt := 59) (by decide) (fun hz => ?_) (fun hz => absurd hz w0)
            refine jv_aload0 dX5_statement_59 ?_
            refine jv_ldcS (k := 1) (tx := "count") dX5_statement_60 (List.mem_of_getElem? (i := 7) rfl) ?_
            refine jv_v11 dX5_statement_62 okX5_isWord inX5_isWord seX5_isWord mlX5_207 (ci := 5) (T := TX5) (N := 35) rfl (mk hG) (om_isWord hG hP (show 1 < 6 by decide) he h4) (by decide) (Nat.le_of_ble_eq_true rfl) ?_
            refine jv_if_eqB dX5_statement_65 (tgt := 133) (by decide) (fun hz => ?_) (fun hz => absurd hz w1)
            refine jv_aload0 dX5_statement_133 ?_
            refine jv_ldcS (k := 2) (tx := "with") dX5_statement_134 (List.mem_of_getElem? (i := 8) rfl) ?_
            refine jv_v11 dX5_statement_136 okX5_isWord inX5_isWord seX5_isWord mlX5_207 (ci := 5) (T := TX5) (N := 35) rfl (mk hG) (om_isWord hG hP (show 2 < 6 by decide) he h4) (by decide) (Nat.le_of_ble_eq_true rfl) ?_
            refine jv_if_eqB dX5_statement_139 (tgt := 157) (by decide) (fun hz => ?_) (fun hz => absurd hz w2)
            refine jv_aload0 dX5_statement_157 ?_
            refine jv_ldcS (k := 3) (tx := "without") dX5_statement_158 (List.mem_of_getElem? (i := 9) rfl) ?_
            refine jv_v11 dX5_statement_160 okX5_isWord inX5_isWord seX5_isWord mlX5_207 (ci := 5) (T := TX5) (N := 35) rfl (mk hG) (om_isWord hG hP (show 3 < 6 by decide) he h4) (by decide) (Nat.le_of_ble_eq_true rfl) ?_
            refine jv_if_eqB dX5_statement_163 (tgt := 181) (by decide) (fun hz => absurd w3 hz) (fun hz => ?_)
            refine jv_aload0 dX5_statement_166 ?_
            refine jv_getI dX5_statement_167 flX5_141 rfl (mk hG) (mi_wishes hR) ?_
            refine jv_bipush dX5_statement_170 jv_c_bipush_20 ?_
            refine jv_icmp_geN dX5_statement_172 (tgt := 181) (by decide) (by omega) (by omega) (fun hc172 => by omega) (fun hc172 => ?_)
            refine jv_aload0 dX5_statement_175 ?_
            refine jv_iconst dX5_statement_176 jv_c_iconst_0 ?_
            refine jv_v11 dX5_statement_177 okX5_wishTold inX5_wishTold seX5_wishTold mlX5_215 (ci := 5) (T := TX5) (N := 35) rfl (mk hG) c2 (by decide) (Nat.le_of_ble_eq_true rfl) ?_
            exact jv_iret dX5_statement_180 rfl jv_b_n rfl rfl rfl
          · rw [if_neg hlt]
            have w4 := ot_isW_one (show 3 < 6 by decide) (show 4 < 6 by decide) w3 (by decide)
            have w5 := ot_isW_one (show 3 < 6 by decide) (show 5 < 6 by decide) w3 (by decide)
            refine ⟨jv_up I 64 29 (nI (ot_ts t n e)), ?_, ot_sq.no ot_qf.rf.w (jv_up_at _ _ _ _)⟩
            refine jv_enter okX5_statement (L := [.ref 64]) rfl (Nat.le_of_ble_eq_true rfl) ?_
            refine jv_aload0 dX5_statement_0 ?_
            refine jv_ldcS (k := 0) (tx := "child") dX5_statement_1 (List.mem_of_getElem? (i := 6) rfl) ?_
            refine jv_v11 dX5_statement_3 okX5_isWord inX5_isWord seX5_isWord mlX5_207 (ci := 5) (T := TX5) (N := 35) rfl (mk hG) (om_isWord hG hP (show 0 < 6 by decide) he h4) (by decide) (Nat.le_of_ble_eq_true rfl) ?_
            refine jv_if_eqB dX5_statement_6 (tgt := 59) (by decide) (fun hz => ?_) (fun hz => absurd hz w0)
            refine jv_aload0 dX5_statement_59 ?_
            refine jv_ldcS (k := 1) (tx := "count") dX5_statement_60 (List.mem_of_getElem? (i := 7) rfl) ?_
            refine jv_v11 dX5_statement_62 okX5_isWord inX5_isWord seX5_isWord mlX5_207 (ci := 5) (T := TX5) (N := 35) rfl (mk hG) (om_isWord hG hP (show 1 < 6 by decide) he h4) (by decide) (Nat.le_of_ble_eq_true rfl) ?_
            refine jv_if_eqB dX5_statement_65 (tgt := 133) (by decide) (fun hz => ?_) (fun hz => absurd hz w1)
            refine jv_aload0 dX5_statement_133 ?_
            refine jv_ldcS (k := 2) (tx := "with") dX5_statement_134 (List.mem_of_getElem? (i := 8) rfl) ?_
            refine jv_v11 dX5_statement_136 okX5_isWord inX5_isWord seX5_isWord mlX5_207 (ci := 5) (T := TX5) (N := 35) rfl (mk hG) (om_isWord hG hP (show 2 < 6 by decide) he h4) (by decide) (Nat.le_of_ble_eq_true rfl) ?_
            refine jv_if_eqB dX5_statement_139 (tgt := 157) (by decide) (fun hz => ?_) (fun hz => absurd hz w2)
            refine jv_aload0 dX5_statement_157 ?_
            refine jv_ldcS (k := 3) (tx := "without") dX5_statement_158 (List.mem_of_getElem? (i := 9) rfl) ?_
            refine jv_v11 dX5_statement_160 okX5_isWord inX5_isWord seX5_isWord mlX5_207 (ci := 5) (T := TX5) (N := 35) rfl (mk hG) (om_isWord hG hP (show 3 < 6 by decide) he h4) (by decide) (Nat.le_of_ble_eq_true rfl) ?_
            refine jv_if_eqB dX5_statement_163 (tgt := 181) (by decide) (fun hz => absurd w3 hz) (fun hz => ?_)
            refine jv_aload0 dX5_statement_166 ?_
            refine jv_getI dX5_statement_167 flX5_141 rfl (mk hG) (mi_wishes hR) ?_
            refine jv_bipush dX5_statement_170 jv_c_bipush_20 ?_
            refine jv_icmp_geN dX5_statement_172 (tgt := 181) (by decide) (by omega) (by omega) (fun hc172 => ?_) (fun hc172 => by omega)
            refine jv_aload0 dX5_statement_181 ?_
            refine jv_ldcS (k := 4) (tx := "swap") dX5_statement_182 (List.mem_of_getElem? (i := 10) rfl) ?_
            refine jv_v11 dX5_statement_184 okX5_isWord inX5_isWord seX5_isWord mlX5_207 (ci := 5) (T := TX5) (N := 35) rfl (mk hG) (om_isWord hG hP (show 4 < 6 by decide) he h4) (by decide) (Nat.le_of_ble_eq_true rfl) ?_
            refine jv_if_eqB dX5_statement_187 (tgt := 217) (by decide) (fun hz => ?_) (fun hz => absurd hz w4)
            refine jv_aload0 dX5_statement_217 ?_
            refine jv_ldcS (k := 5) (tx := "move") dX5_statement_218 (List.mem_of_getElem? (i := 11) rfl) ?_
            refine jv_v11 dX5_statement_220 okX5_isWord inX5_isWord seX5_isWord mlX5_207 (ci := 5) (T := TX5) (N := 35) rfl (mk hG) (om_isWord hG hP (show 5 < 6 by decide) he h4) (by decide) (Nat.le_of_ble_eq_true rfl) ?_
            refine jv_if_eqB dX5_statement_223 (tgt := 275) (by decide) (fun hz => ?_) (fun hz => absurd hz w5)
            refine jv_aload0 dX5_statement_275 ?_
            refine jv_v01 dX5_statement_276 okX5_wrong inX5_wrong seX5_wrong mlX5_188 (ci := 5) (T := TX5) (N := 35) rfl (mk hG) (om_wrong hG h4.2.1) (by decide) (Nat.le_of_ble_eq_true rfl) ?_
            exact jv_iret dX5_statement_279 rfl (by decide) (ot_b0 (fun z => Bool.noConfusion z)) rfl rfl
        · skip
          by_cases w4 : ot_isW t n e 4 = true
          · have hr : ot_stm Y t n e = ot_stS Y t n (ot_te t n e) := by unfold ot_stm; rw [if_neg w0, if_neg w1, if_neg w2, if_neg w3, if_pos w4]
            rw [hr]
            by_cases k1 : ot_nok t n (ot_te t n e) 0 (Y 10 0)
            · by_cases k2 : ot_nok t n (ot_te t n (ot_te t n e)) 0 (Y 10 0)
              · by_cases es : ot_fg t n (ot_te t n (ot_te t n e)) = ot_fg t n (ot_te t n e)
                · have hr2 : ot_stS Y t n (ot_te t n e) = (none, ot_ts t n (ot_te t n (ot_te t n e))) := by unfold ot_stS ot_st2; rw [ot_numk_y k1, ot_numk_y k2, if_pos es]
                  rw [hr2]
                  obtain ⟨A2, c2, f2, u2⟩ := om_two_n3 (J := J) hG hP hR hW he1 h25 k1 k2 es
                  refine ⟨A2, ?_, ot_sq.no f2 u2⟩
                  refine jv_enter okX5_statement (L := [.ref 64]) rfl (Nat.le_of_ble_eq_true rfl) ?_
                  refine jv_aload0 dX5_statement_0 ?_
                  refine jv_ldcS (k := 0) (tx := "child") dX5_statement_1 (List.mem_of_getElem? (i := 6) rfl) ?_
                  refine jv_v11 dX5_statement_3 okX5_isWord inX5_isWord seX5_isWord mlX5_207 (ci := 5) (T := TX5) (N := 35) rfl (mk hG) (om_isWord hG hP (show 0 < 6 by decide) he h4) (by decide) (Nat.le_of_ble_eq_true rfl) ?_
                  refine jv_if_eqB dX5_statement_6 (tgt := 59) (by decide) (fun hz => ?_) (fun hz => absurd hz w0)
                  refine jv_aload0 dX5_statement_59 ?_
                  refine jv_ldcS (k := 1) (tx := "count") dX5_statement_60 (List.mem_of_getElem? (i := 7) rfl) ?_
                  refine jv_v11 dX5_statement_62 okX5_isWord inX5_isWord seX5_isWord mlX5_207 (ci := 5) (T := TX5) (N := 35) rfl (mk hG) (om_isWord hG hP (show 1 < 6 by decide) he h4) (by decide) (Nat.le_of_ble_eq_true rfl) ?_
                  refine jv_if_eqB dX5_statement_65 (tgt := 133) (by decide) (fun hz => ?_) (fun hz => absurd hz w1)
                  refine jv_aload0 dX5_statement_133 ?_
                  refine jv_ldcS (k := 2) (tx := "with") dX5_statement_134 (List.mem_of_getElem? (i := 8) rfl) ?_
                  refine jv_v11 dX5_statement_136 okX5_isWord inX5_isWord seX5_isWord mlX5_207 (ci := 5) (T := TX5) (N := 35) rfl (mk hG) (om_isWord hG hP (show 2 < 6 by decide) he h4) (by decide) (Nat.le_of_ble_eq_true rfl) ?_
                  refine jv_if_eqB dX5_statement_139 (tgt := 157) (by decide) (fun hz => ?_) (fun hz => absurd hz w2)
                  refine jv_aload0 dX5_statement_157 ?_
                  refine jv_ldcS (k := 3) (tx := "without") dX5_statement_158 (List.mem_of_getElem? (i := 9) rfl) ?_
                  refine jv_v11 dX5_statement_160 okX5_isWord inX5_isWord seX5_isWord mlX5_207 (ci := 5) (T := TX5) (N := 35) rfl (mk hG) (om_isWord hG hP (show 3 < 6 by decide) he h4) (by decide) (Nat.le_of_ble_eq_true rfl) ?_
                  refine jv_if_eqB dX5_statement_163 (tgt := 181) (by decide) (fun hz => ?_) (fun hz => absurd hz w3)
                  refine jv_aload0 dX5_statement_181 ?_
                  refine jv_ldcS (k := 4) (tx := "swap") dX5_statement_182 (List.mem_of_getElem? (i := 10) rfl) ?_
                  refine jv_v11 dX5_statement_184 okX5_isWord inX5_isWord seX5_isWord mlX5_207 (ci := 5) (T := TX5) (N := 35) rfl (mk hG) (om_isWord hG hP (show 4 < 6 by decide) he h4) (by decide) (Nat.le_of_ble_eq_true rfl) ?_
                  refine jv_if_eqB dX5_statement_187 (tgt := 217) (by decide) (fun hz => absurd w4 hz) (fun hz => ?_)
                  refine jv_aload0 dX5_statement_190 ?_
                  refine jv_v01 dX5_statement_191 okX5_twoTold inX5_twoTold seX5_twoTold mlX5_202 (ci := 5) (T := TX5) (N := 35) rfl (mk hG) c2 (by decide) (Nat.le_of_ble_eq_true rfl) ?_
                  refine jv_if_ne dX5_statement_194 (tgt := 199) (by decide) (fun hz => absurd rfl hz) (fun hz => ?_)
                  refine jv_iconst dX5_statement_197 jv_c_iconst_0 ?_
                  exact jv_iret dX5_statement_198 rfl (by decide) (ot_b0 (fun z => Bool.noConfusion z)) rfl rfl
                · obtain ⟨A2, c2, f2, l2, u0, u1⟩ := om_two_y (J := J) hG hP hR hW he1 h25 k1 k2 es
                  obtain ⟨Az, cz, hRz, hFz⟩ := om_swaps (J := J) hG (f2.mr hR) hW (a := (ot_fg t n (ot_te t n e))) (b := (ot_fg t n (ot_te t n (ot_te t n e)))) k1.2.2 k2.2.2
                  have hr2 : ot_stS Y t n (ot_te t n e) = (some (ot_swap Y (ot_fg t n (ot_te t n e)) (ot_fg t n (ot_te t n (ot_te t n e)))), (ot_te t n (ot_te t n (ot_te t n e)))) := by unfold ot_stS ot_st2; rw [ot_numk_y k1, ot_numk_y k2, if_neg es]
                  rw [hr2]
                  refine ⟨Az, ?_, ot_sq.yes f2 l2 (ot_mf.pl hFz) hRz⟩
                  refine jv_enter okX5_statement (L := [.ref 64]) rfl (Nat.le_of_ble_eq_true rfl) ?_
                  refine jv_aload0 dX5_statement_0 ?_
                  refine jv_ldcS (k := 0) (tx := "child") dX5_statement_1 (List.mem_of_getElem? (i := 6) rfl) ?_
                  refine jv_v11 dX5_statement_3 okX5_isWord inX5_isWord seX5_isWord mlX5_207 (ci := 5) (T := TX5) (N := 35) rfl (mk hG) (om_isWord hG hP (show 0 < 6 by decide) he h4) (by decide) (Nat.le_of_ble_eq_true rfl) ?_
                  refine jv_if_eqB dX5_statement_6 (tgt := 59) (by decide) (fun hz => ?_) (fun hz => absurd hz w0)
                  refine jv_aload0 dX5_statement_59 ?_
                  refine jv_ldcS (k := 1) (tx := "count") dX5_statement_60 (List.mem_of_getElem? (i := 7) rfl) ?_
                  refine jv_v11 dX5_statement_62 okX5_isWord inX5_isWord seX5_isWord mlX5_207 (ci := 5) (T := TX5) (N := 35) rfl (mk hG) (om_isWord hG hP (show 1 < 6 by decide) he h4) (by decide) (Nat.le_of_ble_eq_true rfl) ?_
                  refine jv_if_eqB dX5_statement_65 (tgt := 133) (by decide) (fun hz => ?_) (fun hz => absurd hz w1)
                  refine jv_aload0 dX5_statement_133 ?_
                  refine jv_ldcS (k := 2) (tx := "with") dX5_statement_134 (List.mem_of_getElem? (i := 8) rfl) ?_
                  refine jv_v11 dX5_statement_136 okX5_isWord inX5_isWord seX5_isWord mlX5_207 (ci := 5) (T := TX5) (N := 35) rfl (mk hG) (om_isWord hG hP (show 2 < 6 by decide) he h4) (by decide) (Nat.le_of_ble_eq_true rfl) ?_
                  refine jv_if_eqB dX5_statement_139 (tgt := 157) (by decide) (fun hz => ?_) (fun hz => absurd hz w2)
                  refine jv_aload0 dX5_statement_157 ?_
                  refine jv_ldcS (k := 3) (tx := "without") dX5_statement_158 (List.mem_of_getElem? (i := 9) rfl) ?_
                  refine jv_v11 dX5_statement_160 okX5_isWord inX5_isWord seX5_isWord mlX5_207 (ci := 5) (T := TX5) (N := 35) rfl (mk hG) (om_isWord hG hP (show 3 < 6 by decide) he h4) (by decide) (Nat.le_of_ble_eq_true rfl) ?_
                  refine jv_if_eqB dX5_statement_163 (tgt := 181) (by decide) (fun hz => ?_) (fun hz => absurd hz w3)
                  refine jv_aload0 dX5_statement_181 ?_
                  refine jv_ldcS (k := 4) (tx := "swap") dX5_statement_182 (List.mem_of_getElem? (i := 10) rfl) ?_
                  refine jv_v11 dX5_statement_184 okX5_isWord inX5_isWord seX5_isWord mlX5_207 (ci := 5) (T := TX5) (N := 35) rfl (mk hG) (om_isWord hG hP (show 4 < 6 by decide) he h4) (by decide) (Nat.le_of_ble_eq_true rfl) ?_
                  refine jv_if_eqB dX5_statement_187 (tgt := 217) (by decide) (fun hz => absurd w4 hz) (fun hz => ?_)
                  refine jv_aload0 dX5_statement_190 ?_
                  refine jv_v01 dX5_statement_191 okX5_twoTold inX5_twoTold seX5_twoTold mlX5_202 (ci := 5) (T := TX5) (N := 35) rfl (mk hG) c2 (by decide) (Nat.le_of_ble_eq_true rfl) ?_
                  refine jv_if_ne dX5_statement_194 (tgt := 199) (by decide) (fun hz => ?_) (fun hz => absurd hz (by decide))
                  refine jv_aload0 dX5_statement_199 ?_
                  refine jv_aload0 dX5_statement_200 ?_
                  refine jv_getR dX5_statement_201 flX5_71 rfl (mk hG) (mr_told hG) ?_
                  refine jv_iconst dX5_statement_204 jv_c_iconst_0 ?_
                  refine jv_ialdN dX5_statement_205 (mk_told hG) (by omega) (by decide) u0 ?_
                  refine jv_aload0 dX5_statement_206 ?_
                  refine jv_getR dX5_statement_207 flX5_71 rfl (mk hG) (mr_told hG) ?_
                  refine jv_iconst dX5_statement_210 jv_c_iconst_1 ?_
                  refine jv_ialdN dX5_statement_211 (mk_told hG) (by omega) (by decide) u1 ?_
                  refine jv_v20 dX5_statement_212 okX5_swaps inX5_swaps seX5_swaps mlX5_222 (ci := 5) (T := TX5) (N := 35) rfl (mk hG) cz (by decide) (Nat.le_of_ble_eq_true rfl) ?_
                  refine jv_iconst dX5_statement_215 jv_c_iconst_1 ?_
                  exact jv_iret dX5_statement_216 rfl (by decide) (ot_b1 rfl) rfl rfl
              · have hr2 : ot_stS Y t n (ot_te t n e) = (none, ot_ts t n (ot_te t n (ot_te t n e))) := by unfold ot_stS ot_st2; rw [ot_numk_y k1, ot_numk_n k2]
                rw [hr2]
                obtain ⟨A2, c2, f2, u2⟩ := om_two_n2 (J := J) hG hP hR hW he1 h25 k1 k2
                refine ⟨A2, ?_, ot_sq.no f2 u2⟩
                refine jv_enter okX5_statement (L := [.ref 64]) rfl (Nat.le_of_ble_eq_true rfl) ?_
                refine jv_aload0 dX5_statement_0 ?_
                refine jv_ldcS (k := 0) (tx := "child") dX5_statement_1 (List.mem_of_getElem? (i := 6) rfl) ?_
                refine jv_v11 dX5_statement_3 okX5_isWord inX5_isWord seX5_isWord mlX5_207 (ci := 5) (T := TX5) (N := 35) rfl (mk hG) (om_isWord hG hP (show 0 < 6 by decide) he h4) (by decide) (Nat.le_of_ble_eq_true rfl) ?_
                refine jv_if_eqB dX5_statement_6 (tgt := 59) (by decide) (fun hz => ?_) (fun hz => absurd hz w0)
                refine jv_aload0 dX5_statement_59 ?_
                refine jv_ldcS (k := 1) (tx := "count") dX5_statement_60 (List.mem_of_getElem? (i := 7) rfl) ?_
                refine jv_v11 dX5_statement_62 okX5_isWord inX5_isWord seX5_isWord mlX5_207 (ci := 5) (T := TX5) (N := 35) rfl (mk hG) (om_isWord hG hP (show 1 < 6 by decide) he h4) (by decide) (Nat.le_of_ble_eq_true rfl) ?_
                refine jv_if_eqB dX5_statement_65 (tgt := 133) (by decide) (fun hz => ?_) (fun hz => absurd hz w1)
                refine jv_aload0 dX5_statement_133 ?_
                refine jv_ldcS (k := 2) (tx := "with") dX5_statement_134 (List.mem_of_getElem? (i := 8) rfl) ?_
                refine jv_v11 dX5_statement_136 okX5_isWord inX5_isWord seX5_isWord mlX5_207 (ci := 5) (T := TX5) (N := 35) rfl (mk hG) (om_isWord hG hP (show 2 < 6 by decide) he h4) (by decide) (Nat.le_of_ble_eq_true rfl) ?_
                refine jv_if_eqB dX5_statement_139 (tgt := 157) (by decide) (fun hz => ?_) (fun hz => absurd hz w2)
                refine jv_aload0 dX5_statement_157 ?_
                refine jv_ldcS (k := 3) (tx := "without") dX5_statement_158 (List.mem_of_getElem? (i := 9) rfl) ?_
                refine jv_v11 dX5_statement_160 okX5_isWord inX5_isWord seX5_isWord mlX5_207 (ci := 5) (T := TX5) (N := 35) rfl (mk hG) (om_isWord hG hP (show 3 < 6 by decide) he h4) (by decide) (Nat.le_of_ble_eq_true rfl) ?_
                refine jv_if_eqB dX5_statement_163 (tgt := 181) (by decide) (fun hz => ?_) (fun hz => absurd hz w3)
                refine jv_aload0 dX5_statement_181 ?_
                refine jv_ldcS (k := 4) (tx := "swap") dX5_statement_182 (List.mem_of_getElem? (i := 10) rfl) ?_
                refine jv_v11 dX5_statement_184 okX5_isWord inX5_isWord seX5_isWord mlX5_207 (ci := 5) (T := TX5) (N := 35) rfl (mk hG) (om_isWord hG hP (show 4 < 6 by decide) he h4) (by decide) (Nat.le_of_ble_eq_true rfl) ?_
                refine jv_if_eqB dX5_statement_187 (tgt := 217) (by decide) (fun hz => absurd w4 hz) (fun hz => ?_)
                refine jv_aload0 dX5_statement_190 ?_
                refine jv_v01 dX5_statement_191 okX5_twoTold inX5_twoTold seX5_twoTold mlX5_202 (ci := 5) (T := TX5) (N := 35) rfl (mk hG) c2 (by decide) (Nat.le_of_ble_eq_true rfl) ?_
                refine jv_if_ne dX5_statement_194 (tgt := 199) (by decide) (fun hz => absurd rfl hz) (fun hz => ?_)
                refine jv_iconst dX5_statement_197 jv_c_iconst_0 ?_
                exact jv_iret dX5_statement_198 rfl (by decide) (ot_b0 (fun z => Bool.noConfusion z)) rfl rfl
            · have hr2 : ot_stS Y t n (ot_te t n e) = (none, ot_ts t n (ot_te t n e)) := by unfold ot_stS ot_st2; rw [ot_numk_n k1]
              rw [hr2]
              obtain ⟨A2, c2, f2, u2⟩ := om_two_n1 (J := J) hG hP hR hW he1 h25 k1
              refine ⟨A2, ?_, ot_sq.no f2 u2⟩
              refine jv_enter okX5_statement (L := [.ref 64]) rfl (Nat.le_of_ble_eq_true rfl) ?_
              refine jv_aload0 dX5_statement_0 ?_
              refine jv_ldcS (k := 0) (tx := "child") dX5_statement_1 (List.mem_of_getElem? (i := 6) rfl) ?_
              refine jv_v11 dX5_statement_3 okX5_isWord inX5_isWord seX5_isWord mlX5_207 (ci := 5) (T := TX5) (N := 35) rfl (mk hG) (om_isWord hG hP (show 0 < 6 by decide) he h4) (by decide) (Nat.le_of_ble_eq_true rfl) ?_
              refine jv_if_eqB dX5_statement_6 (tgt := 59) (by decide) (fun hz => ?_) (fun hz => absurd hz w0)
              refine jv_aload0 dX5_statement_59 ?_
              refine jv_ldcS (k := 1) (tx := "count") dX5_statement_60 (List.mem_of_getElem? (i := 7) rfl) ?_
              refine jv_v11 dX5_statement_62 okX5_isWord inX5_isWord seX5_isWord mlX5_207 (ci := 5) (T := TX5) (N := 35) rfl (mk hG) (om_isWord hG hP (show 1 < 6 by decide) he h4) (by decide) (Nat.le_of_ble_eq_true rfl) ?_
              refine jv_if_eqB dX5_statement_65 (tgt := 133) (by decide) (fun hz => ?_) (fun hz => absurd hz w1)
              refine jv_aload0 dX5_statement_133 ?_
              refine jv_ldcS (k := 2) (tx := "with") dX5_statement_134 (List.mem_of_getElem? (i := 8) rfl) ?_
              refine jv_v11 dX5_statement_136 okX5_isWord inX5_isWord seX5_isWord mlX5_207 (ci := 5) (T := TX5) (N := 35) rfl (mk hG) (om_isWord hG hP (show 2 < 6 by decide) he h4) (by decide) (Nat.le_of_ble_eq_true rfl) ?_
              refine jv_if_eqB dX5_statement_139 (tgt := 157) (by decide) (fun hz => ?_) (fun hz => absurd hz w2)
              refine jv_aload0 dX5_statement_157 ?_
              refine jv_ldcS (k := 3) (tx := "without") dX5_statement_158 (List.mem_of_getElem? (i := 9) rfl) ?_
              refine jv_v11 dX5_statement_160 okX5_isWord inX5_isWord seX5_isWord mlX5_207 (ci := 5) (T := TX5) (N := 35) rfl (mk hG) (om_isWord hG hP (show 3 < 6 by decide) he h4) (by decide) (Nat.le_of_ble_eq_true rfl) ?_
              refine jv_if_eqB dX5_statement_163 (tgt := 181) (by decide) (fun hz => ?_) (fun hz => absurd hz w3)
              refine jv_aload0 dX5_statement_181 ?_
              refine jv_ldcS (k := 4) (tx := "swap") dX5_statement_182 (List.mem_of_getElem? (i := 10) rfl) ?_
              refine jv_v11 dX5_statement_184 okX5_isWord inX5_isWord seX5_isWord mlX5_207 (ci := 5) (T := TX5) (N := 35) rfl (mk hG) (om_isWord hG hP (show 4 < 6 by decide) he h4) (by decide) (Nat.le_of_ble_eq_true rfl) ?_
              refine jv_if_eqB dX5_statement_187 (tgt := 217) (by decide) (fun hz => absurd w4 hz) (fun hz => ?_)
              refine jv_aload0 dX5_statement_190 ?_
              refine jv_v01 dX5_statement_191 okX5_twoTold inX5_twoTold seX5_twoTold mlX5_202 (ci := 5) (T := TX5) (N := 35) rfl (mk hG) c2 (by decide) (Nat.le_of_ble_eq_true rfl) ?_
              refine jv_if_ne dX5_statement_194 (tgt := 199) (by decide) (fun hz => absurd rfl hz) (fun hz => ?_)
              refine jv_iconst dX5_statement_197 jv_c_iconst_0 ?_
              exact jv_iret dX5_statement_198 rfl (by decide) (ot_b0 (fun z => Bool.noConfusion z)) rfl rfl
          · skip
            by_cases w5 : ot_isW t n e 5 = true
            · have hr : ot_stm Y t n e = ot_stM Y t n (ot_te t n e) := by unfold ot_stm; rw [if_neg w0, if_neg w1, if_neg w2, if_neg w3, if_neg w4, if_pos w5]
              rw [hr]
              by_cases k1 : ot_nok t n (ot_te t n e) 0 (Y 10 0)
              · obtain ⟨A1, c1, f1, l1, u1⟩ := om_tells_y (J := J) hG hP he1 h25 (lo := 0) (h1 := (Y 10 0)) (by decide) (ot_hib_p (by omega)) k1
                have F1 : ot_qf I A1 := f1
                have kb1 := k1.2
                by_cases k2 : ot_nok t n (ot_te t n (ot_te t n e)) 0 (Y 10 0)
                · obtain ⟨A2, c2, f2, l2, o2, u2⟩ := om_number_y (J := J) hG (F1.tq hP) he2 l1 (i := 1) (by decide) (lo := 0) (h1 := (Y 10 0)) (by decide) (ot_hib_p (by omega)) k2
                  have F2 : ot_qf I A2 := F1.tr f2
                  have kb2 := k2.2
                  have v0 := (o2 0 (by decide)).trans (u1)
                  have v1 := u2
                  obtain ⟨Az, cz, hRz, hFz⟩ := om_moves (J := J) hG (F2.mr hR) hW (c := (ot_fg t n (ot_te t n e))) (p := (ot_fg t n (ot_te t n (ot_te t n e)))) kb1.2 kb2.2
                  have hr2 : ot_stM Y t n (ot_te t n e) = (some (ot_move Y (ot_fg t n (ot_te t n e)) (ot_fg t n (ot_te t n (ot_te t n e)))), (ot_te t n (ot_te t n (ot_te t n e)))) := by unfold ot_stM; rw [ot_numk_y k1, ot_numk_y k2]
                  rw [hr2]
                  refine ⟨Az, ?_, ot_sq.yes F2 l2 (ot_mf.pl hFz) hRz⟩
                  refine jv_enter okX5_statement (L := [.ref 64]) rfl (Nat.le_of_ble_eq_true rfl) ?_
                  refine jv_aload0 dX5_statement_0 ?_
                  refine jv_ldcS (k := 0) (tx := "child") dX5_statement_1 (List.mem_of_getElem? (i := 6) rfl) ?_
                  refine jv_v11 dX5_statement_3 okX5_isWord inX5_isWord seX5_isWord mlX5_207 (ci := 5) (T := TX5) (N := 35) rfl (mk hG) (om_isWord hG hP (show 0 < 6 by decide) he h4) (by decide) (Nat.le_of_ble_eq_true rfl) ?_
                  refine jv_if_eqB dX5_statement_6 (tgt := 59) (by decide) (fun hz => ?_) (fun hz => absurd hz w0)
                  refine jv_aload0 dX5_statement_59 ?_
                  refine jv_ldcS (k := 1) (tx := "count") dX5_statement_60 (List.mem_of_getElem? (i := 7) rfl) ?_
                  refine jv_v11 dX5_statement_62 okX5_isWord inX5_isWord seX5_isWord mlX5_207 (ci := 5) (T := TX5) (N := 35) rfl (mk hG) (om_isWord hG hP (show 1 < 6 by decide) he h4) (by decide) (Nat.le_of_ble_eq_true rfl) ?_
                  refine jv_if_eqB dX5_statement_65 (tgt := 133) (by decide) (fun hz => ?_) (fun hz => absurd hz w1)
                  refine jv_aload0 dX5_statement_133 ?_
                  refine jv_ldcS (k := 2) (tx := "with") dX5_statement_134 (List.mem_of_getElem? (i := 8) rfl) ?_
                  refine jv_v11 dX5_statement_136 okX5_isWord inX5_isWord seX5_isWord mlX5_207 (ci := 5) (T := TX5) (N := 35) rfl (mk hG) (om_isWord hG hP (show 2 < 6 by decide) he h4) (by decide) (Nat.le_of_ble_eq_true rfl) ?_
                  refine jv_if_eqB dX5_statement_139 (tgt := 157) (by decide) (fun hz => ?_) (fun hz => absurd hz w2)
                  refine jv_aload0 dX5_statement_157 ?_
                  refine jv_ldcS (k := 3) (tx := "without") dX5_statement_158 (List.mem_of_getElem? (i := 9) rfl) ?_
                  refine jv_v11 dX5_statement_160 okX5_isWord inX5_isWord seX5_isWord mlX5_207 (ci := 5) (T := TX5) (N := 35) rfl (mk hG) (om_isWord hG hP (show 3 < 6 by decide) he h4) (by decide) (Nat.le_of_ble_eq_true rfl) ?_
                  refine jv_if_eqB dX5_statement_163 (tgt := 181) (by decide) (fun hz => ?_) (fun hz => absurd hz w3)
                  refine jv_aload0 dX5_statement_181 ?_
                  refine jv_ldcS (k := 4) (tx := "swap") dX5_statement_182 (List.mem_of_getElem? (i := 10) rfl) ?_
                  refine jv_v11 dX5_statement_184 okX5_isWord inX5_isWord seX5_isWord mlX5_207 (ci := 5) (T := TX5) (N := 35) rfl (mk hG) (om_isWord hG hP (show 4 < 6 by decide) he h4) (by decide) (Nat.le_of_ble_eq_true rfl) ?_
                  refine jv_if_eqB dX5_statement_187 (tgt := 217) (by decide) (fun hz => ?_) (fun hz => absurd hz w4)
                  refine jv_aload0 dX5_statement_217 ?_
                  refine jv_ldcS (k := 5) (tx := "move") dX5_statement_218 (List.mem_of_getElem? (i := 11) rfl) ?_
                  refine jv_v11 dX5_statement_220 okX5_isWord inX5_isWord seX5_isWord mlX5_207 (ci := 5) (T := TX5) (N := 35) rfl (mk hG) (om_isWord hG hP (show 5 < 6 by decide) he h4) (by decide) (Nat.le_of_ble_eq_true rfl) ?_
                  refine jv_if_eqB dX5_statement_223 (tgt := 275) (by decide) (fun hz => absurd w5 hz) (fun hz => ?_)
                  refine jv_aload0 dX5_statement_226 ?_
                  refine jv_iconst dX5_statement_227 jv_c_iconst_0 ?_
                  refine jv_aload0 dX5_statement_228 ?_
                  refine jv_getI dX5_statement_229 flX5_80 rfl (mk hG) (mi_children hR) ?_
                  refine jv_iconst dX5_statement_232 jv_c_iconst_1 ?_
                  refine jv_isub dX5_statement_233 ?_
                  refine jv_v21 dX5_statement_234 okX5_tells inX5_tells seX5_tells mlX5_199 (ci := 5) (T := TX5) (N := 35) rfl (mk hG) c1 (by decide) (Nat.le_of_ble_eq_true rfl) ?_
                  refine jv_if_eq dX5_statement_237 (tgt := 255) (by decide) (fun hz => absurd hz (by decide)) (fun hz => ?_)
                  refine jv_aload0 dX5_statement_240 ?_
                  refine jv_iconst dX5_statement_241 jv_c_iconst_1 ?_
                  refine jv_iconst dX5_statement_242 jv_c_iconst_0 ?_
                  refine jv_aload0 dX5_statement_243 ?_
                  refine jv_getI dX5_statement_244 flX5_80 rfl (mk hG) (mi_children (F1.mr hR)) ?_
                  refine jv_iconst dX5_statement_247 jv_c_iconst_1 ?_
                  refine jv_isub dX5_statement_248 ?_
                  refine jv_v31 dX5_statement_249 okX5_number inX5_number seX5_number mlX5_195 (ci := 5) (T := TX5) (N := 35) rfl (mk hG) c2 (by decide) (Nat.le_of_ble_eq_true rfl) ?_
                  refine jv_if_ne dX5_statement_252 (tgt := 257) (by decide) (fun hz => ?_) (fun hz => absurd hz (by decide))
                  refine jv_aload0 dX5_statement_257 ?_
                  refine jv_aload0 dX5_statement_258 ?_
                  refine jv_getR dX5_statement_259 flX5_71 rfl (mk hG) (mr_told hG) ?_
                  refine jv_iconst dX5_statement_262 jv_c_iconst_0 ?_
                  refine jv_ialdN dX5_statement_263 (mk_told hG) (by omega) (by decide) v0 ?_
                  refine jv_aload0 dX5_statement_264 ?_
                  refine jv_getR dX5_statement_265 flX5_71 rfl (mk hG) (mr_told hG) ?_
                  refine jv_iconst dX5_statement_268 jv_c_iconst_1 ?_
                  refine jv_ialdN dX5_statement_269 (mk_told hG) (by omega) (by decide) v1 ?_
                  refine jv_v20 dX5_statement_270 okX5_moves inX5_moves seX5_moves mlX5_227 (ci := 5) (T := TX5) (N := 35) rfl (mk hG) cz (by decide) (Nat.le_of_ble_eq_true rfl) ?_
                  refine jv_iconst dX5_statement_273 jv_c_iconst_1 ?_
                  exact jv_iret dX5_statement_274 rfl (by decide) (ot_b1 rfl) rfl rfl
                · obtain ⟨A2, c2, f2, u2⟩ := om_number_n (J := J) hG (F1.tq hP) he2 l1 (i := 1) (by decide) (lo := 0) (h1 := (Y 10 0)) (by decide) (ot_hib_p (by omega)) k2
                  have F2 : ot_qf I A2 := F1.tr f2
                  have hr2 : ot_stM Y t n (ot_te t n e) = (none, ot_ts t n (ot_te t n (ot_te t n e))) := by unfold ot_stM; rw [ot_numk_y k1, ot_numk_n k2]
                  rw [hr2]
                  refine ⟨A2, ?_, ot_sq.no F2 u2⟩
                  refine jv_enter okX5_statement (L := [.ref 64]) rfl (Nat.le_of_ble_eq_true rfl) ?_
                  refine jv_aload0 dX5_statement_0 ?_
                  refine jv_ldcS (k := 0) (tx := "child") dX5_statement_1 (List.mem_of_getElem? (i := 6) rfl) ?_
                  refine jv_v11 dX5_statement_3 okX5_isWord inX5_isWord seX5_isWord mlX5_207 (ci := 5) (T := TX5) (N := 35) rfl (mk hG) (om_isWord hG hP (show 0 < 6 by decide) he h4) (by decide) (Nat.le_of_ble_eq_true rfl) ?_
                  refine jv_if_eqB dX5_statement_6 (tgt := 59) (by decide) (fun hz => ?_) (fun hz => absurd hz w0)
                  refine jv_aload0 dX5_statement_59 ?_
                  refine jv_ldcS (k := 1) (tx := "count") dX5_statement_60 (List.mem_of_getElem? (i := 7) rfl) ?_
                  refine jv_v11 dX5_statement_62 okX5_isWord inX5_isWord seX5_isWord mlX5_207 (ci := 5) (T := TX5) (N := 35) rfl (mk hG) (om_isWord hG hP (show 1 < 6 by decide) he h4) (by decide) (Nat.le_of_ble_eq_true rfl) ?_
                  refine jv_if_eqB dX5_statement_65 (tgt := 133) (by decide) (fun hz => ?_) (fun hz => absurd hz w1)
                  refine jv_aload0 dX5_statement_133 ?_
                  refine jv_ldcS (k := 2) (tx := "with") dX5_statement_134 (List.mem_of_getElem? (i := 8) rfl) ?_
                  refine jv_v11 dX5_statement_136 okX5_isWord inX5_isWord seX5_isWord mlX5_207 (ci := 5) (T := TX5) (N := 35) rfl (mk hG) (om_isWord hG hP (show 2 < 6 by decide) he h4) (by decide) (Nat.le_of_ble_eq_true rfl) ?_
                  refine jv_if_eqB dX5_statement_139 (tgt := 157) (by decide) (fun hz => ?_) (fun hz => absurd hz w2)
                  refine jv_aload0 dX5_statement_157 ?_
                  refine jv_ldcS (k := 3) (tx := "without") dX5_statement_158 (List.mem_of_getElem? (i := 9) rfl) ?_
                  refine jv_v11 dX5_statement_160 okX5_isWord inX5_isWord seX5_isWord mlX5_207 (ci := 5) (T := TX5) (N := 35) rfl (mk hG) (om_isWord hG hP (show 3 < 6 by decide) he h4) (by decide) (Nat.le_of_ble_eq_true rfl) ?_
                  refine jv_if_eqB dX5_statement_163 (tgt := 181) (by decide) (fun hz => ?_) (fun hz => absurd hz w3)
                  refine jv_aload0 dX5_statement_181 ?_
                  refine jv_ldcS (k := 4) (tx := "swap") dX5_statement_182 (List.mem_of_getElem? (i := 10) rfl) ?_
                  refine jv_v11 dX5_statement_184 okX5_isWord inX5_isWord seX5_isWord mlX5_207 (ci := 5) (T := TX5) (N := 35) rfl (mk hG) (om_isWord hG hP (show 4 < 6 by decide) he h4) (by decide) (Nat.le_of_ble_eq_true rfl) ?_
                  refine jv_if_eqB dX5_statement_187 (tgt := 217) (by decide) (fun hz => ?_) (fun hz => absurd hz w4)
                  refine jv_aload0 dX5_statement_217 ?_
                  refine jv_ldcS (k := 5) (tx := "move") dX5_statement_218 (List.mem_of_getElem? (i := 11) rfl) ?_
                  refine jv_v11 dX5_statement_220 okX5_isWord inX5_isWord seX5_isWord mlX5_207 (ci := 5) (T := TX5) (N := 35) rfl (mk hG) (om_isWord hG hP (show 5 < 6 by decide) he h4) (by decide) (Nat.le_of_ble_eq_true rfl) ?_
                  refine jv_if_eqB dX5_statement_223 (tgt := 275) (by decide) (fun hz => absurd w5 hz) (fun hz => ?_)
                  refine jv_aload0 dX5_statement_226 ?_
                  refine jv_iconst dX5_statement_227 jv_c_iconst_0 ?_
                  refine jv_aload0 dX5_statement_228 ?_
                  refine jv_getI dX5_statement_229 flX5_80 rfl (mk hG) (mi_children hR) ?_
                  refine jv_iconst dX5_statement_232 jv_c_iconst_1 ?_
                  refine jv_isub dX5_statement_233 ?_
                  refine jv_v21 dX5_statement_234 okX5_tells inX5_tells seX5_tells mlX5_199 (ci := 5) (T := TX5) (N := 35) rfl (mk hG) c1 (by decide) (Nat.le_of_ble_eq_true rfl) ?_
                  refine jv_if_eq dX5_statement_237 (tgt := 255) (by decide) (fun hz => absurd hz (by decide)) (fun hz => ?_)
                  refine jv_aload0 dX5_statement_240 ?_
                  refine jv_iconst dX5_statement_241 jv_c_iconst_1 ?_
                  refine jv_iconst dX5_statement_242 jv_c_iconst_0 ?_
                  refine jv_aload0 dX5_statement_243 ?_
                  refine jv_getI dX5_statement_244 flX5_80 rfl (mk hG) (mi_children (F1.mr hR)) ?_
                  refine jv_iconst dX5_statement_247 jv_c_iconst_1 ?_
                  refine jv_isub dX5_statement_248 ?_
                  refine jv_v31 dX5_statement_249 okX5_number inX5_number seX5_number mlX5_195 (ci := 5) (T := TX5) (N := 35) rfl (mk hG) c2 (by decide) (Nat.le_of_ble_eq_true rfl) ?_
                  refine jv_if_ne dX5_statement_252 (tgt := 257) (by decide) (fun hz => absurd rfl hz) (fun hz => ?_)
                  refine jv_iconst dX5_statement_255 jv_c_iconst_0 ?_
                  exact jv_iret dX5_statement_256 rfl (by decide) (ot_b0 (fun z => Bool.noConfusion z)) rfl rfl
              · obtain ⟨A1, c1, f1, u1⟩ := om_tells_n (J := J) hG hP he1 h25 (lo := 0) (h1 := (Y 10 0)) (by decide) (ot_hib_p (by omega)) k1
                have F1 : ot_qf I A1 := f1
                have hr2 : ot_stM Y t n (ot_te t n e) = (none, ot_ts t n (ot_te t n e)) := by unfold ot_stM; rw [ot_numk_n k1]
                rw [hr2]
                refine ⟨A1, ?_, ot_sq.no F1 u1⟩
                refine jv_enter okX5_statement (L := [.ref 64]) rfl (Nat.le_of_ble_eq_true rfl) ?_
                refine jv_aload0 dX5_statement_0 ?_
                refine jv_ldcS (k := 0) (tx := "child") dX5_statement_1 (List.mem_of_getElem? (i := 6) rfl) ?_
                refine jv_v11 dX5_statement_3 okX5_isWord inX5_isWord seX5_isWord mlX5_207 (ci := 5) (T := TX5) (N := 35) rfl (mk hG) (om_isWord hG hP (show 0 < 6 by decide) he h4) (by decide) (Nat.le_of_ble_eq_true rfl) ?_
                refine jv_if_eqB dX5_statement_6 (tgt := 59) (by decide) (fun hz => ?_) (fun hz => absurd hz w0)
                refine jv_aload0 dX5_statement_59 ?_
                refine jv_ldcS (k := 1) (tx := "count") dX5_statement_60 (List.mem_of_getElem? (i := 7) rfl) ?_
                refine jv_v11 dX5_statement_62 okX5_isWord inX5_isWord seX5_isWord mlX5_207 (ci := 5) (T := TX5) (N := 35) rfl (mk hG) (om_isWord hG hP (show 1 < 6 by decide) he h4) (by decide) (Nat.le_of_ble_eq_true rfl) ?_
                refine jv_if_eqB dX5_statement_65 (tgt := 133) (by decide) (fun hz => ?_) (fun hz => absurd hz w1)
                refine jv_aload0 dX5_statement_133 ?_
                refine jv_ldcS (k := 2) (tx := "with") dX5_statement_134 (List.mem_of_getElem? (i := 8) rfl) ?_
                refine jv_v11 dX5_statement_136 okX5_isWord inX5_isWord seX5_isWord mlX5_207 (ci := 5) (T := TX5) (N := 35) rfl (mk hG) (om_isWord hG hP (show 2 < 6 by decide) he h4) (by decide) (Nat.le_of_ble_eq_true rfl) ?_
                refine jv_if_eqB dX5_statement_139 (tgt := 157) (by decide) (fun hz => ?_) (fun hz => absurd hz w2)
                refine jv_aload0 dX5_statement_157 ?_
                refine jv_ldcS (k := 3) (tx := "without") dX5_statement_158 (List.mem_of_getElem? (i := 9) rfl) ?_
                refine jv_v11 dX5_statement_160 okX5_isWord inX5_isWord seX5_isWord mlX5_207 (ci := 5) (T := TX5) (N := 35) rfl (mk hG) (om_isWord hG hP (show 3 < 6 by decide) he h4) (by decide) (Nat.le_of_ble_eq_true rfl) ?_
                refine jv_if_eqB dX5_statement_163 (tgt := 181) (by decide) (fun hz => ?_) (fun hz => absurd hz w3)
                refine jv_aload0 dX5_statement_181 ?_
                refine jv_ldcS (k := 4) (tx := "swap") dX5_statement_182 (List.mem_of_getElem? (i := 10) rfl) ?_
                refine jv_v11 dX5_statement_184 okX5_isWord inX5_isWord seX5_isWord mlX5_207 (ci := 5) (T := TX5) (N := 35) rfl (mk hG) (om_isWord hG hP (show 4 < 6 by decide) he h4) (by decide) (Nat.le_of_ble_eq_true rfl) ?_
                refine jv_if_eqB dX5_statement_187 (tgt := 217) (by decide) (fun hz => ?_) (fun hz => absurd hz w4)
                refine jv_aload0 dX5_statement_217 ?_
                refine jv_ldcS (k := 5) (tx := "move") dX5_statement_218 (List.mem_of_getElem? (i := 11) rfl) ?_
                refine jv_v11 dX5_statement_220 okX5_isWord inX5_isWord seX5_isWord mlX5_207 (ci := 5) (T := TX5) (N := 35) rfl (mk hG) (om_isWord hG hP (show 5 < 6 by decide) he h4) (by decide) (Nat.le_of_ble_eq_true rfl) ?_
                refine jv_if_eqB dX5_statement_223 (tgt := 275) (by decide) (fun hz => absurd w5 hz) (fun hz => ?_)
                refine jv_aload0 dX5_statement_226 ?_
                refine jv_iconst dX5_statement_227 jv_c_iconst_0 ?_
                refine jv_aload0 dX5_statement_228 ?_
                refine jv_getI dX5_statement_229 flX5_80 rfl (mk hG) (mi_children hR) ?_
                refine jv_iconst dX5_statement_232 jv_c_iconst_1 ?_
                refine jv_isub dX5_statement_233 ?_
                refine jv_v21 dX5_statement_234 okX5_tells inX5_tells seX5_tells mlX5_199 (ci := 5) (T := TX5) (N := 35) rfl (mk hG) c1 (by decide) (Nat.le_of_ble_eq_true rfl) ?_
                refine jv_if_eq dX5_statement_237 (tgt := 255) (by decide) (fun hz => ?_) (fun hz => absurd rfl hz)
                refine jv_iconst dX5_statement_255 jv_c_iconst_0 ?_
                exact jv_iret dX5_statement_256 rfl (by decide) (ot_b0 (fun z => Bool.noConfusion z)) rfl rfl
            · skip
              have hr : ot_stm Y t n e = (none, ot_ts t n e) := by unfold ot_stm; rw [if_neg w0, if_neg w1, if_neg w2, if_neg w3, if_neg w4, if_neg w5]
              rw [hr]
              refine ⟨jv_up I 64 29 (nI (ot_ts t n e)), ?_, ot_sq.no ot_qf.rf.w (jv_up_at _ _ _ _)⟩
              refine jv_enter okX5_statement (L := [.ref 64]) rfl (Nat.le_of_ble_eq_true rfl) ?_
              refine jv_aload0 dX5_statement_0 ?_
              refine jv_ldcS (k := 0) (tx := "child") dX5_statement_1 (List.mem_of_getElem? (i := 6) rfl) ?_
              refine jv_v11 dX5_statement_3 okX5_isWord inX5_isWord seX5_isWord mlX5_207 (ci := 5) (T := TX5) (N := 35) rfl (mk hG) (om_isWord hG hP (show 0 < 6 by decide) he h4) (by decide) (Nat.le_of_ble_eq_true rfl) ?_
              refine jv_if_eqB dX5_statement_6 (tgt := 59) (by decide) (fun hz => ?_) (fun hz => absurd hz w0)
              refine jv_aload0 dX5_statement_59 ?_
              refine jv_ldcS (k := 1) (tx := "count") dX5_statement_60 (List.mem_of_getElem? (i := 7) rfl) ?_
              refine jv_v11 dX5_statement_62 okX5_isWord inX5_isWord seX5_isWord mlX5_207 (ci := 5) (T := TX5) (N := 35) rfl (mk hG) (om_isWord hG hP (show 1 < 6 by decide) he h4) (by decide) (Nat.le_of_ble_eq_true rfl) ?_
              refine jv_if_eqB dX5_statement_65 (tgt := 133) (by decide) (fun hz => ?_) (fun hz => absurd hz w1)
              refine jv_aload0 dX5_statement_133 ?_
              refine jv_ldcS (k := 2) (tx := "with") dX5_statement_134 (List.mem_of_getElem? (i := 8) rfl) ?_
              refine jv_v11 dX5_statement_136 okX5_isWord inX5_isWord seX5_isWord mlX5_207 (ci := 5) (T := TX5) (N := 35) rfl (mk hG) (om_isWord hG hP (show 2 < 6 by decide) he h4) (by decide) (Nat.le_of_ble_eq_true rfl) ?_
              refine jv_if_eqB dX5_statement_139 (tgt := 157) (by decide) (fun hz => ?_) (fun hz => absurd hz w2)
              refine jv_aload0 dX5_statement_157 ?_
              refine jv_ldcS (k := 3) (tx := "without") dX5_statement_158 (List.mem_of_getElem? (i := 9) rfl) ?_
              refine jv_v11 dX5_statement_160 okX5_isWord inX5_isWord seX5_isWord mlX5_207 (ci := 5) (T := TX5) (N := 35) rfl (mk hG) (om_isWord hG hP (show 3 < 6 by decide) he h4) (by decide) (Nat.le_of_ble_eq_true rfl) ?_
              refine jv_if_eqB dX5_statement_163 (tgt := 181) (by decide) (fun hz => ?_) (fun hz => absurd hz w3)
              refine jv_aload0 dX5_statement_181 ?_
              refine jv_ldcS (k := 4) (tx := "swap") dX5_statement_182 (List.mem_of_getElem? (i := 10) rfl) ?_
              refine jv_v11 dX5_statement_184 okX5_isWord inX5_isWord seX5_isWord mlX5_207 (ci := 5) (T := TX5) (N := 35) rfl (mk hG) (om_isWord hG hP (show 4 < 6 by decide) he h4) (by decide) (Nat.le_of_ble_eq_true rfl) ?_
              refine jv_if_eqB dX5_statement_187 (tgt := 217) (by decide) (fun hz => ?_) (fun hz => absurd hz w4)
              refine jv_aload0 dX5_statement_217 ?_
              refine jv_ldcS (k := 5) (tx := "move") dX5_statement_218 (List.mem_of_getElem? (i := 11) rfl) ?_
              refine jv_v11 dX5_statement_220 okX5_isWord inX5_isWord seX5_isWord mlX5_207 (ci := 5) (T := TX5) (N := 35) rfl (mk hG) (om_isWord hG hP (show 5 < 6 by decide) he h4) (by decide) (Nat.le_of_ble_eq_true rfl) ?_
              refine jv_if_eqB dX5_statement_223 (tgt := 275) (by decide) (fun hz => ?_) (fun hz => absurd hz w5)
              refine jv_aload0 dX5_statement_275 ?_
              refine jv_v01 dX5_statement_276 okX5_wrong inX5_wrong seX5_wrong mlX5_188 (ci := 5) (T := TX5) (N := 35) rfl (mk hG) (om_wrong hG h4.2.1) (by decide) (Nat.le_of_ble_eq_true rfl) ?_
              exact jv_iret dX5_statement_279 rfl (by decide) (ot_b0 (fun z => Bool.noConfusion z)) rfl rfl
