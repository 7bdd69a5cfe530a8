/-! ===== yard: the component's statement, text, and face ===== -/
set_option maxRecDepth 20000 in
theorem oc_statement {G : jv_Gr} {I : jv_I} {J : jv_J} (hg : ot_CG G) {n : Nat} {t : Nat → Nat} (hP : ot_tp I n t) {Y : ot_Y} (hY : ot_YR I 26 Y) (hW : ot_YW Y) {e : Nat} (he : e ≤ n) (h4 : I 44 4 = nI e) : ∃ I2, jv_C 6 mX2_readStatement [.ref 44, .ref 26] G I J (some (.int (jv_b ((ot_stm Y t n e).1.isSome = true)))) G I2 J ∧ ot_rp I I2 (ot_stm Y t n e) := by
  have bn := yw_n hW
  have bc := yw_c hW
  have bw := yw_w hW
  obtain ⟨A1, c1, F1, t1⟩ := oc_nextToken (J := J) hg hP he h4
  have hP1 := F1.tp hP
  have hY1 := F1.yr hY
  have he1 := ot_te_le t he
  have bk := ot_tn_4 t n e
  by_cases w0 : ot_isW t n e 0 = true
  · have hr : ot_stm Y t n e = (if Y 10 0 < 14 then ot_stC Y t n (ot_te t n e) else (none, ot_ts t n e)) := by unfold ot_stm; rw [if_pos w0]
    rw [hr]
    by_cases hlt : Y 10 0 < 14
    · rw [if_pos hlt]
      obtain ⟨I2, c2, hr2⟩ := oc_readChild hg hP1 hY1 hW he1 t1.2.2 hlt (J := J)
      refine ⟨I2, ?_, ot_rp.pre F1 hr2⟩
      refine jv_enter okX2_readStatement (L := [.ref 44, .ref 26]) rfl (Nat.le_of_ble_eq_true rfl) ?_
      refine jv_aload0 dX2_readStatement_0 ?_
      refine jv_v00 dX2_readStatement_1 okX2_nextToken inX2_nextToken seX2_nextToken mlX2_32 (ci := 2) (T := TX2) (N := 5) rfl (tk hg) c1 (by decide) (Nat.le_of_ble_eq_true rfl) ?_
      refine jv_aload0 dX2_readStatement_4 ?_
      refine jv_ldcS (k := 0) (tx := "child") dX2_readStatement_5 (List.mem_of_getElem? (i := 0) rfl) ?_
      refine jv_v11 dX2_readStatement_7 okX2_isWord inX2_isWord seX2_isWord mlX2_55 (ci := 2) (T := TX2) (N := 5) rfl (tk hg) (oc_isWord hg hP1 (show 0 < 6 by decide) he t1) (by decide) (Nat.le_of_ble_eq_true rfl) ?_
      refine jv_if_eqB dX2_readStatement_10 (tgt := 36) (by decide) (fun hz => absurd w0 hz) (fun hz => ?_)
      refine jv_aload1 dX2_readStatement_13 ?_
      refine jv_getI dX2_readStatement_14 flX2_59 rfl (yk (cg_draft hg)) (yi_children hY1) ?_
      refine jv_bipush dX2_readStatement_17 jv_c_bipush_14 ?_
      refine jv_icmp_geN dX2_readStatement_19 (tgt := 34) (by decide) (by omega) (by omega) (fun hc19 => by omega) (fun hc19 => ?_)
      refine jv_aload0 dX2_readStatement_22 ?_
      refine jv_aload1 dX2_readStatement_23 ?_
      refine jv_v11 dX2_readStatement_24 okX2_readChild inX2_readChild seX2_readChild mlX2_64 (ci := 2) (T := TX2) (N := 5) rfl (tk hg) c2 (by decide) (Nat.le_of_ble_eq_true rfl) ?_
      refine jv_if_eqB dX2_readStatement_27 (tgt := 34) (by decide) (fun hq => ?_) (fun hq => ?_)
      · refine jv_iconst dX2_readStatement_34 jv_c_iconst_0 ?_
        exact jv_iret dX2_readStatement_35 rfl (by decide) (ot_b0 hq) rfl rfl
      · refine jv_iconst dX2_readStatement_30 jv_c_iconst_1 ?_
        refine jv_goto dX2_readStatement_31 (tgt := 35) (by decide) ?_
        exact jv_iret dX2_readStatement_35 rfl (by decide) (ot_b1 hq) rfl rfl
    · rw [if_neg hlt]
      refine ⟨A1, ?_, ot_rp.no F1 t1.2.1⟩
      refine jv_enter okX2_readStatement (L := [.ref 44, .ref 26]) rfl (Nat.le_of_ble_eq_true rfl) ?_
      refine jv_aload0 dX2_readStatement_0 ?_
      refine jv_v00 dX2_readStatement_1 okX2_nextToken inX2_nextToken seX2_nextToken mlX2_32 (ci := 2) (T := TX2) (N := 5) rfl (tk hg) c1 (by decide) (Nat.le_of_ble_eq_true rfl) ?_
      refine jv_aload0 dX2_readStatement_4 ?_
      refine jv_ldcS (k := 0) (tx := "child") dX2_readStatement_5 (List.mem_of_getElem? (i := 0) rfl) ?_
      refine jv_v11 dX2_readStatement_7 okX2_isWord inX2_isWord seX2_isWord mlX2_55 (ci := 2) (T := TX2) (N := 5) rfl (tk hg) (oc_isWord hg hP1 (show 0 < 6 by decide) he t1) (by decide) (Nat.le_of_ble_eq_true rfl) ?_
      refine jv_if_eqB dX2_readStatement_10 (tgt := 36) (by decide) (fun hz => absurd w0 hz) (fun hz => ?_)
      refine jv_aload1 dX2_readStatement_13 ?_
      refine jv_getI dX2_readStatement_14 flX2_59 rfl (yk (cg_draft hg)) (yi_children hY1) ?_
      refine jv_bipush dX2_readStatement_17 jv_c_bipush_14 ?_
      refine jv_icmp_geN dX2_readStatement_19 (tgt := 34) (by decide) (by omega) (by omega) (fun hc19 => ?_) (fun hc19 => by omega)
      refine jv_iconst dX2_readStatement_34 jv_c_iconst_0 ?_
      exact jv_iret dX2_readStatement_35 rfl (by decide) (ot_b0 (fun z => Bool.noConfusion z)) rfl rfl
  · skip
    by_cases w1 : ot_isW t n e 1 = true
    · have hr : ot_stm Y t n e = (if Y 10 1 < 6 then ot_stK Y t n (ot_te t n e) else (none, ot_ts t n e)) := by unfold ot_stm; rw [if_neg w0, if_pos w1]
      rw [hr]
      by_cases hlt : Y 10 1 < 6
      · rw [if_pos hlt]
        obtain ⟨I2, c2, hr2⟩ := oc_readCount hg hP1 hY1 hW he1 t1.2.2 hlt (J := J)
        refine ⟨I2, ?_, ot_rp.pre F1 hr2⟩
        refine jv_enter okX2_readStatement (L := [.ref 44, .ref 26]) rfl (Nat.le_of_ble_eq_true rfl) ?_
        refine jv_aload0 dX2_readStatement_0 ?_
        refine jv_v00 dX2_readStatement_1 okX2_nextToken inX2_nextToken seX2_nextToken mlX2_32 (ci := 2) (T := TX2) (N := 5) rfl (tk hg) c1 (by decide) (Nat.le_of_ble_eq_true rfl) ?_
        refine jv_aload0 dX2_readStatement_4 ?_
        refine jv_ldcS (k := 0) (tx := "child") dX2_readStatement_5 (List.mem_of_getElem? (i := 0) rfl) ?_
        refine jv_v11 dX2_readStatement_7 okX2_isWord inX2_isWord seX2_isWord mlX2_55 (ci := 2) (T := TX2) (N := 5) rfl (tk hg) (oc_isWord hg hP1 (show 0 < 6 by decide) he t1) (by decide) (Nat.le_of_ble_eq_true rfl) ?_
        refine jv_if_eqB dX2_readStatement_10 (tgt := 36) (by decide) (fun hz => ?_) (fun hz => absurd hz w0)
        refine jv_aload0 dX2_readStatement_36 ?_
        refine jv_ldcS (k := 1) (tx := "count") dX2_readStatement_37 (List.mem_of_getElem? (i := 1) rfl) ?_
        refine jv_v11 dX2_readStatement_39 okX2_isWord inX2_isWord seX2_isWord mlX2_55 (ci := 2) (T := TX2) (N := 5) rfl (tk hg) (oc_isWord hg hP1 (show 1 < 6 by decide) he t1) (by decide) (Nat.le_of_ble_eq_true rfl) ?_
        refine jv_if_eqB dX2_readStatement_42 (tgt := 68) (by decide) (fun hz => absurd w1 hz) (fun hz => ?_)
        refine jv_aload1 dX2_readStatement_45 ?_
        refine jv_getI dX2_readStatement_46 flX2_69 rfl (yk (cg_draft hg)) (yi_counts hY1) ?_
        refine jv_bipush dX2_readStatement_49 jv_c_bipush_6 ?_
        refine jv_icmp_geN dX2_readStatement_51 (tgt := 66) (by decide) (by omega) (by omega) (fun hc51 => by omega) (fun hc51 => ?_)
        refine jv_aload0 dX2_readStatement_54 ?_
        refine jv_aload1 dX2_readStatement_55 ?_
        refine jv_v11 dX2_readStatement_56 okX2_readCount inX2_readCount seX2_readCount mlX2_72 (ci := 2) (T := TX2) (N := 5) rfl (tk hg) c2 (by decide) (Nat.le_of_ble_eq_true rfl) ?_
        refine jv_if_eqB dX2_readStatement_59 (tgt := 66) (by decide) (fun hq => ?_) (fun hq => ?_)
        · refine jv_iconst dX2_readStatement_66 jv_c_iconst_0 ?_
          exact jv_iret dX2_readStatement_67 rfl (by decide) (ot_b0 hq) rfl rfl
        · refine jv_iconst dX2_readStatement_62 jv_c_iconst_1 ?_
          refine jv_goto dX2_readStatement_63 (tgt := 67) (by decide) ?_
          exact jv_iret dX2_readStatement_67 rfl (by decide) (ot_b1 hq) rfl rfl
      · rw [if_neg hlt]
        refine ⟨A1, ?_, ot_rp.no F1 t1.2.1⟩
        refine jv_enter okX2_readStatement (L := [.ref 44, .ref 26]) rfl (Nat.le_of_ble_eq_true rfl) ?_
        refine jv_aload0 dX2_readStatement_0 ?_
        refine jv_v00 dX2_readStatement_1 okX2_nextToken inX2_nextToken seX2_nextToken mlX2_32 (ci := 2) (T := TX2) (N := 5) rfl (tk hg) c1 (by decide) (Nat.le_of_ble_eq_true rfl) ?_
        refine jv_aload0 dX2_readStatement_4 ?_
        refine jv_ldcS (k := 0) (tx := "child") dX2_readStatement_5 (List.mem_of_getElem? (i := 0) rfl) ?_
        refine jv_v11 dX2_readStatement_7 okX2_isWord inX2_isWord seX2_isWord mlX2_55 (ci := 2) (T := TX2) (N := 5) rfl (tk hg) (oc_isWord hg hP1 (show 0 < 6 by decide) he t1) (by decide) (Nat.le_of_ble_eq_true rfl) ?_
        refine jv_if_eqB dX2_readStatement_10 (tgt := 36) (by decide) (fun hz => ?_) (fun hz => absurd hz w0)
        refine jv_aload0 dX2_readStatement_36 ?_
        refine jv_ldcS (k := 1) (tx := "count") dX2_readStatement_37 (List.mem_of_getElem? (i := 1) rfl) ?_
        refine jv_v11 dX2_readStatement_39 okX2_isWord inX2_isWord seX2_isWord mlX2_55 (ci := 2) (T := TX2) (N := 5) rfl (tk hg) (oc_isWord hg hP1 (show 1 < 6 by decide) he t1) (by decide) (Nat.le_of_ble_eq_true rfl) ?_
        refine jv_if_eqB dX2_readStatement_42 (tgt := 68) (by decide) (fun hz => absurd w1 hz) (fun hz => ?_)
        refine jv_aload1 dX2_readStatement_45 ?_
        refine jv_getI dX2_readStatement_46 flX2_69 rfl (yk (cg_draft hg)) (yi_counts hY1) ?_
        refine jv_bipush dX2_readStatement_49 jv_c_bipush_6 ?_
        refine jv_icmp_geN dX2_readStatement_51 (tgt := 66) (by decide) (by omega) (by omega) (fun hc51 => ?_) (fun hc51 => by omega)
        refine jv_iconst dX2_readStatement_66 jv_c_iconst_0 ?_
        exact jv_iret dX2_readStatement_67 rfl (by decide) (ot_b0 (fun z => Bool.noConfusion z)) rfl rfl
    · skip
      by_cases w2 : ot_isW t n e 2 = true
      · have hr : ot_stm Y t n e = (if Y 10 2 < 20 then ot_stW Y t n (ot_te t n e) 1 else (none, ot_ts t n e)) := by unfold ot_stm; rw [if_neg w0, if_neg w1, if_pos w2]
        rw [hr]
        by_cases hlt : Y 10 2 < 20
        · rw [if_pos hlt]
          obtain ⟨I2, c2, hr2⟩ := oc_readWish hg hP1 hY1 hW he1 t1.2.2 (g := 1) (by decide) hlt (J := J)
          refine ⟨I2, ?_, ot_rp.pre F1 hr2⟩
          refine jv_enter okX2_readStatement (L := [.ref 44, .ref 26]) rfl (Nat.le_of_ble_eq_true rfl) ?_
          refine jv_aload0 dX2_readStatement_0 ?_
          refine jv_v00 dX2_readStatement_1 okX2_nextToken inX2_nextToken seX2_nextToken mlX2_32 (ci := 2) (T := TX2) (N := 5) rfl (tk hg) c1 (by decide) (Nat.le_of_ble_eq_true rfl) ?_
          refine jv_aload0 dX2_readStatement_4 ?_
          refine jv_ldcS (k := 0) (tx := "child") dX2_readStatement_5 (List.mem_of_getElem? (i := 0) rfl) ?_
          refine jv_v11 dX2_readStatement_7 okX2_isWord inX2_isWord seX2_isWord mlX2_55 (ci := 2) (T := TX2) (N := 5) rfl (tk hg) (oc_isWord hg hP1 (show 0 < 6 by decide) he t1) (by decide) (Nat.le_of_ble_eq_true rfl) ?_
          refine jv_if_eqB dX2_readStatement_10 (tgt := 36) (by decide) (fun hz => ?_) (fun hz => absurd hz w0)
          refine jv_aload0 dX2_readStatement_36 ?_
          refine jv_ldcS (k := 1) (tx := "count") dX2_readStatement_37 (List.mem_of_getElem? (i := 1) rfl) ?_
          refine jv_v11 dX2_readStatement_39 okX2_isWord inX2_isWord seX2_isWord mlX2_55 (ci := 2) (T := TX2) (N := 5) rfl (tk hg) (oc_isWord hg hP1 (show 1 < 6 by decide) he t1) (by decide) (Nat.le_of_ble_eq_true rfl) ?_
          refine jv_if_eqB dX2_readStatement_42 (tgt := 68) (by decide) (fun hz => ?_) (fun hz => absurd hz w1)
          refine jv_aload0 dX2_readStatement_68 ?_
          refine jv_ldcS (k := 2) (tx := "with") dX2_readStatement_69 (List.mem_of_getElem? (i := 2) rfl) ?_
          refine jv_v11 dX2_readStatement_71 okX2_isWord inX2_isWord seX2_isWord mlX2_55 (ci := 2) (T := TX2) (N := 5) rfl (tk hg) (oc_isWord hg hP1 (show 2 < 6 by decide) he t1) (by decide) (Nat.le_of_ble_eq_true rfl) ?_
          refine jv_if_eqB dX2_readStatement_74 (tgt := 101) (by decide) (fun hz => absurd w2 hz) (fun hz => ?_)
          refine jv_aload1 dX2_readStatement_77 ?_
          refine jv_getI dX2_readStatement_78 flX2_77 rfl (yk (cg_draft hg)) (yi_wishes hY1) ?_
          refine jv_bipush dX2_readStatement_81 jv_c_bipush_20 ?_
          refine jv_icmp_geN dX2_readStatement_83 (tgt := 99) (by decide) (by omega) (by omega) (fun hc83 => by omega) (fun hc83 => ?_)
          refine jv_aload0 dX2_readStatement_86 ?_
          refine jv_aload1 dX2_readStatement_87 ?_
          refine jv_iconst dX2_readStatement_88 jv_c_iconst_1 ?_
          refine jv_v21 dX2_readStatement_89 okX2_readWish inX2_readWish seX2_readWish mlX2_80 (ci := 2) (T := TX2) (N := 5) rfl (tk hg) c2 (by decide) (Nat.le_of_ble_eq_true rfl) ?_
          refine jv_if_eqB dX2_readStatement_92 (tgt := 99) (by decide) (fun hq => ?_) (fun hq => ?_)
          · refine jv_iconst dX2_readStatement_99 jv_c_iconst_0 ?_
            exact jv_iret dX2_readStatement_100 rfl (by decide) (ot_b0 hq) rfl rfl
          · refine jv_iconst dX2_readStatement_95 jv_c_iconst_1 ?_
            refine jv_goto dX2_readStatement_96 (tgt := 100) (by decide) ?_
            exact jv_iret dX2_readStatement_100 rfl (by decide) (ot_b1 hq) rfl rfl
        · rw [if_neg hlt]
          refine ⟨A1, ?_, ot_rp.no F1 t1.2.1⟩
          refine jv_enter okX2_readStatement (L := [.ref 44, .ref 26]) rfl (Nat.le_of_ble_eq_true rfl) ?_
          refine jv_aload0 dX2_readStatement_0 ?_
          refine jv_v00 dX2_readStatement_1 okX2_nextToken inX2_nextToken seX2_nextToken mlX2_32 (ci := 2) (T := TX2) (N := 5) rfl (tk hg) c1 (by decide) (Nat.le_of_ble_eq_true rfl) ?_
          refine jv_aload0 dX2_readStatement_4 ?_
          refine jv_ldcS (k := 0) (tx := "child") dX2_readStatement_5 (List.mem_of_getElem? (i := 0) rfl) ?_
          refine jv_v11 dX2_readStatement_7 okX2_isWord inX2_isWord seX2_isWord mlX2_55 (ci := 2) (T := TX2) (N := 5) rfl (tk hg) (oc_isWord hg hP1 (show 0 < 6 by decide) he t1) (by decide) (Nat.le_of_ble_eq_true rfl) ?_
          refine jv_if_eqB dX2_readStatement_10 (tgt := 36) (by decide) (fun hz => ?_) (fun hz => absurd hz w0)
          refine jv_aload0 dX2_readStatement_36 ?_
          refine jv_ldcS (k := 1) (tx := "count") dX2_readStatement_37 (List.mem_of_getElem? (i := 1) rfl) ?_
          refine jv_v11 dX2_readStatement_39 okX2_isWord inX2_isWord seX2_isWord mlX2_55 (ci := 2) (T := TX2) (N := 5) rfl (tk hg) (oc_isWord hg hP1 (show 1 < 6 by decide) he t1) (by decide) (Nat.le_of_ble_eq_true rfl) ?_
          refine jv_if_eqB dX2_readStatement_42 (tgt := 68) (by decide) (fun hz => ?_) (fun hz => absurd hz w1)
          refine jv_aload0 dX2_readStatement_68 ?_
          refine jv_ldcS (k := 2) (tx := "with") dX2_readStatement_69 (List.mem_of_getElem? (i := 2) rfl) ?_
          refine jv_v11 dX2_readStatement_71 okX2_isWord inX2_isWord seX2_isWord mlX2_55 (ci := 2) (T := TX2) (N := 5) rfl (tk hg) (oc_isWord hg hP1 (show 2 < 6 by decide) he t1) (by decide) (Nat.le_of_ble_eq_true rfl) ?_
          refine jv_if_eqB dX2_readStatement_74 (tgt := 101) (by decide) (fun hz => absurd w2 hz) (fun hz => ?_)
          refine jv_aload1 dX2_readStatement_77 ?_
          refine jv_getI dX2_readStatement_78 flX2_77 rfl (yk (cg_draft hg)) (yi_wishes hY1) ?_
          refine jv_bipush dX2_readStatement_81 jv_c_bipush_20 ?_
          refine jv_icmp_geN dX2_readStatement_83 (tgt := 99) (by decide) (by omega) (by omega) (fun hc83 => ?_) (fun hc83 => by omega)
          refine jv_iconst dX2_readStatement_99 jv_c_iconst_0 ?_
          exact jv_iret dX2_readStatement_100 rfl (by decide) (ot_b0 (fun z => Bool.noConfusion z)) rfl rfl
      · skip
        by_cases w3 : ot_isW t n e 3 = true
        · have hr : ot_stm Y t n e = (if Y 10 2 < 20 then ot_stW Y t n (ot_te t n e) 0 else (none, ot_ts t n e)) := by unfold ot_stm; rw [if_neg w0, if_neg w1, if_neg w2, if_pos w3]
          rw [hr]
          by_cases hlt : Y 10 2 < 20
          · rw [if_pos hlt]
            obtain ⟨I2, c2, hr2⟩ := oc_readWish hg hP1 hY1 hW he1 t1.2.2 (g := 0) (by decide) hlt (J := J)
            refine ⟨I2, ?_, ot_rp.pre F1 hr2⟩
            refine jv_enter okX2_readStatement (L := [.ref 44, .ref 26]) rfl (Nat.le_of_ble_eq_true rfl) ?_
            refine jv_aload0 dX2_readStatement_0 ?_
            refine jv_v00 dX2_readStatement_1 okX2_nextToken inX2_nextToken seX2_nextToken mlX2_32 (ci := 2) (T := TX2) (N := 5) rfl (tk hg) c1 (by decide) (Nat.le_of_ble_eq_true rfl) ?_
            refine jv_aload0 dX2_readStatement_4 ?_
            refine jv_ldcS (k := 0) (tx := "child") dX2_readStatement_5 (List.mem_of_getElem? (i := 0) rfl) ?_
            refine jv_v11 dX2_readStatement_7 okX2_isWord inX2_isWord seX2_isWord mlX2_55 (ci := 2) (T := TX2) (N := 5) rfl (tk hg) (oc_isWord hg hP1 (show 0 < 6 by decide) he t1) (by decide) (Nat.le_of_ble_eq_true rfl) ?_
            refine jv_if_eqB dX2_readStatement_10 (tgt := 36) (by decide) (fun hz => ?_) (fun hz => absurd hz w0)
            refine jv_aload0 dX2_readStatement_36 ?_
            refine jv_ldcS (k := 1) (tx := "count") dX2_readStatement_37 (List.mem_of_getElem? (i := 1) rfl) ?_
            refine jv_v11 dX2_readStatement_39 okX2_isWord inX2_isWord seX2_isWord mlX2_55 (ci := 2) (T := TX2) (N := 5) rfl (tk hg) (oc_isWord hg hP1 (show 1 < 6 by decide) he t1) (by decide) (Nat.le_of_ble_eq_true rfl) ?_
            refine jv_if_eqB dX2_readStatement_42 (tgt := 68) (by decide) (fun hz => ?_) (fun hz => absurd hz w1)
            refine jv_aload0 dX2_readStatement_68 ?_
            refine jv_ldcS (k := 2) (tx := "with") dX2_readStatement_69 (List.mem_of_getElem? (i := 2) rfl) ?_
            refine jv_v11 dX2_readStatement_71 okX2_isWord inX2_isWord seX2_isWord mlX2_55 (ci := 2) (T := TX2) (N := 5) rfl (tk hg) (oc_isWord hg hP1 (show 2 < 6 by decide) he t1) (by decide) (Nat.le_of_ble_eq_true rfl) ?_
            refine jv_if_eqB dX2_readStatement_74 (tgt := 101) (by decide) (fun hz => ?_) (fun hz => absurd hz w2)
            refine jv_aload0 dX2_readStatement_101 ?_
            refine jv_ldcS (k := 3) (tx := "without") dX2_readStatement_102 (List.mem_of_getElem? (i := 3) rfl) ?_
            refine jv_v11 dX2_readStatement_104 okX2_isWord inX2_isWord seX2_isWord mlX2_55 (ci := 2) (T := TX2) (N := 5) rfl (tk hg) (oc_isWord hg hP1 (show 3 < 6 by decide) he t1) (by decide) (Nat.le_of_ble_eq_true rfl) ?_
            refine jv_if_eqB dX2_readStatement_107 (tgt := 134) (by decide) (fun hz => absurd w3 hz) (fun hz => ?_)
            refine jv_aload1 dX2_readStatement_110 ?_
            refine jv_getI dX2_readStatement_111 flX2_77 rfl (yk (cg_draft hg)) (yi_wishes hY1) ?_
            refine jv_bipush dX2_readStatement_114 jv_c_bipush_20 ?_
            refine jv_icmp_geN dX2_readStatement_116 (tgt := 132) (by decide) (by omega) (by omega) (fun hc116 => by omega) (fun hc116 => ?_)
            refine jv_aload0 dX2_readStatement_119 ?_
            refine jv_aload1 dX2_readStatement_120 ?_
            refine jv_iconst dX2_readStatement_121 jv_c_iconst_0 ?_
            refine jv_v21 dX2_readStatement_122 okX2_readWish inX2_readWish seX2_readWish mlX2_80 (ci := 2) (T := TX2) (N := 5) rfl (tk hg) c2 (by decide) (Nat.le_of_ble_eq_true rfl) ?_
            refine jv_if_eqB dX2_readStatement_125 (tgt := 132) (by decide) (fun hq => ?_) (fun hq => ?_)
            · refine jv_iconst dX2_readStatement_132 jv_c_iconst_0 ?_
              exact jv_iret dX2_readStatement_133 rfl (by decide) (ot_b0 hq) rfl rfl
            · refine jv_iconst dX2_readStatement_128 jv_c_iconst_1 ?_
              refine jv_goto dX2_readStatement_129 (tgt := 133) (by decide) ?_
              exact jv_iret dX2_readStatement_133 rfl (by decide) (ot_b1 hq) rfl rfl
          · rw [if_neg hlt]
            refine ⟨A1, ?_, ot_rp.no F1 t1.2.1⟩
            refine jv_enter okX2_readStatement (L := [.ref 44, .ref 26]) rfl (Nat.le_of_ble_eq_true rfl) ?_
            refine jv_aload0 dX2_readStatement_0 ?_
            refine jv_v00 dX2_readStatement_1 okX2_nextToken inX2_nextToken seX2_nextToken mlX2_32 (ci := 2) (T := TX2) (N := 5) rfl (tk hg) c1 (by decide) (Nat.le_of_ble_eq_true rfl) ?_
            refine jv_aload0 dX2_readStatement_4 ?_
            refine jv_ldcS (k := 0) (tx := "child") dX2_readStatement_5 (List.mem_of_getElem? (i := 0) rfl) ?_
            refine jv_v11 dX2_readStatement_7 okX2_isWord inX2_isWord seX2_isWord mlX2_55 (ci := 2) (T := TX2) (N := 5) rfl (tk hg) (oc_isWord hg hP1 (show 0 < 6 by decide) he t1) (by decide) (Nat.le_of_ble_eq_true rfl) ?_
            refine jv_if_eqB dX2_readStatement_10 (tgt := 36) (by decide) (fun hz => ?_) (fun hz => absurd hz w0)
            refine jv_aload0 dX2_readStatement_36 ?_
            refine jv_ldcS (k := 1) (tx := "count") dX2_readStatement_37 (List.mem_of_getElem? (i := 1) rfl) ?_
            refine jv_v11 dX2_readStatement_39 okX2_isWord inX2_isWord seX2_isWord mlX2_55 (ci := 2) (T := TX2) (N := 5) rfl (tk hg) (oc_isWord hg hP1 (show 1 < 6 by decide) he t1) (by decide) (Nat.le_of_ble_eq_true rfl) ?_
            refine jv_if_eqB dX2_readStatement_42 (tgt := 68) (by decide) (fun hz => ?_) (fun hz => absurd hz w1)
            refine jv_aload0 dX2_readStatement_68 ?_
            refine jv_ldcS (k := 2) (tx := "with") dX2_readStatement_69 (List.mem_of_getElem? (i := 2) rfl) ?_
            refine jv_v11 dX2_readStatement_71 okX2_isWord inX2_isWord seX2_isWord mlX2_55 (ci := 2) (T := TX2) (N := 5) rfl (tk hg) (oc_isWord hg hP1 (show 2 < 6 by decide) he t1) (by decide) (Nat.le_of_ble_eq_true rfl) ?_
            refine jv_if_eqB dX2_readStatement_74 (tgt := 101) (by decide) (fun hz => ?_) (fun hz => absurd hz w2)
            refine jv_aload0 dX2_readStatement_101 ?_
            refine jv_ldcS (k := 3) (tx := "without") dX2_readStatement_102 (List.mem_of_getElem? (i := 3) rfl) ?_
            refine jv_v11 dX2_readStatement_104 okX2_isWord inX2_isWord seX2_isWord mlX2_55 (ci := 2) (T := TX2) (N := 5) rfl (tk hg) (oc_isWord hg hP1 (show 3 < 6 by decide) he t1) (by decide) (Nat.le_of_ble_eq_true rfl) ?_
            refine jv_if_eqB dX2_readStatement_107 (tgt := 134) (by decide) (fun hz => absurd w3 hz) (fun hz => ?_)
            refine jv_aload1 dX2_readStatement_110 ?_
            refine jv_getI dX2_readStatement_111 flX2_77 rfl (yk (cg_draft hg)) (yi_wishes hY1) ?_
            refine jv_bipush dX2_readStatement_114 jv_c_bipush_20 ?_
            refine jv_icmp_geN dX2_readStatement_116 (tgt := 132) (by decide) (by omega) (by omega) (fun hc116 => ?_) (fun hc116 => by omega)
            refine jv_iconst dX2_readStatement_132 jv_c_iconst_0 ?_
            exact jv_iret dX2_readStatement_133 rfl (by decide) (ot_b0 (fun z => Bool.noConfusion z)) rfl rfl
        · skip
          by_cases w4 : ot_isW t n e 4 = true
          · have hr : ot_stm Y t n e = ot_stS Y t n (ot_te t n e) := by unfold ot_stm; rw [if_neg w0, if_neg w1, if_neg w2, if_neg w3, if_pos w4]
            rw [hr]
            obtain ⟨I2, c2, hr2⟩ := oc_readSwap hg hP1 hY1 hW he1 t1.2.2 (J := J)
            refine ⟨I2, ?_, ot_rp.pre F1 hr2⟩
            refine jv_enter okX2_readStatement (L := [.ref 44, .ref 26]) rfl (Nat.le_of_ble_eq_true rfl) ?_
            refine jv_aload0 dX2_readStatement_0 ?_
            refine jv_v00 dX2_readStatement_1 okX2_nextToken inX2_nextToken seX2_nextToken mlX2_32 (ci := 2) (T := TX2) (N := 5) rfl (tk hg) c1 (by decide) (Nat.le_of_ble_eq_true rfl) ?_
            refine jv_aload0 dX2_readStatement_4 ?_
            refine jv_ldcS (k := 0) (tx := "child") dX2_readStatement_5 (List.mem_of_getElem? (i := 0) rfl) ?_
            refine jv_v11 dX2_readStatement_7 okX2_isWord inX2_isWord seX2_isWord mlX2_55 (ci := 2) (T := TX2) (N := 5) rfl (tk hg) (oc_isWord hg hP1 (show 0 < 6 by decide) he t1) (by decide) (Nat.le_of_ble_eq_true rfl) ?_
            refine jv_if_eqB dX2_readStatement_10 (tgt := 36) (by decide) (fun hz => ?_) (fun hz => absurd hz w0)
            refine jv_aload0 dX2_readStatement_36 ?_
            refine jv_ldcS (k := 1) (tx := "count") dX2_readStatement_37 (List.mem_of_getElem? (i := 1) rfl) ?_
            refine jv_v11 dX2_readStatement_39 okX2_isWord inX2_isWord seX2_isWord mlX2_55 (ci := 2) (T := TX2) (N := 5) rfl (tk hg) (oc_isWord hg hP1 (show 1 < 6 by decide) he t1) (by decide) (Nat.le_of_ble_eq_true rfl) ?_
            refine jv_if_eqB dX2_readStatement_42 (tgt := 68) (by decide) (fun hz => ?_) (fun hz => absurd hz w1)
            refine jv_aload0 dX2_readStatement_68 ?_
            refine jv_ldcS (k := 2) (tx := "with") dX2_readStatement_69 (List.mem_of_getElem? (i := 2) rfl) ?_
            refine jv_v11 dX2_readStatement_71 okX2_isWord inX2_isWord seX2_isWord mlX2_55 (ci := 2) (T := TX2) (N := 5) rfl (tk hg) (oc_isWord hg hP1 (show 2 < 6 by decide) he t1) (by decide) (Nat.le_of_ble_eq_true rfl) ?_
            refine jv_if_eqB dX2_readStatement_74 (tgt := 101) (by decide) (fun hz => ?_) (fun hz => absurd hz w2)
            refine jv_aload0 dX2_readStatement_101 ?_
            refine jv_ldcS (k := 3) (tx := "without") dX2_readStatement_102 (List.mem_of_getElem? (i := 3) rfl) ?_
            refine jv_v11 dX2_readStatement_104 okX2_isWord inX2_isWord seX2_isWord mlX2_55 (ci := 2) (T := TX2) (N := 5) rfl (tk hg) (oc_isWord hg hP1 (show 3 < 6 by decide) he t1) (by decide) (Nat.le_of_ble_eq_true rfl) ?_
            refine jv_if_eqB dX2_readStatement_107 (tgt := 134) (by decide) (fun hz => ?_) (fun hz => absurd hz w3)
            refine jv_aload0 dX2_readStatement_134 ?_
            refine jv_ldcS (k := 4) (tx := "swap") dX2_readStatement_135 (List.mem_of_getElem? (i := 4) rfl) ?_
            refine jv_v11 dX2_readStatement_137 okX2_isWord inX2_isWord seX2_isWord mlX2_55 (ci := 2) (T := TX2) (N := 5) rfl (tk hg) (oc_isWord hg hP1 (show 4 < 6 by decide) he t1) (by decide) (Nat.le_of_ble_eq_true rfl) ?_
            refine jv_if_eqB dX2_readStatement_140 (tgt := 149) (by decide) (fun hz => absurd w4 hz) (fun hz => ?_)
            refine jv_aload0 dX2_readStatement_143 ?_
            refine jv_aload1 dX2_readStatement_144 ?_
            refine jv_v11 dX2_readStatement_145 okX2_readSwap inX2_readSwap seX2_readSwap mlX2_88 (ci := 2) (T := TX2) (N := 5) rfl (tk hg) c2 (by decide) (Nat.le_of_ble_eq_true rfl) ?_
            exact jv_iret dX2_readStatement_148 rfl jv_b_n rfl rfl rfl
          · skip
            by_cases w5 : ot_isW t n e 5 = true
            · have hr : ot_stm Y t n e = ot_stM Y t n (ot_te t n e) := by unfold ot_stm; rw [if_neg w0, if_neg w1, if_neg w2, if_neg w3, if_neg w4, if_pos w5]
              rw [hr]
              obtain ⟨I2, c2, hr2⟩ := oc_readMove hg hP1 hY1 hW he1 t1.2.2 (J := J)
              refine ⟨I2, ?_, ot_rp.pre F1 hr2⟩
              refine jv_enter okX2_readStatement (L := [.ref 44, .ref 26]) rfl (Nat.le_of_ble_eq_true rfl) ?_
              refine jv_aload0 dX2_readStatement_0 ?_
              refine jv_v00 dX2_readStatement_1 okX2_nextToken inX2_nextToken seX2_nextToken mlX2_32 (ci := 2) (T := TX2) (N := 5) rfl (tk hg) c1 (by decide) (Nat.le_of_ble_eq_true rfl) ?_
              refine jv_aload0 dX2_readStatement_4 ?_
              refine jv_ldcS (k := 0) (tx := "child") dX2_readStatement_5 (List.mem_of_getElem? (i := 0) rfl) ?_
              refine jv_v11 dX2_readStatement_7 okX2_isWord inX2_isWord seX2_isWord mlX2_55 (ci := 2) (T := TX2) (N := 5) rfl (tk hg) (oc_isWord hg hP1 (show 0 < 6 by decide) he t1) (by decide) (Nat.le_of_ble_eq_true rfl) ?_
              refine jv_if_eqB dX2_readStatement_10 (tgt := 36) (by decide) (fun hz => ?_) (fun hz => absurd hz w0)
              refine jv_aload0 dX2_readStatement_36 ?_
              refine jv_ldcS (k := 1) (tx := "count") dX2_readStatement_37 (List.mem_of_getElem? (i := 1) rfl) ?_
              refine jv_v11 dX2_readStatement_39 okX2_isWord inX2_isWord seX2_isWord mlX2_55 (ci := 2) (T := TX2) (N := 5) rfl (tk hg) (oc_isWord hg hP1 (show 1 < 6 by decide) he t1) (by decide) (Nat.le_of_ble_eq_true rfl) ?_
              refine jv_if_eqB dX2_readStatement_42 (tgt := 68) (by decide) (fun hz => ?_) (fun hz => absurd hz w1)
              refine jv_aload0 dX2_readStatement_68 ?_
              refine jv_ldcS (k := 2) (tx := "with") dX2_readStatement_69 (List.mem_of_getElem? (i := 2) rfl) ?_
              refine jv_v11 dX2_readStatement_71 okX2_isWord inX2_isWord seX2_isWord mlX2_55 (ci := 2) (T := TX2) (N := 5) rfl (tk hg) (oc_isWord hg hP1 (show 2 < 6 by decide) he t1) (by decide) (Nat.le_of_ble_eq_true rfl) ?_
              refine jv_if_eqB dX2_readStatement_74 (tgt := 101) (by decide) (fun hz => ?_) (fun hz => absurd hz w2)
              refine jv_aload0 dX2_readStatement_101 ?_
              refine jv_ldcS (k := 3) (tx := "without") dX2_readStatement_102 (List.mem_of_getElem? (i := 3) rfl) ?_
              refine jv_v11 dX2_readStatement_104 okX2_isWord inX2_isWord seX2_isWord mlX2_55 (ci := 2) (T := TX2) (N := 5) rfl (tk hg) (oc_isWord hg hP1 (show 3 < 6 by decide) he t1) (by decide) (Nat.le_of_ble_eq_true rfl) ?_
              refine jv_if_eqB dX2_readStatement_107 (tgt := 134) (by decide) (fun hz => ?_) (fun hz => absurd hz w3)
              refine jv_aload0 dX2_readStatement_134 ?_
              refine jv_ldcS (k := 4) (tx := "swap") dX2_readStatement_135 (List.mem_of_getElem? (i := 4) rfl) ?_
              refine jv_v11 dX2_readStatement_137 okX2_isWord inX2_isWord seX2_isWord mlX2_55 (ci := 2) (T := TX2) (N := 5) rfl (tk hg) (oc_isWord hg hP1 (show 4 < 6 by decide) he t1) (by decide) (Nat.le_of_ble_eq_true rfl) ?_
              refine jv_if_eqB dX2_readStatement_140 (tgt := 149) (by decide) (fun hz => ?_) (fun hz => absurd hz w4)
              refine jv_aload0 dX2_readStatement_149 ?_
              refine jv_ldcS (k := 5) (tx := "move") dX2_readStatement_150 (List.mem_of_getElem? (i := 5) rfl) ?_
              refine jv_v11 dX2_readStatement_152 okX2_isWord inX2_isWord seX2_isWord mlX2_55 (ci := 2) (T := TX2) (N := 5) rfl (tk hg) (oc_isWord hg hP1 (show 5 < 6 by decide) he t1) (by decide) (Nat.le_of_ble_eq_true rfl) ?_
              refine jv_if_eqB dX2_readStatement_155 (tgt := 170) (by decide) (fun hz => absurd w5 hz) (fun hz => ?_)
              refine jv_aload0 dX2_readStatement_158 ?_
              refine jv_aload1 dX2_readStatement_159 ?_
              refine jv_v11 dX2_readStatement_160 okX2_readMove inX2_readMove seX2_readMove mlX2_93 (ci := 2) (T := TX2) (N := 5) rfl (tk hg) c2 (by decide) (Nat.le_of_ble_eq_true rfl) ?_
              refine jv_if_eqB dX2_readStatement_163 (tgt := 170) (by decide) (fun hq => ?_) (fun hq => ?_)
              · refine jv_iconst dX2_readStatement_170 jv_c_iconst_0 ?_
                exact jv_iret dX2_readStatement_171 rfl (by decide) (ot_b0 hq) rfl rfl
              · refine jv_iconst dX2_readStatement_166 jv_c_iconst_1 ?_
                refine jv_goto dX2_readStatement_167 (tgt := 171) (by decide) ?_
                exact jv_iret dX2_readStatement_171 rfl (by decide) (ot_b1 hq) rfl rfl
            · skip
              have hr : ot_stm Y t n e = (none, ot_ts t n e) := by unfold ot_stm; rw [if_neg w0, if_neg w1, if_neg w2, if_neg w3, if_neg w4, if_neg w5]
              rw [hr]
              refine ⟨A1, ?_, ot_rp.no F1 t1.2.1⟩
              refine jv_enter okX2_readStatement (L := [.ref 44, .ref 26]) rfl (Nat.le_of_ble_eq_true rfl) ?_
              refine jv_aload0 dX2_readStatement_0 ?_
              refine jv_v00 dX2_readStatement_1 okX2_nextToken inX2_nextToken seX2_nextToken mlX2_32 (ci := 2) (T := TX2) (N := 5) rfl (tk hg) c1 (by decide) (Nat.le_of_ble_eq_true rfl) ?_
              refine jv_aload0 dX2_readStatement_4 ?_
              refine jv_ldcS (k := 0) (tx := "child") dX2_readStatement_5 (List.mem_of_getElem? (i := 0) rfl) ?_
              refine jv_v11 dX2_readStatement_7 okX2_isWord inX2_isWord seX2_isWord mlX2_55 (ci := 2) (T := TX2) (N := 5) rfl (tk hg) (oc_isWord hg hP1 (show 0 < 6 by decide) he t1) (by decide) (Nat.le_of_ble_eq_true rfl) ?_
              refine jv_if_eqB dX2_readStatement_10 (tgt := 36) (by decide) (fun hz => ?_) (fun hz => absurd hz w0)
              refine jv_aload0 dX2_readStatement_36 ?_
              refine jv_ldcS (k := 1) (tx := "count") dX2_readStatement_37 (List.mem_of_getElem? (i := 1) rfl) ?_
              refine jv_v11 dX2_readStatement_39 okX2_isWord inX2_isWord seX2_isWord mlX2_55 (ci := 2) (T := TX2) (N := 5) rfl (tk hg) (oc_isWord hg hP1 (show 1 < 6 by decide) he t1) (by decide) (Nat.le_of_ble_eq_true rfl) ?_
              refine jv_if_eqB dX2_readStatement_42 (tgt := 68) (by decide) (fun hz => ?_) (fun hz => absurd hz w1)
              refine jv_aload0 dX2_readStatement_68 ?_
              refine jv_ldcS (k := 2) (tx := "with") dX2_readStatement_69 (List.mem_of_getElem? (i := 2) rfl) ?_
              refine jv_v11 dX2_readStatement_71 okX2_isWord inX2_isWord seX2_isWord mlX2_55 (ci := 2) (T := TX2) (N := 5) rfl (tk hg) (oc_isWord hg hP1 (show 2 < 6 by decide) he t1) (by decide) (Nat.le_of_ble_eq_true rfl) ?_
              refine jv_if_eqB dX2_readStatement_74 (tgt := 101) (by decide) (fun hz => ?_) (fun hz => absurd hz w2)
              refine jv_aload0 dX2_readStatement_101 ?_
              refine jv_ldcS (k := 3) (tx := "without") dX2_readStatement_102 (List.mem_of_getElem? (i := 3) rfl) ?_
              refine jv_v11 dX2_readStatement_104 okX2_isWord inX2_isWord seX2_isWord mlX2_55 (ci := 2) (T := TX2) (N := 5) rfl (tk hg) (oc_isWord hg hP1 (show 3 < 6 by decide) he t1) (by decide) (Nat.le_of_ble_eq_true rfl) ?_
              refine jv_if_eqB dX2_readStatement_107 (tgt := 134) (by decide) (fun hz => ?_) (fun hz => absurd hz w3)
              refine jv_aload0 dX2_readStatement_134 ?_
              refine jv_ldcS (k := 4) (tx := "swap") dX2_readStatement_135 (List.mem_of_getElem? (i := 4) rfl) ?_
              refine jv_v11 dX2_readStatement_137 okX2_isWord inX2_isWord seX2_isWord mlX2_55 (ci := 2) (T := TX2) (N := 5) rfl (tk hg) (oc_isWord hg hP1 (show 4 < 6 by decide) he t1) (by decide) (Nat.le_of_ble_eq_true rfl) ?_
              refine jv_if_eqB dX2_readStatement_140 (tgt := 149) (by decide) (fun hz => ?_) (fun hz => absurd hz w4)
              refine jv_aload0 dX2_readStatement_149 ?_
              refine jv_ldcS (k := 5) (tx := "move") dX2_readStatement_150 (List.mem_of_getElem? (i := 5) rfl) ?_
              refine jv_v11 dX2_readStatement_152 okX2_isWord inX2_isWord seX2_isWord mlX2_55 (ci := 2) (T := TX2) (N := 5) rfl (tk hg) (oc_isWord hg hP1 (show 5 < 6 by decide) he t1) (by decide) (Nat.le_of_ble_eq_true rfl) ?_
              refine jv_if_eqB dX2_readStatement_155 (tgt := 170) (by decide) (fun hz => ?_) (fun hz => absurd hz w5)
              refine jv_iconst dX2_readStatement_170 jv_c_iconst_0 ?_
              exact jv_iret dX2_readStatement_171 rfl (by decide) (ot_b0 (fun z => Bool.noConfusion z)) rfl rfl
set_option maxRecDepth 20000 in
theorem oc_readOnto {G : jv_Gr} {I : jv_I} {J : jv_J} (hg : ot_CG G) {n : Nat} {t : Nat → Nat} (hP : ot_tp I n t) {Y0 : ot_Y} (hY0 : ot_YR I 26 Y0) (hW0 : ot_YW Y0) : ∃ I2, jv_C 7 mX2_readOnto [.ref 44, .ref 26] G I J (some (.int (ot_yA (ot_rd t n 250 Y0 0 1)))) G I2 J ∧ (∀ q, (q < 26 ∨ 37 < q) → q ≠ 44 → I2 q = I q) ∧ I2 44 1 = I 44 1 ∧ ∀ Y2, (ot_rd t n 250 Y0 0 1).1 = some Y2 → ot_YR I2 26 Y2 := by
  have hn := hP.2.1
  have loop : ∀ (f c e : Nat) (Y : ot_Y) (A : jv_I), c + f = 251 → e ≤ n → (∀ q, (q < 26 ∨ 37 < q) → q ≠ 44 → A q = I q) → A 44 1 = I 44 1 → A 44 4 = nI e → ot_YR A 26 Y → ot_YW Y → ∃ I2, jv_V 7 mX2_readOnto 7 [.ref 44, .ref 26, .int (nI c)] [] G A J (some (.int (ot_yA (ot_rd t n f Y e c)))) G I2 J ∧ (∀ q, (q < 26 ∨ 37 < q) → q ≠ 44 → I2 q = I q) ∧ I2 44 1 = I 44 1 ∧ ∀ Y2, (ot_rd t n f Y e c).1 = some Y2 → ot_YR I2 26 Y2 := by
    intro f
    induction f with
    | zero =>
      intro c e Y A b1 b2 hq h1 h4 hY hW
      have hPA : ot_tp A n t := ⟨⟨h1.trans hP.1.1, fun i hi => by rw [hq 45 (by omega) (by decide)]; exact hP.1.2 i hi⟩, hP.2⟩
      refine ⟨A, ?_, hq, h1, fun Y2 z => by cases z⟩
      refine jv_iload2 dX2_readOnto_7 ?_
      refine jv_sipush dX2_readOnto_8 jv_c_sipush_250 ?_
      refine jv_icmp_gtN dX2_readOnto_11 (tgt := 65) (by decide) (by omega) (by omega) (fun hc11 => ?_) (fun hc11 => by omega)
      refine jv_bipush dX2_readOnto_65 jv_c_bipush_m20 ?_
      refine jv_aload0 dX2_readOnto_67 ?_
      refine jv_getI dX2_readOnto_68 flX2_15 rfl (tk hg) hPA.1.1 ?_
      refine jv_isub dX2_readOnto_71 ?_
      exact jv_iret dX2_readOnto_72 rfl rfl rfl rfl rfl
    | succ f ih =>
      intro c e Y A b1 b2 hq h1 h4 hY hW
      have hPA : ot_tp A n t := ⟨⟨h1.trans hP.1.1, fun i hi => by rw [hq 45 (by omega) (by decide)]; exact hP.1.2 i hi⟩, hP.2⟩
      obtain ⟨A1, c1, r1, r2, r3, r4⟩ := oc_statement (J := J) hg hPA hY hW b2 h4
      have hG := ot_stm_G hW t b2
      cases hs : ot_stm Y t n e with
      | mk a b =>
        rw [hs] at c1 r3 r4 hG
        have hb : b ≤ n := hG.1
        cases a with
        | none =>
          have g3 : A1 44 3 = nI b := r3 rfl
          rw [ot_rd_none hs]
          refine ⟨A1, ?_, fun q q1 q2 => (r1 q q1 q2).trans (hq q q1 q2), r2.trans h1, fun Y2 z => by cases z⟩
          refine jv_iload2 dX2_readOnto_7 ?_
          refine jv_sipush dX2_readOnto_8 jv_c_sipush_250 ?_
          refine jv_icmp_gtN dX2_readOnto_11 (tgt := 65) (by decide) (by omega) (by omega) (fun hc11 => by omega) (fun hc11 => ?_)
          refine jv_aload0 dX2_readOnto_14 ?_
          refine jv_aload1 dX2_readOnto_15 ?_
          refine jv_v11 dX2_readOnto_16 okX2_readStatement inX2_readStatement seX2_readStatement mlX2_28 (ci := 2) (T := TX2) (N := 5) rfl (tk hg) c1 (by decide) (Nat.le_of_ble_eq_true rfl) ?_
          refine jv_if_neB dX2_readOnto_19 (tgt := 30) (by decide) (fun hz => absurd hz (fun z => Bool.noConfusion z)) (fun hz => ?_)
          refine jv_bipush dX2_readOnto_22 jv_c_bipush_m20 ?_
          refine jv_aload0 dX2_readOnto_24 ?_
          refine jv_getI dX2_readOnto_25 flX2_22 rfl (tk hg) g3 ?_
          refine jv_isub dX2_readOnto_28 ?_
          exact jv_iret dX2_readOnto_29 rfl rfl rfl rfl rfl
        | some Y2 =>
          have hy := r4 Y2 rfl
          have hg2 := hG.2 Y2 rfl
          rw [ot_rd_some hs]
          have hP1 : ot_tp A1 n t := ⟨⟨r2.trans hPA.1.1, fun i hi => by rw [r1 45 (by omega) (by decide)]; exact hPA.1.2 i hi⟩, hP.2⟩
          obtain ⟨A2, c2, F2, t2⟩ := oc_nextToken (J := J) (e := b) hg hP1 hb hy.2
          have hY2 := F2.yr hy.1
          have hq2 : ∀ q, (q < 26 ∨ 37 < q) → q ≠ 44 → A2 q = I q := fun q q1 q2 => (F2.1 q q2).trans ((r1 q q1 q2).trans (hq q q1 q2))
          have h12 : A2 44 1 = I 44 1 := F2.2.trans (r2.trans h1)
          have b4 := ot_tn_4 t n b
          by_cases k0 : ot_tn t n b = 0
          · rw [if_pos k0]
            refine ⟨A2, ?_, hq2, h12, fun Y3 z => by cases z; exact hY2⟩
            refine jv_iload2 dX2_readOnto_7 ?_
            refine jv_sipush dX2_readOnto_8 jv_c_sipush_250 ?_
            refine jv_icmp_gtN dX2_readOnto_11 (tgt := 65) (by decide) (by omega) (by omega) (fun hc11 => by omega) (fun hc11 => ?_)
            refine jv_aload0 dX2_readOnto_14 ?_
            refine jv_aload1 dX2_readOnto_15 ?_
            refine jv_v11 dX2_readOnto_16 okX2_readStatement inX2_readStatement seX2_readStatement mlX2_28 (ci := 2) (T := TX2) (N := 5) rfl (tk hg) c1 (by decide) (Nat.le_of_ble_eq_true rfl) ?_
            refine jv_if_neB dX2_readOnto_19 (tgt := 30) (by decide) (fun hz => ?_) (fun hz => absurd rfl hz)
            refine jv_aload0 dX2_readOnto_30 ?_
            refine jv_v00 dX2_readOnto_31 okX2_nextToken inX2_nextToken seX2_nextToken mlX2_32 (ci := 2) (T := TX2) (N := 5) rfl (tk hg) c2 (by decide) (Nat.le_of_ble_eq_true rfl) ?_
            refine jv_aload0 dX2_readOnto_34 ?_
            refine jv_getI dX2_readOnto_35 flX2_19 rfl (tk hg) t2.1 ?_
            refine jv_if_neN dX2_readOnto_38 (tgt := 43) (by decide) (by omega) (fun hc38 => by omega) (fun hc38 => ?_)
            refine jv_iload2 dX2_readOnto_41 ?_
            exact jv_iret dX2_readOnto_42 rfl rfl rfl rfl rfl
          · rw [if_neg k0]
            by_cases k3 : ot_tn t n b = 3
            · rw [if_pos k3]
              obtain ⟨I2, hV, hQ⟩ := ih (c + 1) (ot_te t n b) Y2 A2 (by omega) (ot_te_le t hb) hq2 h12 t2.2.2 hY2 hg2.1
              refine ⟨I2, ?_, hQ⟩
              refine jv_iload2 dX2_readOnto_7 ?_
              refine jv_sipush dX2_readOnto_8 jv_c_sipush_250 ?_
              refine jv_icmp_gtN dX2_readOnto_11 (tgt := 65) (by decide) (by omega) (by omega) (fun hc11 => by omega) (fun hc11 => ?_)
              refine jv_aload0 dX2_readOnto_14 ?_
              refine jv_aload1 dX2_readOnto_15 ?_
              refine jv_v11 dX2_readOnto_16 okX2_readStatement inX2_readStatement seX2_readStatement mlX2_28 (ci := 2) (T := TX2) (N := 5) rfl (tk hg) c1 (by decide) (Nat.le_of_ble_eq_true rfl) ?_
              refine jv_if_neB dX2_readOnto_19 (tgt := 30) (by decide) (fun hz => ?_) (fun hz => absurd rfl hz)
              refine jv_aload0 dX2_readOnto_30 ?_
              refine jv_v00 dX2_readOnto_31 okX2_nextToken inX2_nextToken seX2_nextToken mlX2_32 (ci := 2) (T := TX2) (N := 5) rfl (tk hg) c2 (by decide) (Nat.le_of_ble_eq_true rfl) ?_
              refine jv_aload0 dX2_readOnto_34 ?_
              refine jv_getI dX2_readOnto_35 flX2_19 rfl (tk hg) t2.1 ?_
              refine jv_if_neN dX2_readOnto_38 (tgt := 43) (by decide) (by omega) (fun hc38 => ?_) (fun hc38 => by omega)
              refine jv_aload0 dX2_readOnto_43 ?_
              refine jv_getI dX2_readOnto_44 flX2_19 rfl (tk hg) t2.1 ?_
              refine jv_iconst dX2_readOnto_47 jv_c_iconst_3 ?_
              refine jv_icmp_eqN dX2_readOnto_48 (tgt := 59) (by decide) (by omega) (by omega) (fun hc48 => ?_) (fun hc48 => by omega)
              refine jv_iinc2N dX2_readOnto_59 rfl ?_
              refine jv_goto dX2_readOnto_62 (tgt := 7) (by decide) ?_
              exact hV
            · rw [if_neg k3]
              refine ⟨A2, ?_, hq2, h12, fun Y3 z => by cases z⟩
              refine jv_iload2 dX2_readOnto_7 ?_
              refine jv_sipush dX2_readOnto_8 jv_c_sipush_250 ?_
              refine jv_icmp_gtN dX2_readOnto_11 (tgt := 65) (by decide) (by omega) (by omega) (fun hc11 => by omega) (fun hc11 => ?_)
              refine jv_aload0 dX2_readOnto_14 ?_
              refine jv_aload1 dX2_readOnto_15 ?_
              refine jv_v11 dX2_readOnto_16 okX2_readStatement inX2_readStatement seX2_readStatement mlX2_28 (ci := 2) (T := TX2) (N := 5) rfl (tk hg) c1 (by decide) (Nat.le_of_ble_eq_true rfl) ?_
              refine jv_if_neB dX2_readOnto_19 (tgt := 30) (by decide) (fun hz => ?_) (fun hz => absurd rfl hz)
              refine jv_aload0 dX2_readOnto_30 ?_
              refine jv_v00 dX2_readOnto_31 okX2_nextToken inX2_nextToken seX2_nextToken mlX2_32 (ci := 2) (T := TX2) (N := 5) rfl (tk hg) c2 (by decide) (Nat.le_of_ble_eq_true rfl) ?_
              refine jv_aload0 dX2_readOnto_34 ?_
              refine jv_getI dX2_readOnto_35 flX2_19 rfl (tk hg) t2.1 ?_
              refine jv_if_neN dX2_readOnto_38 (tgt := 43) (by decide) (by omega) (fun hc38 => ?_) (fun hc38 => by omega)
              refine jv_aload0 dX2_readOnto_43 ?_
              refine jv_getI dX2_readOnto_44 flX2_19 rfl (tk hg) t2.1 ?_
              refine jv_iconst dX2_readOnto_47 jv_c_iconst_3 ?_
              refine jv_icmp_eqN dX2_readOnto_48 (tgt := 59) (by decide) (by omega) (by omega) (fun hc48 => by omega) (fun hc48 => ?_)
              refine jv_bipush dX2_readOnto_51 jv_c_bipush_m20 ?_
              refine jv_aload0 dX2_readOnto_53 ?_
              refine jv_getI dX2_readOnto_54 flX2_22 rfl (tk hg) t2.2.1 ?_
              refine jv_isub dX2_readOnto_57 ?_
              exact jv_iret dX2_readOnto_58 rfl rfl rfl rfl rfl
  obtain ⟨I2, hV, hQ⟩ := loop 250 1 0 Y0 (jv_up I 44 4 (nI 0)) (by omega) (by omega) (fun q _ q2 => jv_up_ne _ _ _ q2) (jv_up_at_ne _ _ _ (by decide)) (jv_up_at _ _ _ _) (ot_YR_fr (lo := 44) (hi := 44) hY0 (fun q hq => jv_up_ne _ _ _ (by omega)) (by omega)) hW0
  refine ⟨I2, ?_, hQ⟩
  refine jv_enter okX2_readOnto (L := [.ref 44, .ref 26, .null]) rfl (Nat.le_of_ble_eq_true rfl) ?_
  refine jv_aload0 dX2_readOnto_0 ?_
  refine jv_iconst dX2_readOnto_1 jv_c_iconst_0 ?_
  refine jv_putI dX2_readOnto_2 flX2_25 rfl (tk hg) rfl rfl ?_
  refine jv_iconst dX2_readOnto_5 jv_c_iconst_1 ?_
  refine jv_istore2 dX2_readOnto_6 rfl ?_
  exact hV
theorem ot_m20 {p : Nat} (hp : p ≤ 251) : ¬ (0 : Int32) ≤ (-20 : Int32) - nI p := by
  have h : ∀ k : Fin 252, ¬ (0 : Int32) ≤ (-20 : Int32) - nI k.val := by decide +kernel
  exact h ⟨p, by omega⟩
theorem ot_p20 {p : Nat} (hp : p ≤ 251) : (0 : Int32) ≤ nI p := by
  show nI 0 ≤ nI p
  rw [nI_leI (by decide) (by omega)]
  omega
set_option maxRecDepth 20000 in
theorem pc_yard {G : jv_Gr} {I : jv_I} {J : jv_J} {Y Z : ot_Y} {E : ot_E} {K : Option ot_Y} (h : ot_C G I J Y Z E K) : ot_cc 8 mX4_yard [.ref 1] G I J (ot_yA (ot_rd (Z 5) (Z 4 0) 250 Y 0 1)) (ot_yY Y (ot_rd (Z 5) (Z 4 0) 250 Y 0 1)) (ot_zr (ot_wipe Z) (ot_yR (ot_rd (Z 5) (Z 4 0) 250 Y 0 1))) E K := by
  have bn := yw_n h.w
  have bc := yw_c h.w
  have bw := yw_w h.w
  have hP : ot_tp I (Z 4 0) (Z 5) := ⟨⟨ti_size h.s, fun i hi => te_bytes h.s hi⟩, h.z.2.1, h.z.2.2⟩
  obtain ⟨A1, c1, hR1, hF1⟩ := ot_takeOverM (J := J) (cg_draft h.g) (cg_now h.g) h.r h.w (by omega)
  have hP1 : ot_tp A1 (Z 4 0) (Z 5) := ⟨⟨by rw [hF1 44 (by omega)]; exact hP.1.1, fun i hi => by rw [hF1 45 (by omega)]; exact hP.1.2 i hi⟩, hP.2⟩
  obtain ⟨A2, c2, hq2, h12, hy2⟩ := oc_readOnto (J := J) h.g hP1 hR1 h.w
  have hq3 : ∀ q, (q < 26 ∨ 37 < q) → q ≠ 44 → A2 q = I q := fun q q1 q2 => (hq2 q q1 q2).trans (hF1 q (by omega))
  have hA2 : ot_C G A2 J Y Z E K := ot_C_scratch h (fun q q1 q2 => hq3 q (by omega) q2) (by rw [h12, hF1 44 (by omega)])
  have c3 := oc_clear hA2
  have hs := ot_C_tape (I2 := jv_up A2 44 1 (nI 0)) hA2 ot_wipe_z (by rw [ot_wipe_4]; omega) (fun i hi => by rw [ot_wipe_4] at hi; omega) (fun q _ q1 q2 => jv_up_ne _ _ _ q1) (by rw [ot_wipe_4, jv_up_at]) (fun i hi => by rw [ot_wipe_4] at hi; omega)
  have hGd := ot_rd_G (Z 5) (Z 4 0) 250 Y 0 1 h.w (by omega)
  have h250 := hP.2.1
  cases hr : (ot_rd (Z 5) (Z 4 0) 250 Y 0 1) with
  | mk a p =>
    rw [hr] at c2 hy2 hGd
    have hp : p ≤ 251 := by have := hGd.1; omega
    cases a with
    | none =>
      obtain ⟨I4, hC, h4, h5⟩ := oc_refuse2 hs
      refine ⟨I4, J, ?_, h4, fun q hq => ⟨(h5 q hq).1.trans ((jv_up_ne _ _ _ (by omega)).trans (hq3 q (by omega) (by omega))), rfl⟩⟩
      refine jv_enter okX4_yard (L := [.ref 1, .null]) rfl (Nat.le_of_ble_eq_true rfl) ?_
      refine jv_aload0 dX4_yard_0 ?_
      refine jv_getR dX4_yard_1 flX4_19 rfl (ck h.g) (cr_draft h.g) ?_
      refine jv_aload0 dX4_yard_4 ?_
      refine jv_getR dX4_yard_5 flX4_10 rfl (ck h.g) (cr_now h.g) ?_
      refine jv_v10 dX4_yard_8 okX3_takeOver inX3_takeOver seX3_takeOver mlX4_159 (ci := 3) (T := TX3) (N := 15) rfl (yk (cg_draft h.g)) c1 (by decide) (Nat.le_of_ble_eq_true rfl) ?_
      refine jv_aload0 dX4_yard_11 ?_
      refine jv_getR dX4_yard_12 flX4_34 rfl (ck h.g) (cr_tape h.g) ?_
      refine jv_aload0 dX4_yard_15 ?_
      refine jv_getR dX4_yard_16 flX4_19 rfl (ck h.g) (cr_draft h.g) ?_
      refine jv_v11 dX4_yard_19 okX2_readOnto inX2_readOnto seX2_readOnto mlX4_162 (ci := 2) (T := TX2) (N := 5) rfl (tk h.g) c2 (by decide) (Nat.le_of_ble_eq_true rfl) ?_
      refine jv_istore1 dX4_yard_22 rfl ?_
      refine jv_aload0 dX4_yard_23 ?_
      refine jv_getR dX4_yard_24 flX4_34 rfl (ck h.g) (cr_tape h.g) ?_
      refine jv_v01 dX4_yard_27 okX2_clear inX2_clear seX2_clear mlX4_156 (ci := 2) (T := TX2) (N := 5) rfl (tk h.g) c3 (by decide) (Nat.le_of_ble_eq_true rfl) ?_
      refine jv_pop dX4_yard_30 rfl ?_
      refine jv_iload1 dX4_yard_31 ?_
      refine jv_if_ge dX4_yard_32 (tgt := 45) (by decide) (fun hz => absurd hz (ot_m20 hp)) (fun hz => ?_)
      refine jv_aload0 dX4_yard_35 ?_
      refine jv_bipush dX4_yard_36 jv_c_bipush_m2 ?_
      refine jv_v11 dX4_yard_38 okX4_refuse inX4_refuse seX4_refuse mlX4_61 (ci := 4) (T := TX4) (N := 8) rfl (ck h.g) hC (by decide) (Nat.le_of_ble_eq_true rfl) ?_
      refine jv_pop dX4_yard_41 rfl ?_
      refine jv_goto dX4_yard_42 (tgt := 56) (by decide) ?_
      refine jv_iload1 dX4_yard_56 ?_
      exact jv_iret dX4_yard_57 rfl rfl rfl rfl rfl
    | some Y2 =>
      have hy := hy2 Y2 rfl
      have hg2 := hGd.2 Y2 rfl
      have hR3 : ot_YR (jv_up A2 44 1 (nI 0)) 26 Y2 := ot_YR_fr (lo := 44) (hi := 44) hy (fun q hq => jv_up_ne _ _ _ (by omega)) (by omega)
      obtain ⟨A4, c4, hR4, hF4⟩ := ot_takeOverM (J := J) (y := 2) (y2 := 26) (cg_now h.g) (cg_draft h.g) hR3 hg2.1 (by omega)
      refine ⟨A4, J, ?_, ot_C_yard hs hR4 hg2.1 (ot_ZW_y hs.z hg2.2) hF4, fun q hq => ⟨(hF4 q (by omega)).trans ((jv_up_ne _ _ _ (by omega)).trans (hq3 q (by omega) (by omega))), rfl⟩⟩
      refine jv_enter okX4_yard (L := [.ref 1, .null]) rfl (Nat.le_of_ble_eq_true rfl) ?_
      refine jv_aload0 dX4_yard_0 ?_
      refine jv_getR dX4_yard_1 flX4_19 rfl (ck h.g) (cr_draft h.g) ?_
      refine jv_aload0 dX4_yard_4 ?_
      refine jv_getR dX4_yard_5 flX4_10 rfl (ck h.g) (cr_now h.g) ?_
      refine jv_v10 dX4_yard_8 okX3_takeOver inX3_takeOver seX3_takeOver mlX4_159 (ci := 3) (T := TX3) (N := 15) rfl (yk (cg_draft h.g)) c1 (by decide) (Nat.le_of_ble_eq_true rfl) ?_
      refine jv_aload0 dX4_yard_11 ?_
      refine jv_getR dX4_yard_12 flX4_34 rfl (ck h.g) (cr_tape h.g) ?_
      refine jv_aload0 dX4_yard_15 ?_
      refine jv_getR dX4_yard_16 flX4_19 rfl (ck h.g) (cr_draft h.g) ?_
      refine jv_v11 dX4_yard_19 okX2_readOnto inX2_readOnto seX2_readOnto mlX4_162 (ci := 2) (T := TX2) (N := 5) rfl (tk h.g) c2 (by decide) (Nat.le_of_ble_eq_true rfl) ?_
      refine jv_istore1 dX4_yard_22 rfl ?_
      refine jv_aload0 dX4_yard_23 ?_
      refine jv_getR dX4_yard_24 flX4_34 rfl (ck h.g) (cr_tape h.g) ?_
      refine jv_v01 dX4_yard_27 okX2_clear inX2_clear seX2_clear mlX4_156 (ci := 2) (T := TX2) (N := 5) rfl (tk h.g) c3 (by decide) (Nat.le_of_ble_eq_true rfl) ?_
      refine jv_pop dX4_yard_30 rfl ?_
      refine jv_iload1 dX4_yard_31 ?_
      refine jv_if_ge dX4_yard_32 (tgt := 45) (by decide) (fun hz => ?_) (fun hz => absurd (ot_p20 hp) hz)
      refine jv_aload0 dX4_yard_45 ?_
      refine jv_getR dX4_yard_46 flX4_10 rfl (ck h.g) (cr_now h.g) ?_
      refine jv_aload0 dX4_yard_49 ?_
      refine jv_getR dX4_yard_50 flX4_19 rfl (ck h.g) (cr_draft h.g) ?_
      refine jv_v10 dX4_yard_53 okX3_takeOver inX3_takeOver seX3_takeOver mlX4_159 (ci := 3) (T := TX3) (N := 15) rfl (yk (cg_now h.g)) c4 (by decide) (Nat.le_of_ble_eq_true rfl) ?_
      refine jv_iload1 dX4_yard_56 ?_
      exact jv_iret dX4_yard_57 rfl rfl rfl rfl rfl
