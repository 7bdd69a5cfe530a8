/-! ===== the reference: added to, copied ===== -/
/-- nothing but the yard's part of the reference at m is written -/
def ot_mf (I I2 : jv_I) (m : Nat) : Prop := (∀ q, q ≠ m → (q < m + 17 ∨ m + 26 < q) → I2 q = I q) ∧ ∀ k, k ≠ 9 → k ≠ 13 → k ≠ 17 → k ≠ 22 → I2 m k = I m k
theorem ot_mf.rf {I : jv_I} {m : Nat} : ot_mf I I m := ⟨fun _ _ _ => rfl, fun _ _ _ _ _ => rfl⟩
theorem ot_mf.tr {I I1 I2 : jv_I} {m : Nat} (h : ot_mf I I1 m) (h2 : ot_mf I1 I2 m) : ot_mf I I2 m := ⟨fun q a b => (h2.1 q a b).trans (h.1 q a b), fun k a b c e => (h2.2 k a b c e).trans (h.2 k a b c e)⟩
theorem ot_mf.pl {I I2 : jv_I} {m : Nat} (h : ∀ q, q ≠ m + 19 → I2 q = I q) : ot_mf I I2 m := ⟨fun q _ b => h q (by omega), fun k _ _ _ _ => by rw [h m (by omega)]⟩
set_option maxRecDepth 20000 in
theorem om_addChild0 {G : jv_Gr} {I : jv_I} {J : jv_J} {m : Nat} {Y : ot_Y} (hG : ot_MG G m) (hR : ot_MR I m Y) (hW : ot_YW Y) {s t : Nat} (h14 : Y 10 0 < 14) : jv_C 1 mX5_addChild [.ref m, .int (nI s), .int (nI t)] G I J none G (jv_up (jv_up (jv_up (jv_up I (m + 17) (Y 10 0) (nI s)) (m + 18) (Y 10 0) (nI t)) (m + 19) (Y 10 0) (nI (Y 10 0))) m 9 (nI (Y 10 0 + 1))) J := by
  refine jv_enter okX5_addChild (L := [.ref m, .int (nI s), .int (nI t)]) rfl (Nat.le_of_ble_eq_true rfl) ?_
  have bn := yw_n hW
  have bc := yw_c hW
  have bw := yw_w hW
  refine jv_aload0 dX5_addChild_0 ?_
  refine jv_getR dX5_addChild_1 flX5_37 rfl (mk hG) (mr_strong hG) ?_
  refine jv_aload0 dX5_addChild_4 ?_
  refine jv_getI dX5_addChild_5 flX5_80 rfl (mk hG) (mi_children hR) ?_
  refine jv_iload1 dX5_addChild_8 ?_
  refine jv_iastN dX5_addChild_9 (mk_strong hG) (by omega) (by decide) ?_
  refine jv_aload0 dX5_addChild_10 ?_
  refine jv_getR dX5_addChild_11 flX5_40 rfl (mk hG) (mr_step hG) ?_
  refine jv_aload0 dX5_addChild_14 ?_
  refine jv_getI dX5_addChild_15 flX5_80 rfl (mk hG) (show (jv_up I (m + 17) (Y 10 0) (nI s)) m 9 = nI (Y 10 0) from (congrFun (jv_up_ne _ _ _ (by omega)) 9).trans (mi_children hR)) ?_
  refine jv_iload2 dX5_addChild_18 ?_
  refine jv_iastN dX5_addChild_19 (mk_step hG) (by omega) (by decide) ?_
  refine jv_aload0 dX5_addChild_20 ?_
  refine jv_getR dX5_addChild_21 flX5_43 rfl (mk hG) (mr_place hG) ?_
  refine jv_aload0 dX5_addChild_24 ?_
  refine jv_getI dX5_addChild_25 flX5_80 rfl (mk hG) (show (jv_up (jv_up I (m + 17) (Y 10 0) (nI s)) (m + 18) (Y 10 0) (nI t)) m 9 = nI (Y 10 0) from (congrFun ((jv_up_ne _ _ _ (by omega)).trans (jv_up_ne _ _ _ (by omega))) 9).trans (mi_children hR)) ?_
  refine jv_aload0 dX5_addChild_28 ?_
  refine jv_getI dX5_addChild_29 flX5_80 rfl (mk hG) (show (jv_up (jv_up I (m + 17) (Y 10 0) (nI s)) (m + 18) (Y 10 0) (nI t)) m 9 = nI (Y 10 0) from (congrFun ((jv_up_ne _ _ _ (by omega)).trans (jv_up_ne _ _ _ (by omega))) 9).trans (mi_children hR)) ?_
  refine jv_iastN dX5_addChild_32 (mk_place hG) (by omega) (by decide) ?_
  refine jv_aload0 dX5_addChild_33 ?_
  refine jv_dup dX5_addChild_34 rfl ?_
  refine jv_getI dX5_addChild_35 flX5_80 rfl (mk hG) (show (jv_up (jv_up (jv_up I (m + 17) (Y 10 0) (nI s)) (m + 18) (Y 10 0) (nI t)) (m + 19) (Y 10 0) (nI (Y 10 0))) m 9 = nI (Y 10 0) from (congrFun (((jv_up_ne _ _ _ (by omega)).trans (jv_up_ne _ _ _ (by omega))).trans (jv_up_ne _ _ _ (by omega))) 9).trans (mi_children hR)) ?_
  refine jv_iconst dX5_addChild_38 jv_c_iconst_1 ?_
  refine jv_iaddN dX5_addChild_39 ?_
  refine jv_putI dX5_addChild_40 flX5_80 rfl (mk hG) rfl rfl ?_
  exact jv_vret dX5_addChild_43 rfl rfl rfl rfl
theorem om_addChild {G : jv_Gr} {I : jv_I} {J : jv_J} {m : Nat} {Y : ot_Y} (hG : ot_MG G m) (hR : ot_MR I m Y) (hW : ot_YW Y) {s t : Nat} (h14 : Y 10 0 < 14) : ∃ I2, jv_C 1 mX5_addChild [.ref m, .int (nI s), .int (nI t)] G I J none G I2 J ∧ ot_MR I2 m (ot_addChild Y s t) ∧ ot_mf I I2 m := by
  have bn := yw_n hW
  have bc := yw_c hW
  have bw := yw_w hW
  refine ⟨_, om_addChild0 hG hR hW h14, ?_, fun q hq hq2 => ?_, fun k k1 k2 k3 k4 => ?_⟩
  · obtain ⟨⟨r1, r2, r3, r4⟩, g1, g2, g3⟩ := hR
    have n1 : ot_addChild Y s t 10 0 = Y 10 0 + 1 := by simp [ot_addChild]
    refine ⟨⟨?_, ?_, ?_, ?_⟩, fun c hc => ?_, fun c hc => ?_, fun c hc => ?_⟩
    · simp [jv_up, ot_addChild]
    · simpa [jv_up, ot_addChild] using r2
    · simpa [jv_up, ot_addChild] using r3
    · simpa [jv_up, ot_addChild] using r4
    · rw [n1] at hc
      by_cases h : c = Y 10 0
      · subst h
        simp [jv_up, ot_addChild]
      · have := g1 c (by omega)
        simpa [jv_up, ot_addChild, h] using this
    · have := g2 c (by simpa [ot_addChild] using hc)
      simpa [jv_up, ot_addChild] using this
    · have := g3 c (by simpa [ot_addChild] using hc)
      simpa [jv_up, ot_addChild] using this
  · repeat rw [jv_up_ne _ _ _ (show q ≠ _ by omega)]
  · simp [jv_up, k1, k2, k3, k4]
set_option maxRecDepth 20000 in
theorem om_addCount0 {G : jv_Gr} {I : jv_I} {J : jv_J} {m : Nat} {Y : ot_Y} (hG : ot_MG G m) (hR : ot_MR I m Y) (hW : ot_YW Y) {k nn a : Nat} (h6 : Y 10 1 < 6) : jv_C 1 mX5_addCount [.ref m, .int (nI k), .int (nI nn), .int (nI a)] G I J none G (jv_up (jv_up (jv_up (jv_up I (m + 20) (Y 10 1) (nI k)) (m + 21) (Y 10 1) (nI nn)) (m + 22) (Y 10 1) (nI a)) m 13 (nI (Y 10 1 + 1))) J := by
  refine jv_enter okX5_addCount (L := [.ref m, .int (nI k), .int (nI nn), .int (nI a)]) rfl (Nat.le_of_ble_eq_true rfl) ?_
  have bn := yw_n hW
  have bc := yw_c hW
  have bw := yw_w hW
  refine jv_aload0 dX5_addCount_0 ?_
  refine jv_getR dX5_addCount_1 flX5_46 rfl (mk hG) (mr_kind hG) ?_
  refine jv_aload0 dX5_addCount_4 ?_
  refine jv_getI dX5_addCount_5 flX5_91 rfl (mk hG) (mi_counts hR) ?_
  refine jv_iload1 dX5_addCount_8 ?_
  refine jv_iastN dX5_addCount_9 (mk_kind hG) (by omega) (by decide) ?_
  refine jv_aload0 dX5_addCount_10 ?_
  refine jv_getR dX5_addCount_11 flX5_49 rfl (mk hG) (mr_by hG) ?_
  refine jv_aload0 dX5_addCount_14 ?_
  refine jv_getI dX5_addCount_15 flX5_91 rfl (mk hG) (show (jv_up I (m + 20) (Y 10 1) (nI k)) m 13 = nI (Y 10 1) from (congrFun (jv_up_ne _ _ _ (by omega)) 13).trans (mi_counts hR)) ?_
  refine jv_iload2 dX5_addCount_18 ?_
  refine jv_iastN dX5_addCount_19 (mk_by hG) (by omega) (by decide) ?_
  refine jv_aload0 dX5_addCount_20 ?_
  refine jv_getR dX5_addCount_21 flX5_52 rfl (mk hG) (mr_slips hG) ?_
  refine jv_aload0 dX5_addCount_24 ?_
  refine jv_getI dX5_addCount_25 flX5_91 rfl (mk hG) (show (jv_up (jv_up I (m + 20) (Y 10 1) (nI k)) (m + 21) (Y 10 1) (nI nn)) m 13 = nI (Y 10 1) from (congrFun ((jv_up_ne _ _ _ (by omega)).trans (jv_up_ne _ _ _ (by omega))) 13).trans (mi_counts hR)) ?_
  refine jv_iload3 dX5_addCount_28 ?_
  refine jv_iastN dX5_addCount_29 (mk_slips hG) (by omega) (by decide) ?_
  refine jv_aload0 dX5_addCount_30 ?_
  refine jv_dup dX5_addCount_31 rfl ?_
  refine jv_getI dX5_addCount_32 flX5_91 rfl (mk hG) (show (jv_up (jv_up (jv_up I (m + 20) (Y 10 1) (nI k)) (m + 21) (Y 10 1) (nI nn)) (m + 22) (Y 10 1) (nI a)) m 13 = nI (Y 10 1) from (congrFun (((jv_up_ne _ _ _ (by omega)).trans (jv_up_ne _ _ _ (by omega))).trans (jv_up_ne _ _ _ (by omega))) 13).trans (mi_counts hR)) ?_
  refine jv_iconst dX5_addCount_35 jv_c_iconst_1 ?_
  refine jv_iaddN dX5_addCount_36 ?_
  refine jv_putI dX5_addCount_37 flX5_91 rfl (mk hG) rfl rfl ?_
  exact jv_vret dX5_addCount_40 rfl rfl rfl rfl
theorem om_addCount {G : jv_Gr} {I : jv_I} {J : jv_J} {m : Nat} {Y : ot_Y} (hG : ot_MG G m) (hR : ot_MR I m Y) (hW : ot_YW Y) {k nn a : Nat} (h6 : Y 10 1 < 6) : ∃ I2, jv_C 1 mX5_addCount [.ref m, .int (nI k), .int (nI nn), .int (nI a)] G I J none G I2 J ∧ ot_MR I2 m (ot_addCount Y k nn a) ∧ ot_mf I I2 m := by
  have bn := yw_n hW
  have bc := yw_c hW
  have bw := yw_w hW
  refine ⟨_, om_addCount0 hG hR hW h6, ?_, fun q hq hq2 => ?_, fun k k1 k2 k3 k4 => ?_⟩
  · obtain ⟨⟨r1, r2, r3, r4⟩, g1, g2, g3⟩ := hR
    have n1 : ot_addCount Y k nn a 10 1 = Y 10 1 + 1 := by simp [ot_addCount]
    refine ⟨⟨?_, ?_, ?_, ?_⟩, fun c hc => ?_, fun c hc => ?_, fun c hc => ?_⟩
    · simpa [jv_up, ot_addCount] using r1
    · simp [jv_up, ot_addCount]
    · simpa [jv_up, ot_addCount] using r3
    · simpa [jv_up, ot_addCount] using r4
    · have := g1 c (by simpa [ot_addCount] using hc)
      simpa [jv_up, ot_addCount] using this
    · rw [n1] at hc
      by_cases h : c = Y 10 1
      · subst h
        simp [jv_up, ot_addCount]
      · have := g2 c (by omega)
        simpa [jv_up, ot_addCount, h] using this
    · have := g3 c (by simpa [ot_addCount] using hc)
      simpa [jv_up, ot_addCount] using this
  · repeat rw [jv_up_ne _ _ _ (show q ≠ _ by omega)]
  · simp [jv_up, k1, k2, k3, k4]
set_option maxRecDepth 20000 in
theorem om_addWish0 {G : jv_Gr} {I : jv_I} {J : jv_J} {m : Nat} {Y : ot_Y} (hG : ot_MG G m) (hR : ot_MR I m Y) (hW : ot_YW Y) {a b g w : Nat} (h20 : Y 10 2 < 20) : jv_C 1 mX5_addWish [.ref m, .int (nI a), .int (nI b), .int (nI g), .int (nI w)] G I J none G (jv_up (jv_up (jv_up (jv_up (jv_up I (m + 23) (Y 10 2) (nI a)) (m + 24) (Y 10 2) (nI b)) (m + 25) (Y 10 2) (nI g)) (m + 26) (Y 10 2) (nI w)) m 17 (nI (Y 10 2 + 1))) J := by
  refine jv_enter okX5_addWish (L := [.ref m, .int (nI a), .int (nI b), .int (nI g), .int (nI w)]) rfl (Nat.le_of_ble_eq_true rfl) ?_
  have bn := yw_n hW
  have bc := yw_c hW
  have bw := yw_w hW
  refine jv_aload0 dX5_addWish_0 ?_
  refine jv_getR dX5_addWish_1 flX5_55 rfl (mk hG) (mr_one hG) ?_
  refine jv_aload0 dX5_addWish_4 ?_
  refine jv_getI dX5_addWish_5 flX5_141 rfl (mk hG) (mi_wishes hR) ?_
  refine jv_iload1 dX5_addWish_8 ?_
  refine jv_iastN dX5_addWish_9 (mk_one hG) (by omega) (by decide) ?_
  refine jv_aload0 dX5_addWish_10 ?_
  refine jv_getR dX5_addWish_11 flX5_58 rfl (mk hG) (mr_other hG) ?_
  refine jv_aload0 dX5_addWish_14 ?_
  refine jv_getI dX5_addWish_15 flX5_141 rfl (mk hG) (show (jv_up I (m + 23) (Y 10 2) (nI a)) m 17 = nI (Y 10 2) from (congrFun (jv_up_ne _ _ _ (by omega)) 17).trans (mi_wishes hR)) ?_
  refine jv_iload2 dX5_addWish_18 ?_
  refine jv_iastN dX5_addWish_19 (mk_other hG) (by omega) (by decide) ?_
  refine jv_aload0 dX5_addWish_20 ?_
  refine jv_getR dX5_addWish_21 flX5_61 rfl (mk hG) (mr_together hG) ?_
  refine jv_aload0 dX5_addWish_24 ?_
  refine jv_getI dX5_addWish_25 flX5_141 rfl (mk hG) (show (jv_up (jv_up I (m + 23) (Y 10 2) (nI a)) (m + 24) (Y 10 2) (nI b)) m 17 = nI (Y 10 2) from (congrFun ((jv_up_ne _ _ _ (by omega)).trans (jv_up_ne _ _ _ (by omega))) 17).trans (mi_wishes hR)) ?_
  refine jv_iload3 dX5_addWish_28 ?_
  refine jv_iastN dX5_addWish_29 (mk_together hG) (by omega) (by decide) ?_
  refine jv_aload0 dX5_addWish_30 ?_
  refine jv_getR dX5_addWish_31 flX5_64 rfl (mk hG) (mr_worth hG) ?_
  refine jv_aload0 dX5_addWish_34 ?_
  refine jv_getI dX5_addWish_35 flX5_141 rfl (mk hG) (show (jv_up (jv_up (jv_up I (m + 23) (Y 10 2) (nI a)) (m + 24) (Y 10 2) (nI b)) (m + 25) (Y 10 2) (nI g)) m 17 = nI (Y 10 2) from (congrFun (((jv_up_ne _ _ _ (by omega)).trans (jv_up_ne _ _ _ (by omega))).trans (jv_up_ne _ _ _ (by omega))) 17).trans (mi_wishes hR)) ?_
  refine jv_iload4 dX5_addWish_38 ?_
  refine jv_iastN dX5_addWish_40 (mk_worth hG) (by omega) (by decide) ?_
  refine jv_aload0 dX5_addWish_41 ?_
  refine jv_dup dX5_addWish_42 rfl ?_
  refine jv_getI dX5_addWish_43 flX5_141 rfl (mk hG) (show (jv_up (jv_up (jv_up (jv_up I (m + 23) (Y 10 2) (nI a)) (m + 24) (Y 10 2) (nI b)) (m + 25) (Y 10 2) (nI g)) (m + 26) (Y 10 2) (nI w)) m 17 = nI (Y 10 2) from (congrFun ((((jv_up_ne _ _ _ (by omega)).trans (jv_up_ne _ _ _ (by omega))).trans (jv_up_ne _ _ _ (by omega))).trans (jv_up_ne _ _ _ (by omega))) 17).trans (mi_wishes hR)) ?_
  refine jv_iconst dX5_addWish_46 jv_c_iconst_1 ?_
  refine jv_iaddN dX5_addWish_47 ?_
  refine jv_putI dX5_addWish_48 flX5_141 rfl (mk hG) rfl rfl ?_
  exact jv_vret dX5_addWish_51 rfl rfl rfl rfl
theorem om_addWish {G : jv_Gr} {I : jv_I} {J : jv_J} {m : Nat} {Y : ot_Y} (hG : ot_MG G m) (hR : ot_MR I m Y) (hW : ot_YW Y) {a b g w : Nat} (h20 : Y 10 2 < 20) : ∃ I2, jv_C 1 mX5_addWish [.ref m, .int (nI a), .int (nI b), .int (nI g), .int (nI w)] G I J none G I2 J ∧ ot_MR I2 m (ot_addWish Y a b g w) ∧ ot_mf I I2 m := by
  have bn := yw_n hW
  have bc := yw_c hW
  have bw := yw_w hW
  refine ⟨_, om_addWish0 hG hR hW h20, ?_, fun q hq hq2 => ?_, fun k k1 k2 k3 k4 => ?_⟩
  · obtain ⟨⟨r1, r2, r3, r4⟩, g1, g2, g3⟩ := hR
    have n1 : ot_addWish Y a b g w 10 2 = Y 10 2 + 1 := by simp [ot_addWish]
    refine ⟨⟨?_, ?_, ?_, ?_⟩, fun c hc => ?_, fun c hc => ?_, fun c hc => ?_⟩
    · simpa [jv_up, ot_addWish] using r1
    · simpa [jv_up, ot_addWish] using r2
    · simp [jv_up, ot_addWish]
    · simpa [jv_up, ot_addWish] using r4
    · have := g1 c (by simpa [ot_addWish] using hc)
      simpa [jv_up, ot_addWish] using this
    · have := g2 c (by simpa [ot_addWish] using hc)
      simpa [jv_up, ot_addWish] using this
    · rw [n1] at hc
      by_cases h : c = Y 10 2
      · subst h
        simp [jv_up, ot_addWish]
      · have := g3 c (by omega)
        simpa [jv_up, ot_addWish, h] using this
  · repeat rw [jv_up_ne _ _ _ (show q ≠ _ by omega)]
  · simp [jv_up, k1, k2, k3, k4]
set_option maxRecDepth 20000 in
theorem om_below0 {G : jv_Gr} {I : jv_I} {J : jv_J} {m : Nat} {Y : ot_Y} (hG : ot_MG G m) (hR : ot_MR I m Y) (hW : ot_YW Y) {n : Nat} (hn : 0 < n) (hn2 : n < 100) : jv_C 1 mX5_below [.ref m, .int (nI n)] G I J (some (.int (nI (ot_pick (ot_next (Y 10 3)) n)))) G (jv_up I m 22 (nI (ot_next (Y 10 3)))) J := by
  refine jv_enter okX5_below (L := [.ref m, .int (nI n)]) rfl (Nat.le_of_ble_eq_true rfl) ?_
  have bn := yw_n hW
  have bc := yw_c hW
  have bw := yw_w hW
  refine jv_aload0 dX5_below_0 ?_
  refine jv_aload0 dX5_below_1 ?_
  refine jv_getI dX5_below_2 flX5_67 rfl (mk hG) (mi_seed hR) ?_
  refine jv_ldcw dX5_below_5 (v := nI 1103515245) (show Cond.constant RX5 329 (nI 1103515245) ∈ lw_tg from cnX5_329) ?_
  refine jv_imul dX5_below_8 ?_
  refine jv_sipush dX5_below_9 jv_c_sipush_12345 ?_
  refine jv_iadd dX5_below_12 ?_
  rw [ot_nextI]
  refine jv_putI dX5_below_13 flX5_67 rfl (mk hG) rfl rfl ?_
  refine jv_aload0 dX5_below_16 ?_
  refine jv_getI dX5_below_17 flX5_67 rfl (mk hG) (jv_up_at _ _ _ _) ?_
  refine jv_bipush dX5_below_20 jv_c_bipush_16 ?_
  refine jv_iushr dX5_below_22 (ot_ushr16 (ot_next_lt _)) ?_
  refine jv_iload1 dX5_below_23 ?_
  refine jv_iremN dX5_below_24 (by omega) (by have := ot_next_lt (Y 10 3); omega) (by omega) ?_
  exact jv_iret dX5_below_25 rfl rfl rfl rfl rfl
theorem ot_MR_seed {I : jv_I} {m : Nat} {Y : ot_Y} (hR : ot_MR I m Y) (s : Nat) {v : Int32} (hv : v = nI s) : ot_MR (jv_up I m 22 v) m (ot_seed Y s) := by
  subst hv
  obtain ⟨⟨r1, r2, r3, r4⟩, g1, g2, g3⟩ := hR
  refine ⟨⟨?_, ?_, ?_, ?_⟩, fun c hc => ?_, fun c hc => ?_, fun c hc => ?_⟩
  · simpa [jv_up, ot_seed, ot_put, ot_set] using r1
  · simpa [jv_up, ot_seed, ot_put, ot_set] using r2
  · simpa [jv_up, ot_seed, ot_put, ot_set] using r3
  · simp [jv_up, ot_seed, ot_put, ot_set]
  · have := g1 c (by simpa [ot_seed, ot_put, ot_set] using hc)
    simpa [jv_up, ot_seed, ot_put, ot_set] using this
  · have := g2 c (by simpa [ot_seed, ot_put, ot_set] using hc)
    simpa [jv_up, ot_seed, ot_put, ot_set] using this
  · have := g3 c (by simpa [ot_seed, ot_put, ot_set] using hc)
    simpa [jv_up, ot_seed, ot_put, ot_set] using this
theorem ot_cpy_0 (I : jv_I) (a b : Nat) : jv_pa I b (va_cpy (I a) (I b) 0 0 0) = I := by
  funext q j
  show (if q = b then va_cpy (I a) (I b) 0 0 0 else I q) j = I q j
  by_cases h : q = b
  · rw [if_pos h, h]
    unfold va_cpy
    rw [if_neg (by omega)]
  · rw [if_neg h]
theorem ot_cpy_s (I : jv_I) (a b i : Nat) : jv_up (jv_pa I b (va_cpy (I a) (I b) 0 0 i)) b i (I a i) = jv_pa I b (va_cpy (I a) (I b) 0 0 (i + 1)) := by
  funext q j
  rw [jv_up_def]
  by_cases h : q = b
  · subst h
    rw [if_pos rfl]
    show (if j = i then I a i else (if q = q then va_cpy (I a) (I q) 0 0 i else I q) j) = (if q = q then va_cpy (I a) (I q) 0 0 (i + 1) else I q) j
    rw [if_pos rfl, if_pos rfl]
    unfold va_cpy
    by_cases hj : j = i
    · subst hj
      rw [if_pos rfl, if_pos ⟨by omega, by omega⟩, Nat.zero_add, Nat.sub_zero]
    · rw [if_neg hj]
      by_cases hl : j < i
      · rw [if_pos ⟨by omega, by omega⟩, if_pos ⟨by omega, by omega⟩]
      · rw [if_neg (by omega), if_neg (by omega)]
  · rw [if_neg h]
    show (if q = b then _ else I q) j = (if q = b then _ else I q) j
    rw [if_neg h, if_neg h]
theorem ot_pa_ne {I : jv_I} {b q : Nat} {f : Nat → Int32} (h : q ≠ b) : jv_pa I b f q = I q := if_neg h
set_option maxRecDepth 20000 in
theorem om_copied {G : jv_Gr} {I : jv_I} {J : jv_J} {a b n0 : Nat} (ka : jv_k G a = (0, n0)) (kb : jv_k G b = (0, n0)) (hab : a ≠ b) (hn : n0 < 1000) : jv_C 1 mX5_copied [.ref a, .ref b] G I J none G (jv_pa I b (va_cpy (I a) (I b) 0 0 n0)) J := by
  refine jv_enter okX5_copied (L := [.ref a, .ref b, .null]) rfl (Nat.le_of_ble_eq_true rfl) ?_
  have loop : ∀ (n i : Nat) , n0 + 1 ≤ i + n → i ≤ n0 → jv_V 1 mX5_copied 2 [.ref a, .ref b, .int (nI i)] [] G (jv_pa I b (va_cpy (I a) (I b) 0 0 i)) J none G (jv_pa I b (va_cpy (I a) (I b) 0 0 n0)) J := by
    intro n
    induction n with
    | zero => intro i  h1 h2; omega
    | succ n ih =>
      intro i  h1 h2 
      refine jv_iload2 dX5_copied_2 ?_
      refine jv_aload0 dX5_copied_3 ?_
      refine jv_alen dX5_copied_4 ka ?_
      refine jv_icmp_geN dX5_copied_5 (tgt := 20) (by decide) (by omega) (by omega) (fun h5 => ?_) (fun h5 => ?_)
      · exact jv_vret dX5_copied_20 rfl rfl (by rw [show i = n0 by omega]) rfl
      · refine jv_aload1 dX5_copied_8 ?_
        refine jv_iload2 dX5_copied_9 ?_
        refine jv_aload0 dX5_copied_10 ?_
        refine jv_iload2 dX5_copied_11 ?_
        refine jv_ialdN dX5_copied_12 ka (by omega) (by omega) (congrFun (ot_pa_ne hab) i) ?_
        refine jv_iastN dX5_copied_13 kb (by omega) (by omega) ?_
        rw [ot_cpy_s]
        refine jv_iinc2N dX5_copied_14 rfl ?_
        refine jv_goto dX5_copied_17 (tgt := 2) (by decide) ?_
        exact ih (i + 1) (by omega) (by omega)
  refine jv_iconst dX5_copied_0 jv_c_iconst_0 ?_
  refine jv_istore2 dX5_copied_1 rfl ?_
  have h := loop (n0 + 1) 0 (by omega) (by omega)
  rw [ot_cpy_0] at h
  exact h
set_option maxRecDepth 20000 in
theorem om_takeFrom {G : jv_Gr} {I : jv_I} {J : jv_J} {m m2 : Nat} {Y : ot_Y} (hG : ot_MG G m) (hG2 : ot_MG G m2) (hR : ot_MR I m2 Y) (hW : ot_YW Y) (hd : m + 29 < m2 ∨ m2 + 29 < m) : ∃ I2, jv_C 2 mX5_takeFrom [.ref m, .ref m2] G I J none G I2 J ∧ ot_MR I2 m Y ∧ ot_fr I I2 m (m + 29) ∧ (∀ q, m < q → q < m + 17 → I2 q = I q) ∧ (∀ q, m + 26 < q → I2 q = I q) ∧ ∀ k, k ≠ 9 → k ≠ 13 → k ≠ 17 → k ≠ 22 → I2 m k = I m k := by
  have bn := yw_n hW
  have bc := yw_c hW
  have bw := yw_w hW
  obtain ⟨A1, e1⟩ : ∃ A, A = jv_up I m 9 (I m2 9) := ⟨_, rfl⟩
  have c1 := ot_cp_int (k := 9) (ot_cp_0 (I := I) (y := m) (y2 := m2) (w := 29)) hd
  rw [← e1] at c1
  obtain ⟨A2, e2⟩ : ∃ A, A = jv_pa A1 (m + 17) (va_cpy (A1 (m2 + 17)) (A1 (m + 17)) 0 0 14) := ⟨_, rfl⟩
  have c2 := ot_cp_arr (j0 := 17) (n := 14) c1 hd (by decide)
  rw [← e2] at c2
  obtain ⟨A3, e3⟩ : ∃ A, A = jv_pa A2 (m + 18) (va_cpy (A2 (m2 + 18)) (A2 (m + 18)) 0 0 14) := ⟨_, rfl⟩
  have c3 := ot_cp_arr (j0 := 18) (n := 14) c2 hd (by decide)
  rw [← e3] at c3
  obtain ⟨A4, e4⟩ : ∃ A, A = jv_pa A3 (m + 19) (va_cpy (A3 (m2 + 19)) (A3 (m + 19)) 0 0 14) := ⟨_, rfl⟩
  have c4 := ot_cp_arr (j0 := 19) (n := 14) c3 hd (by decide)
  rw [← e4] at c4
  obtain ⟨A5, e5⟩ : ∃ A, A = jv_up A4 m 13 (A4 m2 13) := ⟨_, rfl⟩
  have c5 := ot_cp_int (k := 13) c4 hd
  rw [← e5] at c5
  obtain ⟨A6, e6⟩ : ∃ A, A = jv_pa A5 (m + 20) (va_cpy (A5 (m2 + 20)) (A5 (m + 20)) 0 0 6) := ⟨_, rfl⟩
  have c6 := ot_cp_arr (j0 := 20) (n := 6) c5 hd (by decide)
  rw [← e6] at c6
  obtain ⟨A7, e7⟩ : ∃ A, A = jv_pa A6 (m + 21) (va_cpy (A6 (m2 + 21)) (A6 (m + 21)) 0 0 6) := ⟨_, rfl⟩
  have c7 := ot_cp_arr (j0 := 21) (n := 6) c6 hd (by decide)
  rw [← e7] at c7
  obtain ⟨A8, e8⟩ : ∃ A, A = jv_pa A7 (m + 22) (va_cpy (A7 (m2 + 22)) (A7 (m + 22)) 0 0 6) := ⟨_, rfl⟩
  have c8 := ot_cp_arr (j0 := 22) (n := 6) c7 hd (by decide)
  rw [← e8] at c8
  obtain ⟨A9, e9⟩ : ∃ A, A = jv_up A8 m 17 (A8 m2 17) := ⟨_, rfl⟩
  have c9 := ot_cp_int (k := 17) c8 hd
  rw [← e9] at c9
  obtain ⟨A10, e10⟩ : ∃ A, A = jv_pa A9 (m + 23) (va_cpy (A9 (m2 + 23)) (A9 (m + 23)) 0 0 20) := ⟨_, rfl⟩
  have c10 := ot_cp_arr (j0 := 23) (n := 20) c9 hd (by decide)
  rw [← e10] at c10
  obtain ⟨A11, e11⟩ : ∃ A, A = jv_pa A10 (m + 24) (va_cpy (A10 (m2 + 24)) (A10 (m + 24)) 0 0 20) := ⟨_, rfl⟩
  have c11 := ot_cp_arr (j0 := 24) (n := 20) c10 hd (by decide)
  rw [← e11] at c11
  obtain ⟨A12, e12⟩ : ∃ A, A = jv_pa A11 (m + 25) (va_cpy (A11 (m2 + 25)) (A11 (m + 25)) 0 0 20) := ⟨_, rfl⟩
  have c12 := ot_cp_arr (j0 := 25) (n := 20) c11 hd (by decide)
  rw [← e12] at c12
  obtain ⟨A13, e13⟩ : ∃ A, A = jv_pa A12 (m + 26) (va_cpy (A12 (m2 + 26)) (A12 (m + 26)) 0 0 20) := ⟨_, rfl⟩
  have c13 := ot_cp_arr (j0 := 26) (n := 20) c12 hd (by decide)
  rw [← e13] at c13
  obtain ⟨A14, e14⟩ : ∃ A, A = jv_up A13 m 22 (A13 m2 22) := ⟨_, rfl⟩
  have c14 := ot_cp_int (k := 22) c13 hd
  rw [← e14] at c14
  refine ⟨A14, ?_, ?_, c14.1, fun q h1 h2 => ?_, fun q h1 => ?_, fun k k1 k2 k3 k4 => ?_⟩
  · refine jv_enter okX5_takeFrom (L := [.ref m, .ref m2]) rfl (Nat.le_of_ble_eq_true rfl) ?_
    refine jv_aload0 dX5_takeFrom_0 ?_
    refine jv_aload1 dX5_takeFrom_1 ?_
    refine jv_getI dX5_takeFrom_2 flX5_80 rfl (mk hG2) rfl ?_
    refine jv_putI dX5_takeFrom_5 flX5_80 rfl (mk hG) rfl rfl ?_
    rw [← e1]
    refine jv_aload1 dX5_takeFrom_8 ?_
    refine jv_getR dX5_takeFrom_9 flX5_37 rfl (mk hG2) (mr_strong hG2) ?_
    refine jv_aload0 dX5_takeFrom_12 ?_
    refine jv_getR dX5_takeFrom_13 flX5_37 rfl (mk hG) (mr_strong hG) ?_
    refine jv_s20 dX5_takeFrom_16 okX5_copied stX5_copied mlX5_335 (om_copied (mk_strong hG2) (mk_strong hG) (by omega) (by decide)) (by decide) (Nat.le_of_ble_eq_true rfl) ?_
    rw [← e2]
    refine jv_aload1 dX5_takeFrom_19 ?_
    refine jv_getR dX5_takeFrom_20 flX5_40 rfl (mk hG2) (mr_step hG2) ?_
    refine jv_aload0 dX5_takeFrom_23 ?_
    refine jv_getR dX5_takeFrom_24 flX5_40 rfl (mk hG) (mr_step hG) ?_
    refine jv_s20 dX5_takeFrom_27 okX5_copied stX5_copied mlX5_335 (om_copied (mk_step hG2) (mk_step hG) (by omega) (by decide)) (by decide) (Nat.le_of_ble_eq_true rfl) ?_
    rw [← e3]
    refine jv_aload1 dX5_takeFrom_30 ?_
    refine jv_getR dX5_takeFrom_31 flX5_43 rfl (mk hG2) (mr_place hG2) ?_
    refine jv_aload0 dX5_takeFrom_34 ?_
    refine jv_getR dX5_takeFrom_35 flX5_43 rfl (mk hG) (mr_place hG) ?_
    refine jv_s20 dX5_takeFrom_38 okX5_copied stX5_copied mlX5_335 (om_copied (mk_place hG2) (mk_place hG) (by omega) (by decide)) (by decide) (Nat.le_of_ble_eq_true rfl) ?_
    rw [← e4]
    refine jv_aload0 dX5_takeFrom_41 ?_
    refine jv_aload1 dX5_takeFrom_42 ?_
    refine jv_getI dX5_takeFrom_43 flX5_91 rfl (mk hG2) rfl ?_
    refine jv_putI dX5_takeFrom_46 flX5_91 rfl (mk hG) rfl rfl ?_
    rw [← e5]
    refine jv_aload1 dX5_takeFrom_49 ?_
    refine jv_getR dX5_takeFrom_50 flX5_46 rfl (mk hG2) (mr_kind hG2) ?_
    refine jv_aload0 dX5_takeFrom_53 ?_
    refine jv_getR dX5_takeFrom_54 flX5_46 rfl (mk hG) (mr_kind hG) ?_
    refine jv_s20 dX5_takeFrom_57 okX5_copied stX5_copied mlX5_335 (om_copied (mk_kind hG2) (mk_kind hG) (by omega) (by decide)) (by decide) (Nat.le_of_ble_eq_true rfl) ?_
    rw [← e6]
    refine jv_aload1 dX5_takeFrom_60 ?_
    refine jv_getR dX5_takeFrom_61 flX5_49 rfl (mk hG2) (mr_by hG2) ?_
    refine jv_aload0 dX5_takeFrom_64 ?_
    refine jv_getR dX5_takeFrom_65 flX5_49 rfl (mk hG) (mr_by hG) ?_
    refine jv_s20 dX5_takeFrom_68 okX5_copied stX5_copied mlX5_335 (om_copied (mk_by hG2) (mk_by hG) (by omega) (by decide)) (by decide) (Nat.le_of_ble_eq_true rfl) ?_
    rw [← e7]
    refine jv_aload1 dX5_takeFrom_71 ?_
    refine jv_getR dX5_takeFrom_72 flX5_52 rfl (mk hG2) (mr_slips hG2) ?_
    refine jv_aload0 dX5_takeFrom_75 ?_
    refine jv_getR dX5_takeFrom_76 flX5_52 rfl (mk hG) (mr_slips hG) ?_
    refine jv_s20 dX5_takeFrom_79 okX5_copied stX5_copied mlX5_335 (om_copied (mk_slips hG2) (mk_slips hG) (by omega) (by decide)) (by decide) (Nat.le_of_ble_eq_true rfl) ?_
    rw [← e8]
    refine jv_aload0 dX5_takeFrom_82 ?_
    refine jv_aload1 dX5_takeFrom_83 ?_
    refine jv_getI dX5_takeFrom_84 flX5_141 rfl (mk hG2) rfl ?_
    refine jv_putI dX5_takeFrom_87 flX5_141 rfl (mk hG) rfl rfl ?_
    rw [← e9]
    refine jv_aload1 dX5_takeFrom_90 ?_
    refine jv_getR dX5_takeFrom_91 flX5_55 rfl (mk hG2) (mr_one hG2) ?_
    refine jv_aload0 dX5_takeFrom_94 ?_
    refine jv_getR dX5_takeFrom_95 flX5_55 rfl (mk hG) (mr_one hG) ?_
    refine jv_s20 dX5_takeFrom_98 okX5_copied stX5_copied mlX5_335 (om_copied (mk_one hG2) (mk_one hG) (by omega) (by decide)) (by decide) (Nat.le_of_ble_eq_true rfl) ?_
    rw [← e10]
    refine jv_aload1 dX5_takeFrom_101 ?_
    refine jv_getR dX5_takeFrom_102 flX5_58 rfl (mk hG2) (mr_other hG2) ?_
    refine jv_aload0 dX5_takeFrom_105 ?_
    refine jv_getR dX5_takeFrom_106 flX5_58 rfl (mk hG) (mr_other hG) ?_
    refine jv_s20 dX5_takeFrom_109 okX5_copied stX5_copied mlX5_335 (om_copied (mk_other hG2) (mk_other hG) (by omega) (by decide)) (by decide) (Nat.le_of_ble_eq_true rfl) ?_
    rw [← e11]
    refine jv_aload1 dX5_takeFrom_112 ?_
    refine jv_getR dX5_takeFrom_113 flX5_61 rfl (mk hG2) (mr_together hG2) ?_
    refine jv_aload0 dX5_takeFrom_116 ?_
    refine jv_getR dX5_takeFrom_117 flX5_61 rfl (mk hG) (mr_together hG) ?_
    refine jv_s20 dX5_takeFrom_120 okX5_copied stX5_copied mlX5_335 (om_copied (mk_together hG2) (mk_together hG) (by omega) (by decide)) (by decide) (Nat.le_of_ble_eq_true rfl) ?_
    rw [← e12]
    refine jv_aload1 dX5_takeFrom_123 ?_
    refine jv_getR dX5_takeFrom_124 flX5_64 rfl (mk hG2) (mr_worth hG2) ?_
    refine jv_aload0 dX5_takeFrom_127 ?_
    refine jv_getR dX5_takeFrom_128 flX5_64 rfl (mk hG) (mr_worth hG) ?_
    refine jv_s20 dX5_takeFrom_131 okX5_copied stX5_copied mlX5_335 (om_copied (mk_worth hG2) (mk_worth hG) (by omega) (by decide)) (by decide) (Nat.le_of_ble_eq_true rfl) ?_
    rw [← e13]
    refine jv_aload0 dX5_takeFrom_134 ?_
    refine jv_aload1 dX5_takeFrom_135 ?_
    refine jv_getI dX5_takeFrom_136 flX5_67 rfl (mk hG2) rfl ?_
    refine jv_putI dX5_takeFrom_139 flX5_67 rfl (mk hG) rfl rfl ?_
    rw [← e14]
    exact jv_vret dX5_takeFrom_142 rfl rfl rfl rfl
  · have g := c14.2
    have g0 := fun k h => g 0 k h
    simp only [Nat.add_zero] at g0
    obtain ⟨⟨r1, r2, r3, r4⟩, g1, g2, g3⟩ := hR
    refine ⟨⟨?_, ?_, ?_, ?_⟩, fun c hc => ?_, fun c hc => ?_, fun c hc => ?_⟩
    · rw [g0 9 (by simp)]; exact r1
    · rw [g0 13 (by simp)]; exact r2
    · rw [g0 17 (by simp)]; exact r3
    · rw [g0 22 (by simp)]; exact r4
    · rw [g 17 c (by simp; omega), g 18 c (by simp; omega), g 19 c (by simp; omega)]
      exact g1 c hc
    · rw [g 20 c (by simp; omega), g 21 c (by simp; omega), g 22 c (by simp; omega)]
      exact g2 c hc
    · rw [g 23 c (by simp; omega), g 24 c (by simp; omega), g 25 c (by simp; omega), g 26 c (by simp; omega)]
      exact g3 c hc
  · rw [e14, jv_up_ne _ _ _ (by omega), e13, ot_pa_ne (by omega), e12, ot_pa_ne (by omega), e11, ot_pa_ne (by omega), e10, ot_pa_ne (by omega), e9, jv_up_ne _ _ _ (by omega), e8, ot_pa_ne (by omega), e7, ot_pa_ne (by omega), e6, ot_pa_ne (by omega), e5, jv_up_ne _ _ _ (by omega), e4, ot_pa_ne (by omega), e3, ot_pa_ne (by omega), e2, ot_pa_ne (by omega), e1, jv_up_ne _ _ _ (by omega)]
  · rw [e14, jv_up_ne _ _ _ (by omega), e13, ot_pa_ne (by omega), e12, ot_pa_ne (by omega), e11, ot_pa_ne (by omega), e10, ot_pa_ne (by omega), e9, jv_up_ne _ _ _ (by omega), e8, ot_pa_ne (by omega), e7, ot_pa_ne (by omega), e6, ot_pa_ne (by omega), e5, jv_up_ne _ _ _ (by omega), e4, ot_pa_ne (by omega), e3, ot_pa_ne (by omega), e2, ot_pa_ne (by omega), e1, jv_up_ne _ _ _ (by omega)]
  · rw [e14, jv_up_at_ne _ _ _ (by omega), e13, ot_pa_ne (by omega), e12, ot_pa_ne (by omega), e11, ot_pa_ne (by omega), e10, ot_pa_ne (by omega), e9, jv_up_at_ne _ _ _ (by omega), e8, ot_pa_ne (by omega), e7, ot_pa_ne (by omega), e6, ot_pa_ne (by omega), e5, jv_up_at_ne _ _ _ (by omega), e4, ot_pa_ne (by omega), e3, ot_pa_ne (by omega), e2, ot_pa_ne (by omega), e1, jv_up_at_ne _ _ _ (by omega)]
