/-! ===== yard: the reference's numbers and statements ===== -/
def ot_qf (I A : jv_I) : Prop := (∀ q, q ≠ 64 → q ≠ 64 + 27 → A q = I q) ∧ ∀ j, (j < 25 ∨ 29 < j) → A 64 j = I 64 j
theorem ot_qf.rf {I : jv_I} : ot_qf I I := ⟨fun _ _ _ => rfl, fun _ _ => rfl⟩
theorem ot_qf.tr {I A B : jv_I} (h : ot_qf I A) (h2 : ot_qf A B) : ot_qf I B := ⟨fun q a b => (h2.1 q a b).trans (h.1 q a b), fun j hj => (h2.2 j hj).trans (h.2 j hj)⟩
theorem ot_lf.qf {I A : jv_I} (h : ot_lf I A) : ot_qf I A := ⟨fun q a _ => h.1 q a, fun j hj => h.2 j (by omega)⟩
theorem ot_qf.w {I A : jv_I} (h : ot_qf I A) {v : Int32} : ot_qf I (jv_up A 64 29 v) := ⟨fun q a b => by rw [jv_up_ne _ _ _ a]; exact h.1 q a b, fun j hj => by rw [jv_up_at_ne _ _ _ (by omega)]; exact h.2 j hj⟩
theorem ot_qf.t {I A : jv_I} (h : ot_qf I A) {i : Nat} {v : Int32} : ot_qf I (jv_up A (64 + 27) i v) := ⟨fun q a b => by rw [jv_up_ne _ _ _ b]; exact h.1 q a b, fun j hj => by rw [jv_up_ne _ _ _ (by decide)]; exact h.2 j hj⟩
theorem ot_qf.tq {I A : jv_I} {n : Nat} {t : Nat → Nat} (h : ot_qf I A) (hP : ot_tq I n t) : ot_tq A n t := ⟨⟨(h.2 7 (by decide)).trans hP.1.1, fun i hi => by rw [h.1 (64 + 15) (by decide) (by decide)]; exact hP.1.2 i hi⟩, hP.2⟩
theorem ot_qf.mr {I A : jv_I} {Y : ot_Y} (h : ot_qf I A) (hR : ot_MR I 64 Y) : ot_MR A 64 Y := by
  obtain ⟨h1, h2, h3, h4⟩ := hR
  unfold ot_MR
  rw [h.2 9 (by decide), h.2 13 (by decide), h.2 17 (by decide), h.2 22 (by decide), h.1 (64 + 17) (by decide) (by decide), h.1 (64 + 18) (by decide) (by decide), h.1 (64 + 19) (by decide) (by decide), h.1 (64 + 20) (by decide) (by decide), h.1 (64 + 21) (by decide) (by decide), h.1 (64 + 22) (by decide) (by decide), h.1 (64 + 23) (by decide) (by decide), h.1 (64 + 24) (by decide) (by decide), h.1 (64 + 25) (by decide) (by decide), h.1 (64 + 26) (by decide) (by decide)]
  exact ⟨h1, h2, h3, h4⟩
theorem ot_qf.mw {I A : jv_I} (h : ot_qf I A) : ot_mw I A := ⟨fun q a b => h.1 q a (by omega), h.2 7 (by decide)⟩
theorem om_inI {G : jv_Gr} {I : jv_I} {J : jv_J} (v lo hi : Int32) : jv_C 1 mX5_in [.long v.toInt64, .long lo.toInt64, .long hi.toInt64] G I J (some (.int (jv_b (lo ≤ v ∧ v ≤ hi)))) G I J := by
  have q := om_in (G := G) (I := I) (J := J) v.toInt64 lo.toInt64 hi.toInt64
  rw [jv_b_iff (show _ ↔ (lo ≤ v ∧ v ≤ hi) by rw [Int64.le_iff_toInt_le, Int64.le_iff_toInt_le, Int32.toInt_toInt64, Int32.toInt_toInt64, Int32.toInt_toInt64, Int32.le_iff_toInt_le, Int32.le_iff_toInt_le])] at q
  exact q
theorem ot_fg_le {t : Nat → Nat} {n e : Nat} (he : e ≤ n) (h : ∀ i, i < n → t i ≤ 255) : ot_fg t n e ≤ 40000 := by
  unfold ot_fg
  split
  · have := ot_te_le t he
    exact ot_fm_le (fun j hj => h _ (by omega))
  · omega
set_option maxRecDepth 20000 in
theorem om_wrong {G : jv_Gr} {I : jv_I} {J : jv_J} (hG : ot_MG G 64) {s : Nat} (h27 : I 64 27 = nI s) : jv_C 1 mX5_wrong [.ref 64] G I J (some (.int (nI 0))) G (jv_up I 64 29 (nI s)) J := by
  refine jv_enter okX5_wrong (L := [.ref 64]) rfl (Nat.le_of_ble_eq_true rfl) ?_
  refine jv_aload0 dX5_wrong_0 ?_
  refine jv_aload0 dX5_wrong_1 ?_
  refine jv_getI dX5_wrong_2 flX5_160 rfl (mk hG) h27 ?_
  refine jv_putI dX5_wrong_5 flX5_175 rfl (mk hG) rfl rfl ?_
  refine jv_iconst dX5_wrong_8 jv_c_iconst_0 ?_
  exact jv_iret dX5_wrong_9 rfl (by decide) rfl rfl rfl
set_option maxRecDepth 20000 in
theorem om_isWord {G : jv_Gr} {I : jv_I} {J : jv_J} (hG : ot_MG G 64) {n : Nat} {t : Nat → Nat} (hP : ot_tq I n t) {e k : Nat} (hk : k < 6) (he : e ≤ n) (h4 : ot_L4 I t n e) : jv_C 5 mX5_isWord [.ref 64, .ref (1000000 + k)] G I J (some (.int (jv_b (ot_isW t n e k = true)))) G I J := by
  have hn := hP.2.1
  have h255 := hP.2.2
  have b1 := ot_tn_4 t n e
  have b2 := ot_te_le t he
  have b3 := ot_te_ge t n e
  have b4 := ot_ts_ge t n e
  have b5 := jv_len_ok k hk
  refine jv_enter okX5_isWord (L := [.ref 64, .ref (1000000 + k), .null]) rfl (Nat.le_of_ble_eq_true rfl) ?_
  by_cases hk1 : ot_tn t n e = 1
  · by_cases hk2 : ot_te t n e - ot_ts t n e = jv_len.getD k 0
    · skip
      have loop : ∀ (m0 i : Nat) , jv_len.getD k 0 + 1 ≤ i + m0 → i ≤ jv_len.getD k 0 → ot_eqw t (ot_ts t n e) k i = true → jv_V 5 mX5_isWord 28 [.ref 64, .ref (1000000 + k), .int (nI i)] [] G I J (some (.int (jv_b (ot_isW t n e k = true)))) G I J := by
        intro m0
        induction m0 with
        | zero => intro i  h1 h2; omega
        | succ m0 ih =>
          intro i  h1 h2 ea
          refine jv_iload2 dX5_isWord_28 ?_
          refine jv_aload1 dX5_isWord_29 ?_
          refine jv_callT (k := k) (As := []) hk dX5_isWord_30 okJ0_length_8abf5 rfl inJ0_length_8abf5 seJ0_length_8abf5 mlX5_178 (jv_lengthM hk) (by decide) rfl rfl (Nat.le_of_ble_eq_true rfl) ?_
          refine jv_icmp_geN dX5_isWord_33 (tgt := 63) (by decide) (by omega) (by omega) (fun h33 => ?_) (fun h33 => ?_)
          · refine jv_iconst dX5_isWord_63 jv_c_iconst_1 ?_
            exact jv_iret dX5_isWord_64 rfl (by decide) (ot_b1 (by unfold ot_isW; rw [decide_eq_true hk1, decide_eq_true hk2, show jv_len.getD k 0 = i by omega, ea]; rfl)) rfl rfl
          · refine jv_aload0 dX5_isWord_36 ?_
            refine jv_getR dX5_isWord_37 flX5_31 rfl (mk hG) (mr_tape hG) ?_
            refine jv_aload0 dX5_isWord_40 ?_
            refine jv_getI dX5_isWord_41 flX5_160 rfl (mk hG) h4.2.1 ?_
            refine jv_iload2 dX5_isWord_44 ?_
            refine jv_iaddN dX5_isWord_45 ?_
            refine jv_ialdN dX5_isWord_46 (mk_tape hG) (by omega) (by decide) (hP.1.2 _ (by omega)) ?_
            refine jv_aload1 dX5_isWord_47 ?_
            refine jv_iload2 dX5_isWord_48 ?_
            refine jv_callT (k := k) (As := [.int (nI i)]) hk dX5_isWord_49 okJ0_charAt_5068e rfl inJ0_charAt_5068e seJ0_charAt_5068e mlX5_184 (jv_charAtM hk (by omega)) (by decide) rfl rfl (Nat.le_of_ble_eq_true rfl) ?_
            refine jv_icmp_eq dX5_isWord_52 (tgt := 57) (by decide) (fun h52 => ?_) (fun h52 => ?_)
            · refine jv_iinc2N dX5_isWord_57 rfl ?_
              refine jv_goto dX5_isWord_60 (tgt := 28) (by decide) ?_
              exact ih (i + 1) (by omega) (by omega) (by rw [ot_eqw, ea, decide_eq_true h52]; rfl)
            · refine jv_iconst dX5_isWord_55 jv_c_iconst_0 ?_
              exact jv_iret dX5_isWord_56 rfl (by decide) (ot_b0 (fun z => ot_eqw_no (show i < jv_len.getD k 0 by omega) h52 (ot_isW_3 z))) rfl rfl
      refine jv_aload0 dX5_isWord_0 ?_
      refine jv_getI dX5_isWord_1 flX5_166 rfl (mk hG) h4.1 ?_
      refine jv_iconst dX5_isWord_4 jv_c_iconst_1 ?_
      refine jv_icmp_neN dX5_isWord_5 (tgt := 24) (by decide) (by omega) (by omega) (fun hc5 => by omega) (fun hc5 => ?_)
      refine jv_aload0 dX5_isWord_8 ?_
      refine jv_getI dX5_isWord_9 flX5_157 rfl (mk hG) h4.2.2.1 ?_
      refine jv_aload0 dX5_isWord_12 ?_
      refine jv_getI dX5_isWord_13 flX5_160 rfl (mk hG) h4.2.1 ?_
      refine jv_isubN dX5_isWord_16 (by omega) ?_
      refine jv_aload1 dX5_isWord_17 ?_
      refine jv_callT (k := k) (As := []) hk dX5_isWord_18 okJ0_length_8abf5 rfl inJ0_length_8abf5 seJ0_length_8abf5 mlX5_178 (jv_lengthM hk) (by decide) rfl rfl (Nat.le_of_ble_eq_true rfl) ?_
      refine jv_icmp_eqN dX5_isWord_21 (tgt := 26) (by decide) (by omega) (by omega) (fun hc21 => ?_) (fun hc21 => by omega)
      refine jv_iconst dX5_isWord_26 jv_c_iconst_0 ?_
      refine jv_istore2 dX5_isWord_27 rfl ?_
      exact loop (jv_len.getD k 0 + 1) 0 (by omega) (by omega) rfl
    · skip
      refine jv_aload0 dX5_isWord_0 ?_
      refine jv_getI dX5_isWord_1 flX5_166 rfl (mk hG) h4.1 ?_
      refine jv_iconst dX5_isWord_4 jv_c_iconst_1 ?_
      refine jv_icmp_neN dX5_isWord_5 (tgt := 24) (by decide) (by omega) (by omega) (fun hc5 => by omega) (fun hc5 => ?_)
      refine jv_aload0 dX5_isWord_8 ?_
      refine jv_getI dX5_isWord_9 flX5_157 rfl (mk hG) h4.2.2.1 ?_
      refine jv_aload0 dX5_isWord_12 ?_
      refine jv_getI dX5_isWord_13 flX5_160 rfl (mk hG) h4.2.1 ?_
      refine jv_isubN dX5_isWord_16 (by omega) ?_
      refine jv_aload1 dX5_isWord_17 ?_
      refine jv_callT (k := k) (As := []) hk dX5_isWord_18 okJ0_length_8abf5 rfl inJ0_length_8abf5 seJ0_length_8abf5 mlX5_178 (jv_lengthM hk) (by decide) rfl rfl (Nat.le_of_ble_eq_true rfl) ?_
      refine jv_icmp_eqN dX5_isWord_21 (tgt := 26) (by decide) (by omega) (by omega) (fun hc21 => by omega) (fun hc21 => ?_)
      refine jv_iconst dX5_isWord_24 jv_c_iconst_0 ?_
      exact jv_iret dX5_isWord_25 rfl (by decide) (ot_b0 (fun z => hk2 (ot_isW_2 z))) rfl rfl
  · skip
    refine jv_aload0 dX5_isWord_0 ?_
    refine jv_getI dX5_isWord_1 flX5_166 rfl (mk hG) h4.1 ?_
    refine jv_iconst dX5_isWord_4 jv_c_iconst_1 ?_
    refine jv_icmp_neN dX5_isWord_5 (tgt := 24) (by decide) (by omega) (by omega) (fun hc5 => ?_) (fun hc5 => by omega)
    refine jv_iconst dX5_isWord_24 jv_c_iconst_0 ?_
    exact jv_iret dX5_isWord_25 rfl (by decide) (ot_b0 (fun z => hk1 (ot_isW_1 z))) rfl rfl
set_option maxRecDepth 20000 in
theorem om_number_y {G : jv_Gr} {I : jv_I} {J : jv_J} (hG : ot_MG G 64) {n : Nat} {t : Nat → Nat} (hP : ot_tq I n t) {e : Nat} (he : e ≤ n) (h4 : ot_L4 I t n e) {i : Nat} (hi3 : i < 3) {lo h1 : Nat} {hi : Int32} (hlo : lo < 2 ^ 30) (hH : ot_hib hi h1) (hy : ot_nok t n e lo h1) : ∃ I2, jv_C 3 mX5_number [.ref 64, .int (nI i), .int (nI lo), .int hi] G I J (some (.int (nI 1))) G I2 J ∧ ot_qf I I2 ∧ ot_L4 I2 t n (ot_te t n e) ∧ (∀ j, j ≠ i → I2 (64 + 27) j = I (64 + 27) j) ∧ I2 (64 + 27) i = nI (ot_fg t n e) := by
  have h255 := hP.2.2
  have hfl := ot_fg_le he h255
  have b1 := ot_tn_4 t n e
  have hiff : (nI lo ≤ nI (ot_fg t n e) ∧ nI (ot_fg t n e) ≤ hi) ↔ (lo ≤ ot_fg t n e ∧ ot_fg t n e < h1) := by rw [hH _ (by omega), nI_leI (by omega) (by omega)]
  have hw := hiff.mpr hy.2
  have k2 := hy.1
  have hF1 : ot_qf I (jv_up I (64 + 27) i (nI (ot_fg t n e))) := ot_qf.rf.t
  obtain ⟨I2, c1, f1, l1⟩ := om_look (J := J) (I := jv_up I (64 + 27) i (nI (ot_fg t n e))) hG (hF1.tq hP) (ot_te_le t he) (by rw [jv_up_ne _ _ _ (by decide)]; exact h4.2.2.1)
  refine ⟨I2, ?_, hF1.tr f1.qf, l1, fun j hj => by rw [f1.1 (64 + 27) (by decide), jv_up_at_ne _ _ _ hj], by rw [f1.1 (64 + 27) (by decide), jv_up_at]⟩
  refine jv_enter okX5_number (L := [.ref 64, .int (nI i), .int (nI lo), .int hi]) rfl (Nat.le_of_ble_eq_true rfl) ?_
  refine jv_aload0 dX5_number_0 ?_
  refine jv_getI dX5_number_1 flX5_166 rfl (mk hG) h4.1 ?_
  refine jv_iconst dX5_number_4 jv_c_iconst_2 ?_
  refine jv_icmp_neN dX5_number_5 (tgt := 23) (by decide) (by omega) (by omega) (fun hc5 => by omega) (fun hc5 => ?_)
  refine jv_aload0 dX5_number_8 ?_
  refine jv_getI dX5_number_9 flX5_163 rfl (mk hG) h4.2.2.2 ?_
  refine jv_i2l dX5_number_12 rfl ?_
  refine jv_iload2 dX5_number_13 ?_
  refine jv_i2l dX5_number_14 rfl ?_
  refine jv_iload3 dX5_number_15 ?_
  refine jv_i2l dX5_number_16 rfl ?_
  refine jv_s31 dX5_number_17 okX5_in stX5_in mlX5_83 (om_inI _ _ _) (by decide) (Nat.le_of_ble_eq_true rfl) ?_
  refine jv_if_neB dX5_number_20 (tgt := 28) (by decide) (fun hz => ?_) (fun hz => absurd hw hz)
  refine jv_aload0 dX5_number_28 ?_
  refine jv_getR dX5_number_29 flX5_71 rfl (mk hG) (mr_told hG) ?_
  refine jv_iload1 dX5_number_32 ?_
  refine jv_aload0 dX5_number_33 ?_
  refine jv_getI dX5_number_34 flX5_163 rfl (mk hG) h4.2.2.2 ?_
  refine jv_iastN dX5_number_37 (mk_told hG) (by omega) (by decide) ?_
  refine jv_aload0 dX5_number_38 ?_
  refine jv_v00 dX5_number_39 okX5_look inX5_look seX5_look mlX5_192 (ci := 5) (T := TX5) (N := 35) rfl (mk hG) c1 (by decide) (Nat.le_of_ble_eq_true rfl) ?_
  refine jv_iconst dX5_number_42 jv_c_iconst_1 ?_
  exact jv_iret dX5_number_43 rfl (by decide) rfl rfl rfl
set_option maxRecDepth 20000 in
theorem om_number_n {G : jv_Gr} {I : jv_I} {J : jv_J} (hG : ot_MG G 64) {n : Nat} {t : Nat → Nat} (hP : ot_tq I n t) {e : Nat} (he : e ≤ n) (h4 : ot_L4 I t n e) {i : Nat} (hi3 : i < 3) {lo h1 : Nat} {hi : Int32} (hlo : lo < 2 ^ 30) (hH : ot_hib hi h1) (hy : ¬ ot_nok t n e lo h1) : ∃ I2, jv_C 3 mX5_number [.ref 64, .int (nI i), .int (nI lo), .int hi] G I J (some (.int (nI 0))) G I2 J ∧ ot_qf I I2 ∧ I2 64 29 = nI (ot_ts t n e) := by
  have h255 := hP.2.2
  have hfl := ot_fg_le he h255
  have b1 := ot_tn_4 t n e
  have hiff : (nI lo ≤ nI (ot_fg t n e) ∧ nI (ot_fg t n e) ≤ hi) ↔ (lo ≤ ot_fg t n e ∧ ot_fg t n e < h1) := by rw [hH _ (by omega), nI_leI (by omega) (by omega)]
  refine ⟨jv_up I 64 29 (nI (ot_ts t n e)), ?_, ot_qf.rf.w, jv_up_at _ _ _ _⟩
  refine jv_enter okX5_number (L := [.ref 64, .int (nI i), .int (nI lo), .int hi]) rfl (Nat.le_of_ble_eq_true rfl) ?_
  by_cases k2 : ot_tn t n e = 2
  · have hw : ¬ (nI lo ≤ nI (ot_fg t n e) ∧ nI (ot_fg t n e) ≤ hi) := fun z => hy ⟨k2, hiff.mp z⟩
    refine jv_aload0 dX5_number_0 ?_
    refine jv_getI dX5_number_1 flX5_166 rfl (mk hG) h4.1 ?_
    refine jv_iconst dX5_number_4 jv_c_iconst_2 ?_
    refine jv_icmp_neN dX5_number_5 (tgt := 23) (by decide) (by omega) (by omega) (fun hc5 => by omega) (fun hc5 => ?_)
    refine jv_aload0 dX5_number_8 ?_
    refine jv_getI dX5_number_9 flX5_163 rfl (mk hG) h4.2.2.2 ?_
    refine jv_i2l dX5_number_12 rfl ?_
    refine jv_iload2 dX5_number_13 ?_
    refine jv_i2l dX5_number_14 rfl ?_
    refine jv_iload3 dX5_number_15 ?_
    refine jv_i2l dX5_number_16 rfl ?_
    refine jv_s31 dX5_number_17 okX5_in stX5_in mlX5_83 (om_inI _ _ _) (by decide) (Nat.le_of_ble_eq_true rfl) ?_
    refine jv_if_neB dX5_number_20 (tgt := 28) (by decide) (fun hz => absurd hz hw) (fun hz => ?_)
    refine jv_aload0 dX5_number_23 ?_
    refine jv_v01 dX5_number_24 okX5_wrong inX5_wrong seX5_wrong mlX5_188 (ci := 5) (T := TX5) (N := 35) rfl (mk hG) (om_wrong hG h4.2.1) (by decide) (Nat.le_of_ble_eq_true rfl) ?_
    exact jv_iret dX5_number_27 rfl (by decide) rfl rfl rfl
  · skip
    refine jv_aload0 dX5_number_0 ?_
    refine jv_getI dX5_number_1 flX5_166 rfl (mk hG) h4.1 ?_
    refine jv_iconst dX5_number_4 jv_c_iconst_2 ?_
    refine jv_icmp_neN dX5_number_5 (tgt := 23) (by decide) (by omega) (by omega) (fun hc5 => ?_) (fun hc5 => by omega)
    refine jv_aload0 dX5_number_23 ?_
    refine jv_v01 dX5_number_24 okX5_wrong inX5_wrong seX5_wrong mlX5_188 (ci := 5) (T := TX5) (N := 35) rfl (mk hG) (om_wrong hG h4.2.1) (by decide) (Nat.le_of_ble_eq_true rfl) ?_
    exact jv_iret dX5_number_27 rfl (by decide) rfl rfl rfl
set_option maxRecDepth 20000 in
theorem om_tells_y {G : jv_Gr} {I : jv_I} {J : jv_J} (hG : ot_MG G 64) {n : Nat} {t : Nat → Nat} (hP : ot_tq I n t) {e : Nat} (he : e ≤ n) (h25 : I 64 25 = nI e) {lo h1 : Nat} {hi : Int32} (hlo : lo < 2 ^ 30) (hH : ot_hib hi h1) (hy : ot_nok t n e lo h1) : ∃ I2, jv_C 4 mX5_tells [.ref 64, .int (nI lo), .int hi] G I J (some (.int (nI 1))) G I2 J ∧ ot_qf I I2 ∧ ot_L4 I2 t n (ot_te t n e) ∧ I2 (64 + 27) 0 = nI (ot_fg t n e) := by
  obtain ⟨A1, c1, f1, l1⟩ := om_look (J := J) hG hP he h25
  obtain ⟨A2, c2, f2, l2, _, u2⟩ := om_number_y (J := J) hG (f1.tq hP) he l1 (i := 0) (by decide) hlo hH hy
  refine ⟨A2, ?_, f1.qf.tr f2, l2, u2⟩
  refine jv_enter okX5_tells (L := [.ref 64, .int (nI lo), .int hi]) rfl (Nat.le_of_ble_eq_true rfl) ?_
  refine jv_aload0 dX5_tells_0 ?_
  refine jv_v00 dX5_tells_1 okX5_look inX5_look seX5_look mlX5_192 (ci := 5) (T := TX5) (N := 35) rfl (mk hG) c1 (by decide) (Nat.le_of_ble_eq_true rfl) ?_
  refine jv_aload0 dX5_tells_4 ?_
  refine jv_iconst dX5_tells_5 jv_c_iconst_0 ?_
  refine jv_iload1 dX5_tells_6 ?_
  refine jv_iload2 dX5_tells_7 ?_
  refine jv_v31 dX5_tells_8 okX5_number inX5_number seX5_number mlX5_195 (ci := 5) (T := TX5) (N := 35) rfl (mk hG) c2 (by decide) (Nat.le_of_ble_eq_true rfl) ?_
  exact jv_iret dX5_tells_11 rfl (by decide) rfl rfl rfl
set_option maxRecDepth 20000 in
theorem om_tells_n {G : jv_Gr} {I : jv_I} {J : jv_J} (hG : ot_MG G 64) {n : Nat} {t : Nat → Nat} (hP : ot_tq I n t) {e : Nat} (he : e ≤ n) (h25 : I 64 25 = nI e) {lo h1 : Nat} {hi : Int32} (hlo : lo < 2 ^ 30) (hH : ot_hib hi h1) (hy : ¬ ot_nok t n e lo h1) : ∃ I2, jv_C 4 mX5_tells [.ref 64, .int (nI lo), .int hi] G I J (some (.int (nI 0))) G I2 J ∧ ot_qf I I2 ∧ I2 64 29 = nI (ot_ts t n e) := by
  obtain ⟨A1, c1, f1, l1⟩ := om_look (J := J) hG hP he h25
  obtain ⟨A2, c2, f2, u2⟩ := om_number_n (J := J) hG (f1.tq hP) he l1 (i := 0) (by decide) hlo hH hy
  refine ⟨A2, ?_, f1.qf.tr f2, u2⟩
  refine jv_enter okX5_tells (L := [.ref 64, .int (nI lo), .int hi]) rfl (Nat.le_of_ble_eq_true rfl) ?_
  refine jv_aload0 dX5_tells_0 ?_
  refine jv_v00 dX5_tells_1 okX5_look inX5_look seX5_look mlX5_192 (ci := 5) (T := TX5) (N := 35) rfl (mk hG) c1 (by decide) (Nat.le_of_ble_eq_true rfl) ?_
  refine jv_aload0 dX5_tells_4 ?_
  refine jv_iconst dX5_tells_5 jv_c_iconst_0 ?_
  refine jv_iload1 dX5_tells_6 ?_
  refine jv_iload2 dX5_tells_7 ?_
  refine jv_v31 dX5_tells_8 okX5_number inX5_number seX5_number mlX5_195 (ci := 5) (T := TX5) (N := 35) rfl (mk hG) c2 (by decide) (Nat.le_of_ble_eq_true rfl) ?_
  exact jv_iret dX5_tells_11 rfl (by decide) rfl rfl rfl
set_option maxRecDepth 20000 in
theorem om_two_y {G : jv_Gr} {I : jv_I} {J : jv_J} (hG : ot_MG G 64) {n : Nat} {t : Nat → Nat} (hP : ot_tq I n t) {Y : ot_Y} (hR : ot_MR I 64 Y) (hW : ot_YW Y) {e : Nat} (he : e ≤ n) (h25 : I 64 25 = nI e) (k1 : ot_nok t n e 0 (Y 10 0)) (k2 : ot_nok t n (ot_te t n e) 0 (Y 10 0)) (hne : ¬ ot_fg t n (ot_te t n e) = ot_fg t n e) : ∃ I2, jv_C 5 mX5_twoTold [.ref 64] G I J (some (.int (nI 1))) G I2 J ∧ ot_qf I I2 ∧ ot_L4 I2 t n (ot_te t n (ot_te t n e)) ∧ I2 (64 + 27) 0 = nI (ot_fg t n e) ∧ I2 (64 + 27) 1 = nI (ot_fg t n (ot_te t n e)) := by
  have bn := yw_n hW
  have bc := yw_c hW
  have bw := yw_w hW
  obtain ⟨A1, c1, f1, l1, u1⟩ := om_tells_y (J := J) hG hP he h25 (lo := 0) (h1 := (Y 10 0)) (by decide) (ot_hib_p (by omega)) k1
  have hR1 := f1.mr hR
  have hP1 := f1.tq hP
  have he1 := ot_te_le t he
  have bt := ot_tn_4 t n (ot_te t n e)
  have bf := ot_fg_le he hP.2.2
  have bg := ot_fg_le he1 hP.2.2
  have kb1 := k1.2
  have kb2 := k2.1
  obtain ⟨A2, c2, f2, l2, u20, u2⟩ := om_number_y (J := J) hG hP1 he1 l1 (i := 1) (by decide) (lo := 0) (h1 := (Y 10 0)) (by decide) (ot_hib_p (by omega)) k2
  refine ⟨A2, ?_, f1.tr f2, l2, (u20 0 (by decide)).trans u1, u2⟩
  refine jv_enter okX5_twoTold (L := [.ref 64]) rfl (Nat.le_of_ble_eq_true rfl) ?_
  refine jv_aload0 dX5_twoTold_0 ?_
  refine jv_iconst dX5_twoTold_1 jv_c_iconst_0 ?_
  refine jv_aload0 dX5_twoTold_2 ?_
  refine jv_getI dX5_twoTold_3 flX5_80 rfl (mk hG) (mi_children hR) ?_
  refine jv_iconst dX5_twoTold_6 jv_c_iconst_1 ?_
  refine jv_isub dX5_twoTold_7 ?_
  refine jv_v21 dX5_twoTold_8 okX5_tells inX5_tells seX5_tells mlX5_199 (ci := 5) (T := TX5) (N := 35) rfl (mk hG) c1 (by decide) (Nat.le_of_ble_eq_true rfl) ?_
  refine jv_if_ne dX5_twoTold_11 (tgt := 16) (by decide) (fun hz => ?_) (fun hz => absurd hz (by decide))
  refine jv_aload0 dX5_twoTold_16 ?_
  refine jv_getI dX5_twoTold_17 flX5_166 rfl (mk hG) l1.1 ?_
  refine jv_iconst dX5_twoTold_20 jv_c_iconst_2 ?_
  refine jv_icmp_neN dX5_twoTold_21 (tgt := 42) (by decide) (by omega) (by omega) (fun hc21 => by omega) (fun hc21 => ?_)
  refine jv_aload0 dX5_twoTold_24 ?_
  refine jv_getI dX5_twoTold_25 flX5_163 rfl (mk hG) l1.2.2.2 ?_
  refine jv_aload0 dX5_twoTold_28 ?_
  refine jv_getR dX5_twoTold_29 flX5_71 rfl (mk hG) (mr_told hG) ?_
  refine jv_iconst dX5_twoTold_32 jv_c_iconst_0 ?_
  refine jv_ialdN dX5_twoTold_33 (mk_told hG) (by omega) (by decide) u1 ?_
  refine jv_icmp_neN dX5_twoTold_34 (tgt := 42) (by decide) (by omega) (by omega) (fun hc34 => ?_) (fun hc34 => by omega)
  refine jv_aload0 dX5_twoTold_42 ?_
  refine jv_iconst dX5_twoTold_43 jv_c_iconst_1 ?_
  refine jv_iconst dX5_twoTold_44 jv_c_iconst_0 ?_
  refine jv_aload0 dX5_twoTold_45 ?_
  refine jv_getI dX5_twoTold_46 flX5_80 rfl (mk hG) (mi_children hR1) ?_
  refine jv_iconst dX5_twoTold_49 jv_c_iconst_1 ?_
  refine jv_isub dX5_twoTold_50 ?_
  refine jv_v31 dX5_twoTold_51 okX5_number inX5_number seX5_number mlX5_195 (ci := 5) (T := TX5) (N := 35) rfl (mk hG) c2 (by decide) (Nat.le_of_ble_eq_true rfl) ?_
  exact jv_iret dX5_twoTold_54 rfl (by decide) rfl rfl rfl
set_option maxRecDepth 20000 in
theorem om_two_n1 {G : jv_Gr} {I : jv_I} {J : jv_J} (hG : ot_MG G 64) {n : Nat} {t : Nat → Nat} (hP : ot_tq I n t) {Y : ot_Y} (hR : ot_MR I 64 Y) (hW : ot_YW Y) {e : Nat} (he : e ≤ n) (h25 : I 64 25 = nI e) (k1 : ¬ ot_nok t n e 0 (Y 10 0)) : ∃ I2, jv_C 5 mX5_twoTold [.ref 64] G I J (some (.int (nI 0))) G I2 J ∧ ot_qf I I2 ∧ I2 64 29 = nI (ot_ts t n e) := by
  have bn := yw_n hW
  have bc := yw_c hW
  have bw := yw_w hW
  obtain ⟨A1, c1, f1, l1⟩ := om_tells_n (J := J) hG hP he h25 (lo := 0) (h1 := (Y 10 0)) (by decide) (ot_hib_p (by omega)) k1
  refine ⟨A1, ?_, f1, l1⟩
  refine jv_enter okX5_twoTold (L := [.ref 64]) rfl (Nat.le_of_ble_eq_true rfl) ?_
  refine jv_aload0 dX5_twoTold_0 ?_
  refine jv_iconst dX5_twoTold_1 jv_c_iconst_0 ?_
  refine jv_aload0 dX5_twoTold_2 ?_
  refine jv_getI dX5_twoTold_3 flX5_80 rfl (mk hG) (mi_children hR) ?_
  refine jv_iconst dX5_twoTold_6 jv_c_iconst_1 ?_
  refine jv_isub dX5_twoTold_7 ?_
  refine jv_v21 dX5_twoTold_8 okX5_tells inX5_tells seX5_tells mlX5_199 (ci := 5) (T := TX5) (N := 35) rfl (mk hG) c1 (by decide) (Nat.le_of_ble_eq_true rfl) ?_
  refine jv_if_ne dX5_twoTold_11 (tgt := 16) (by decide) (fun hz => absurd rfl hz) (fun hz => ?_)
  refine jv_iconst dX5_twoTold_14 jv_c_iconst_0 ?_
  exact jv_iret dX5_twoTold_15 rfl (by decide) rfl rfl rfl
set_option maxRecDepth 20000 in
theorem om_two_n2 {G : jv_Gr} {I : jv_I} {J : jv_J} (hG : ot_MG G 64) {n : Nat} {t : Nat → Nat} (hP : ot_tq I n t) {Y : ot_Y} (hR : ot_MR I 64 Y) (hW : ot_YW Y) {e : Nat} (he : e ≤ n) (h25 : I 64 25 = nI e) (k1 : ot_nok t n e 0 (Y 10 0)) (k2 : ¬ ot_nok t n (ot_te t n e) 0 (Y 10 0)) : ∃ I2, jv_C 5 mX5_twoTold [.ref 64] G I J (some (.int (nI 0))) G I2 J ∧ ot_qf I I2 ∧ I2 64 29 = nI (ot_ts t n (ot_te t n e)) := by
  have bn := yw_n hW
  have bc := yw_c hW
  have bw := yw_w hW
  obtain ⟨A1, c1, f1, l1, u1⟩ := om_tells_y (J := J) hG hP he h25 (lo := 0) (h1 := (Y 10 0)) (by decide) (ot_hib_p (by omega)) k1
  have hR1 := f1.mr hR
  have hP1 := f1.tq hP
  have he1 := ot_te_le t he
  have bt := ot_tn_4 t n (ot_te t n e)
  have bf := ot_fg_le he hP.2.2
  have bg := ot_fg_le he1 hP.2.2
  have kb1 := k1.2
  obtain ⟨A2, c2, f2, u2⟩ := om_number_n (J := J) hG hP1 he1 l1 (i := 1) (by decide) (lo := 0) (h1 := (Y 10 0)) (by decide) (ot_hib_p (by omega)) k2
  refine ⟨A2, ?_, f1.tr f2, u2⟩
  refine jv_enter okX5_twoTold (L := [.ref 64]) rfl (Nat.le_of_ble_eq_true rfl) ?_
  by_cases kt : ot_tn t n (ot_te t n e) = 2
  · have hne : ¬ ot_fg t n (ot_te t n e) = ot_fg t n e := fun z => k2 ⟨kt, by omega, by omega⟩
    refine jv_aload0 dX5_twoTold_0 ?_
    refine jv_iconst dX5_twoTold_1 jv_c_iconst_0 ?_
    refine jv_aload0 dX5_twoTold_2 ?_
    refine jv_getI dX5_twoTold_3 flX5_80 rfl (mk hG) (mi_children hR) ?_
    refine jv_iconst dX5_twoTold_6 jv_c_iconst_1 ?_
    refine jv_isub dX5_twoTold_7 ?_
    refine jv_v21 dX5_twoTold_8 okX5_tells inX5_tells seX5_tells mlX5_199 (ci := 5) (T := TX5) (N := 35) rfl (mk hG) c1 (by decide) (Nat.le_of_ble_eq_true rfl) ?_
    refine jv_if_ne dX5_twoTold_11 (tgt := 16) (by decide) (fun hz => ?_) (fun hz => absurd hz (by decide))
    refine jv_aload0 dX5_twoTold_16 ?_
    refine jv_getI dX5_twoTold_17 flX5_166 rfl (mk hG) l1.1 ?_
    refine jv_iconst dX5_twoTold_20 jv_c_iconst_2 ?_
    refine jv_icmp_neN dX5_twoTold_21 (tgt := 42) (by decide) (by omega) (by omega) (fun hc21 => by omega) (fun hc21 => ?_)
    refine jv_aload0 dX5_twoTold_24 ?_
    refine jv_getI dX5_twoTold_25 flX5_163 rfl (mk hG) l1.2.2.2 ?_
    refine jv_aload0 dX5_twoTold_28 ?_
    refine jv_getR dX5_twoTold_29 flX5_71 rfl (mk hG) (mr_told hG) ?_
    refine jv_iconst dX5_twoTold_32 jv_c_iconst_0 ?_
    refine jv_ialdN dX5_twoTold_33 (mk_told hG) (by omega) (by decide) u1 ?_
    refine jv_icmp_neN dX5_twoTold_34 (tgt := 42) (by decide) (by omega) (by omega) (fun hc34 => ?_) (fun hc34 => by omega)
    refine jv_aload0 dX5_twoTold_42 ?_
    refine jv_iconst dX5_twoTold_43 jv_c_iconst_1 ?_
    refine jv_iconst dX5_twoTold_44 jv_c_iconst_0 ?_
    refine jv_aload0 dX5_twoTold_45 ?_
    refine jv_getI dX5_twoTold_46 flX5_80 rfl (mk hG) (mi_children hR1) ?_
    refine jv_iconst dX5_twoTold_49 jv_c_iconst_1 ?_
    refine jv_isub dX5_twoTold_50 ?_
    refine jv_v31 dX5_twoTold_51 okX5_number inX5_number seX5_number mlX5_195 (ci := 5) (T := TX5) (N := 35) rfl (mk hG) c2 (by decide) (Nat.le_of_ble_eq_true rfl) ?_
    exact jv_iret dX5_twoTold_54 rfl (by decide) rfl rfl rfl
  · skip
    refine jv_aload0 dX5_twoTold_0 ?_
    refine jv_iconst dX5_twoTold_1 jv_c_iconst_0 ?_
    refine jv_aload0 dX5_twoTold_2 ?_
    refine jv_getI dX5_twoTold_3 flX5_80 rfl (mk hG) (mi_children hR) ?_
    refine jv_iconst dX5_twoTold_6 jv_c_iconst_1 ?_
    refine jv_isub dX5_twoTold_7 ?_
    refine jv_v21 dX5_twoTold_8 okX5_tells inX5_tells seX5_tells mlX5_199 (ci := 5) (T := TX5) (N := 35) rfl (mk hG) c1 (by decide) (Nat.le_of_ble_eq_true rfl) ?_
    refine jv_if_ne dX5_twoTold_11 (tgt := 16) (by decide) (fun hz => ?_) (fun hz => absurd hz (by decide))
    refine jv_aload0 dX5_twoTold_16 ?_
    refine jv_getI dX5_twoTold_17 flX5_166 rfl (mk hG) l1.1 ?_
    refine jv_iconst dX5_twoTold_20 jv_c_iconst_2 ?_
    refine jv_icmp_neN dX5_twoTold_21 (tgt := 42) (by decide) (by omega) (by omega) (fun hc21 => ?_) (fun hc21 => by omega)
    refine jv_aload0 dX5_twoTold_42 ?_
    refine jv_iconst dX5_twoTold_43 jv_c_iconst_1 ?_
    refine jv_iconst dX5_twoTold_44 jv_c_iconst_0 ?_
    refine jv_aload0 dX5_twoTold_45 ?_
    refine jv_getI dX5_twoTold_46 flX5_80 rfl (mk hG) (mi_children hR1) ?_
    refine jv_iconst dX5_twoTold_49 jv_c_iconst_1 ?_
    refine jv_isub dX5_twoTold_50 ?_
    refine jv_v31 dX5_twoTold_51 okX5_number inX5_number seX5_number mlX5_195 (ci := 5) (T := TX5) (N := 35) rfl (mk hG) c2 (by decide) (Nat.le_of_ble_eq_true rfl) ?_
    exact jv_iret dX5_twoTold_54 rfl (by decide) rfl rfl rfl
set_option maxRecDepth 20000 in
theorem om_two_n3 {G : jv_Gr} {I : jv_I} {J : jv_J} (hG : ot_MG G 64) {n : Nat} {t : Nat → Nat} (hP : ot_tq I n t) {Y : ot_Y} (hR : ot_MR I 64 Y) (hW : ot_YW Y) {e : Nat} (he : e ≤ n) (h25 : I 64 25 = nI e) (k1 : ot_nok t n e 0 (Y 10 0)) (k2 : ot_nok t n (ot_te t n e) 0 (Y 10 0)) (heq : ot_fg t n (ot_te t n e) = ot_fg t n e) : ∃ I2, jv_C 5 mX5_twoTold [.ref 64] G I J (some (.int (nI 0))) G I2 J ∧ ot_qf I I2 ∧ I2 64 29 = nI (ot_ts t n (ot_te t n e)) := by
  have bn := yw_n hW
  have bc := yw_c hW
  have bw := yw_w hW
  obtain ⟨A1, c1, f1, l1, u1⟩ := om_tells_y (J := J) hG hP he h25 (lo := 0) (h1 := (Y 10 0)) (by decide) (ot_hib_p (by omega)) k1
  have hR1 := f1.mr hR
  have hP1 := f1.tq hP
  have he1 := ot_te_le t he
  have bt := ot_tn_4 t n (ot_te t n e)
  have bf := ot_fg_le he hP.2.2
  have bg := ot_fg_le he1 hP.2.2
  have kb1 := k1.2
  have kb2 := k2.1
  refine ⟨jv_up A1 64 29 (nI (ot_ts t n (ot_te t n e))), ?_, f1.w, jv_up_at _ _ _ _⟩
  refine jv_enter okX5_twoTold (L := [.ref 64]) rfl (Nat.le_of_ble_eq_true rfl) ?_
  refine jv_aload0 dX5_twoTold_0 ?_
  refine jv_iconst dX5_twoTold_1 jv_c_iconst_0 ?_
  refine jv_aload0 dX5_twoTold_2 ?_
  refine jv_getI dX5_twoTold_3 flX5_80 rfl (mk hG) (mi_children hR) ?_
  refine jv_iconst dX5_twoTold_6 jv_c_iconst_1 ?_
  refine jv_isub dX5_twoTold_7 ?_
  refine jv_v21 dX5_twoTold_8 okX5_tells inX5_tells seX5_tells mlX5_199 (ci := 5) (T := TX5) (N := 35) rfl (mk hG) c1 (by decide) (Nat.le_of_ble_eq_true rfl) ?_
  refine jv_if_ne dX5_twoTold_11 (tgt := 16) (by decide) (fun hz => ?_) (fun hz => absurd hz (by decide))
  refine jv_aload0 dX5_twoTold_16 ?_
  refine jv_getI dX5_twoTold_17 flX5_166 rfl (mk hG) l1.1 ?_
  refine jv_iconst dX5_twoTold_20 jv_c_iconst_2 ?_
  refine jv_icmp_neN dX5_twoTold_21 (tgt := 42) (by decide) (by omega) (by omega) (fun hc21 => by omega) (fun hc21 => ?_)
  refine jv_aload0 dX5_twoTold_24 ?_
  refine jv_getI dX5_twoTold_25 flX5_163 rfl (mk hG) l1.2.2.2 ?_
  refine jv_aload0 dX5_twoTold_28 ?_
  refine jv_getR dX5_twoTold_29 flX5_71 rfl (mk hG) (mr_told hG) ?_
  refine jv_iconst dX5_twoTold_32 jv_c_iconst_0 ?_
  refine jv_ialdN dX5_twoTold_33 (mk_told hG) (by omega) (by decide) u1 ?_
  refine jv_icmp_neN dX5_twoTold_34 (tgt := 42) (by decide) (by omega) (by omega) (fun hc34 => by omega) (fun hc34 => ?_)
  refine jv_aload0 dX5_twoTold_37 ?_
  refine jv_v01 dX5_twoTold_38 okX5_wrong inX5_wrong seX5_wrong mlX5_188 (ci := 5) (T := TX5) (N := 35) rfl (mk hG) (om_wrong hG l1.2.1) (by decide) (Nat.le_of_ble_eq_true rfl) ?_
  exact jv_iret dX5_twoTold_41 rfl (by decide) rfl rfl rfl
