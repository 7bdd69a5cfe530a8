/-! ===== the face: group 14 (judge, behind, done) ===== -/
theorem ot_goA_iff {Y : ot_Y} {f : Nat → Int64} {n : Nat} (hn : n ≤ 40) : ot_goA Y f n = -1 ↔ ot_goN Y f n = n := by
  unfold ot_goA
  by_cases h : ot_goN Y f n = n
  · rw [if_pos h]; exact ⟨fun _ => h, fun _ => rfl⟩
  · rw [if_neg h]
    have := ot_fst_le (fun i => !ot_okc (ot_goY Y f i) (f i)) n
    exact ⟨fun q => absurd q (ot_nI_n1 (by unfold ot_goN; omega)), fun q => absurd q h⟩
def ot_rcd (Y Z : ot_Y) (E : ot_E) (s n : Int32) : Nat := if ot_tt Z s n = 0 then (if ot_goN Y (E (ot_n s)) (ot_n n) = ot_n n then 0 else 5) else ot_tt Z s n
def ot_rch (Y Z : ot_Y) (E : ot_E) (s n k : Int32) : Nat := if 0 ≤ k.toInt ∧ k.toInt < Y 10 1 then ot_rcd Y Z E s n else 2
theorem ot_tt_ok {Y Z : ot_Y} (hZ : ot_ZW Y Z) {s n : Int32} (h : ¬ ((0 ≤ s.toInt ∧ s.toInt < 8) ∧ (0 ≤ n.toInt ∧ n.toInt ≤ 40))) : ot_tt Z s n = 2 := by
  unfold ot_tt
  by_cases hn : 0 ≤ n.toInt ∧ n.toInt ≤ 40
  · rw [if_pos hn]
    have : ot_rt Z s = 2 := by unfold ot_rt; rw [if_neg (fun q => h ⟨q, hn⟩)]
    rw [this, if_neg (by decide)]
  · rw [if_neg hn]
set_option maxRecDepth 20000 in
theorem pc_judge {G : jv_Gr} {I : jv_I} {J : jv_J} {Y Z : ot_Y} {E : ot_E} {K : Option ot_Y} (h : ot_C G I J Y Z E K) (s : Int32) (n : Int32) : ot_cc 8 mX4_judge [.ref 1, .int s, .int n] G I J (ot_ans (ot_tt Z s n) (ot_goA Y (E (ot_n s)) (ot_n n))) Y (ot_zr Z (ot_tt Z s n)) E K := by
  have bn := yw_n h.w
  have bc := yw_c h.w
  have bw := yw_w h.w
  rcases ot_tt_cases h.z s n with ⟨e, t, x, ht, rfl, h1s, rfl, hle⟩ | e | e | e
  · have hx40 : x ≤ 40 := Nat.le_trans hle ((h.z.1 t ht).2.1 h1s).2
    have hT := oc_toldT h (nI t) (nI x)
    rw [e] at hT
    have hT : jv_C 4 mX4_toldTrouble _ G I J (some (.int (nI 0))) G I J := hT
    rw [e, ot_n_nI (show t < 2 ^ 30 by omega), ot_n_nI (show x < 2 ^ 30 by omega)]
    obtain ⟨I2, hW2, hR2, hf⟩ := oc_firstWrong h ht h1s hx40
    refine ⟨I2, J, ?_, ot_C_scratch h (fun q q1 q2 => hf q (by omega)) (by rw [hf 44 (by omega)]), ot_hi.fr hf (by decide)⟩
    refine jv_enter okX4_judge (L := [.ref 1, .int (nI t), .int (nI x), .null]) rfl (Nat.le_of_ble_eq_true rfl) ?_
    refine jv_aload0 dX4_judge_0 ?_
    refine jv_iload1 dX4_judge_1 ?_
    refine jv_iload2 dX4_judge_2 ?_
    refine jv_v21 dX4_judge_3 okX4_toldTrouble inX4_toldTrouble seX4_toldTrouble mlX4_265 (ci := 4) (T := TX4) (N := 8) rfl (ck h.g) hT (by decide) (Nat.le_of_ble_eq_true rfl) ?_
    refine jv_istore3 dX4_judge_6 rfl ?_
    refine jv_iload3 dX4_judge_7 ?_
    refine jv_if_neN dX4_judge_8 (tgt := 20) (by decide) (by omega) (fun hc8 => by omega) (fun hc8 => ?_)
    refine jv_aload0 dX4_judge_11 ?_
    refine jv_iload1 dX4_judge_12 ?_
    refine jv_iload2 dX4_judge_13 ?_
    refine jv_v21 dX4_judge_14 okX4_firstWrong inX4_firstWrong seX4_firstWrong mlX4_280 (ci := 4) (T := TX4) (N := 8) rfl (ck h.g) hW2 (by decide) (Nat.le_of_ble_eq_true rfl) ?_
    refine jv_goto dX4_judge_17 (tgt := 25) (by decide) ?_
    exact jv_iret dX4_judge_25 rfl rfl rfl rfl rfl
  · have hT := oc_toldT h s n
    rw [e] at hT
    have hT : jv_C 4 mX4_toldTrouble _ G I J (some (.int (-2))) G I J := hT
    rw [e]
    obtain ⟨I2, hC, h2, h3⟩ := oc_refuse2 h
    refine ⟨I2, J, ?_, h2, h3⟩
    refine jv_enter okX4_judge (L := [.ref 1, .int s, .int n, .null]) rfl (Nat.le_of_ble_eq_true rfl) ?_
    refine jv_aload0 dX4_judge_0 ?_
    refine jv_iload1 dX4_judge_1 ?_
    refine jv_iload2 dX4_judge_2 ?_
    refine jv_v21 dX4_judge_3 okX4_toldTrouble inX4_toldTrouble seX4_toldTrouble mlX4_265 (ci := 4) (T := TX4) (N := 8) rfl (ck h.g) hT (by decide) (Nat.le_of_ble_eq_true rfl) ?_
    refine jv_istore3 dX4_judge_6 rfl ?_
    refine jv_iload3 dX4_judge_7 ?_
    refine jv_if_ne dX4_judge_8 (tgt := 20) (by decide) (fun h8 => ?_) (fun h8 => absurd h8 (by decide))
    refine jv_aload0 dX4_judge_20 ?_
    refine jv_iload3 dX4_judge_21 ?_
    refine jv_v11 dX4_judge_22 okX4_refuse inX4_refuse seX4_refuse mlX4_61 (ci := 4) (T := TX4) (N := 8) rfl (ck h.g) hC (by decide) (Nat.le_of_ble_eq_true rfl) ?_
    exact jv_iret dX4_judge_25 rfl rfl rfl rfl rfl
  · have hT := oc_toldT h s n
    rw [e] at hT
    have hT : jv_C 4 mX4_toldTrouble _ G I J (some (.int (-3))) G I J := hT
    rw [e]
    obtain ⟨I2, hC, h2, h3⟩ := oc_refuse3 h
    refine ⟨I2, J, ?_, h2, h3⟩
    refine jv_enter okX4_judge (L := [.ref 1, .int s, .int n, .null]) rfl (Nat.le_of_ble_eq_true rfl) ?_
    refine jv_aload0 dX4_judge_0 ?_
    refine jv_iload1 dX4_judge_1 ?_
    refine jv_iload2 dX4_judge_2 ?_
    refine jv_v21 dX4_judge_3 okX4_toldTrouble inX4_toldTrouble seX4_toldTrouble mlX4_265 (ci := 4) (T := TX4) (N := 8) rfl (ck h.g) hT (by decide) (Nat.le_of_ble_eq_true rfl) ?_
    refine jv_istore3 dX4_judge_6 rfl ?_
    refine jv_iload3 dX4_judge_7 ?_
    refine jv_if_ne dX4_judge_8 (tgt := 20) (by decide) (fun h8 => ?_) (fun h8 => absurd h8 (by decide))
    refine jv_aload0 dX4_judge_20 ?_
    refine jv_iload3 dX4_judge_21 ?_
    refine jv_v11 dX4_judge_22 okX4_refuse inX4_refuse seX4_refuse mlX4_61 (ci := 4) (T := TX4) (N := 8) rfl (ck h.g) hC (by decide) (Nat.le_of_ble_eq_true rfl) ?_
    exact jv_iret dX4_judge_25 rfl rfl rfl rfl rfl
  · have hT := oc_toldT h s n
    rw [e] at hT
    have hT : jv_C 4 mX4_toldTrouble _ G I J (some (.int (-4))) G I J := hT
    rw [e]
    obtain ⟨I2, hC, h2, h3⟩ := oc_refuse4 h
    refine ⟨I2, J, ?_, h2, h3⟩
    refine jv_enter okX4_judge (L := [.ref 1, .int s, .int n, .null]) rfl (Nat.le_of_ble_eq_true rfl) ?_
    refine jv_aload0 dX4_judge_0 ?_
    refine jv_iload1 dX4_judge_1 ?_
    refine jv_iload2 dX4_judge_2 ?_
    refine jv_v21 dX4_judge_3 okX4_toldTrouble inX4_toldTrouble seX4_toldTrouble mlX4_265 (ci := 4) (T := TX4) (N := 8) rfl (ck h.g) hT (by decide) (Nat.le_of_ble_eq_true rfl) ?_
    refine jv_istore3 dX4_judge_6 rfl ?_
    refine jv_iload3 dX4_judge_7 ?_
    refine jv_if_ne dX4_judge_8 (tgt := 20) (by decide) (fun h8 => ?_) (fun h8 => absurd h8 (by decide))
    refine jv_aload0 dX4_judge_20 ?_
    refine jv_iload3 dX4_judge_21 ?_
    refine jv_v11 dX4_judge_22 okX4_refuse inX4_refuse seX4_refuse mlX4_61 (ci := 4) (T := TX4) (N := 8) rfl (ck h.g) hC (by decide) (Nat.le_of_ble_eq_true rfl) ?_
    exact jv_iret dX4_judge_25 rfl rfl rfl rfl rfl
set_option maxRecDepth 20000 in
theorem pm_judge {G : jv_Gr} {I : jv_I} {J : jv_J} {Y Z : ot_Y} {E : ot_E} {K : Option ot_Y} (h : ot_M G I J Y Z E K) (s : Int32) (n : Int32) : ot_mm 8 mX5_judge [.ref 64, .int s, .int n] G I J (ot_ans (ot_tt Z s n) (ot_goA Y (E (ot_n s)) (ot_n n))) Y (ot_zr Z (ot_tt Z s n)) E K := by
  have bn := yw_n h.w
  have bc := yw_c h.w
  have bw := yw_w h.w
  rcases ot_tt_cases h.z s n with ⟨e, t, x, ht, rfl, h1s, rfl, hle⟩ | e | e | e
  · have hx40 : x ≤ 40 := Nat.le_trans hle ((h.z.1 t ht).2.1 h1s).2
    obtain ⟨I2, hT, h2, h3⟩ := om_noChanges h (nI t) (nI x)
    rw [e] at hT h2
    have hT : jv_C 3 mX5_noChanges _ G I J (some (.int (nI 0))) G I2 J := hT
    have h2 : ot_M G I2 J Y Z E K := h2
    obtain ⟨G3, I3, J3, q, hFr, hM, hq, hqq, hqG, hqR, hql, hqx⟩ := om_fresh h2
    have hFn : jv_n G3 < 1000000 := by have := hM.n; unfold ot_NM at this; omega
    have hGn := ot_M_n h2
    obtain ⟨I4, hB, hR4, hF4⟩ := om_goesBy (x := x) hqG hqR h.w (mk_row hM.g ht) (fun i hi => nr_el hM.s ht h1s hi) hx40
    have hf : ot_fr I3 I4 q (q + 29) := fun u hu => hF4 u (by omega)
    rw [e, ot_n_nI (show t < 2 ^ 30 by omega), ot_n_nI (show x < 2 ^ 30 by omega)]
    refine ⟨G3, I4, J3, ?_, ot_M_try hM hq (by omega) hf (fun _ _ => rfl), (h3.tr hql).tr (ot_lo.fr hf (by omega)), hqx⟩
    refine jv_enter okX5_judge (L := [.ref 64, .int (nI t), .int (nI x), .null]) rfl (Nat.le_of_ble_eq_true rfl) ?_
    refine jv_aload0 dX5_judge_0 ?_
    refine jv_iload1 dX5_judge_1 ?_
    refine jv_iload2 dX5_judge_2 ?_
    refine jv_v21 dX5_judge_3 okX5_noChanges inX5_noChanges seX5_noChanges mlX5_322 (ci := 5) (T := TX5) (N := 35) rfl (mk h.g) hT (by decide) (Nat.le_of_ble_eq_true rfl) ?_
    refine jv_istore3 dX5_judge_6 rfl ?_
    refine jv_iload3 dX5_judge_7 ?_
    refine jv_if_eqN dX5_judge_8 (tgt := 15) (by decide) (by omega) (fun hc8 => ?_) (fun hc8 => by omega)
    refine jv_aload0 dX5_judge_15 ?_
    refine jv_callV (a := 64) (As := []) (rest := []) dX5_judge_16 okX5_fresh inX5_fresh seX5_fresh mlX5_245 (ci := 5) (T := TX5) (N := 35) rfl (mk h2.g) hFr (by decide) rfl rfl (Nat.le_of_ble_eq_true rfl) (.inr ⟨(ot_ow_r (by omega) (ot_ow_i (ot_ow_i (ot_ow_i ot_ow_nil)))), ot_ow_nil, hFn⟩) ?_
    refine jv_aload0 dX5_judge_19 ?_
    refine jv_getR dX5_judge_20 flX5_21 rfl (mk hM.g) (mr_rows hM.g) ?_
    refine jv_iload1 dX5_judge_23 ?_
    refine jv_aald3N dX5_judge_24 (mk_rows hM.g) (by omega) (by decide) (mr_row hM.g ht) ?_
    refine jv_iload2 dX5_judge_25 ?_
    refine jv_v21 dX5_judge_26 okX5_goesBy inX5_goesBy seX5_goesBy mlX5_325 (ci := 5) (T := TX5) (N := 35) rfl (mk hqG) hB (by decide) (Nat.le_of_ble_eq_true rfl) ?_
    exact jv_iret dX5_judge_29 rfl rfl rfl rfl rfl
  · obtain ⟨I2, hT, h2, h3⟩ := om_noChanges h s n
    rw [e] at hT h2
    have hT : jv_C 3 mX5_noChanges _ G I J (some (.int (-2))) G I2 J := hT
    rw [e]
    refine ⟨G, I2, J, ?_, h2, h3, ot_gx.rf⟩
    refine jv_enter okX5_judge (L := [.ref 64, .int s, .int n, .null]) rfl (Nat.le_of_ble_eq_true rfl) ?_
    refine jv_aload0 dX5_judge_0 ?_
    refine jv_iload1 dX5_judge_1 ?_
    refine jv_iload2 dX5_judge_2 ?_
    refine jv_v21 dX5_judge_3 okX5_noChanges inX5_noChanges seX5_noChanges mlX5_322 (ci := 5) (T := TX5) (N := 35) rfl (mk h.g) hT (by decide) (Nat.le_of_ble_eq_true rfl) ?_
    refine jv_istore3 dX5_judge_6 rfl ?_
    refine jv_iload3 dX5_judge_7 ?_
    refine jv_if_eq dX5_judge_8 (tgt := 15) (by decide) (fun h8 => absurd h8 (by decide)) (fun h8 => ?_)
    refine jv_iload3 dX5_judge_11 ?_
    refine jv_goto dX5_judge_12 (tgt := 29) (by decide) ?_
    exact jv_iret dX5_judge_29 rfl rfl rfl rfl rfl
  · obtain ⟨I2, hT, h2, h3⟩ := om_noChanges h s n
    rw [e] at hT h2
    have hT : jv_C 3 mX5_noChanges _ G I J (some (.int (-3))) G I2 J := hT
    rw [e]
    refine ⟨G, I2, J, ?_, h2, h3, ot_gx.rf⟩
    refine jv_enter okX5_judge (L := [.ref 64, .int s, .int n, .null]) rfl (Nat.le_of_ble_eq_true rfl) ?_
    refine jv_aload0 dX5_judge_0 ?_
    refine jv_iload1 dX5_judge_1 ?_
    refine jv_iload2 dX5_judge_2 ?_
    refine jv_v21 dX5_judge_3 okX5_noChanges inX5_noChanges seX5_noChanges mlX5_322 (ci := 5) (T := TX5) (N := 35) rfl (mk h.g) hT (by decide) (Nat.le_of_ble_eq_true rfl) ?_
    refine jv_istore3 dX5_judge_6 rfl ?_
    refine jv_iload3 dX5_judge_7 ?_
    refine jv_if_eq dX5_judge_8 (tgt := 15) (by decide) (fun h8 => absurd h8 (by decide)) (fun h8 => ?_)
    refine jv_iload3 dX5_judge_11 ?_
    refine jv_goto dX5_judge_12 (tgt := 29) (by decide) ?_
    exact jv_iret dX5_judge_29 rfl rfl rfl rfl rfl
  · obtain ⟨I2, hT, h2, h3⟩ := om_noChanges h s n
    rw [e] at hT h2
    have hT : jv_C 3 mX5_noChanges _ G I J (some (.int (-4))) G I2 J := hT
    rw [e]
    refine ⟨G, I2, J, ?_, h2, h3, ot_gx.rf⟩
    refine jv_enter okX5_judge (L := [.ref 64, .int s, .int n, .null]) rfl (Nat.le_of_ble_eq_true rfl) ?_
    refine jv_aload0 dX5_judge_0 ?_
    refine jv_iload1 dX5_judge_1 ?_
    refine jv_iload2 dX5_judge_2 ?_
    refine jv_v21 dX5_judge_3 okX5_noChanges inX5_noChanges seX5_noChanges mlX5_322 (ci := 5) (T := TX5) (N := 35) rfl (mk h.g) hT (by decide) (Nat.le_of_ble_eq_true rfl) ?_
    refine jv_istore3 dX5_judge_6 rfl ?_
    refine jv_iload3 dX5_judge_7 ?_
    refine jv_if_eq dX5_judge_8 (tgt := 15) (by decide) (fun h8 => absurd h8 (by decide)) (fun h8 => ?_)
    refine jv_iload3 dX5_judge_11 ?_
    refine jv_goto dX5_judge_12 (tgt := 29) (by decide) ?_
    exact jv_iret dX5_judge_29 rfl rfl rfl rfl rfl
set_option maxRecDepth 20000 in
theorem pc_done {G : jv_Gr} {I : jv_I} {J : jv_J} {Y Z : ot_Y} {E : ot_E} {K : Option ot_Y} (h : ot_C G I J Y Z E K) (s : Int32) (n : Int32) : ot_cc 8 mX4_done [.ref 1, .int s, .int n] G I J (ot_ans (ot_rcd Y Z E s n) n) (ot_pk (ot_rcd Y Z E s n) (ot_goY Y (E (ot_n s)) (ot_n n)) Y) (ot_zr Z (ot_rcd Y Z E s n)) E K := by
  have bn := yw_n h.w
  have bc := yw_c h.w
  have bw := yw_w h.w
  rcases ot_tt_cases h.z s n with ⟨e, t, x, ht, rfl, h1s, rfl, hle⟩ | e | e | e
  · have hx40 : x ≤ 40 := Nat.le_trans hle ((h.z.1 t ht).2.1 h1s).2
    have hT := oc_toldT h (nI t) (nI x)
    rw [e] at hT
    have hT : jv_C 4 mX4_toldTrouble _ G I J (some (.int (nI 0))) G I J := hT
    unfold ot_rcd
    rw [e, if_pos rfl, ot_n_nI (show t < 2 ^ 30 by omega), ot_n_nI (show x < 2 ^ 30 by omega)]
    obtain ⟨I2, hW2, hR2, hf⟩ := oc_firstWrong h ht h1s hx40
    by_cases hg : ot_goN Y (E t) x = x
    · rw [if_pos hg]
      rw [hg] at hR2
      have eT := ot_goY_ok h.w (E t) x
      obtain ⟨I3, hA, hR3, hf3⟩ := ot_takeOverM (J := J) (cg_now h.g) (cg_draft h.g) hR2 eT.1 (by omega)
      have hs := ot_C_scratch h (fun q q1 q2 => hf q (by omega)) (by rw [hf 44 (by omega)])
      have hs2 := ot_C_yard hs hR3 eT.1 (ot_ZW_y h.z (Nat.le_of_eq eT.2.2.symm)) hf3
      refine ⟨I3, J, ?_, hs2, (ot_hi.fr hf (by decide)).tr (ot_hi.fr hf3 (by decide))⟩
      refine jv_enter okX4_done (L := [.ref 1, .int (nI t), .int (nI x), .null]) rfl (Nat.le_of_ble_eq_true rfl) ?_
      refine jv_aload0 dX4_done_0 ?_
      refine jv_iload1 dX4_done_1 ?_
      refine jv_iload2 dX4_done_2 ?_
      refine jv_v21 dX4_done_3 okX4_toldTrouble inX4_toldTrouble seX4_toldTrouble mlX4_265 (ci := 4) (T := TX4) (N := 8) rfl (ck h.g) hT (by decide) (Nat.le_of_ble_eq_true rfl) ?_
      refine jv_istore3 dX4_done_6 rfl ?_
      refine jv_iload3 dX4_done_7 ?_
      refine jv_if_eqN dX4_done_8 (tgt := 17) (by decide) (by omega) (fun hc8 => ?_) (fun hc8 => by omega)
      refine jv_aload0 dX4_done_17 ?_
      refine jv_iload1 dX4_done_18 ?_
      refine jv_iload2 dX4_done_19 ?_
      refine jv_v21 dX4_done_20 okX4_firstWrong inX4_firstWrong seX4_firstWrong mlX4_280 (ci := 4) (T := TX4) (N := 8) rfl (ck h.g) hW2 (by decide) (Nat.le_of_ble_eq_true rfl) ?_
      refine jv_iconst dX4_done_23 jv_c_iconst_m1 ?_
      refine jv_icmp_eq dX4_done_24 (tgt := 34) (by decide) (fun h24 => ?_) (fun h24 => absurd ((ot_goA_iff hx40).mpr hg) h24)
      refine jv_aload0 dX4_done_34 ?_
      refine jv_getR dX4_done_35 flX4_10 rfl (ck h.g) (cr_now h.g) ?_
      refine jv_aload0 dX4_done_38 ?_
      refine jv_getR dX4_done_39 flX4_19 rfl (ck h.g) (cr_draft h.g) ?_
      refine jv_v10 dX4_done_42 okX3_takeOver inX3_takeOver seX3_takeOver mlX4_159 (ci := 3) (T := TX3) (N := 15) rfl (yk (cg_now h.g)) hA (by decide) (Nat.le_of_ble_eq_true rfl) ?_
      refine jv_iload2 dX4_done_45 ?_
      exact jv_iret dX4_done_46 rfl rfl rfl rfl rfl
    · rw [if_neg hg]
      have hs := ot_C_scratch h (fun q q1 q2 => hf q (by omega)) (by rw [hf 44 (by omega)])
      obtain ⟨I3, hC, h2, h3⟩ := oc_refuse5 hs
      refine ⟨I3, J, ?_, h2, (ot_hi.fr hf (by decide)).tr h3⟩
      refine jv_enter okX4_done (L := [.ref 1, .int (nI t), .int (nI x), .null]) rfl (Nat.le_of_ble_eq_true rfl) ?_
      refine jv_aload0 dX4_done_0 ?_
      refine jv_iload1 dX4_done_1 ?_
      refine jv_iload2 dX4_done_2 ?_
      refine jv_v21 dX4_done_3 okX4_toldTrouble inX4_toldTrouble seX4_toldTrouble mlX4_265 (ci := 4) (T := TX4) (N := 8) rfl (ck h.g) hT (by decide) (Nat.le_of_ble_eq_true rfl) ?_
      refine jv_istore3 dX4_done_6 rfl ?_
      refine jv_iload3 dX4_done_7 ?_
      refine jv_if_eqN dX4_done_8 (tgt := 17) (by decide) (by omega) (fun hc8 => ?_) (fun hc8 => by omega)
      refine jv_aload0 dX4_done_17 ?_
      refine jv_iload1 dX4_done_18 ?_
      refine jv_iload2 dX4_done_19 ?_
      refine jv_v21 dX4_done_20 okX4_firstWrong inX4_firstWrong seX4_firstWrong mlX4_280 (ci := 4) (T := TX4) (N := 8) rfl (ck h.g) hW2 (by decide) (Nat.le_of_ble_eq_true rfl) ?_
      refine jv_iconst dX4_done_23 jv_c_iconst_m1 ?_
      refine jv_icmp_eq dX4_done_24 (tgt := 34) (by decide) (fun h24 => absurd ((ot_goA_iff hx40).mp h24) hg) (fun h24 => ?_)
      refine jv_aload0 dX4_done_27 ?_
      refine jv_bipush dX4_done_28 jv_c_bipush_m5 ?_
      refine jv_v11 dX4_done_30 okX4_refuse inX4_refuse seX4_refuse mlX4_61 (ci := 4) (T := TX4) (N := 8) rfl (ck h.g) hC (by decide) (Nat.le_of_ble_eq_true rfl) ?_
      exact jv_iret dX4_done_33 rfl rfl rfl rfl rfl
  · have hT := oc_toldT h s n
    rw [e] at hT
    have hT : jv_C 4 mX4_toldTrouble _ G I J (some (.int (-2))) G I J := hT
    unfold ot_rcd
    rw [e, if_neg (by decide)]
    obtain ⟨I2, hC, h2, h3⟩ := oc_refuse2 h
    refine ⟨I2, J, ?_, h2, h3⟩
    refine jv_enter okX4_done (L := [.ref 1, .int s, .int n, .null]) rfl (Nat.le_of_ble_eq_true rfl) ?_
    refine jv_aload0 dX4_done_0 ?_
    refine jv_iload1 dX4_done_1 ?_
    refine jv_iload2 dX4_done_2 ?_
    refine jv_v21 dX4_done_3 okX4_toldTrouble inX4_toldTrouble seX4_toldTrouble mlX4_265 (ci := 4) (T := TX4) (N := 8) rfl (ck h.g) hT (by decide) (Nat.le_of_ble_eq_true rfl) ?_
    refine jv_istore3 dX4_done_6 rfl ?_
    refine jv_iload3 dX4_done_7 ?_
    refine jv_if_eq dX4_done_8 (tgt := 17) (by decide) (fun h8 => absurd h8 (by decide)) (fun h8 => ?_)
    refine jv_aload0 dX4_done_11 ?_
    refine jv_iload3 dX4_done_12 ?_
    refine jv_v11 dX4_done_13 okX4_refuse inX4_refuse seX4_refuse mlX4_61 (ci := 4) (T := TX4) (N := 8) rfl (ck h.g) hC (by decide) (Nat.le_of_ble_eq_true rfl) ?_
    exact jv_iret dX4_done_16 rfl rfl rfl rfl rfl
  · have hT := oc_toldT h s n
    rw [e] at hT
    have hT : jv_C 4 mX4_toldTrouble _ G I J (some (.int (-3))) G I J := hT
    unfold ot_rcd
    rw [e, if_neg (by decide)]
    obtain ⟨I2, hC, h2, h3⟩ := oc_refuse3 h
    refine ⟨I2, J, ?_, h2, h3⟩
    refine jv_enter okX4_done (L := [.ref 1, .int s, .int n, .null]) rfl (Nat.le_of_ble_eq_true rfl) ?_
    refine jv_aload0 dX4_done_0 ?_
    refine jv_iload1 dX4_done_1 ?_
    refine jv_iload2 dX4_done_2 ?_
    refine jv_v21 dX4_done_3 okX4_toldTrouble inX4_toldTrouble seX4_toldTrouble mlX4_265 (ci := 4) (T := TX4) (N := 8) rfl (ck h.g) hT (by decide) (Nat.le_of_ble_eq_true rfl) ?_
    refine jv_istore3 dX4_done_6 rfl ?_
    refine jv_iload3 dX4_done_7 ?_
    refine jv_if_eq dX4_done_8 (tgt := 17) (by decide) (fun h8 => absurd h8 (by decide)) (fun h8 => ?_)
    refine jv_aload0 dX4_done_11 ?_
    refine jv_iload3 dX4_done_12 ?_
    refine jv_v11 dX4_done_13 okX4_refuse inX4_refuse seX4_refuse mlX4_61 (ci := 4) (T := TX4) (N := 8) rfl (ck h.g) hC (by decide) (Nat.le_of_ble_eq_true rfl) ?_
    exact jv_iret dX4_done_16 rfl rfl rfl rfl rfl
  · have hT := oc_toldT h s n
    rw [e] at hT
    have hT : jv_C 4 mX4_toldTrouble _ G I J (some (.int (-4))) G I J := hT
    unfold ot_rcd
    rw [e, if_neg (by decide)]
    obtain ⟨I2, hC, h2, h3⟩ := oc_refuse4 h
    refine ⟨I2, J, ?_, h2, h3⟩
    refine jv_enter okX4_done (L := [.ref 1, .int s, .int n, .null]) rfl (Nat.le_of_ble_eq_true rfl) ?_
    refine jv_aload0 dX4_done_0 ?_
    refine jv_iload1 dX4_done_1 ?_
    refine jv_iload2 dX4_done_2 ?_
    refine jv_v21 dX4_done_3 okX4_toldTrouble inX4_toldTrouble seX4_toldTrouble mlX4_265 (ci := 4) (T := TX4) (N := 8) rfl (ck h.g) hT (by decide) (Nat.le_of_ble_eq_true rfl) ?_
    refine jv_istore3 dX4_done_6 rfl ?_
    refine jv_iload3 dX4_done_7 ?_
    refine jv_if_eq dX4_done_8 (tgt := 17) (by decide) (fun h8 => absurd h8 (by decide)) (fun h8 => ?_)
    refine jv_aload0 dX4_done_11 ?_
    refine jv_iload3 dX4_done_12 ?_
    refine jv_v11 dX4_done_13 okX4_refuse inX4_refuse seX4_refuse mlX4_61 (ci := 4) (T := TX4) (N := 8) rfl (ck h.g) hC (by decide) (Nat.le_of_ble_eq_true rfl) ?_
    exact jv_iret dX4_done_16 rfl rfl rfl rfl rfl
set_option maxRecDepth 20000 in
theorem pm_done {G : jv_Gr} {I : jv_I} {J : jv_J} {Y Z : ot_Y} {E : ot_E} {K : Option ot_Y} (h : ot_M G I J Y Z E K) (s : Int32) (n : Int32) : ot_mm 8 mX5_done [.ref 64, .int s, .int n] G I J (ot_ans (ot_rcd Y Z E s n) n) (ot_pk (ot_rcd Y Z E s n) (ot_goY Y (E (ot_n s)) (ot_n n)) Y) (ot_zr Z (ot_rcd Y Z E s n)) E K := by
  have bn := yw_n h.w
  have bc := yw_c h.w
  have bw := yw_w h.w
  rcases ot_tt_cases h.z s n with ⟨e, t, x, ht, rfl, h1s, rfl, hle⟩ | e | e | e
  · have hx40 : x ≤ 40 := Nat.le_trans hle ((h.z.1 t ht).2.1 h1s).2
    obtain ⟨I2, hT, h2, h3⟩ := om_noChanges h (nI t) (nI x)
    rw [e] at hT h2
    have hT : jv_C 3 mX5_noChanges _ G I J (some (.int (nI 0))) G I2 J := hT
    have h2 : ot_M G I2 J Y Z E K := h2
    obtain ⟨G3, I3, J3, q, hFr, hM, hq, hqq, hqG, hqR, hql, hqx⟩ := om_fresh h2
    have hFn : jv_n G3 < 1000000 := by have := hM.n; unfold ot_NM at this; omega
    have hGn := ot_M_n h2
    obtain ⟨I4, hB, hR4, hF4⟩ := om_goesBy (x := x) hqG hqR h.w (mk_row hM.g ht) (fun i hi => nr_el hM.s ht h1s hi) hx40
    have hf : ot_fr I3 I4 q (q + 29) := fun u hu => hF4 u (by omega)
    unfold ot_rcd
    rw [e, if_pos rfl, ot_n_nI (show t < 2 ^ 30 by omega), ot_n_nI (show x < 2 ^ 30 by omega)]
    have hT2 := ot_M_try hM hq (by omega) hf (fun _ _ => rfl)
    by_cases hg : ot_goN Y (E t) x = x
    · rw [if_pos hg]
      have eT := ot_goY_ok h.w (E t) x
      obtain ⟨I5, hB2, hR5, hF5⟩ := om_goesBy (x := x) hT2.g hT2.r h.w (mk_row hM.g ht) (fun i hi => nr_el hM.s ht h1s hi) hx40
      rw [hg] at hR5
      have hmf := ot_mf.pl hF5
      have hs2 := ot_M_yard hT2 hR5 eT.1 (ot_ZW_y h.z (Nat.le_of_eq eT.2.2.symm)) hmf.mw
      refine ⟨G3, I5, J3, ?_, hs2, ((h3.tr hql).tr (ot_lo.fr hf (by omega))).tr hmf.mw.lo, hqx⟩
      refine jv_enter okX5_done (L := [.ref 64, .int (nI t), .int (nI x), .null]) rfl (Nat.le_of_ble_eq_true rfl) ?_
      refine jv_aload0 dX5_done_0 ?_
      refine jv_iload1 dX5_done_1 ?_
      refine jv_iload2 dX5_done_2 ?_
      refine jv_v21 dX5_done_3 okX5_noChanges inX5_noChanges seX5_noChanges mlX5_322 (ci := 5) (T := TX5) (N := 35) rfl (mk h.g) hT (by decide) (Nat.le_of_ble_eq_true rfl) ?_
      refine jv_istore3 dX5_done_6 rfl ?_
      refine jv_iload3 dX5_done_7 ?_
      refine jv_if_eqN dX5_done_8 (tgt := 13) (by decide) (by omega) (fun hc8 => ?_) (fun hc8 => by omega)
      refine jv_aload0 dX5_done_13 ?_
      refine jv_callV (a := 64) (As := []) (rest := []) dX5_done_14 okX5_fresh inX5_fresh seX5_fresh mlX5_245 (ci := 5) (T := TX5) (N := 35) rfl (mk h2.g) hFr (by decide) rfl rfl (Nat.le_of_ble_eq_true rfl) (.inr ⟨(ot_ow_r (by omega) (ot_ow_i (ot_ow_i (ot_ow_i ot_ow_nil)))), ot_ow_nil, hFn⟩) ?_
      refine jv_aload0 dX5_done_17 ?_
      refine jv_getR dX5_done_18 flX5_21 rfl (mk hM.g) (mr_rows hM.g) ?_
      refine jv_iload1 dX5_done_21 ?_
      refine jv_aald3N dX5_done_22 (mk_rows hM.g) (by omega) (by decide) (mr_row hM.g ht) ?_
      refine jv_iload2 dX5_done_23 ?_
      refine jv_v21 dX5_done_24 okX5_goesBy inX5_goesBy seX5_goesBy mlX5_325 (ci := 5) (T := TX5) (N := 35) rfl (mk hqG) hB (by decide) (Nat.le_of_ble_eq_true rfl) ?_
      refine jv_iconst dX5_done_27 jv_c_iconst_m1 ?_
      refine jv_icmp_eq dX5_done_28 (tgt := 38) (by decide) (fun h24 => ?_) (fun h24 => absurd ((ot_goA_iff hx40).mpr hg) h24)
      refine jv_aload0 dX5_done_38 ?_
      refine jv_aload0 dX5_done_39 ?_
      refine jv_getR dX5_done_40 flX5_21 rfl (mk hM.g) (mr_rows hM.g) ?_
      refine jv_iload1 dX5_done_43 ?_
      refine jv_aald3N dX5_done_44 (mk_rows hM.g) (by omega) (by decide) (mr_row hM.g ht) ?_
      refine jv_iload2 dX5_done_45 ?_
      refine jv_v21 dX5_done_46 okX5_goesBy inX5_goesBy seX5_goesBy mlX5_325 (ci := 5) (T := TX5) (N := 35) rfl (mk hM.g) hB2 (by decide) (Nat.le_of_ble_eq_true rfl) ?_
      refine jv_pop dX5_done_49 rfl ?_
      refine jv_iload2 dX5_done_50 ?_
      exact jv_iret dX5_done_51 rfl rfl rfl rfl rfl
    · rw [if_neg hg]
      obtain ⟨I5, hC, h4, h5⟩ := om_refuse5 hT2
      refine ⟨G3, I5, J3, ?_, h4, ((h3.tr hql).tr (ot_lo.fr hf (by omega))).tr h5, hqx⟩
      refine jv_enter okX5_done (L := [.ref 64, .int (nI t), .int (nI x), .null]) rfl (Nat.le_of_ble_eq_true rfl) ?_
      refine jv_aload0 dX5_done_0 ?_
      refine jv_iload1 dX5_done_1 ?_
      refine jv_iload2 dX5_done_2 ?_
      refine jv_v21 dX5_done_3 okX5_noChanges inX5_noChanges seX5_noChanges mlX5_322 (ci := 5) (T := TX5) (N := 35) rfl (mk h.g) hT (by decide) (Nat.le_of_ble_eq_true rfl) ?_
      refine jv_istore3 dX5_done_6 rfl ?_
      refine jv_iload3 dX5_done_7 ?_
      refine jv_if_eqN dX5_done_8 (tgt := 13) (by decide) (by omega) (fun hc8 => ?_) (fun hc8 => by omega)
      refine jv_aload0 dX5_done_13 ?_
      refine jv_callV (a := 64) (As := []) (rest := []) dX5_done_14 okX5_fresh inX5_fresh seX5_fresh mlX5_245 (ci := 5) (T := TX5) (N := 35) rfl (mk h2.g) hFr (by decide) rfl rfl (Nat.le_of_ble_eq_true rfl) (.inr ⟨(ot_ow_r (by omega) (ot_ow_i (ot_ow_i (ot_ow_i ot_ow_nil)))), ot_ow_nil, hFn⟩) ?_
      refine jv_aload0 dX5_done_17 ?_
      refine jv_getR dX5_done_18 flX5_21 rfl (mk hM.g) (mr_rows hM.g) ?_
      refine jv_iload1 dX5_done_21 ?_
      refine jv_aald3N dX5_done_22 (mk_rows hM.g) (by omega) (by decide) (mr_row hM.g ht) ?_
      refine jv_iload2 dX5_done_23 ?_
      refine jv_v21 dX5_done_24 okX5_goesBy inX5_goesBy seX5_goesBy mlX5_325 (ci := 5) (T := TX5) (N := 35) rfl (mk hqG) hB (by decide) (Nat.le_of_ble_eq_true rfl) ?_
      refine jv_iconst dX5_done_27 jv_c_iconst_m1 ?_
      refine jv_icmp_eq dX5_done_28 (tgt := 38) (by decide) (fun h24 => absurd ((ot_goA_iff hx40).mp h24) hg) (fun h24 => ?_)
      refine jv_aload0 dX5_done_31 ?_
      refine jv_bipush dX5_done_32 jv_c_bipush_m5 ?_
      refine jv_v11 dX5_done_34 okX5_refuse inX5_refuse seX5_refuse mlX5_104 (ci := 5) (T := TX5) (N := 35) rfl (mk hM.g) hC (by decide) (Nat.le_of_ble_eq_true rfl) ?_
      exact jv_iret dX5_done_37 rfl rfl rfl rfl rfl
  · obtain ⟨I2, hT, h2, h3⟩ := om_noChanges h s n
    rw [e] at hT h2
    have hT : jv_C 3 mX5_noChanges _ G I J (some (.int (-2))) G I2 J := hT
    unfold ot_rcd
    rw [e, if_neg (by decide)]
    refine ⟨G, I2, J, ?_, h2, h3, ot_gx.rf⟩
    refine jv_enter okX5_done (L := [.ref 64, .int s, .int n, .null]) rfl (Nat.le_of_ble_eq_true rfl) ?_
    refine jv_aload0 dX5_done_0 ?_
    refine jv_iload1 dX5_done_1 ?_
    refine jv_iload2 dX5_done_2 ?_
    refine jv_v21 dX5_done_3 okX5_noChanges inX5_noChanges seX5_noChanges mlX5_322 (ci := 5) (T := TX5) (N := 35) rfl (mk h.g) hT (by decide) (Nat.le_of_ble_eq_true rfl) ?_
    refine jv_istore3 dX5_done_6 rfl ?_
    refine jv_iload3 dX5_done_7 ?_
    refine jv_if_eq dX5_done_8 (tgt := 13) (by decide) (fun h8 => absurd h8 (by decide)) (fun h8 => ?_)
    refine jv_iload3 dX5_done_11 ?_
    exact jv_iret dX5_done_12 rfl rfl rfl rfl rfl
  · obtain ⟨I2, hT, h2, h3⟩ := om_noChanges h s n
    rw [e] at hT h2
    have hT : jv_C 3 mX5_noChanges _ G I J (some (.int (-3))) G I2 J := hT
    unfold ot_rcd
    rw [e, if_neg (by decide)]
    refine ⟨G, I2, J, ?_, h2, h3, ot_gx.rf⟩
    refine jv_enter okX5_done (L := [.ref 64, .int s, .int n, .null]) rfl (Nat.le_of_ble_eq_true rfl) ?_
    refine jv_aload0 dX5_done_0 ?_
    refine jv_iload1 dX5_done_1 ?_
    refine jv_iload2 dX5_done_2 ?_
    refine jv_v21 dX5_done_3 okX5_noChanges inX5_noChanges seX5_noChanges mlX5_322 (ci := 5) (T := TX5) (N := 35) rfl (mk h.g) hT (by decide) (Nat.le_of_ble_eq_true rfl) ?_
    refine jv_istore3 dX5_done_6 rfl ?_
    refine jv_iload3 dX5_done_7 ?_
    refine jv_if_eq dX5_done_8 (tgt := 13) (by decide) (fun h8 => absurd h8 (by decide)) (fun h8 => ?_)
    refine jv_iload3 dX5_done_11 ?_
    exact jv_iret dX5_done_12 rfl rfl rfl rfl rfl
  · obtain ⟨I2, hT, h2, h3⟩ := om_noChanges h s n
    rw [e] at hT h2
    have hT : jv_C 3 mX5_noChanges _ G I J (some (.int (-4))) G I2 J := hT
    unfold ot_rcd
    rw [e, if_neg (by decide)]
    refine ⟨G, I2, J, ?_, h2, h3, ot_gx.rf⟩
    refine jv_enter okX5_done (L := [.ref 64, .int s, .int n, .null]) rfl (Nat.le_of_ble_eq_true rfl) ?_
    refine jv_aload0 dX5_done_0 ?_
    refine jv_iload1 dX5_done_1 ?_
    refine jv_iload2 dX5_done_2 ?_
    refine jv_v21 dX5_done_3 okX5_noChanges inX5_noChanges seX5_noChanges mlX5_322 (ci := 5) (T := TX5) (N := 35) rfl (mk h.g) hT (by decide) (Nat.le_of_ble_eq_true rfl) ?_
    refine jv_istore3 dX5_done_6 rfl ?_
    refine jv_iload3 dX5_done_7 ?_
    refine jv_if_eq dX5_done_8 (tgt := 13) (by decide) (fun h8 => absurd h8 (by decide)) (fun h8 => ?_)
    refine jv_iload3 dX5_done_11 ?_
    exact jv_iret dX5_done_12 rfl rfl rfl rfl rfl
set_option maxRecDepth 20000 in
theorem pc_behind {G : jv_Gr} {I : jv_I} {J : jv_J} {Y Z : ot_Y} {E : ot_E} {K : Option ot_Y} (h : ot_C G I J Y Z E K) (s : Int32) (n : Int32) (k : Int32) : ot_cc 8 mX4_behind [.ref 1, .int s, .int n, .int k] G I J (ot_ans (ot_rch Y Z E s n k) (nI (ot_value (ot_goY Y (E (ot_n s)) (ot_n n)) (ot_n k)))) Y (ot_zr Z (ot_rch Y Z E s n k)) E K := by
  have bn := yw_n h.w
  have bc := yw_c h.w
  have bw := yw_w h.w
  by_cases hv : (0 ≤ k.toInt ∧ k.toInt < Y 10 1)
  · unfold ot_rch
    rw [if_pos hv]
    obtain ⟨j, hj, rfl⟩ := ot_of hv (by omega)
    rw [ot_n_nI (show j < 2 ^ 30 by omega)]
    rcases ot_tt_cases h.z s n with ⟨e, t, x, ht, rfl, h1s, rfl, hle⟩ | e | e | e
    · have hx40 : x ≤ 40 := Nat.le_trans hle ((h.z.1 t ht).2.1 h1s).2
      have hT := oc_toldT h (nI t) (nI x)
      rw [e] at hT
      have hT : jv_C 4 mX4_toldTrouble _ G I J (some (.int (nI 0))) G I J := hT
      unfold ot_rcd
      rw [e, if_pos rfl, ot_n_nI (show t < 2 ^ 30 by omega), ot_n_nI (show x < 2 ^ 30 by omega)]
      obtain ⟨I2, hW2, hR2, hf⟩ := oc_firstWrong h ht h1s hx40
      by_cases hg : ot_goN Y (E t) x = x
      · rw [if_pos hg]
        rw [hg] at hR2
        have eT := ot_goY_ok h.w (E t) x
        refine ⟨I2, J, ?_, ot_C_scratch h (fun q q1 q2 => hf q (by omega)) (by rw [hf 44 (by omega)]), ot_hi.fr hf (by decide)⟩
        refine jv_enter okX4_behind (L := [.ref 1, .int (nI t), .int (nI x), .int (nI j), .null]) rfl (Nat.le_of_ble_eq_true rfl) ?_
        refine jv_aload0 dX4_behind_0 ?_
        refine jv_getR dX4_behind_1 flX4_10 rfl (ck h.g) (cr_now h.g) ?_
        refine jv_iload3 dX4_behind_4 ?_
        refine jv_v11 dX4_behind_5 okX3_hasCount inX3_hasCount seX3_hasCount mlX4_101 (ci := 3) (T := TX3) (N := 15) rfl (yk (cg_now h.g)) (ot_hasCount (cg_now h.g) h.r h.w _) (by decide) (Nat.le_of_ble_eq_true rfl) ?_
        refine jv_if_eqB dX4_behind_8 (tgt := 20) (by decide) (fun hq8 => absurd hv hq8) (fun hq8 => ?_)
        refine jv_aload0 dX4_behind_11 ?_
        refine jv_iload1 dX4_behind_12 ?_
        refine jv_iload2 dX4_behind_13 ?_
        refine jv_v21 dX4_behind_14 okX4_toldTrouble inX4_toldTrouble seX4_toldTrouble mlX4_265 (ci := 4) (T := TX4) (N := 8) rfl (ck h.g) hT (by decide) (Nat.le_of_ble_eq_true rfl) ?_
        refine jv_goto dX4_behind_17 (tgt := 22) (by decide) ?_
        refine jv_istore4 dX4_behind_22 rfl ?_
        refine jv_iload4 dX4_behind_24 ?_
        refine jv_if_eqN dX4_behind_26 (tgt := 36) (by decide) (by omega) (fun hc26 => ?_) (fun hc26 => by omega)
        refine jv_aload0 dX4_behind_36 ?_
        refine jv_iload1 dX4_behind_37 ?_
        refine jv_iload2 dX4_behind_38 ?_
        refine jv_v21 dX4_behind_39 okX4_firstWrong inX4_firstWrong seX4_firstWrong mlX4_280 (ci := 4) (T := TX4) (N := 8) rfl (ck h.g) hW2 (by decide) (Nat.le_of_ble_eq_true rfl) ?_
        refine jv_iconst dX4_behind_42 jv_c_iconst_m1 ?_
        refine jv_icmp_eq dX4_behind_43 (tgt := 53) (by decide) (fun h24 => ?_) (fun h24 => absurd ((ot_goA_iff hx40).mpr hg) h24)
        refine jv_aload0 dX4_behind_53 ?_
        refine jv_getR dX4_behind_54 flX4_19 rfl (ck h.g) (cr_draft h.g) ?_
        refine jv_iload3 dX4_behind_57 ?_
        refine jv_v11 dX4_behind_58 okX3_valueBy inX3_valueBy seX3_valueBy mlX4_223 (ci := 3) (T := TX3) (N := 15) rfl (yk (cg_draft h.g)) (ot_valueByM (cg_draft h.g) hR2 eT.1 (by rw [eT.2.2]; exact hj)) (by decide) (Nat.le_of_ble_eq_true rfl) ?_
        exact jv_iret dX4_behind_61 rfl rfl rfl rfl rfl
      · rw [if_neg hg]
        have hs := ot_C_scratch h (fun q q1 q2 => hf q (by omega)) (by rw [hf 44 (by omega)])
        obtain ⟨I3, hC, h2, h3⟩ := oc_refuse5 hs
        refine ⟨I3, J, ?_, h2, (ot_hi.fr hf (by decide)).tr h3⟩
        refine jv_enter okX4_behind (L := [.ref 1, .int (nI t), .int (nI x), .int (nI j), .null]) rfl (Nat.le_of_ble_eq_true rfl) ?_
        refine jv_aload0 dX4_behind_0 ?_
        refine jv_getR dX4_behind_1 flX4_10 rfl (ck h.g) (cr_now h.g) ?_
        refine jv_iload3 dX4_behind_4 ?_
        refine jv_v11 dX4_behind_5 okX3_hasCount inX3_hasCount seX3_hasCount mlX4_101 (ci := 3) (T := TX3) (N := 15) rfl (yk (cg_now h.g)) (ot_hasCount (cg_now h.g) h.r h.w _) (by decide) (Nat.le_of_ble_eq_true rfl) ?_
        refine jv_if_eqB dX4_behind_8 (tgt := 20) (by decide) (fun hq8 => absurd hv hq8) (fun hq8 => ?_)
        refine jv_aload0 dX4_behind_11 ?_
        refine jv_iload1 dX4_behind_12 ?_
        refine jv_iload2 dX4_behind_13 ?_
        refine jv_v21 dX4_behind_14 okX4_toldTrouble inX4_toldTrouble seX4_toldTrouble mlX4_265 (ci := 4) (T := TX4) (N := 8) rfl (ck h.g) hT (by decide) (Nat.le_of_ble_eq_true rfl) ?_
        refine jv_goto dX4_behind_17 (tgt := 22) (by decide) ?_
        refine jv_istore4 dX4_behind_22 rfl ?_
        refine jv_iload4 dX4_behind_24 ?_
        refine jv_if_eqN dX4_behind_26 (tgt := 36) (by decide) (by omega) (fun hc26 => ?_) (fun hc26 => by omega)
        refine jv_aload0 dX4_behind_36 ?_
        refine jv_iload1 dX4_behind_37 ?_
        refine jv_iload2 dX4_behind_38 ?_
        refine jv_v21 dX4_behind_39 okX4_firstWrong inX4_firstWrong seX4_firstWrong mlX4_280 (ci := 4) (T := TX4) (N := 8) rfl (ck h.g) hW2 (by decide) (Nat.le_of_ble_eq_true rfl) ?_
        refine jv_iconst dX4_behind_42 jv_c_iconst_m1 ?_
        refine jv_icmp_eq dX4_behind_43 (tgt := 53) (by decide) (fun h24 => absurd ((ot_goA_iff hx40).mp h24) hg) (fun h24 => ?_)
        refine jv_aload0 dX4_behind_46 ?_
        refine jv_bipush dX4_behind_47 jv_c_bipush_m5 ?_
        refine jv_v11 dX4_behind_49 okX4_refuse inX4_refuse seX4_refuse mlX4_61 (ci := 4) (T := TX4) (N := 8) rfl (ck h.g) hC (by decide) (Nat.le_of_ble_eq_true rfl) ?_
        exact jv_iret dX4_behind_52 rfl rfl rfl rfl rfl
    · have hT := oc_toldT h s n
      rw [e] at hT
      have hT : jv_C 4 mX4_toldTrouble _ G I J (some (.int (-2))) G I J := hT
      unfold ot_rcd
      rw [e, if_neg (by decide)]
      obtain ⟨I2, hC, h2, h3⟩ := oc_refuse2 h
      refine ⟨I2, J, ?_, h2, h3⟩
      refine jv_enter okX4_behind (L := [.ref 1, .int s, .int n, .int (nI j), .null]) rfl (Nat.le_of_ble_eq_true rfl) ?_
      refine jv_aload0 dX4_behind_0 ?_
      refine jv_getR dX4_behind_1 flX4_10 rfl (ck h.g) (cr_now h.g) ?_
      refine jv_iload3 dX4_behind_4 ?_
      refine jv_v11 dX4_behind_5 okX3_hasCount inX3_hasCount seX3_hasCount mlX4_101 (ci := 3) (T := TX3) (N := 15) rfl (yk (cg_now h.g)) (ot_hasCount (cg_now h.g) h.r h.w _) (by decide) (Nat.le_of_ble_eq_true rfl) ?_
      refine jv_if_eqB dX4_behind_8 (tgt := 20) (by decide) (fun hq8 => absurd hv hq8) (fun hq8 => ?_)
      refine jv_aload0 dX4_behind_11 ?_
      refine jv_iload1 dX4_behind_12 ?_
      refine jv_iload2 dX4_behind_13 ?_
      refine jv_v21 dX4_behind_14 okX4_toldTrouble inX4_toldTrouble seX4_toldTrouble mlX4_265 (ci := 4) (T := TX4) (N := 8) rfl (ck h.g) hT (by decide) (Nat.le_of_ble_eq_true rfl) ?_
      refine jv_goto dX4_behind_17 (tgt := 22) (by decide) ?_
      refine jv_istore4 dX4_behind_22 rfl ?_
      refine jv_iload4 dX4_behind_24 ?_
      refine jv_if_eq dX4_behind_26 (tgt := 36) (by decide) (fun h26 => absurd h26 (by decide)) (fun h26 => ?_)
      refine jv_aload0 dX4_behind_29 ?_
      refine jv_iload4 dX4_behind_30 ?_
      refine jv_v11 dX4_behind_32 okX4_refuse inX4_refuse seX4_refuse mlX4_61 (ci := 4) (T := TX4) (N := 8) rfl (ck h.g) hC (by decide) (Nat.le_of_ble_eq_true rfl) ?_
      exact jv_iret dX4_behind_35 rfl rfl rfl rfl rfl
    · have hT := oc_toldT h s n
      rw [e] at hT
      have hT : jv_C 4 mX4_toldTrouble _ G I J (some (.int (-3))) G I J := hT
      unfold ot_rcd
      rw [e, if_neg (by decide)]
      obtain ⟨I2, hC, h2, h3⟩ := oc_refuse3 h
      refine ⟨I2, J, ?_, h2, h3⟩
      refine jv_enter okX4_behind (L := [.ref 1, .int s, .int n, .int (nI j), .null]) rfl (Nat.le_of_ble_eq_true rfl) ?_
      refine jv_aload0 dX4_behind_0 ?_
      refine jv_getR dX4_behind_1 flX4_10 rfl (ck h.g) (cr_now h.g) ?_
      refine jv_iload3 dX4_behind_4 ?_
      refine jv_v11 dX4_behind_5 okX3_hasCount inX3_hasCount seX3_hasCount mlX4_101 (ci := 3) (T := TX3) (N := 15) rfl (yk (cg_now h.g)) (ot_hasCount (cg_now h.g) h.r h.w _) (by decide) (Nat.le_of_ble_eq_true rfl) ?_
      refine jv_if_eqB dX4_behind_8 (tgt := 20) (by decide) (fun hq8 => absurd hv hq8) (fun hq8 => ?_)
      refine jv_aload0 dX4_behind_11 ?_
      refine jv_iload1 dX4_behind_12 ?_
      refine jv_iload2 dX4_behind_13 ?_
      refine jv_v21 dX4_behind_14 okX4_toldTrouble inX4_toldTrouble seX4_toldTrouble mlX4_265 (ci := 4) (T := TX4) (N := 8) rfl (ck h.g) hT (by decide) (Nat.le_of_ble_eq_true rfl) ?_
      refine jv_goto dX4_behind_17 (tgt := 22) (by decide) ?_
      refine jv_istore4 dX4_behind_22 rfl ?_
      refine jv_iload4 dX4_behind_24 ?_
      refine jv_if_eq dX4_behind_26 (tgt := 36) (by decide) (fun h26 => absurd h26 (by decide)) (fun h26 => ?_)
      refine jv_aload0 dX4_behind_29 ?_
      refine jv_iload4 dX4_behind_30 ?_
      refine jv_v11 dX4_behind_32 okX4_refuse inX4_refuse seX4_refuse mlX4_61 (ci := 4) (T := TX4) (N := 8) rfl (ck h.g) hC (by decide) (Nat.le_of_ble_eq_true rfl) ?_
      exact jv_iret dX4_behind_35 rfl rfl rfl rfl rfl
    · have hT := oc_toldT h s n
      rw [e] at hT
      have hT : jv_C 4 mX4_toldTrouble _ G I J (some (.int (-4))) G I J := hT
      unfold ot_rcd
      rw [e, if_neg (by decide)]
      obtain ⟨I2, hC, h2, h3⟩ := oc_refuse4 h
      refine ⟨I2, J, ?_, h2, h3⟩
      refine jv_enter okX4_behind (L := [.ref 1, .int s, .int n, .int (nI j), .null]) rfl (Nat.le_of_ble_eq_true rfl) ?_
      refine jv_aload0 dX4_behind_0 ?_
      refine jv_getR dX4_behind_1 flX4_10 rfl (ck h.g) (cr_now h.g) ?_
      refine jv_iload3 dX4_behind_4 ?_
      refine jv_v11 dX4_behind_5 okX3_hasCount inX3_hasCount seX3_hasCount mlX4_101 (ci := 3) (T := TX3) (N := 15) rfl (yk (cg_now h.g)) (ot_hasCount (cg_now h.g) h.r h.w _) (by decide) (Nat.le_of_ble_eq_true rfl) ?_
      refine jv_if_eqB dX4_behind_8 (tgt := 20) (by decide) (fun hq8 => absurd hv hq8) (fun hq8 => ?_)
      refine jv_aload0 dX4_behind_11 ?_
      refine jv_iload1 dX4_behind_12 ?_
      refine jv_iload2 dX4_behind_13 ?_
      refine jv_v21 dX4_behind_14 okX4_toldTrouble inX4_toldTrouble seX4_toldTrouble mlX4_265 (ci := 4) (T := TX4) (N := 8) rfl (ck h.g) hT (by decide) (Nat.le_of_ble_eq_true rfl) ?_
      refine jv_goto dX4_behind_17 (tgt := 22) (by decide) ?_
      refine jv_istore4 dX4_behind_22 rfl ?_
      refine jv_iload4 dX4_behind_24 ?_
      refine jv_if_eq dX4_behind_26 (tgt := 36) (by decide) (fun h26 => absurd h26 (by decide)) (fun h26 => ?_)
      refine jv_aload0 dX4_behind_29 ?_
      refine jv_iload4 dX4_behind_30 ?_
      refine jv_v11 dX4_behind_32 okX4_refuse inX4_refuse seX4_refuse mlX4_61 (ci := 4) (T := TX4) (N := 8) rfl (ck h.g) hC (by decide) (Nat.le_of_ble_eq_true rfl) ?_
      exact jv_iret dX4_behind_35 rfl rfl rfl rfl rfl
  · unfold ot_rch
    rw [if_neg hv]
    obtain ⟨I2, hC, h2, h3⟩ := oc_refuse2 h
    refine ⟨I2, J, ?_, h2, h3⟩
    refine jv_enter okX4_behind (L := [.ref 1, .int s, .int n, .int k, .null]) rfl (Nat.le_of_ble_eq_true rfl) ?_
    refine jv_aload0 dX4_behind_0 ?_
    refine jv_getR dX4_behind_1 flX4_10 rfl (ck h.g) (cr_now h.g) ?_
    refine jv_iload3 dX4_behind_4 ?_
    refine jv_v11 dX4_behind_5 okX3_hasCount inX3_hasCount seX3_hasCount mlX4_101 (ci := 3) (T := TX3) (N := 15) rfl (yk (cg_now h.g)) (ot_hasCount (cg_now h.g) h.r h.w _) (by decide) (Nat.le_of_ble_eq_true rfl) ?_
    refine jv_if_eqB dX4_behind_8 (tgt := 20) (by decide) (fun hq8 => ?_) (fun hq8 => absurd hq8 hv)
    refine jv_bipush dX4_behind_20 jv_c_bipush_m2 ?_
    refine jv_istore4 dX4_behind_22 rfl ?_
    refine jv_iload4 dX4_behind_24 ?_
    refine jv_if_eq dX4_behind_26 (tgt := 36) (by decide) (fun h26 => absurd h26 (by decide)) (fun h26 => ?_)
    refine jv_aload0 dX4_behind_29 ?_
    refine jv_iload4 dX4_behind_30 ?_
    refine jv_v11 dX4_behind_32 okX4_refuse inX4_refuse seX4_refuse mlX4_61 (ci := 4) (T := TX4) (N := 8) rfl (ck h.g) hC (by decide) (Nat.le_of_ble_eq_true rfl) ?_
    exact jv_iret dX4_behind_35 rfl rfl rfl rfl rfl
set_option maxRecDepth 20000 in
theorem pm_behind {G : jv_Gr} {I : jv_I} {J : jv_J} {Y Z : ot_Y} {E : ot_E} {K : Option ot_Y} (h : ot_M G I J Y Z E K) (s : Int32) (n : Int32) (k : Int32) : ot_mm 8 mX5_behind [.ref 64, .int s, .int n, .int k] G I J (ot_ans (ot_rch Y Z E s n k) (nI (ot_value (ot_goY Y (E (ot_n s)) (ot_n n)) (ot_n k)))) Y (ot_zr Z (ot_rch Y Z E s n k)) E K := by
  have bn := yw_n h.w
  have bc := yw_c h.w
  have bw := yw_w h.w
  by_cases hv : (0 ≤ k.toInt ∧ k.toInt < Y 10 1)
  · unfold ot_rch
    rw [if_pos hv]
    obtain ⟨j, hj, rfl⟩ := ot_of hv (by omega)
    rw [ot_n_nI (show j < 2 ^ 30 by omega)]
    by_cases hsn : (0 ≤ s.toInt ∧ s.toInt < 8) ∧ (0 ≤ n.toInt ∧ n.toInt ≤ 40)
    · rcases ot_tt_cases h.z s n with ⟨e, t, x, ht, rfl, h1s, rfl, hle⟩ | e | e | e
      · have hx40 : x ≤ 40 := Nat.le_trans hle ((h.z.1 t ht).2.1 h1s).2
        obtain ⟨I2, hT, h2, h3⟩ := om_noChanges h (nI t) (nI x)
        rw [e] at hT h2
        have hT : jv_C 3 mX5_noChanges _ G I J (some (.int (nI 0))) G I2 J := hT
        have h2 : ot_M G I2 J Y Z E K := h2
        obtain ⟨G3, I3, J3, q, hFr, hM, hq, hqq, hqG, hqR, hql, hqx⟩ := om_fresh h2
        have hFn : jv_n G3 < 1000000 := by have := hM.n; unfold ot_NM at this; omega
        have hGn := ot_M_n h2
        obtain ⟨I4, hB, hR4, hF4⟩ := om_goesBy (x := x) hqG hqR h.w (mk_row hM.g ht) (fun i hi => nr_el hM.s ht h1s hi) hx40
        have hf : ot_fr I3 I4 q (q + 29) := fun u hu => hF4 u (by omega)
        unfold ot_rcd
        rw [e, if_pos rfl, ot_n_nI (show t < 2 ^ 30 by omega), ot_n_nI (show x < 2 ^ 30 by omega)]
        have hT2 := ot_M_try hM hq (by omega) hf (fun _ _ => rfl)
        by_cases hg : ot_goN Y (E t) x = x
        · rw [if_pos hg]
          rw [hg] at hR4
          have eT := ot_goY_ok h.w (E t) x
          refine ⟨G3, I4, J3, ?_, hT2, (h3.tr hql).tr (ot_lo.fr hf (by omega)), hqx⟩
          refine jv_enter okX5_behind (L := [.ref 64, .int (nI t), .int (nI x), .int (nI j), .null, .null]) rfl (Nat.le_of_ble_eq_true rfl) ?_
          refine jv_iload1 dX5_behind_0 ?_
          refine jv_i2l dX5_behind_1 rfl ?_
          refine jv_lconst dX5_behind_2 (v := lN 0) rfl ?_
          refine jv_ldc2 dX5_behind_3 cnX5_98 ?_
          refine jv_s31 dX5_behind_6 okX5_in stX5_in mlX5_83 (om_inC _ (a := 0) (b := 7) (by decide) (by decide)) (by decide) (Nat.le_of_ble_eq_true rfl) ?_
          refine jv_if_eqB dX5_behind_9 (tgt := 32) (by decide) (fun hq9 => absurd (by omega) hq9) (fun hq9 => ?_)
          refine jv_iload2 dX5_behind_12 ?_
          refine jv_i2l dX5_behind_13 rfl ?_
          refine jv_lconst dX5_behind_14 (v := lN 0) rfl ?_
          refine jv_ldc2 dX5_behind_15 cnX5_102 ?_
          refine jv_s31 dX5_behind_18 okX5_in stX5_in mlX5_83 (om_inC _ (a := 0) (b := 40) (by decide) (by decide)) (by decide) (Nat.le_of_ble_eq_true rfl) ?_
          refine jv_if_eqB dX5_behind_21 (tgt := 32) (by decide) (fun hq21 => absurd (by omega) hq21) (fun hq21 => ?_)
          refine jv_aload0 dX5_behind_24 ?_
          refine jv_iload3 dX5_behind_25 ?_
          refine jv_v11 dX5_behind_26 okX5_isCount inX5_isCount seX5_isCount mlX5_94 (ci := 5) (T := TX5) (N := 35) rfl (mk h.g) (om_isCount h.g h.r h.w _) (by decide) (Nat.le_of_ble_eq_true rfl) ?_
          refine jv_if_neB dX5_behind_29 (tgt := 39) (by decide) (fun hq29 => ?_) (fun hq29 => absurd hv hq29)
          refine jv_aload0 dX5_behind_39 ?_
          refine jv_iload1 dX5_behind_40 ?_
          refine jv_iload2 dX5_behind_41 ?_
          refine jv_v21 dX5_behind_42 okX5_noChanges inX5_noChanges seX5_noChanges mlX5_322 (ci := 5) (T := TX5) (N := 35) rfl (mk h.g) hT (by decide) (Nat.le_of_ble_eq_true rfl) ?_
          refine jv_istore4 dX5_behind_45 rfl ?_
          refine jv_iload4 dX5_behind_47 ?_
          refine jv_if_eqN dX5_behind_49 (tgt := 55) (by decide) (by omega) (fun hc49 => ?_) (fun hc49 => by omega)
          refine jv_aload0 dX5_behind_55 ?_
          refine jv_callV (a := 64) (As := []) (rest := []) dX5_behind_56 okX5_fresh inX5_fresh seX5_fresh mlX5_245 (ci := 5) (T := TX5) (N := 35) rfl (mk h2.g) hFr (by decide) rfl rfl (Nat.le_of_ble_eq_true rfl) (.inr ⟨(ot_ow_r (by omega) (ot_ow_i (ot_ow_i (ot_ow_i (ot_ow_i (ot_ow_n ot_ow_nil)))))), ot_ow_nil, hFn⟩) ?_
          refine jv_astore5 dX5_behind_59 rfl ?_
          refine jv_aload5 dX5_behind_61 ?_
          refine jv_aload0 dX5_behind_63 ?_
          refine jv_getR dX5_behind_64 flX5_21 rfl (mk hM.g) (mr_rows hM.g) ?_
          refine jv_iload1 dX5_behind_67 ?_
          refine jv_aald3N dX5_behind_68 (mk_rows hM.g) (by omega) (by decide) (mr_row hM.g ht) ?_
          refine jv_iload2 dX5_behind_69 ?_
          refine jv_v21 dX5_behind_70 okX5_goesBy inX5_goesBy seX5_goesBy mlX5_325 (ci := 5) (T := TX5) (N := 35) rfl (mk hqG) hB (by decide) (Nat.le_of_ble_eq_true rfl) ?_
          refine jv_iconst dX5_behind_73 jv_c_iconst_m1 ?_
          refine jv_icmp_ne dX5_behind_74 (tgt := 86) (by decide) (fun h24 => absurd ((ot_goA_iff hx40).mpr hg) h24) (fun h24 => ?_)
          refine jv_aload5 dX5_behind_77 ?_
          refine jv_iload3 dX5_behind_79 ?_
          refine jv_v11 dX5_behind_80 okX5_valueOf inX5_valueOf seX5_valueOf mlX5_278 (ci := 5) (T := TX5) (N := 35) rfl (mk hqG) (om_valueOf hqG hR4 eT.1 (by rw [eT.2.2]; exact hj)) (by decide) (Nat.le_of_ble_eq_true rfl) ?_
          refine jv_goto dX5_behind_83 (tgt := 92) (by decide) ?_
          exact jv_iret dX5_behind_92 rfl rfl rfl rfl rfl
        · rw [if_neg hg]
          obtain ⟨I5, hC, h4, h5⟩ := om_refuse5 hT2
          refine ⟨G3, I5, J3, ?_, h4, ((h3.tr hql).tr (ot_lo.fr hf (by omega))).tr h5, hqx⟩
          refine jv_enter okX5_behind (L := [.ref 64, .int (nI t), .int (nI x), .int (nI j), .null, .null]) rfl (Nat.le_of_ble_eq_true rfl) ?_
          refine jv_iload1 dX5_behind_0 ?_
          refine jv_i2l dX5_behind_1 rfl ?_
          refine jv_lconst dX5_behind_2 (v := lN 0) rfl ?_
          refine jv_ldc2 dX5_behind_3 cnX5_98 ?_
          refine jv_s31 dX5_behind_6 okX5_in stX5_in mlX5_83 (om_inC _ (a := 0) (b := 7) (by decide) (by decide)) (by decide) (Nat.le_of_ble_eq_true rfl) ?_
          refine jv_if_eqB dX5_behind_9 (tgt := 32) (by decide) (fun hq9 => absurd (by omega) hq9) (fun hq9 => ?_)
          refine jv_iload2 dX5_behind_12 ?_
          refine jv_i2l dX5_behind_13 rfl ?_
          refine jv_lconst dX5_behind_14 (v := lN 0) rfl ?_
          refine jv_ldc2 dX5_behind_15 cnX5_102 ?_
          refine jv_s31 dX5_behind_18 okX5_in stX5_in mlX5_83 (om_inC _ (a := 0) (b := 40) (by decide) (by decide)) (by decide) (Nat.le_of_ble_eq_true rfl) ?_
          refine jv_if_eqB dX5_behind_21 (tgt := 32) (by decide) (fun hq21 => absurd (by omega) hq21) (fun hq21 => ?_)
          refine jv_aload0 dX5_behind_24 ?_
          refine jv_iload3 dX5_behind_25 ?_
          refine jv_v11 dX5_behind_26 okX5_isCount inX5_isCount seX5_isCount mlX5_94 (ci := 5) (T := TX5) (N := 35) rfl (mk h.g) (om_isCount h.g h.r h.w _) (by decide) (Nat.le_of_ble_eq_true rfl) ?_
          refine jv_if_neB dX5_behind_29 (tgt := 39) (by decide) (fun hq29 => ?_) (fun hq29 => absurd hv hq29)
          refine jv_aload0 dX5_behind_39 ?_
          refine jv_iload1 dX5_behind_40 ?_
          refine jv_iload2 dX5_behind_41 ?_
          refine jv_v21 dX5_behind_42 okX5_noChanges inX5_noChanges seX5_noChanges mlX5_322 (ci := 5) (T := TX5) (N := 35) rfl (mk h.g) hT (by decide) (Nat.le_of_ble_eq_true rfl) ?_
          refine jv_istore4 dX5_behind_45 rfl ?_
          refine jv_iload4 dX5_behind_47 ?_
          refine jv_if_eqN dX5_behind_49 (tgt := 55) (by decide) (by omega) (fun hc49 => ?_) (fun hc49 => by omega)
          refine jv_aload0 dX5_behind_55 ?_
          refine jv_callV (a := 64) (As := []) (rest := []) dX5_behind_56 okX5_fresh inX5_fresh seX5_fresh mlX5_245 (ci := 5) (T := TX5) (N := 35) rfl (mk h2.g) hFr (by decide) rfl rfl (Nat.le_of_ble_eq_true rfl) (.inr ⟨(ot_ow_r (by omega) (ot_ow_i (ot_ow_i (ot_ow_i (ot_ow_i (ot_ow_n ot_ow_nil)))))), ot_ow_nil, hFn⟩) ?_
          refine jv_astore5 dX5_behind_59 rfl ?_
          refine jv_aload5 dX5_behind_61 ?_
          refine jv_aload0 dX5_behind_63 ?_
          refine jv_getR dX5_behind_64 flX5_21 rfl (mk hM.g) (mr_rows hM.g) ?_
          refine jv_iload1 dX5_behind_67 ?_
          refine jv_aald3N dX5_behind_68 (mk_rows hM.g) (by omega) (by decide) (mr_row hM.g ht) ?_
          refine jv_iload2 dX5_behind_69 ?_
          refine jv_v21 dX5_behind_70 okX5_goesBy inX5_goesBy seX5_goesBy mlX5_325 (ci := 5) (T := TX5) (N := 35) rfl (mk hqG) hB (by decide) (Nat.le_of_ble_eq_true rfl) ?_
          refine jv_iconst dX5_behind_73 jv_c_iconst_m1 ?_
          refine jv_icmp_ne dX5_behind_74 (tgt := 86) (by decide) (fun h24 => ?_) (fun h24 => absurd ((ot_goA_iff hx40).mp h24) hg)
          refine jv_aload0 dX5_behind_86 ?_
          refine jv_bipush dX5_behind_87 jv_c_bipush_m5 ?_
          refine jv_v11 dX5_behind_89 okX5_refuse inX5_refuse seX5_refuse mlX5_104 (ci := 5) (T := TX5) (N := 35) rfl (mk hM.g) hC (by decide) (Nat.le_of_ble_eq_true rfl) ?_
          exact jv_iret dX5_behind_92 rfl rfl rfl rfl rfl
      · obtain ⟨I2, hT, h2, h3⟩ := om_noChanges h s n
        rw [e] at hT h2
        have hT : jv_C 3 mX5_noChanges _ G I J (some (.int (-2))) G I2 J := hT
        unfold ot_rcd
        rw [e, if_neg (by decide)]
        refine ⟨G, I2, J, ?_, h2, h3, ot_gx.rf⟩
        refine jv_enter okX5_behind (L := [.ref 64, .int s, .int n, .int (nI j), .null, .null]) rfl (Nat.le_of_ble_eq_true rfl) ?_
        refine jv_iload1 dX5_behind_0 ?_
        refine jv_i2l dX5_behind_1 rfl ?_
        refine jv_lconst dX5_behind_2 (v := lN 0) rfl ?_
        refine jv_ldc2 dX5_behind_3 cnX5_98 ?_
        refine jv_s31 dX5_behind_6 okX5_in stX5_in mlX5_83 (om_inC _ (a := 0) (b := 7) (by decide) (by decide)) (by decide) (Nat.le_of_ble_eq_true rfl) ?_
        refine jv_if_eqB dX5_behind_9 (tgt := 32) (by decide) (fun hq9 => absurd (by omega) hq9) (fun hq9 => ?_)
        refine jv_iload2 dX5_behind_12 ?_
        refine jv_i2l dX5_behind_13 rfl ?_
        refine jv_lconst dX5_behind_14 (v := lN 0) rfl ?_
        refine jv_ldc2 dX5_behind_15 cnX5_102 ?_
        refine jv_s31 dX5_behind_18 okX5_in stX5_in mlX5_83 (om_inC _ (a := 0) (b := 40) (by decide) (by decide)) (by decide) (Nat.le_of_ble_eq_true rfl) ?_
        refine jv_if_eqB dX5_behind_21 (tgt := 32) (by decide) (fun hq21 => absurd (by omega) hq21) (fun hq21 => ?_)
        refine jv_aload0 dX5_behind_24 ?_
        refine jv_iload3 dX5_behind_25 ?_
        refine jv_v11 dX5_behind_26 okX5_isCount inX5_isCount seX5_isCount mlX5_94 (ci := 5) (T := TX5) (N := 35) rfl (mk h.g) (om_isCount h.g h.r h.w _) (by decide) (Nat.le_of_ble_eq_true rfl) ?_
        refine jv_if_neB dX5_behind_29 (tgt := 39) (by decide) (fun hq29 => ?_) (fun hq29 => absurd hv hq29)
        refine jv_aload0 dX5_behind_39 ?_
        refine jv_iload1 dX5_behind_40 ?_
        refine jv_iload2 dX5_behind_41 ?_
        refine jv_v21 dX5_behind_42 okX5_noChanges inX5_noChanges seX5_noChanges mlX5_322 (ci := 5) (T := TX5) (N := 35) rfl (mk h.g) hT (by decide) (Nat.le_of_ble_eq_true rfl) ?_
        refine jv_istore4 dX5_behind_45 rfl ?_
        refine jv_iload4 dX5_behind_47 ?_
        refine jv_if_eq dX5_behind_49 (tgt := 55) (by decide) (fun h8 => absurd h8 (by decide)) (fun h8 => ?_)
        refine jv_iload4 dX5_behind_52 ?_
        exact jv_iret dX5_behind_54 rfl rfl rfl rfl rfl
      · obtain ⟨I2, hT, h2, h3⟩ := om_noChanges h s n
        rw [e] at hT h2
        have hT : jv_C 3 mX5_noChanges _ G I J (some (.int (-3))) G I2 J := hT
        unfold ot_rcd
        rw [e, if_neg (by decide)]
        refine ⟨G, I2, J, ?_, h2, h3, ot_gx.rf⟩
        refine jv_enter okX5_behind (L := [.ref 64, .int s, .int n, .int (nI j), .null, .null]) rfl (Nat.le_of_ble_eq_true rfl) ?_
        refine jv_iload1 dX5_behind_0 ?_
        refine jv_i2l dX5_behind_1 rfl ?_
        refine jv_lconst dX5_behind_2 (v := lN 0) rfl ?_
        refine jv_ldc2 dX5_behind_3 cnX5_98 ?_
        refine jv_s31 dX5_behind_6 okX5_in stX5_in mlX5_83 (om_inC _ (a := 0) (b := 7) (by decide) (by decide)) (by decide) (Nat.le_of_ble_eq_true rfl) ?_
        refine jv_if_eqB dX5_behind_9 (tgt := 32) (by decide) (fun hq9 => absurd (by omega) hq9) (fun hq9 => ?_)
        refine jv_iload2 dX5_behind_12 ?_
        refine jv_i2l dX5_behind_13 rfl ?_
        refine jv_lconst dX5_behind_14 (v := lN 0) rfl ?_
        refine jv_ldc2 dX5_behind_15 cnX5_102 ?_
        refine jv_s31 dX5_behind_18 okX5_in stX5_in mlX5_83 (om_inC _ (a := 0) (b := 40) (by decide) (by decide)) (by decide) (Nat.le_of_ble_eq_true rfl) ?_
        refine jv_if_eqB dX5_behind_21 (tgt := 32) (by decide) (fun hq21 => absurd (by omega) hq21) (fun hq21 => ?_)
        refine jv_aload0 dX5_behind_24 ?_
        refine jv_iload3 dX5_behind_25 ?_
        refine jv_v11 dX5_behind_26 okX5_isCount inX5_isCount seX5_isCount mlX5_94 (ci := 5) (T := TX5) (N := 35) rfl (mk h.g) (om_isCount h.g h.r h.w _) (by decide) (Nat.le_of_ble_eq_true rfl) ?_
        refine jv_if_neB dX5_behind_29 (tgt := 39) (by decide) (fun hq29 => ?_) (fun hq29 => absurd hv hq29)
        refine jv_aload0 dX5_behind_39 ?_
        refine jv_iload1 dX5_behind_40 ?_
        refine jv_iload2 dX5_behind_41 ?_
        refine jv_v21 dX5_behind_42 okX5_noChanges inX5_noChanges seX5_noChanges mlX5_322 (ci := 5) (T := TX5) (N := 35) rfl (mk h.g) hT (by decide) (Nat.le_of_ble_eq_true rfl) ?_
        refine jv_istore4 dX5_behind_45 rfl ?_
        refine jv_iload4 dX5_behind_47 ?_
        refine jv_if_eq dX5_behind_49 (tgt := 55) (by decide) (fun h8 => absurd h8 (by decide)) (fun h8 => ?_)
        refine jv_iload4 dX5_behind_52 ?_
        exact jv_iret dX5_behind_54 rfl rfl rfl rfl rfl
      · obtain ⟨I2, hT, h2, h3⟩ := om_noChanges h s n
        rw [e] at hT h2
        have hT : jv_C 3 mX5_noChanges _ G I J (some (.int (-4))) G I2 J := hT
        unfold ot_rcd
        rw [e, if_neg (by decide)]
        refine ⟨G, I2, J, ?_, h2, h3, ot_gx.rf⟩
        refine jv_enter okX5_behind (L := [.ref 64, .int s, .int n, .int (nI j), .null, .null]) rfl (Nat.le_of_ble_eq_true rfl) ?_
        refine jv_iload1 dX5_behind_0 ?_
        refine jv_i2l dX5_behind_1 rfl ?_
        refine jv_lconst dX5_behind_2 (v := lN 0) rfl ?_
        refine jv_ldc2 dX5_behind_3 cnX5_98 ?_
        refine jv_s31 dX5_behind_6 okX5_in stX5_in mlX5_83 (om_inC _ (a := 0) (b := 7) (by decide) (by decide)) (by decide) (Nat.le_of_ble_eq_true rfl) ?_
        refine jv_if_eqB dX5_behind_9 (tgt := 32) (by decide) (fun hq9 => absurd (by omega) hq9) (fun hq9 => ?_)
        refine jv_iload2 dX5_behind_12 ?_
        refine jv_i2l dX5_behind_13 rfl ?_
        refine jv_lconst dX5_behind_14 (v := lN 0) rfl ?_
        refine jv_ldc2 dX5_behind_15 cnX5_102 ?_
        refine jv_s31 dX5_behind_18 okX5_in stX5_in mlX5_83 (om_inC _ (a := 0) (b := 40) (by decide) (by decide)) (by decide) (Nat.le_of_ble_eq_true rfl) ?_
        refine jv_if_eqB dX5_behind_21 (tgt := 32) (by decide) (fun hq21 => absurd (by omega) hq21) (fun hq21 => ?_)
        refine jv_aload0 dX5_behind_24 ?_
        refine jv_iload3 dX5_behind_25 ?_
        refine jv_v11 dX5_behind_26 okX5_isCount inX5_isCount seX5_isCount mlX5_94 (ci := 5) (T := TX5) (N := 35) rfl (mk h.g) (om_isCount h.g h.r h.w _) (by decide) (Nat.le_of_ble_eq_true rfl) ?_
        refine jv_if_neB dX5_behind_29 (tgt := 39) (by decide) (fun hq29 => ?_) (fun hq29 => absurd hv hq29)
        refine jv_aload0 dX5_behind_39 ?_
        refine jv_iload1 dX5_behind_40 ?_
        refine jv_iload2 dX5_behind_41 ?_
        refine jv_v21 dX5_behind_42 okX5_noChanges inX5_noChanges seX5_noChanges mlX5_322 (ci := 5) (T := TX5) (N := 35) rfl (mk h.g) hT (by decide) (Nat.le_of_ble_eq_true rfl) ?_
        refine jv_istore4 dX5_behind_45 rfl ?_
        refine jv_iload4 dX5_behind_47 ?_
        refine jv_if_eq dX5_behind_49 (tgt := 55) (by decide) (fun h8 => absurd h8 (by decide)) (fun h8 => ?_)
        refine jv_iload4 dX5_behind_52 ?_
        exact jv_iret dX5_behind_54 rfl rfl rfl rfl rfl
    · unfold ot_rcd
      rw [ot_tt_ok h.z hsn, if_neg (by decide)]
      obtain ⟨I2, hC, h2, h3⟩ := om_refuse2 h
      refine ⟨G, I2, J, ?_, h2, h3, ot_gx.rf⟩
      refine jv_enter okX5_behind (L := [.ref 64, .int s, .int n, .int (nI j), .null, .null]) rfl (Nat.le_of_ble_eq_true rfl) ?_
      refine jv_iload1 dX5_behind_0 ?_
      refine jv_i2l dX5_behind_1 rfl ?_
      refine jv_lconst dX5_behind_2 (v := lN 0) rfl ?_
      refine jv_ldc2 dX5_behind_3 cnX5_98 ?_
      refine jv_s31 dX5_behind_6 okX5_in stX5_in mlX5_83 (om_inC _ (a := 0) (b := 7) (by decide) (by decide)) (by decide) (Nat.le_of_ble_eq_true rfl) ?_
      refine jv_if_eqB dX5_behind_9 (tgt := 32) (by decide) (fun g9 => ?_) (fun g9 => ?_)
      · refine jv_aload0 dX5_behind_32 ?_
        refine jv_bipush dX5_behind_33 jv_c_bipush_m2 ?_
        refine jv_v11 dX5_behind_35 okX5_refuse inX5_refuse seX5_refuse mlX5_104 (ci := 5) (T := TX5) (N := 35) rfl (mk h.g) hC (by decide) (Nat.le_of_ble_eq_true rfl) ?_
        exact jv_iret dX5_behind_38 rfl rfl rfl rfl rfl
      · refine jv_iload2 dX5_behind_12 ?_
        refine jv_i2l dX5_behind_13 rfl ?_
        refine jv_lconst dX5_behind_14 (v := lN 0) rfl ?_
        refine jv_ldc2 dX5_behind_15 cnX5_102 ?_
        refine jv_s31 dX5_behind_18 okX5_in stX5_in mlX5_83 (om_inC _ (a := 0) (b := 40) (by decide) (by decide)) (by decide) (Nat.le_of_ble_eq_true rfl) ?_
        refine jv_if_eqB dX5_behind_21 (tgt := 32) (by decide) (fun h21 => ?_) (fun h21 => absurd ⟨⟨g9.1, by omega⟩, h21⟩ hsn)
        refine jv_aload0 dX5_behind_32 ?_
        refine jv_bipush dX5_behind_33 jv_c_bipush_m2 ?_
        refine jv_v11 dX5_behind_35 okX5_refuse inX5_refuse seX5_refuse mlX5_104 (ci := 5) (T := TX5) (N := 35) rfl (mk h.g) hC (by decide) (Nat.le_of_ble_eq_true rfl) ?_
        exact jv_iret dX5_behind_38 rfl rfl rfl rfl rfl
  · unfold ot_rch
    rw [if_neg hv]
    obtain ⟨I2, hC, h2, h3⟩ := om_refuse2 h
    refine ⟨G, I2, J, ?_, h2, h3, ot_gx.rf⟩
    refine jv_enter okX5_behind (L := [.ref 64, .int s, .int n, .int k, .null, .null]) rfl (Nat.le_of_ble_eq_true rfl) ?_
    refine jv_iload1 dX5_behind_0 ?_
    refine jv_i2l dX5_behind_1 rfl ?_
    refine jv_lconst dX5_behind_2 (v := lN 0) rfl ?_
    refine jv_ldc2 dX5_behind_3 cnX5_98 ?_
    refine jv_s31 dX5_behind_6 okX5_in stX5_in mlX5_83 (om_inC _ (a := 0) (b := 7) (by decide) (by decide)) (by decide) (Nat.le_of_ble_eq_true rfl) ?_
    refine jv_if_eqB dX5_behind_9 (tgt := 32) (by decide) (fun g9 => ?_) (fun g9 => ?_)
    · refine jv_aload0 dX5_behind_32 ?_
      refine jv_bipush dX5_behind_33 jv_c_bipush_m2 ?_
      refine jv_v11 dX5_behind_35 okX5_refuse inX5_refuse seX5_refuse mlX5_104 (ci := 5) (T := TX5) (N := 35) rfl (mk h.g) hC (by decide) (Nat.le_of_ble_eq_true rfl) ?_
      exact jv_iret dX5_behind_38 rfl rfl rfl rfl rfl
    · refine jv_iload2 dX5_behind_12 ?_
      refine jv_i2l dX5_behind_13 rfl ?_
      refine jv_lconst dX5_behind_14 (v := lN 0) rfl ?_
      refine jv_ldc2 dX5_behind_15 cnX5_102 ?_
      refine jv_s31 dX5_behind_18 okX5_in stX5_in mlX5_83 (om_inC _ (a := 0) (b := 40) (by decide) (by decide)) (by decide) (Nat.le_of_ble_eq_true rfl) ?_
      refine jv_if_eqB dX5_behind_21 (tgt := 32) (by decide) (fun g21 => ?_) (fun g21 => ?_)
      · refine jv_aload0 dX5_behind_32 ?_
        refine jv_bipush dX5_behind_33 jv_c_bipush_m2 ?_
        refine jv_v11 dX5_behind_35 okX5_refuse inX5_refuse seX5_refuse mlX5_104 (ci := 5) (T := TX5) (N := 35) rfl (mk h.g) hC (by decide) (Nat.le_of_ble_eq_true rfl) ?_
        exact jv_iret dX5_behind_38 rfl rfl rfl rfl rfl
      · refine jv_aload0 dX5_behind_24 ?_
        refine jv_iload3 dX5_behind_25 ?_
        refine jv_v11 dX5_behind_26 okX5_isCount inX5_isCount seX5_isCount mlX5_94 (ci := 5) (T := TX5) (N := 35) rfl (mk h.g) (om_isCount h.g h.r h.w _) (by decide) (Nat.le_of_ble_eq_true rfl) ?_
        refine jv_if_neB dX5_behind_29 (tgt := 39) (by decide) (fun h29 => absurd h29 hv) (fun h29 => ?_)
        refine jv_aload0 dX5_behind_32 ?_
        refine jv_bipush dX5_behind_33 jv_c_bipush_m2 ?_
        refine jv_v11 dX5_behind_35 okX5_refuse inX5_refuse seX5_refuse mlX5_104 (ci := 5) (T := TX5) (N := 35) rfl (mk h.g) hC (by decide) (Nat.le_of_ble_eq_true rfl) ?_
        exact jv_iret dX5_behind_38 rfl rfl rfl rfl rfl
