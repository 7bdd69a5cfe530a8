/-! ===== the face: group 10 (mornings told) ===== -/
theorem ot_wrong_cong {Y : ot_Y} {k : Nat} {f g : Nat → Int64} (h : ∀ c, c < Y 10 0 → f c = g c) : ot_wrong Y k f = ot_wrong Y k g := ot_sum_cong _ (fun i hi => by rw [h i hi])
theorem ot_wrong_part (Y : ot_Y) (k : Nat) (f : Nat → Int64) : ∀ n, ot_sum (fun c => if f c = lN (ot_sideOf Y k c) then 0 else 1) n ≤ n
  | 0 => Nat.le_refl _
  | n + 1 => by have := ot_wrong_part Y k f n; rw [ot_sum]; split <;> omega
theorem ot_wrong_n (Y : ot_Y) (k : Nat) (f : Nat → Int64) : ot_wrong Y k f ≤ Y 10 0 := ot_wrong_part Y k f _
set_option maxRecDepth 20000 in
theorem oc_toldT {G : jv_Gr} {I : jv_I} {J : jv_J} {Y Z : ot_Y} {E : ot_E} {K : Option ot_Y} (h : ot_C G I J Y Z E K) (v n : Int32) : jv_C 4 mX4_toldTrouble [.ref 1, .int v, .int n] G I J (some (.int (ot_ans (ot_tt Z v n) (nI 0)))) G I J := by
  have bn := yw_n h.w
  have bc := yw_c h.w
  have bw := yw_w h.w
  refine jv_enter okX4_toldTrouble (L := [.ref 1, .int v, .int n, .null]) rfl (Nat.le_of_ble_eq_true rfl) ?_
  have hT := oc_rowT h v
  unfold ot_tt
  by_cases hn : 0 ≤ n.toInt ∧ n.toInt ≤ 40
  · obtain ⟨x, hx, rfl⟩ := ot_of (n := 41) (show 0 ≤ n.toInt ∧ n.toInt < ((41 : Nat) : Int) by omega) (by decide)
    rw [if_pos hn, ot_n_nI (show x < 2 ^ 30 by omega)]
    rcases ot_rt_cases h.z v with ⟨e, t, ht, rfl, h1s⟩ | ⟨e, _⟩ | ⟨e, _⟩ | ⟨e, _⟩
    · rw [e] at hT
      rw [e, if_pos rfl, ot_n_nI (show t < 2 ^ 30 by omega)]
      have hT : jv_C 3 mX4_rowTrouble _ G I J (some (.int (nI 0))) G I J := hT
      have hz := (h.z.1 t ht).2.1 h1s
      refine jv_iload2 dX4_toldTrouble_0 ?_
      refine jv_iconst dX4_toldTrouble_1 jv_c_iconst_0 ?_
      refine jv_bipush dX4_toldTrouble_2 jv_c_bipush_40 ?_
      refine jv_s31 dX4_toldTrouble_4 okX4_within stX4_within mlX4_57 (oc_inC _ (a := 0) (b := 40) (by decide) (by decide)) (by decide) (Nat.le_of_ble_eq_true rfl) ?_
      refine jv_if_neB dX4_toldTrouble_7 (tgt := 13) (by decide) (fun h7 => ?_) (fun h7 => absurd hn h7)
      refine jv_aload0 dX4_toldTrouble_13 ?_
      refine jv_iload1 dX4_toldTrouble_14 ?_
      refine jv_v11 dX4_toldTrouble_15 okX4_rowTrouble inX4_rowTrouble seX4_rowTrouble mlX4_69 (ci := 4) (T := TX4) (N := 8) rfl (ck h.g) hT (by decide) (Nat.le_of_ble_eq_true rfl) ?_
      refine jv_istore3 dX4_toldTrouble_18 rfl ?_
      refine jv_iload3 dX4_toldTrouble_19 ?_
      refine jv_if_neN dX4_toldTrouble_20 (tgt := 39) (by decide) (by omega) (fun h20 => by omega) (fun h20 => ?_)
      refine jv_aload0 dX4_toldTrouble_23 ?_
      refine jv_getR dX4_toldTrouble_24 flX4_40 rfl (ck h.g) (cr_shelves h.g) ?_
      refine jv_iload1 dX4_toldTrouble_27 ?_
      refine jv_aald2N dX4_toldTrouble_28 (ck_shelves h.g) (by omega) (by decide) (cr_shelf h.g ht) ?_
      refine jv_getI dX4_toldTrouble_29 flX4_316 rfl (sk h.g ht) ((si_length h.s ht).trans (by rw [ot_slen_1 h1s])) ?_
      refine jv_iload2 dX4_toldTrouble_32 ?_
      refine jv_icmp_geN dX4_toldTrouble_33 (tgt := 39) (by decide) (by omega) (by omega) (fun h33 => ?_) (fun h33 => ?_)
      · refine jv_iload3 dX4_toldTrouble_39 ?_
        exact jv_iret dX4_toldTrouble_40 rfl rfl (by rw [if_neg (by omega)]; rfl) rfl rfl
      · refine jv_bipush dX4_toldTrouble_36 jv_c_bipush_m2 ?_
        exact jv_iret dX4_toldTrouble_38 rfl rfl (by rw [if_pos (by omega)]; rfl) rfl rfl
    · rw [e] at hT ⊢
      have hT : jv_C 3 mX4_rowTrouble _ G I J (some (.int (-2))) G I J := hT
      refine jv_iload2 dX4_toldTrouble_0 ?_
      refine jv_iconst dX4_toldTrouble_1 jv_c_iconst_0 ?_
      refine jv_bipush dX4_toldTrouble_2 jv_c_bipush_40 ?_
      refine jv_s31 dX4_toldTrouble_4 okX4_within stX4_within mlX4_57 (oc_inC _ (a := 0) (b := 40) (by decide) (by decide)) (by decide) (Nat.le_of_ble_eq_true rfl) ?_
      refine jv_if_neB dX4_toldTrouble_7 (tgt := 13) (by decide) (fun h7 => ?_) (fun h7 => absurd hn h7)
      refine jv_aload0 dX4_toldTrouble_13 ?_
      refine jv_iload1 dX4_toldTrouble_14 ?_
      refine jv_v11 dX4_toldTrouble_15 okX4_rowTrouble inX4_rowTrouble seX4_rowTrouble mlX4_69 (ci := 4) (T := TX4) (N := 8) rfl (ck h.g) hT (by decide) (Nat.le_of_ble_eq_true rfl) ?_
      refine jv_istore3 dX4_toldTrouble_18 rfl ?_
      refine jv_iload3 dX4_toldTrouble_19 ?_
      refine jv_if_ne dX4_toldTrouble_20 (tgt := 39) (by decide) (fun h20 => ?_) (fun h20 => absurd h20 (by decide))
      refine jv_iload3 dX4_toldTrouble_39 ?_
      exact jv_iret dX4_toldTrouble_40 rfl rfl rfl rfl rfl
    · rw [e] at hT ⊢
      have hT : jv_C 3 mX4_rowTrouble _ G I J (some (.int (-3))) G I J := hT
      refine jv_iload2 dX4_toldTrouble_0 ?_
      refine jv_iconst dX4_toldTrouble_1 jv_c_iconst_0 ?_
      refine jv_bipush dX4_toldTrouble_2 jv_c_bipush_40 ?_
      refine jv_s31 dX4_toldTrouble_4 okX4_within stX4_within mlX4_57 (oc_inC _ (a := 0) (b := 40) (by decide) (by decide)) (by decide) (Nat.le_of_ble_eq_true rfl) ?_
      refine jv_if_neB dX4_toldTrouble_7 (tgt := 13) (by decide) (fun h7 => ?_) (fun h7 => absurd hn h7)
      refine jv_aload0 dX4_toldTrouble_13 ?_
      refine jv_iload1 dX4_toldTrouble_14 ?_
      refine jv_v11 dX4_toldTrouble_15 okX4_rowTrouble inX4_rowTrouble seX4_rowTrouble mlX4_69 (ci := 4) (T := TX4) (N := 8) rfl (ck h.g) hT (by decide) (Nat.le_of_ble_eq_true rfl) ?_
      refine jv_istore3 dX4_toldTrouble_18 rfl ?_
      refine jv_iload3 dX4_toldTrouble_19 ?_
      refine jv_if_ne dX4_toldTrouble_20 (tgt := 39) (by decide) (fun h20 => ?_) (fun h20 => absurd h20 (by decide))
      refine jv_iload3 dX4_toldTrouble_39 ?_
      exact jv_iret dX4_toldTrouble_40 rfl rfl rfl rfl rfl
    · rw [e] at hT ⊢
      have hT : jv_C 3 mX4_rowTrouble _ G I J (some (.int (-4))) G I J := hT
      refine jv_iload2 dX4_toldTrouble_0 ?_
      refine jv_iconst dX4_toldTrouble_1 jv_c_iconst_0 ?_
      refine jv_bipush dX4_toldTrouble_2 jv_c_bipush_40 ?_
      refine jv_s31 dX4_toldTrouble_4 okX4_within stX4_within mlX4_57 (oc_inC _ (a := 0) (b := 40) (by decide) (by decide)) (by decide) (Nat.le_of_ble_eq_true rfl) ?_
      refine jv_if_neB dX4_toldTrouble_7 (tgt := 13) (by decide) (fun h7 => ?_) (fun h7 => absurd hn h7)
      refine jv_aload0 dX4_toldTrouble_13 ?_
      refine jv_iload1 dX4_toldTrouble_14 ?_
      refine jv_v11 dX4_toldTrouble_15 okX4_rowTrouble inX4_rowTrouble seX4_rowTrouble mlX4_69 (ci := 4) (T := TX4) (N := 8) rfl (ck h.g) hT (by decide) (Nat.le_of_ble_eq_true rfl) ?_
      refine jv_istore3 dX4_toldTrouble_18 rfl ?_
      refine jv_iload3 dX4_toldTrouble_19 ?_
      refine jv_if_ne dX4_toldTrouble_20 (tgt := 39) (by decide) (fun h20 => ?_) (fun h20 => absurd h20 (by decide))
      refine jv_iload3 dX4_toldTrouble_39 ?_
      exact jv_iret dX4_toldTrouble_40 rfl rfl rfl rfl rfl
  · rw [if_neg hn]
    refine jv_iload2 dX4_toldTrouble_0 ?_
    refine jv_iconst dX4_toldTrouble_1 jv_c_iconst_0 ?_
    refine jv_bipush dX4_toldTrouble_2 jv_c_bipush_40 ?_
    refine jv_s31 dX4_toldTrouble_4 okX4_within stX4_within mlX4_57 (oc_inC _ (a := 0) (b := 40) (by decide) (by decide)) (by decide) (Nat.le_of_ble_eq_true rfl) ?_
    refine jv_if_neB dX4_toldTrouble_7 (tgt := 13) (by decide) (fun h7 => absurd h7 hn) (fun h7 => ?_)
    refine jv_bipush dX4_toldTrouble_10 jv_c_bipush_m2 ?_
    exact jv_iret dX4_toldTrouble_12 rfl rfl rfl rfl rfl
set_option maxRecDepth 20000 in
theorem om_noMorning {G : jv_Gr} {I : jv_I} {J : jv_J} {Y Z : ot_Y} {E : ot_E} {K : Option ot_Y} (h : ot_M G I J Y Z E K) (v : Int32) : ∃ I2, jv_C 3 mX5_noMorning [.ref 64, .int v] G I J (some (.int (ot_ans (ot_tt Z v (nI (Y 10 0))) (nI 0)))) G I2 J ∧ ot_M G I2 J Y (ot_zr Z (ot_tt Z v (nI (Y 10 0)))) E K ∧ ot_lo I I2 J J := by
  have bn := yw_n h.w
  have bc := yw_c h.w
  have bw := yw_w h.w
  have e0 := nI_toInt (show Y 10 0 < 2 ^ 31 by omega)
  unfold ot_tt
  rw [if_pos (show 0 ≤ (nI (Y 10 0)).toInt ∧ (nI (Y 10 0)).toInt ≤ 40 by omega), ot_n_nI (show Y 10 0 < 2 ^ 30 by omega)]
  obtain ⟨I2, hT, h2, h3⟩ := om_noRow h v
  rcases ot_rt_cases h.z v with ⟨e, t, ht, rfl, h1s⟩ | ⟨e, _⟩ | ⟨e, _⟩ | ⟨e, _⟩
  · rw [e] at hT h2
    rw [e, if_pos rfl, ot_n_nI (show t < 2 ^ 30 by omega)]
    have hT : jv_C 2 mX5_noRow _ G I J (some (.int (nI 0))) G I2 J := hT
    have h2 : ot_M G I2 J Y Z E K := h2
    have hz := (h.z.1 t ht).2.1 h1s
    by_cases hl : Z 2 t < Y 10 0
    · rw [if_pos hl]
      obtain ⟨I3, hC, h4, h5⟩ := om_refuse2 h2
      refine ⟨I3, ?_, h4, h3.tr h5⟩
      refine jv_enter okX5_noMorning (L := [.ref 64, .int (nI t), .null]) rfl (Nat.le_of_ble_eq_true rfl) ?_
      refine jv_aload0 dX5_noMorning_0 ?_
      refine jv_iload1 dX5_noMorning_1 ?_
      refine jv_v11 dX5_noMorning_2 okX5_noRow inX5_noRow seX5_noRow mlX5_108 (ci := 5) (T := TX5) (N := 35) rfl (mk h2.g) hT (by decide) (Nat.le_of_ble_eq_true rfl) ?_
      refine jv_istore2 dX5_noMorning_5 rfl ?_
      refine jv_iload2 dX5_noMorning_6 ?_
      refine jv_if_eqN dX5_noMorning_7 (tgt := 12) (by decide) (by omega) (fun hc7 => ?_) (fun hc7 => by omega)
      refine jv_aload0 dX5_noMorning_12 ?_
      refine jv_getR dX5_noMorning_13 flX5_16 rfl (mk h2.g) (mr_rowSize h2.g) ?_
      refine jv_iload1 dX5_noMorning_16 ?_
      refine jv_ialdN dX5_noMorning_17 (mk_rowSize h2.g) (by omega) (by decide) (nr_size h2.s ht h1s) ?_
      refine jv_aload0 dX5_noMorning_18 ?_
      refine jv_getI dX5_noMorning_19 flX5_80 rfl (mk h2.g) (mi_children h2.r) ?_
      refine jv_icmp_geN dX5_noMorning_22 (tgt := 34) (by decide) (by omega) (by omega) (fun hc22 => by omega) (fun hc22 => ?_)
      refine jv_aload0 dX5_noMorning_25 ?_
      refine jv_bipush dX5_noMorning_26 jv_c_bipush_m2 ?_
      refine jv_v11 dX5_noMorning_28 okX5_refuse inX5_refuse seX5_refuse mlX5_104 (ci := 5) (T := TX5) (N := 35) rfl (mk h2.g) hC (by decide) (Nat.le_of_ble_eq_true rfl) ?_
      refine jv_goto dX5_noMorning_31 (tgt := 35) (by decide) ?_
      exact jv_iret dX5_noMorning_35 rfl rfl rfl rfl rfl
    · rw [if_neg hl]
      refine ⟨I2, ?_, h2, h3⟩
      refine jv_enter okX5_noMorning (L := [.ref 64, .int (nI t), .null]) rfl (Nat.le_of_ble_eq_true rfl) ?_
      refine jv_aload0 dX5_noMorning_0 ?_
      refine jv_iload1 dX5_noMorning_1 ?_
      refine jv_v11 dX5_noMorning_2 okX5_noRow inX5_noRow seX5_noRow mlX5_108 (ci := 5) (T := TX5) (N := 35) rfl (mk h2.g) hT (by decide) (Nat.le_of_ble_eq_true rfl) ?_
      refine jv_istore2 dX5_noMorning_5 rfl ?_
      refine jv_iload2 dX5_noMorning_6 ?_
      refine jv_if_eqN dX5_noMorning_7 (tgt := 12) (by decide) (by omega) (fun hc7 => ?_) (fun hc7 => by omega)
      refine jv_aload0 dX5_noMorning_12 ?_
      refine jv_getR dX5_noMorning_13 flX5_16 rfl (mk h2.g) (mr_rowSize h2.g) ?_
      refine jv_iload1 dX5_noMorning_16 ?_
      refine jv_ialdN dX5_noMorning_17 (mk_rowSize h2.g) (by omega) (by decide) (nr_size h2.s ht h1s) ?_
      refine jv_aload0 dX5_noMorning_18 ?_
      refine jv_getI dX5_noMorning_19 flX5_80 rfl (mk h2.g) (mi_children h2.r) ?_
      refine jv_icmp_geN dX5_noMorning_22 (tgt := 34) (by decide) (by omega) (by omega) (fun hc22 => ?_) (fun hc22 => by omega)
      refine jv_iconst dX5_noMorning_34 jv_c_iconst_0 ?_
      exact jv_iret dX5_noMorning_35 rfl rfl rfl rfl rfl
  · rw [e] at hT h2 ⊢
    have hT : jv_C 2 mX5_noRow _ G I J (some (.int (-2))) G I2 J := hT
    refine ⟨I2, ?_, h2, h3⟩
    refine jv_enter okX5_noMorning (L := [.ref 64, .int v, .null]) rfl (Nat.le_of_ble_eq_true rfl) ?_
    refine jv_aload0 dX5_noMorning_0 ?_
    refine jv_iload1 dX5_noMorning_1 ?_
    refine jv_v11 dX5_noMorning_2 okX5_noRow inX5_noRow seX5_noRow mlX5_108 (ci := 5) (T := TX5) (N := 35) rfl (mk h2.g) hT (by decide) (Nat.le_of_ble_eq_true rfl) ?_
    refine jv_istore2 dX5_noMorning_5 rfl ?_
    refine jv_iload2 dX5_noMorning_6 ?_
    refine jv_if_eq dX5_noMorning_7 (tgt := 12) (by decide) (fun h7 => absurd h7 (by decide)) (fun h7 => ?_)
    refine jv_iload2 dX5_noMorning_10 ?_
    exact jv_iret dX5_noMorning_11 rfl rfl rfl rfl rfl
  · rw [e] at hT h2 ⊢
    have hT : jv_C 2 mX5_noRow _ G I J (some (.int (-3))) G I2 J := hT
    refine ⟨I2, ?_, h2, h3⟩
    refine jv_enter okX5_noMorning (L := [.ref 64, .int v, .null]) rfl (Nat.le_of_ble_eq_true rfl) ?_
    refine jv_aload0 dX5_noMorning_0 ?_
    refine jv_iload1 dX5_noMorning_1 ?_
    refine jv_v11 dX5_noMorning_2 okX5_noRow inX5_noRow seX5_noRow mlX5_108 (ci := 5) (T := TX5) (N := 35) rfl (mk h2.g) hT (by decide) (Nat.le_of_ble_eq_true rfl) ?_
    refine jv_istore2 dX5_noMorning_5 rfl ?_
    refine jv_iload2 dX5_noMorning_6 ?_
    refine jv_if_eq dX5_noMorning_7 (tgt := 12) (by decide) (fun h7 => absurd h7 (by decide)) (fun h7 => ?_)
    refine jv_iload2 dX5_noMorning_10 ?_
    exact jv_iret dX5_noMorning_11 rfl rfl rfl rfl rfl
  · rw [e] at hT h2 ⊢
    have hT : jv_C 2 mX5_noRow _ G I J (some (.int (-4))) G I2 J := hT
    refine ⟨I2, ?_, h2, h3⟩
    refine jv_enter okX5_noMorning (L := [.ref 64, .int v, .null]) rfl (Nat.le_of_ble_eq_true rfl) ?_
    refine jv_aload0 dX5_noMorning_0 ?_
    refine jv_iload1 dX5_noMorning_1 ?_
    refine jv_v11 dX5_noMorning_2 okX5_noRow inX5_noRow seX5_noRow mlX5_108 (ci := 5) (T := TX5) (N := 35) rfl (mk h2.g) hT (by decide) (Nat.le_of_ble_eq_true rfl) ?_
    refine jv_istore2 dX5_noMorning_5 rfl ?_
    refine jv_iload2 dX5_noMorning_6 ?_
    refine jv_if_eq dX5_noMorning_7 (tgt := 12) (by decide) (fun h7 => absurd h7 (by decide)) (fun h7 => ?_)
    refine jv_iload2 dX5_noMorning_10 ?_
    exact jv_iret dX5_noMorning_11 rfl rfl rfl rfl rfl
set_option maxRecDepth 20000 in
theorem om_noChanges {G : jv_Gr} {I : jv_I} {J : jv_J} {Y Z : ot_Y} {E : ot_E} {K : Option ot_Y} (h : ot_M G I J Y Z E K) (v n : Int32) : ∃ I2, jv_C 3 mX5_noChanges [.ref 64, .int v, .int n] G I J (some (.int (ot_ans (ot_tt Z v n) (nI 0)))) G I2 J ∧ ot_M G I2 J Y (ot_zr Z (ot_tt Z v n)) E K ∧ ot_lo I I2 J J := by
  have bn := yw_n h.w
  have bc := yw_c h.w
  have bw := yw_w h.w
  unfold ot_tt
  by_cases hn : 0 ≤ n.toInt ∧ n.toInt ≤ 40
  · obtain ⟨x, hx, rfl⟩ := ot_of (n := 41) (show 0 ≤ n.toInt ∧ n.toInt < ((41 : Nat) : Int) by omega) (by decide)
    rw [if_pos hn, ot_n_nI (show x < 2 ^ 30 by omega)]
    obtain ⟨I2, hT, h2, h3⟩ := om_noRow h v
    rcases ot_rt_cases h.z v with ⟨e, t, ht, rfl, h1s⟩ | ⟨e, hs8⟩ | ⟨e, t, ht, rfl, h2s⟩ | ⟨e, t, ht, rfl, h0s⟩
    · rw [e] at hT h2
      rw [e, if_pos rfl, ot_n_nI (show t < 2 ^ 30 by omega)]
      have hT : jv_C 2 mX5_noRow _ G I J (some (.int (nI 0))) G I2 J := hT
      have h2 : ot_M G I2 J Y Z E K := h2
      have hz := (h.z.1 t ht).2.1 h1s
      by_cases hl : Z 2 t < x
      · rw [if_pos hl]
        obtain ⟨I3, hC, h4, h5⟩ := om_refuse2 h2
        refine ⟨I3, ?_, h4, h3.tr h5⟩
        refine jv_enter okX5_noChanges (L := [.ref 64, .int (nI t), .int (nI x), .null]) rfl (Nat.le_of_ble_eq_true rfl) ?_
        refine jv_iload1 dX5_noChanges_0 ?_
        refine jv_i2l dX5_noChanges_1 rfl ?_
        refine jv_lconst dX5_noChanges_2 (v := lN 0) rfl ?_
        refine jv_ldc2 dX5_noChanges_3 cnX5_98 ?_
        refine jv_s31 dX5_noChanges_6 okX5_in stX5_in mlX5_83 (om_inC _ (a := 0) (b := 7) (by decide) (by decide)) (by decide) (Nat.le_of_ble_eq_true rfl) ?_
        refine jv_if_eqB dX5_noChanges_9 (tgt := 24) (by decide) (fun h9 => absurd (ot_7 ht) h9) (fun h9 => ?_)
        refine jv_iload2 dX5_noChanges_12 ?_
        refine jv_i2l dX5_noChanges_13 rfl ?_
        refine jv_lconst dX5_noChanges_14 (v := lN 0) rfl ?_
        refine jv_ldc2 dX5_noChanges_15 cnX5_102 ?_
        refine jv_s31 dX5_noChanges_18 okX5_in stX5_in mlX5_83 (om_inC _ (a := 0) (b := 40) (by decide) (by decide)) (by decide) (Nat.le_of_ble_eq_true rfl) ?_
        refine jv_if_neB dX5_noChanges_21 (tgt := 31) (by decide) (fun h21 => ?_) (fun h21 => absurd hn h21)
        refine jv_aload0 dX5_noChanges_31 ?_
        refine jv_iload1 dX5_noChanges_32 ?_
        refine jv_v11 dX5_noChanges_33 okX5_noRow inX5_noRow seX5_noRow mlX5_108 (ci := 5) (T := TX5) (N := 35) rfl (mk h2.g) hT (by decide) (Nat.le_of_ble_eq_true rfl) ?_
        refine jv_istore3 dX5_noChanges_36 rfl ?_
        refine jv_iload3 dX5_noChanges_37 ?_
        refine jv_if_eqN dX5_noChanges_38 (tgt := 43) (by decide) (by omega) (fun hc38 => ?_) (fun hc38 => by omega)
        refine jv_aload0 dX5_noChanges_43 ?_
        refine jv_getR dX5_noChanges_44 flX5_16 rfl (mk h2.g) (mr_rowSize h2.g) ?_
        refine jv_iload1 dX5_noChanges_47 ?_
        refine jv_ialdN dX5_noChanges_48 (mk_rowSize h2.g) (by omega) (by decide) (nr_size h2.s ht h1s) ?_
        refine jv_iload2 dX5_noChanges_49 ?_
        refine jv_icmp_geN dX5_noChanges_50 (tgt := 62) (by decide) (by omega) (by omega) (fun hc50 => by omega) (fun hc50 => ?_)
        refine jv_aload0 dX5_noChanges_53 ?_
        refine jv_bipush dX5_noChanges_54 jv_c_bipush_m2 ?_
        refine jv_v11 dX5_noChanges_56 okX5_refuse inX5_refuse seX5_refuse mlX5_104 (ci := 5) (T := TX5) (N := 35) rfl (mk h2.g) hC (by decide) (Nat.le_of_ble_eq_true rfl) ?_
        refine jv_goto dX5_noChanges_59 (tgt := 63) (by decide) ?_
        exact jv_iret dX5_noChanges_63 rfl rfl rfl rfl rfl
      · rw [if_neg hl]
        refine ⟨I2, ?_, h2, h3⟩
        refine jv_enter okX5_noChanges (L := [.ref 64, .int (nI t), .int (nI x), .null]) rfl (Nat.le_of_ble_eq_true rfl) ?_
        refine jv_iload1 dX5_noChanges_0 ?_
        refine jv_i2l dX5_noChanges_1 rfl ?_
        refine jv_lconst dX5_noChanges_2 (v := lN 0) rfl ?_
        refine jv_ldc2 dX5_noChanges_3 cnX5_98 ?_
        refine jv_s31 dX5_noChanges_6 okX5_in stX5_in mlX5_83 (om_inC _ (a := 0) (b := 7) (by decide) (by decide)) (by decide) (Nat.le_of_ble_eq_true rfl) ?_
        refine jv_if_eqB dX5_noChanges_9 (tgt := 24) (by decide) (fun h9 => absurd (ot_7 ht) h9) (fun h9 => ?_)
        refine jv_iload2 dX5_noChanges_12 ?_
        refine jv_i2l dX5_noChanges_13 rfl ?_
        refine jv_lconst dX5_noChanges_14 (v := lN 0) rfl ?_
        refine jv_ldc2 dX5_noChanges_15 cnX5_102 ?_
        refine jv_s31 dX5_noChanges_18 okX5_in stX5_in mlX5_83 (om_inC _ (a := 0) (b := 40) (by decide) (by decide)) (by decide) (Nat.le_of_ble_eq_true rfl) ?_
        refine jv_if_neB dX5_noChanges_21 (tgt := 31) (by decide) (fun h21 => ?_) (fun h21 => absurd hn h21)
        refine jv_aload0 dX5_noChanges_31 ?_
        refine jv_iload1 dX5_noChanges_32 ?_
        refine jv_v11 dX5_noChanges_33 okX5_noRow inX5_noRow seX5_noRow mlX5_108 (ci := 5) (T := TX5) (N := 35) rfl (mk h2.g) hT (by decide) (Nat.le_of_ble_eq_true rfl) ?_
        refine jv_istore3 dX5_noChanges_36 rfl ?_
        refine jv_iload3 dX5_noChanges_37 ?_
        refine jv_if_eqN dX5_noChanges_38 (tgt := 43) (by decide) (by omega) (fun hc38 => ?_) (fun hc38 => by omega)
        refine jv_aload0 dX5_noChanges_43 ?_
        refine jv_getR dX5_noChanges_44 flX5_16 rfl (mk h2.g) (mr_rowSize h2.g) ?_
        refine jv_iload1 dX5_noChanges_47 ?_
        refine jv_ialdN dX5_noChanges_48 (mk_rowSize h2.g) (by omega) (by decide) (nr_size h2.s ht h1s) ?_
        refine jv_iload2 dX5_noChanges_49 ?_
        refine jv_icmp_geN dX5_noChanges_50 (tgt := 62) (by decide) (by omega) (by omega) (fun hc50 => ?_) (fun hc50 => by omega)
        refine jv_iconst dX5_noChanges_62 jv_c_iconst_0 ?_
        exact jv_iret dX5_noChanges_63 rfl rfl rfl rfl rfl
    · rw [e]
      obtain ⟨I3, hC, h4, h5⟩ := om_refuse2 h
      refine ⟨I3, ?_, h4, h5⟩
      refine jv_enter okX5_noChanges (L := [.ref 64, .int v, .int (nI x), .null]) rfl (Nat.le_of_ble_eq_true rfl) ?_
      refine jv_iload1 dX5_noChanges_0 ?_
      refine jv_i2l dX5_noChanges_1 rfl ?_
      refine jv_lconst dX5_noChanges_2 (v := lN 0) rfl ?_
      refine jv_ldc2 dX5_noChanges_3 cnX5_98 ?_
      refine jv_s31 dX5_noChanges_6 okX5_in stX5_in mlX5_83 (om_inC _ (a := 0) (b := 7) (by decide) (by decide)) (by decide) (Nat.le_of_ble_eq_true rfl) ?_
      refine jv_if_eqB dX5_noChanges_9 (tgt := 24) (by decide) (fun h9 => ?_) (fun h9 => absurd ⟨h9.1, by omega⟩ hs8)
      refine jv_aload0 dX5_noChanges_24 ?_
      refine jv_bipush dX5_noChanges_25 jv_c_bipush_m2 ?_
      refine jv_v11 dX5_noChanges_27 okX5_refuse inX5_refuse seX5_refuse mlX5_104 (ci := 5) (T := TX5) (N := 35) rfl (mk h2.g) hC (by decide) (Nat.le_of_ble_eq_true rfl) ?_
      exact jv_iret dX5_noChanges_30 rfl rfl rfl rfl rfl
    · rw [e] at hT h2 ⊢
      have hT : jv_C 2 mX5_noRow _ G I J (some (.int (-3))) G I2 J := hT
      refine ⟨I2, ?_, h2, h3⟩
      refine jv_enter okX5_noChanges (L := [.ref 64, .int (nI t), .int (nI x), .null]) rfl (Nat.le_of_ble_eq_true rfl) ?_
      refine jv_iload1 dX5_noChanges_0 ?_
      refine jv_i2l dX5_noChanges_1 rfl ?_
      refine jv_lconst dX5_noChanges_2 (v := lN 0) rfl ?_
      refine jv_ldc2 dX5_noChanges_3 cnX5_98 ?_
      refine jv_s31 dX5_noChanges_6 okX5_in stX5_in mlX5_83 (om_inC _ (a := 0) (b := 7) (by decide) (by decide)) (by decide) (Nat.le_of_ble_eq_true rfl) ?_
      refine jv_if_eqB dX5_noChanges_9 (tgt := 24) (by decide) (fun h9 => absurd (ot_7 ht) h9) (fun h9 => ?_)
      refine jv_iload2 dX5_noChanges_12 ?_
      refine jv_i2l dX5_noChanges_13 rfl ?_
      refine jv_lconst dX5_noChanges_14 (v := lN 0) rfl ?_
      refine jv_ldc2 dX5_noChanges_15 cnX5_102 ?_
      refine jv_s31 dX5_noChanges_18 okX5_in stX5_in mlX5_83 (om_inC _ (a := 0) (b := 40) (by decide) (by decide)) (by decide) (Nat.le_of_ble_eq_true rfl) ?_
      refine jv_if_neB dX5_noChanges_21 (tgt := 31) (by decide) (fun h21 => ?_) (fun h21 => absurd hn h21)
      refine jv_aload0 dX5_noChanges_31 ?_
      refine jv_iload1 dX5_noChanges_32 ?_
      refine jv_v11 dX5_noChanges_33 okX5_noRow inX5_noRow seX5_noRow mlX5_108 (ci := 5) (T := TX5) (N := 35) rfl (mk h2.g) hT (by decide) (Nat.le_of_ble_eq_true rfl) ?_
      refine jv_istore3 dX5_noChanges_36 rfl ?_
      refine jv_iload3 dX5_noChanges_37 ?_
      refine jv_if_eq dX5_noChanges_38 (tgt := 43) (by decide) (fun h7 => absurd h7 (by decide)) (fun h7 => ?_)
      refine jv_iload3 dX5_noChanges_41 ?_
      exact jv_iret dX5_noChanges_42 rfl rfl rfl rfl rfl
    · rw [e] at hT h2 ⊢
      have hT : jv_C 2 mX5_noRow _ G I J (some (.int (-4))) G I2 J := hT
      refine ⟨I2, ?_, h2, h3⟩
      refine jv_enter okX5_noChanges (L := [.ref 64, .int (nI t), .int (nI x), .null]) rfl (Nat.le_of_ble_eq_true rfl) ?_
      refine jv_iload1 dX5_noChanges_0 ?_
      refine jv_i2l dX5_noChanges_1 rfl ?_
      refine jv_lconst dX5_noChanges_2 (v := lN 0) rfl ?_
      refine jv_ldc2 dX5_noChanges_3 cnX5_98 ?_
      refine jv_s31 dX5_noChanges_6 okX5_in stX5_in mlX5_83 (om_inC _ (a := 0) (b := 7) (by decide) (by decide)) (by decide) (Nat.le_of_ble_eq_true rfl) ?_
      refine jv_if_eqB dX5_noChanges_9 (tgt := 24) (by decide) (fun h9 => absurd (ot_7 ht) h9) (fun h9 => ?_)
      refine jv_iload2 dX5_noChanges_12 ?_
      refine jv_i2l dX5_noChanges_13 rfl ?_
      refine jv_lconst dX5_noChanges_14 (v := lN 0) rfl ?_
      refine jv_ldc2 dX5_noChanges_15 cnX5_102 ?_
      refine jv_s31 dX5_noChanges_18 okX5_in stX5_in mlX5_83 (om_inC _ (a := 0) (b := 40) (by decide) (by decide)) (by decide) (Nat.le_of_ble_eq_true rfl) ?_
      refine jv_if_neB dX5_noChanges_21 (tgt := 31) (by decide) (fun h21 => ?_) (fun h21 => absurd hn h21)
      refine jv_aload0 dX5_noChanges_31 ?_
      refine jv_iload1 dX5_noChanges_32 ?_
      refine jv_v11 dX5_noChanges_33 okX5_noRow inX5_noRow seX5_noRow mlX5_108 (ci := 5) (T := TX5) (N := 35) rfl (mk h2.g) hT (by decide) (Nat.le_of_ble_eq_true rfl) ?_
      refine jv_istore3 dX5_noChanges_36 rfl ?_
      refine jv_iload3 dX5_noChanges_37 ?_
      refine jv_if_eq dX5_noChanges_38 (tgt := 43) (by decide) (fun h7 => absurd h7 (by decide)) (fun h7 => ?_)
      refine jv_iload3 dX5_noChanges_41 ?_
      exact jv_iret dX5_noChanges_42 rfl rfl rfl rfl rfl
  · rw [if_neg hn]
    obtain ⟨I3, hC, h4, h5⟩ := om_refuse2 h
    refine ⟨I3, ?_, h4, h5⟩
    refine jv_enter okX5_noChanges (L := [.ref 64, .int v, .int n, .null]) rfl (Nat.le_of_ble_eq_true rfl) ?_
    refine jv_iload1 dX5_noChanges_0 ?_
    refine jv_i2l dX5_noChanges_1 rfl ?_
    refine jv_lconst dX5_noChanges_2 (v := lN 0) rfl ?_
    refine jv_ldc2 dX5_noChanges_3 cnX5_98 ?_
    refine jv_s31 dX5_noChanges_6 okX5_in stX5_in mlX5_83 (om_inC _ (a := 0) (b := 7) (by decide) (by decide)) (by decide) (Nat.le_of_ble_eq_true rfl) ?_
    refine jv_if_eqB dX5_noChanges_9 (tgt := 24) (by decide) (fun h9 => ?_) (fun h9 => ?_)
    · refine jv_aload0 dX5_noChanges_24 ?_
      refine jv_bipush dX5_noChanges_25 jv_c_bipush_m2 ?_
      refine jv_v11 dX5_noChanges_27 okX5_refuse inX5_refuse seX5_refuse mlX5_104 (ci := 5) (T := TX5) (N := 35) rfl (mk h.g) hC (by decide) (Nat.le_of_ble_eq_true rfl) ?_
      exact jv_iret dX5_noChanges_30 rfl rfl rfl rfl rfl
    · refine jv_iload2 dX5_noChanges_12 ?_
      refine jv_i2l dX5_noChanges_13 rfl ?_
      refine jv_lconst dX5_noChanges_14 (v := lN 0) rfl ?_
      refine jv_ldc2 dX5_noChanges_15 cnX5_102 ?_
      refine jv_s31 dX5_noChanges_18 okX5_in stX5_in mlX5_83 (om_inC _ (a := 0) (b := 40) (by decide) (by decide)) (by decide) (Nat.le_of_ble_eq_true rfl) ?_
      refine jv_if_neB dX5_noChanges_21 (tgt := 31) (by decide) (fun h21 => absurd h21 hn) (fun h21 => ?_)
      refine jv_aload0 dX5_noChanges_24 ?_
      refine jv_bipush dX5_noChanges_25 jv_c_bipush_m2 ?_
      refine jv_v11 dX5_noChanges_27 okX5_refuse inX5_refuse seX5_refuse mlX5_104 (ci := 5) (T := TX5) (N := 35) rfl (mk h.g) hC (by decide) (Nat.le_of_ble_eq_true rfl) ?_
      exact jv_iret dX5_noChanges_30 rfl rfl rfl rfl rfl
def ot_fits (Y : ot_Y) (f : Nat → Int64) : Int32 := ot_bits (fun k => decide (ot_wrong Y k f = 0)) (Y 10 1)
def ot_miss (Y : ot_Y) (f : Nat → Int64) : Nat := ot_min (fun k => ot_wrong Y k f) (Y 10 0) (Y 10 1)
set_option maxRecDepth 20000 in
theorem pc_fits {G : jv_Gr} {I : jv_I} {J : jv_J} {Y Z : ot_Y} {E : ot_E} {K : Option ot_Y} (h : ot_C G I J Y Z E K) (s : Int32) : ot_cc 8 mX4_fits [.ref 1, .int s] G I J (ot_ans (ot_tt Z s (nI (Y 10 0))) (ot_fits Y (E (ot_n s)))) Y (ot_zr Z (ot_tt Z s (nI (Y 10 0)))) E K := by
  have bn := yw_n h.w
  have bc := yw_c h.w
  have bw := yw_w h.w
  rcases ot_tt_cases h.z s (nI (Y 10 0)) with ⟨e, t, x, ht, rfl, h1s, hx, hle⟩ | e | e | e
  · have hT := oc_toldT h (nI t) (nI (Y 10 0))
    rw [e] at hT
    have hT : jv_C 4 mX4_toldTrouble _ G I J (some (.int (nI 0))) G I J := hT
    have hx := ot_nI_inj (by omega) (by have := (h.z.1 t ht).2.1 h1s; omega) hx
    rw [e, ot_n_nI (show t < 2 ^ 30 by omega)]
    have hwr : ∀ k, ot_wrong Y k (J (49 + 2 * t)) = ot_wrong Y k (E t) := fun k => ot_wrong_cong (fun c hc => (h.s.1 t ht).2.2 h1s c (by omega))
    refine ⟨I, J, ?_, h, ot_hi.rf⟩
    refine jv_enter okX4_fits (L := [.ref 1, .int (nI t), .null, .null, .null]) rfl (Nat.le_of_ble_eq_true rfl) ?_
    have loop : ∀ (n i : Nat) (acc : Int32), Y 10 1 + 1 ≤ i + n → i ≤ Y 10 1 → acc = ot_bits (fun k => decide (ot_wrong Y k (E t) = 0)) i → jv_V 8 mX4_fits 28 [.ref 1, .int (nI t), .int (nI 0), .int acc, .int (nI i)] [] G I J (some (.int (ot_fits Y (E t)))) G I J := by
      intro n
      induction n with
      | zero => intro i acc h1 h2; omega
      | succ n ih =>
        intro i acc h1 h2 ea
        refine jv_iload4 dX4_fits_28 ?_
        refine jv_aload0 dX4_fits_30 ?_
        refine jv_getR dX4_fits_31 flX4_10 rfl (ck h.g) (cr_now h.g) ?_
        refine jv_getI dX4_fits_34 flX4_134 rfl (yk (cg_now h.g)) (yi_counts h.r) ?_
        refine jv_icmp_geN dX4_fits_37 (tgt := 74) (by decide) (by omega) (by omega) (fun hc37 => ?_) (fun hc37 => ?_)
        · refine jv_iload3 dX4_fits_74 ?_
          exact jv_iret dX4_fits_75 rfl rfl (by rw [ea, show i = Y 10 1 by omega]; rfl) rfl rfl
        · refine jv_aload0 dX4_fits_40 ?_
          refine jv_getR dX4_fits_41 flX4_10 rfl (ck h.g) (cr_now h.g) ?_
          refine jv_iload4 dX4_fits_44 ?_
          refine jv_aload0 dX4_fits_46 ?_
          refine jv_getR dX4_fits_47 flX4_40 rfl (ck h.g) (cr_shelves h.g) ?_
          refine jv_iload1 dX4_fits_50 ?_
          refine jv_aald2N dX4_fits_51 (ck_shelves h.g) (by omega) (by decide) (cr_shelf h.g ht) ?_
          refine jv_getR dX4_fits_52 flX4_87 rfl (sk h.g ht) (sr_elements h.g ht) ?_
          refine jv_v21 dX4_fits_55 okX3_unlikeTold inX3_unlikeTold seX3_unlikeTold mlX4_268 (ci := 3) (T := TX3) (N := 15) rfl (yk (cg_now h.g)) (ot_wrongM (cg_now h.g) h.r h.w (show i < Y 10 1 by omega) (sk_elements h.g ht) (by omega) (by decide)) (by decide) (Nat.le_of_ble_eq_true rfl) ?_
          rw [hwr]
          have hwn := ot_wrong_n Y i (E t)
          refine jv_if_neN dX4_fits_58 (tgt := 68) (by decide) (by omega) (fun h58 => ?_) (fun h58 => ?_)
          · refine jv_iinc4N dX4_fits_68 rfl ?_
            refine jv_goto dX4_fits_71 (tgt := 28) (by decide) ?_
            exact ih (i + 1) _ (by omega) (by omega) (by rw [ot_bits, if_neg (by simp [h58]), ea])
          · refine jv_iload3 dX4_fits_61 ?_
            refine jv_iconst dX4_fits_62 jv_c_iconst_1 ?_
            refine jv_iload4 dX4_fits_63 ?_
            refine jv_ishl dX4_fits_65 ?_
            refine jv_ior dX4_fits_66 ?_
            refine jv_istore3 dX4_fits_67 rfl ?_
            refine jv_iinc4N dX4_fits_68 rfl ?_
            refine jv_goto dX4_fits_71 (tgt := 28) (by decide) ?_
            exact ih (i + 1) _ (by omega) (by omega) (by rw [ot_bits, if_pos (by simp [h58]), ea])
    refine jv_aload0 dX4_fits_0 ?_
    refine jv_iload1 dX4_fits_1 ?_
    refine jv_aload0 dX4_fits_2 ?_
    refine jv_getR dX4_fits_3 flX4_10 rfl (ck h.g) (cr_now h.g) ?_
    refine jv_getI dX4_fits_6 flX4_128 rfl (yk (cg_now h.g)) (yi_children h.r) ?_
    refine jv_v21 dX4_fits_9 okX4_toldTrouble inX4_toldTrouble seX4_toldTrouble mlX4_265 (ci := 4) (T := TX4) (N := 8) rfl (ck h.g) hT (by decide) (Nat.le_of_ble_eq_true rfl) ?_
    refine jv_istore2 dX4_fits_12 rfl ?_
    refine jv_iload2 dX4_fits_13 ?_
    refine jv_if_eqN dX4_fits_14 (tgt := 23) (by decide) (by omega) (fun hc14 => ?_) (fun hc14 => by omega)
    refine jv_iconst dX4_fits_23 jv_c_iconst_0 ?_
    refine jv_istore3 dX4_fits_24 rfl ?_
    refine jv_iconst dX4_fits_25 jv_c_iconst_0 ?_
    refine jv_istore4 dX4_fits_26 rfl ?_
    exact loop (Y 10 1 + 1) 0 _ (by omega) (by omega) rfl
  · have hT := oc_toldT h s (nI (Y 10 0))
    rw [e] at hT
    have hT : jv_C 4 mX4_toldTrouble _ G I J (some (.int (-2))) G I J := hT
    rw [e]
    obtain ⟨I2, hC, h2, h3⟩ := oc_refuse2 h
    refine ⟨I2, J, ?_, h2, h3⟩
    refine jv_enter okX4_fits (L := [.ref 1, .int s, .null, .null, .null]) rfl (Nat.le_of_ble_eq_true rfl) ?_
    refine jv_aload0 dX4_fits_0 ?_
    refine jv_iload1 dX4_fits_1 ?_
    refine jv_aload0 dX4_fits_2 ?_
    refine jv_getR dX4_fits_3 flX4_10 rfl (ck h.g) (cr_now h.g) ?_
    refine jv_getI dX4_fits_6 flX4_128 rfl (yk (cg_now h.g)) (yi_children h.r) ?_
    refine jv_v21 dX4_fits_9 okX4_toldTrouble inX4_toldTrouble seX4_toldTrouble mlX4_265 (ci := 4) (T := TX4) (N := 8) rfl (ck h.g) hT (by decide) (Nat.le_of_ble_eq_true rfl) ?_
    refine jv_istore2 dX4_fits_12 rfl ?_
    refine jv_iload2 dX4_fits_13 ?_
    refine jv_if_eq dX4_fits_14 (tgt := 23) (by decide) (fun h14 => absurd h14 (by decide)) (fun h14 => ?_)
    refine jv_aload0 dX4_fits_17 ?_
    refine jv_iload2 dX4_fits_18 ?_
    refine jv_v11 dX4_fits_19 okX4_refuse inX4_refuse seX4_refuse mlX4_61 (ci := 4) (T := TX4) (N := 8) rfl (ck h.g) hC (by decide) (Nat.le_of_ble_eq_true rfl) ?_
    exact jv_iret dX4_fits_22 rfl rfl rfl rfl rfl
  · have hT := oc_toldT h s (nI (Y 10 0))
    rw [e] at hT
    have hT : jv_C 4 mX4_toldTrouble _ G I J (some (.int (-3))) G I J := hT
    rw [e]
    obtain ⟨I2, hC, h2, h3⟩ := oc_refuse3 h
    refine ⟨I2, J, ?_, h2, h3⟩
    refine jv_enter okX4_fits (L := [.ref 1, .int s, .null, .null, .null]) rfl (Nat.le_of_ble_eq_true rfl) ?_
    refine jv_aload0 dX4_fits_0 ?_
    refine jv_iload1 dX4_fits_1 ?_
    refine jv_aload0 dX4_fits_2 ?_
    refine jv_getR dX4_fits_3 flX4_10 rfl (ck h.g) (cr_now h.g) ?_
    refine jv_getI dX4_fits_6 flX4_128 rfl (yk (cg_now h.g)) (yi_children h.r) ?_
    refine jv_v21 dX4_fits_9 okX4_toldTrouble inX4_toldTrouble seX4_toldTrouble mlX4_265 (ci := 4) (T := TX4) (N := 8) rfl (ck h.g) hT (by decide) (Nat.le_of_ble_eq_true rfl) ?_
    refine jv_istore2 dX4_fits_12 rfl ?_
    refine jv_iload2 dX4_fits_13 ?_
    refine jv_if_eq dX4_fits_14 (tgt := 23) (by decide) (fun h14 => absurd h14 (by decide)) (fun h14 => ?_)
    refine jv_aload0 dX4_fits_17 ?_
    refine jv_iload2 dX4_fits_18 ?_
    refine jv_v11 dX4_fits_19 okX4_refuse inX4_refuse seX4_refuse mlX4_61 (ci := 4) (T := TX4) (N := 8) rfl (ck h.g) hC (by decide) (Nat.le_of_ble_eq_true rfl) ?_
    exact jv_iret dX4_fits_22 rfl rfl rfl rfl rfl
  · have hT := oc_toldT h s (nI (Y 10 0))
    rw [e] at hT
    have hT : jv_C 4 mX4_toldTrouble _ G I J (some (.int (-4))) G I J := hT
    rw [e]
    obtain ⟨I2, hC, h2, h3⟩ := oc_refuse4 h
    refine ⟨I2, J, ?_, h2, h3⟩
    refine jv_enter okX4_fits (L := [.ref 1, .int s, .null, .null, .null]) rfl (Nat.le_of_ble_eq_true rfl) ?_
    refine jv_aload0 dX4_fits_0 ?_
    refine jv_iload1 dX4_fits_1 ?_
    refine jv_aload0 dX4_fits_2 ?_
    refine jv_getR dX4_fits_3 flX4_10 rfl (ck h.g) (cr_now h.g) ?_
    refine jv_getI dX4_fits_6 flX4_128 rfl (yk (cg_now h.g)) (yi_children h.r) ?_
    refine jv_v21 dX4_fits_9 okX4_toldTrouble inX4_toldTrouble seX4_toldTrouble mlX4_265 (ci := 4) (T := TX4) (N := 8) rfl (ck h.g) hT (by decide) (Nat.le_of_ble_eq_true rfl) ?_
    refine jv_istore2 dX4_fits_12 rfl ?_
    refine jv_iload2 dX4_fits_13 ?_
    refine jv_if_eq dX4_fits_14 (tgt := 23) (by decide) (fun h14 => absurd h14 (by decide)) (fun h14 => ?_)
    refine jv_aload0 dX4_fits_17 ?_
    refine jv_iload2 dX4_fits_18 ?_
    refine jv_v11 dX4_fits_19 okX4_refuse inX4_refuse seX4_refuse mlX4_61 (ci := 4) (T := TX4) (N := 8) rfl (ck h.g) hC (by decide) (Nat.le_of_ble_eq_true rfl) ?_
    exact jv_iret dX4_fits_22 rfl rfl rfl rfl rfl
set_option maxRecDepth 20000 in
theorem pm_fits {G : jv_Gr} {I : jv_I} {J : jv_J} {Y Z : ot_Y} {E : ot_E} {K : Option ot_Y} (h : ot_M G I J Y Z E K) (s : Int32) : ot_mm 8 mX5_fits [.ref 64, .int s] G I J (ot_ans (ot_tt Z s (nI (Y 10 0))) (ot_fits Y (E (ot_n s)))) Y (ot_zr Z (ot_tt Z s (nI (Y 10 0)))) E K := by
  have bn := yw_n h.w
  have bc := yw_c h.w
  have bw := yw_w h.w
  rcases ot_tt_cases h.z s (nI (Y 10 0)) with ⟨e, t, x, ht, rfl, h1s, hx, hle⟩ | e | e | e
  · obtain ⟨I2, hT, h2, h3⟩ := om_noMorning h (nI t)
    rw [e] at hT h2
    have hT : jv_C 3 mX5_noMorning _ G I J (some (.int (nI 0))) G I2 J := hT
    have hM2 : ot_M G I2 J Y Z E K := h2
    have hx := ot_nI_inj (by omega) (by have := (h.z.1 t ht).2.1 h1s; omega) hx
    rw [e, ot_n_nI (show t < 2 ^ 30 by omega)]
    have hwr : ∀ k, ot_wrong Y k (J (64 + (5 + t))) = ot_wrong Y k (E t) := fun k => ot_wrong_cong (fun c hc => nr_el h.s ht h1s (by omega))
    refine ⟨G, I2, J, ?_, h2, h3, ot_gx.rf⟩
    refine jv_enter okX5_fits (L := [.ref 64, .int (nI t), .null, .null, .null]) rfl (Nat.le_of_ble_eq_true rfl) ?_
    have loop : ∀ (n i : Nat) (acc : Int32), Y 10 1 + 1 ≤ i + n → i ≤ Y 10 1 → acc = ot_bits (fun k => decide (ot_wrong Y k (E t) = 0)) i → jv_V 8 mX5_fits 17 [.ref 64, .int (nI t), .int (nI 0), .int acc, .int (nI i)] [] G I2 J (some (.int (ot_fits Y (E t)))) G I2 J := by
      intro n
      induction n with
      | zero => intro i acc h1 h2; omega
      | succ n ih =>
        intro i acc h1 h2 ea
        refine jv_iload4 dX5_fits_17 ?_
        refine jv_aload0 dX5_fits_19 ?_
        refine jv_getI dX5_fits_20 flX5_91 rfl (mk hM2.g) (mi_counts hM2.r) ?_
        refine jv_icmp_geN dX5_fits_23 (tgt := 58) (by decide) (by omega) (by omega) (fun hc23 => ?_) (fun hc23 => ?_)
        · refine jv_iload3 dX5_fits_58 ?_
          exact jv_iret dX5_fits_59 rfl rfl (by rw [ea, show i = Y 10 1 by omega]; rfl) rfl rfl
        · refine jv_iload3 dX5_fits_26 ?_
          refine jv_aload0 dX5_fits_27 ?_
          refine jv_iload4 dX5_fits_28 ?_
          refine jv_aload0 dX5_fits_30 ?_
          refine jv_getR dX5_fits_31 flX5_21 rfl (mk hM2.g) (mr_rows hM2.g) ?_
          refine jv_iload1 dX5_fits_34 ?_
          refine jv_aald3N dX5_fits_35 (mk_rows hM2.g) (by omega) (by decide) (mr_row hM2.g ht) ?_
          refine jv_v21 dX5_fits_36 okX5_wrongTeams inX5_wrongTeams seX5_wrongTeams mlX5_316 (ci := 5) (T := TX5) (N := 35) rfl (mk hM2.g) (om_wrongTeams hM2.g hM2.r hM2.w (show i < Y 10 1 by omega) (mk_row hM2.g ht) (by omega) (by decide)) (by decide) (Nat.le_of_ble_eq_true rfl) ?_
          rw [hwr]
          have hwn := ot_wrong_n Y i (E t)
          refine jv_if_neN dX5_fits_39 (tgt := 49) (by decide) (by omega) (fun h58 => ?_) (fun h58 => ?_)
          · refine jv_iconst dX5_fits_49 jv_c_iconst_0 ?_
            refine jv_ior dX5_fits_50 ?_
            refine jv_istore3 dX5_fits_51 rfl ?_
            refine jv_iinc4N dX5_fits_52 rfl ?_
            refine jv_goto dX5_fits_55 (tgt := 17) (by decide) ?_
            exact ih (i + 1) _ (by omega) (by omega) (by rw [ot_bits, if_neg (by simp [h58]), ea]; exact ot_or0 _)
          · refine jv_iconst dX5_fits_42 jv_c_iconst_1 ?_
            refine jv_iload4 dX5_fits_43 ?_
            refine jv_ishl dX5_fits_45 ?_
            refine jv_goto dX5_fits_46 (tgt := 50) (by decide) ?_
            refine jv_ior dX5_fits_50 ?_
            refine jv_istore3 dX5_fits_51 rfl ?_
            refine jv_iinc4N dX5_fits_52 rfl ?_
            refine jv_goto dX5_fits_55 (tgt := 17) (by decide) ?_
            exact ih (i + 1) _ (by omega) (by omega) (by rw [ot_bits, if_pos (by simp [h58]), ea])
    refine jv_aload0 dX5_fits_0 ?_
    refine jv_iload1 dX5_fits_1 ?_
    refine jv_v11 dX5_fits_2 okX5_noMorning inX5_noMorning seX5_noMorning mlX5_313 (ci := 5) (T := TX5) (N := 35) rfl (mk hM2.g) hT (by decide) (Nat.le_of_ble_eq_true rfl) ?_
    refine jv_istore2 dX5_fits_5 rfl ?_
    refine jv_iload2 dX5_fits_6 ?_
    refine jv_if_eqN dX5_fits_7 (tgt := 12) (by decide) (by omega) (fun hc7 => ?_) (fun hc7 => by omega)
    refine jv_iconst dX5_fits_12 jv_c_iconst_0 ?_
    refine jv_istore3 dX5_fits_13 rfl ?_
    refine jv_iconst dX5_fits_14 jv_c_iconst_0 ?_
    refine jv_istore4 dX5_fits_15 rfl ?_
    exact loop (Y 10 1 + 1) 0 _ (by omega) (by omega) rfl
  · obtain ⟨I2, hT, h2, h3⟩ := om_noMorning h s
    rw [e] at hT h2
    have hT : jv_C 3 mX5_noMorning _ G I J (some (.int (-2))) G I2 J := hT
    rw [e]
    refine ⟨G, I2, J, ?_, h2, h3, ot_gx.rf⟩
    refine jv_enter okX5_fits (L := [.ref 64, .int s, .null, .null, .null]) rfl (Nat.le_of_ble_eq_true rfl) ?_
    refine jv_aload0 dX5_fits_0 ?_
    refine jv_iload1 dX5_fits_1 ?_
    refine jv_v11 dX5_fits_2 okX5_noMorning inX5_noMorning seX5_noMorning mlX5_313 (ci := 5) (T := TX5) (N := 35) rfl (mk h.g) hT (by decide) (Nat.le_of_ble_eq_true rfl) ?_
    refine jv_istore2 dX5_fits_5 rfl ?_
    refine jv_iload2 dX5_fits_6 ?_
    refine jv_if_eq dX5_fits_7 (tgt := 12) (by decide) (fun h14 => absurd h14 (by decide)) (fun h14 => ?_)
    refine jv_iload2 dX5_fits_10 ?_
    exact jv_iret dX5_fits_11 rfl rfl rfl rfl rfl
  · obtain ⟨I2, hT, h2, h3⟩ := om_noMorning h s
    rw [e] at hT h2
    have hT : jv_C 3 mX5_noMorning _ G I J (some (.int (-3))) G I2 J := hT
    rw [e]
    refine ⟨G, I2, J, ?_, h2, h3, ot_gx.rf⟩
    refine jv_enter okX5_fits (L := [.ref 64, .int s, .null, .null, .null]) rfl (Nat.le_of_ble_eq_true rfl) ?_
    refine jv_aload0 dX5_fits_0 ?_
    refine jv_iload1 dX5_fits_1 ?_
    refine jv_v11 dX5_fits_2 okX5_noMorning inX5_noMorning seX5_noMorning mlX5_313 (ci := 5) (T := TX5) (N := 35) rfl (mk h.g) hT (by decide) (Nat.le_of_ble_eq_true rfl) ?_
    refine jv_istore2 dX5_fits_5 rfl ?_
    refine jv_iload2 dX5_fits_6 ?_
    refine jv_if_eq dX5_fits_7 (tgt := 12) (by decide) (fun h14 => absurd h14 (by decide)) (fun h14 => ?_)
    refine jv_iload2 dX5_fits_10 ?_
    exact jv_iret dX5_fits_11 rfl rfl rfl rfl rfl
  · obtain ⟨I2, hT, h2, h3⟩ := om_noMorning h s
    rw [e] at hT h2
    have hT : jv_C 3 mX5_noMorning _ G I J (some (.int (-4))) G I2 J := hT
    rw [e]
    refine ⟨G, I2, J, ?_, h2, h3, ot_gx.rf⟩
    refine jv_enter okX5_fits (L := [.ref 64, .int s, .null, .null, .null]) rfl (Nat.le_of_ble_eq_true rfl) ?_
    refine jv_aload0 dX5_fits_0 ?_
    refine jv_iload1 dX5_fits_1 ?_
    refine jv_v11 dX5_fits_2 okX5_noMorning inX5_noMorning seX5_noMorning mlX5_313 (ci := 5) (T := TX5) (N := 35) rfl (mk h.g) hT (by decide) (Nat.le_of_ble_eq_true rfl) ?_
    refine jv_istore2 dX5_fits_5 rfl ?_
    refine jv_iload2 dX5_fits_6 ?_
    refine jv_if_eq dX5_fits_7 (tgt := 12) (by decide) (fun h14 => absurd h14 (by decide)) (fun h14 => ?_)
    refine jv_iload2 dX5_fits_10 ?_
    exact jv_iret dX5_fits_11 rfl rfl rfl rfl rfl
def ot_rcm (Y Z : ot_Y) (v : Int32) : Nat := if ot_tt Z v (nI (Y 10 0)) = 0 then (if Y 10 1 = 0 then 5 else 0) else ot_tt Z v (nI (Y 10 0))
set_option maxRecDepth 20000 in
theorem pc_miscounted {G : jv_Gr} {I : jv_I} {J : jv_J} {Y Z : ot_Y} {E : ot_E} {K : Option ot_Y} (h : ot_C G I J Y Z E K) (s : Int32) : ot_cc 8 mX4_miscounted [.ref 1, .int s] G I J (ot_ans (ot_rcm Y Z s) (nI (ot_miss Y (E (ot_n s))))) Y (ot_zr Z (ot_rcm Y Z s)) E K := by
  have bn := yw_n h.w
  have bc := yw_c h.w
  have bw := yw_w h.w
  unfold ot_rcm
  rcases ot_tt_cases h.z s (nI (Y 10 0)) with ⟨e, t, x, ht, rfl, h1s, hx, hle⟩ | e | e | e
  · have hT := oc_toldT h (nI t) (nI (Y 10 0))
    rw [e] at hT
    have hT : jv_C 4 mX4_toldTrouble _ G I J (some (.int (nI 0))) G I J := hT
    have hx := ot_nI_inj (by omega) (by have := (h.z.1 t ht).2.1 h1s; omega) hx
    rw [e, ot_n_nI (show t < 2 ^ 30 by omega)]
    have hwr : ∀ k, ot_wrong Y k (J (49 + 2 * t)) = ot_wrong Y k (E t) := fun k => ot_wrong_cong (fun c hc => (h.s.1 t ht).2.2 h1s c (by omega))
    rw [if_pos rfl]
    by_cases hc0 : Y 10 1 = 0
    · rw [if_pos hc0]
      obtain ⟨I2, hC, h2, h3⟩ := oc_refuse5 h
      refine ⟨I2, J, ?_, h2, h3⟩
      refine jv_enter okX4_miscounted (L := [.ref 1, .int (nI t), .null, .null, .null]) rfl (Nat.le_of_ble_eq_true rfl) ?_
      refine jv_aload0 dX4_miscounted_0 ?_
      refine jv_iload1 dX4_miscounted_1 ?_
      refine jv_aload0 dX4_miscounted_2 ?_
      refine jv_getR dX4_miscounted_3 flX4_10 rfl (ck h.g) (cr_now h.g) ?_
      refine jv_getI dX4_miscounted_6 flX4_128 rfl (yk (cg_now h.g)) (yi_children h.r) ?_
      refine jv_v21 dX4_miscounted_9 okX4_toldTrouble inX4_toldTrouble seX4_toldTrouble mlX4_265 (ci := 4) (T := TX4) (N := 8) rfl (ck h.g) hT (by decide) (Nat.le_of_ble_eq_true rfl) ?_
      refine jv_istore2 dX4_miscounted_12 rfl ?_
      refine jv_iload2 dX4_miscounted_13 ?_
      refine jv_if_neN dX4_miscounted_14 (tgt := 30) (by decide) (by omega) (fun hc14 => by omega) (fun hc14 => ?_)
      refine jv_aload0 dX4_miscounted_17 ?_
      refine jv_getR dX4_miscounted_18 flX4_10 rfl (ck h.g) (cr_now h.g) ?_
      refine jv_getI dX4_miscounted_21 flX4_134 rfl (yk (cg_now h.g)) (yi_counts h.r) ?_
      refine jv_if_neN dX4_miscounted_24 (tgt := 30) (by decide) (by omega) (fun hc24 => by omega) (fun hc24 => ?_)
      refine jv_bipush dX4_miscounted_27 jv_c_bipush_m5 ?_
      refine jv_istore2 dX4_miscounted_29 rfl ?_
      refine jv_iload2 dX4_miscounted_30 ?_
      refine jv_if_eq dX4_miscounted_31 (tgt := 40) (by decide) (fun h31 => absurd h31 (by decide)) (fun h31 => ?_)
      refine jv_aload0 dX4_miscounted_34 ?_
      refine jv_iload2 dX4_miscounted_35 ?_
      refine jv_v11 dX4_miscounted_36 okX4_refuse inX4_refuse seX4_refuse mlX4_61 (ci := 4) (T := TX4) (N := 8) rfl (ck h.g) hC (by decide) (Nat.le_of_ble_eq_true rfl) ?_
      exact jv_iret dX4_miscounted_39 rfl rfl rfl rfl rfl
    · rw [if_neg hc0]
      refine ⟨I, J, ?_, h, ot_hi.rf⟩
      refine jv_enter okX4_miscounted (L := [.ref 1, .int (nI t), .null, .null, .null]) rfl (Nat.le_of_ble_eq_true rfl) ?_
      have loop : ∀ (n i : Nat) , Y 10 1 + 1 ≤ i + n → i ≤ Y 10 1 → jv_V 8 mX4_miscounted 51 [.ref 1, .int (nI t), .int (nI 0), .int (nI (ot_min (fun k => ot_wrong Y k (E t)) (Y 10 0) i)), .int (nI i)] [] G I J (some (.int (nI (ot_miss Y (E t))))) G I J := by
        intro n
        induction n with
        | zero => intro i  h1 h2; omega
        | succ n ih =>
          intro i  h1 h2 
          refine jv_iload4 dX4_miscounted_51 ?_
          refine jv_aload0 dX4_miscounted_53 ?_
          refine jv_getR dX4_miscounted_54 flX4_10 rfl (ck h.g) (cr_now h.g) ?_
          refine jv_getI dX4_miscounted_57 flX4_134 rfl (yk (cg_now h.g)) (yi_counts h.r) ?_
          refine jv_icmp_geN dX4_miscounted_60 (tgt := 92) (by decide) (by omega) (by omega) (fun h60 => ?_) (fun h60 => ?_)
          · refine jv_iload3 dX4_miscounted_92 ?_
            exact jv_iret dX4_miscounted_93 rfl rfl (by rw [show i = Y 10 1 by omega]; rfl) rfl rfl
          · have mb := ot_min_le (f := fun k => ot_wrong Y k (E t)) (b := Y 10 0) i
            have hwn := ot_wrong_n Y i (E t)
            refine jv_iload3 dX4_miscounted_63 ?_
            refine jv_aload0 dX4_miscounted_64 ?_
            refine jv_getR dX4_miscounted_65 flX4_10 rfl (ck h.g) (cr_now h.g) ?_
            refine jv_iload4 dX4_miscounted_68 ?_
            refine jv_aload0 dX4_miscounted_70 ?_
            refine jv_getR dX4_miscounted_71 flX4_40 rfl (ck h.g) (cr_shelves h.g) ?_
            refine jv_iload1 dX4_miscounted_74 ?_
            refine jv_aald2N dX4_miscounted_75 (ck_shelves h.g) (by omega) (by decide) (cr_shelf h.g ht) ?_
            refine jv_getR dX4_miscounted_76 flX4_87 rfl (sk h.g ht) (sr_elements h.g ht) ?_
            refine jv_v21 dX4_miscounted_79 okX3_unlikeTold inX3_unlikeTold seX3_unlikeTold mlX4_268 (ci := 3) (T := TX3) (N := 15) rfl (yk (cg_now h.g)) (ot_wrongM (cg_now h.g) h.r h.w (show i < Y 10 1 by omega) (sk_elements h.g ht) (by omega) (by decide)) (by decide) (Nat.le_of_ble_eq_true rfl) ?_
            rw [hwr]
            refine jv_mmin dX4_miscounted_82 mlX4_275 st_min ini_math co_min (Nat.le_of_ble_eq_true rfl) (by decide) ?_
            have qm := ot_minI (f := fun k => ot_wrong Y k (E t)) (b := Y 10 0) (m := Y 10 0) (n := i) (Nat.le_refl _) (fun k => ot_wrong_n Y k (E t)) (by omega)
            rw [qm]
            refine jv_istore3 dX4_miscounted_85 rfl ?_
            refine jv_iinc4N dX4_miscounted_86 rfl ?_
            refine jv_goto dX4_miscounted_89 (tgt := 51) (by decide) ?_
            exact ih (i + 1) (by omega) (by omega)
      refine jv_aload0 dX4_miscounted_0 ?_
      refine jv_iload1 dX4_miscounted_1 ?_
      refine jv_aload0 dX4_miscounted_2 ?_
      refine jv_getR dX4_miscounted_3 flX4_10 rfl (ck h.g) (cr_now h.g) ?_
      refine jv_getI dX4_miscounted_6 flX4_128 rfl (yk (cg_now h.g)) (yi_children h.r) ?_
      refine jv_v21 dX4_miscounted_9 okX4_toldTrouble inX4_toldTrouble seX4_toldTrouble mlX4_265 (ci := 4) (T := TX4) (N := 8) rfl (ck h.g) hT (by decide) (Nat.le_of_ble_eq_true rfl) ?_
      refine jv_istore2 dX4_miscounted_12 rfl ?_
      refine jv_iload2 dX4_miscounted_13 ?_
      refine jv_if_neN dX4_miscounted_14 (tgt := 30) (by decide) (by omega) (fun hc14 => by omega) (fun hc14 => ?_)
      refine jv_aload0 dX4_miscounted_17 ?_
      refine jv_getR dX4_miscounted_18 flX4_10 rfl (ck h.g) (cr_now h.g) ?_
      refine jv_getI dX4_miscounted_21 flX4_134 rfl (yk (cg_now h.g)) (yi_counts h.r) ?_
      refine jv_if_neN dX4_miscounted_24 (tgt := 30) (by decide) (by omega) (fun hc24 => ?_) (fun hc24 => by omega)
      refine jv_iload2 dX4_miscounted_30 ?_
      refine jv_if_eqN dX4_miscounted_31 (tgt := 40) (by decide) (by omega) (fun hc31 => ?_) (fun hc31 => by omega)
      refine jv_aload0 dX4_miscounted_40 ?_
      refine jv_getR dX4_miscounted_41 flX4_10 rfl (ck h.g) (cr_now h.g) ?_
      refine jv_getI dX4_miscounted_44 flX4_128 rfl (yk (cg_now h.g)) (yi_children h.r) ?_
      refine jv_istore3 dX4_miscounted_47 rfl ?_
      refine jv_iconst dX4_miscounted_48 jv_c_iconst_0 ?_
      refine jv_istore4 dX4_miscounted_49 rfl ?_
      exact loop (Y 10 1 + 1) 0 (by omega) (by omega)
  · have hT := oc_toldT h s (nI (Y 10 0))
    rw [e] at hT
    have hT : jv_C 4 mX4_toldTrouble _ G I J (some (.int (-2))) G I J := hT
    rw [e, if_neg (by decide)]
    obtain ⟨I2, hC, h2, h3⟩ := oc_refuse2 h
    refine ⟨I2, J, ?_, h2, h3⟩
    refine jv_enter okX4_miscounted (L := [.ref 1, .int s, .null, .null, .null]) rfl (Nat.le_of_ble_eq_true rfl) ?_
    refine jv_aload0 dX4_miscounted_0 ?_
    refine jv_iload1 dX4_miscounted_1 ?_
    refine jv_aload0 dX4_miscounted_2 ?_
    refine jv_getR dX4_miscounted_3 flX4_10 rfl (ck h.g) (cr_now h.g) ?_
    refine jv_getI dX4_miscounted_6 flX4_128 rfl (yk (cg_now h.g)) (yi_children h.r) ?_
    refine jv_v21 dX4_miscounted_9 okX4_toldTrouble inX4_toldTrouble seX4_toldTrouble mlX4_265 (ci := 4) (T := TX4) (N := 8) rfl (ck h.g) hT (by decide) (Nat.le_of_ble_eq_true rfl) ?_
    refine jv_istore2 dX4_miscounted_12 rfl ?_
    refine jv_iload2 dX4_miscounted_13 ?_
    refine jv_if_ne dX4_miscounted_14 (tgt := 30) (by decide) (fun h14 => ?_) (fun h14 => absurd h14 (by decide))
    refine jv_iload2 dX4_miscounted_30 ?_
    refine jv_if_eq dX4_miscounted_31 (tgt := 40) (by decide) (fun h31 => absurd h31 (by decide)) (fun h31 => ?_)
    refine jv_aload0 dX4_miscounted_34 ?_
    refine jv_iload2 dX4_miscounted_35 ?_
    refine jv_v11 dX4_miscounted_36 okX4_refuse inX4_refuse seX4_refuse mlX4_61 (ci := 4) (T := TX4) (N := 8) rfl (ck h.g) hC (by decide) (Nat.le_of_ble_eq_true rfl) ?_
    exact jv_iret dX4_miscounted_39 rfl rfl rfl rfl rfl
  · have hT := oc_toldT h s (nI (Y 10 0))
    rw [e] at hT
    have hT : jv_C 4 mX4_toldTrouble _ G I J (some (.int (-3))) G I J := hT
    rw [e, if_neg (by decide)]
    obtain ⟨I2, hC, h2, h3⟩ := oc_refuse3 h
    refine ⟨I2, J, ?_, h2, h3⟩
    refine jv_enter okX4_miscounted (L := [.ref 1, .int s, .null, .null, .null]) rfl (Nat.le_of_ble_eq_true rfl) ?_
    refine jv_aload0 dX4_miscounted_0 ?_
    refine jv_iload1 dX4_miscounted_1 ?_
    refine jv_aload0 dX4_miscounted_2 ?_
    refine jv_getR dX4_miscounted_3 flX4_10 rfl (ck h.g) (cr_now h.g) ?_
    refine jv_getI dX4_miscounted_6 flX4_128 rfl (yk (cg_now h.g)) (yi_children h.r) ?_
    refine jv_v21 dX4_miscounted_9 okX4_toldTrouble inX4_toldTrouble seX4_toldTrouble mlX4_265 (ci := 4) (T := TX4) (N := 8) rfl (ck h.g) hT (by decide) (Nat.le_of_ble_eq_true rfl) ?_
    refine jv_istore2 dX4_miscounted_12 rfl ?_
    refine jv_iload2 dX4_miscounted_13 ?_
    refine jv_if_ne dX4_miscounted_14 (tgt := 30) (by decide) (fun h14 => ?_) (fun h14 => absurd h14 (by decide))
    refine jv_iload2 dX4_miscounted_30 ?_
    refine jv_if_eq dX4_miscounted_31 (tgt := 40) (by decide) (fun h31 => absurd h31 (by decide)) (fun h31 => ?_)
    refine jv_aload0 dX4_miscounted_34 ?_
    refine jv_iload2 dX4_miscounted_35 ?_
    refine jv_v11 dX4_miscounted_36 okX4_refuse inX4_refuse seX4_refuse mlX4_61 (ci := 4) (T := TX4) (N := 8) rfl (ck h.g) hC (by decide) (Nat.le_of_ble_eq_true rfl) ?_
    exact jv_iret dX4_miscounted_39 rfl rfl rfl rfl rfl
  · have hT := oc_toldT h s (nI (Y 10 0))
    rw [e] at hT
    have hT : jv_C 4 mX4_toldTrouble _ G I J (some (.int (-4))) G I J := hT
    rw [e, if_neg (by decide)]
    obtain ⟨I2, hC, h2, h3⟩ := oc_refuse4 h
    refine ⟨I2, J, ?_, h2, h3⟩
    refine jv_enter okX4_miscounted (L := [.ref 1, .int s, .null, .null, .null]) rfl (Nat.le_of_ble_eq_true rfl) ?_
    refine jv_aload0 dX4_miscounted_0 ?_
    refine jv_iload1 dX4_miscounted_1 ?_
    refine jv_aload0 dX4_miscounted_2 ?_
    refine jv_getR dX4_miscounted_3 flX4_10 rfl (ck h.g) (cr_now h.g) ?_
    refine jv_getI dX4_miscounted_6 flX4_128 rfl (yk (cg_now h.g)) (yi_children h.r) ?_
    refine jv_v21 dX4_miscounted_9 okX4_toldTrouble inX4_toldTrouble seX4_toldTrouble mlX4_265 (ci := 4) (T := TX4) (N := 8) rfl (ck h.g) hT (by decide) (Nat.le_of_ble_eq_true rfl) ?_
    refine jv_istore2 dX4_miscounted_12 rfl ?_
    refine jv_iload2 dX4_miscounted_13 ?_
    refine jv_if_ne dX4_miscounted_14 (tgt := 30) (by decide) (fun h14 => ?_) (fun h14 => absurd h14 (by decide))
    refine jv_iload2 dX4_miscounted_30 ?_
    refine jv_if_eq dX4_miscounted_31 (tgt := 40) (by decide) (fun h31 => absurd h31 (by decide)) (fun h31 => ?_)
    refine jv_aload0 dX4_miscounted_34 ?_
    refine jv_iload2 dX4_miscounted_35 ?_
    refine jv_v11 dX4_miscounted_36 okX4_refuse inX4_refuse seX4_refuse mlX4_61 (ci := 4) (T := TX4) (N := 8) rfl (ck h.g) hC (by decide) (Nat.le_of_ble_eq_true rfl) ?_
    exact jv_iret dX4_miscounted_39 rfl rfl rfl rfl rfl
set_option maxRecDepth 20000 in
theorem pm_miscounted {G : jv_Gr} {I : jv_I} {J : jv_J} {Y Z : ot_Y} {E : ot_E} {K : Option ot_Y} (h : ot_M G I J Y Z E K) (s : Int32) : ot_mm 8 mX5_miscounted [.ref 64, .int s] G I J (ot_ans (ot_rcm Y Z s) (nI (ot_miss Y (E (ot_n s))))) Y (ot_zr Z (ot_rcm Y Z s)) E K := by
  have bn := yw_n h.w
  have bc := yw_c h.w
  have bw := yw_w h.w
  unfold ot_rcm
  rcases ot_tt_cases h.z s (nI (Y 10 0)) with ⟨e, t, x, ht, rfl, h1s, hx, hle⟩ | e | e | e
  · obtain ⟨I2, hT, h2, h3⟩ := om_noMorning h (nI t)
    rw [e] at hT h2
    have hT : jv_C 3 mX5_noMorning _ G I J (some (.int (nI 0))) G I2 J := hT
    have hM2 : ot_M G I2 J Y Z E K := h2
    have hx := ot_nI_inj (by omega) (by have := (h.z.1 t ht).2.1 h1s; omega) hx
    rw [e, ot_n_nI (show t < 2 ^ 30 by omega)]
    have hwr : ∀ k, ot_wrong Y k (J (64 + (5 + t))) = ot_wrong Y k (E t) := fun k => ot_wrong_cong (fun c hc => nr_el h.s ht h1s (by omega))
    rw [if_pos rfl]
    by_cases hc0 : Y 10 1 = 0
    · rw [if_pos hc0]
      obtain ⟨I3, hC, h4, h5⟩ := om_refuse5 h2
      refine ⟨G, I3, J, ?_, h4, h3.tr h5, ot_gx.rf⟩
      refine jv_enter okX5_miscounted (L := [.ref 64, .int (nI t), .null, .null, .null, .null]) rfl (Nat.le_of_ble_eq_true rfl) ?_
      refine jv_aload0 dX5_miscounted_0 ?_
      refine jv_iload1 dX5_miscounted_1 ?_
      refine jv_v11 dX5_miscounted_2 okX5_noMorning inX5_noMorning seX5_noMorning mlX5_313 (ci := 5) (T := TX5) (N := 35) rfl (mk hM2.g) hT (by decide) (Nat.le_of_ble_eq_true rfl) ?_
      refine jv_istore2 dX5_miscounted_5 rfl ?_
      refine jv_iload2 dX5_miscounted_6 ?_
      refine jv_if_eqN dX5_miscounted_7 (tgt := 12) (by decide) (by omega) (fun hc7 => ?_) (fun hc7 => by omega)
      refine jv_aload0 dX5_miscounted_12 ?_
      refine jv_getI dX5_miscounted_13 flX5_91 rfl (mk hM2.g) (mi_counts hM2.r) ?_
      refine jv_if_neN dX5_miscounted_16 (tgt := 26) (by decide) (by omega) (fun hc16 => by omega) (fun hc16 => ?_)
      refine jv_aload0 dX5_miscounted_19 ?_
      refine jv_bipush dX5_miscounted_20 jv_c_bipush_m5 ?_
      refine jv_v11 dX5_miscounted_22 okX5_refuse inX5_refuse seX5_refuse mlX5_104 (ci := 5) (T := TX5) (N := 35) rfl (mk hM2.g) hC (by decide) (Nat.le_of_ble_eq_true rfl) ?_
      exact jv_iret dX5_miscounted_25 rfl rfl rfl rfl rfl
    · rw [if_neg hc0]
      refine ⟨G, I2, J, ?_, h2, h3, ot_gx.rf⟩
      refine jv_enter okX5_miscounted (L := [.ref 64, .int (nI t), .null, .null, .null, .null]) rfl (Nat.le_of_ble_eq_true rfl) ?_
      have loop : ∀ (n i : Nat) (s5 : Value), Y 10 1 + 1 ≤ i + n → i ≤ Y 10 1 → jv_V 8 mX5_miscounted 34 [.ref 64, .int (nI t), .int (nI 0), .int (nI (ot_min (fun k => ot_wrong Y k (E t)) (Y 10 0) i)), .int (nI i), s5] [] G I2 J (some (.int (nI (ot_miss Y (E t))))) G I2 J := by
        intro n
        induction n with
        | zero => intro i s5 h1 h2; omega
        | succ n ih =>
          intro i s5 h1 h2 
          refine jv_iload4 dX5_miscounted_34 ?_
          refine jv_aload0 dX5_miscounted_36 ?_
          refine jv_getI dX5_miscounted_37 flX5_91 rfl (mk hM2.g) (mi_counts hM2.r) ?_
          refine jv_icmp_geN dX5_miscounted_40 (tgt := 76) (by decide) (by omega) (by omega) (fun h60 => ?_) (fun h60 => ?_)
          · refine jv_iload3 dX5_miscounted_76 ?_
            exact jv_iret dX5_miscounted_77 rfl rfl (by rw [show i = Y 10 1 by omega]; rfl) rfl rfl
          · have mb := ot_min_le (f := fun k => ot_wrong Y k (E t)) (b := Y 10 0) i
            have hwn := ot_wrong_n Y i (E t)
            refine jv_aload0 dX5_miscounted_43 ?_
            refine jv_iload4 dX5_miscounted_44 ?_
            refine jv_aload0 dX5_miscounted_46 ?_
            refine jv_getR dX5_miscounted_47 flX5_21 rfl (mk hM2.g) (mr_rows hM2.g) ?_
            refine jv_iload1 dX5_miscounted_50 ?_
            refine jv_aald3N dX5_miscounted_51 (mk_rows hM2.g) (by omega) (by decide) (mr_row hM2.g ht) ?_
            refine jv_v21 dX5_miscounted_52 okX5_wrongTeams inX5_wrongTeams seX5_wrongTeams mlX5_316 (ci := 5) (T := TX5) (N := 35) rfl (mk hM2.g) (om_wrongTeams hM2.g hM2.r hM2.w (show i < Y 10 1 by omega) (mk_row hM2.g ht) (by omega) (by decide)) (by decide) (Nat.le_of_ble_eq_true rfl) ?_
            rw [hwr]
            refine jv_istore5 dX5_miscounted_55 rfl ?_
            refine jv_iload5 dX5_miscounted_57 ?_
            refine jv_iload3 dX5_miscounted_59 ?_
            refine jv_icmp_geN dX5_miscounted_60 (tgt := 68) (by decide) (by omega) (by omega) (fun h82 => ?_) (fun h82 => ?_)
            · refine jv_iload3 dX5_miscounted_68 ?_
              refine jv_istore3 dX5_miscounted_69 rfl ?_
              refine jv_iinc4N dX5_miscounted_70 rfl ?_
              refine jv_goto dX5_miscounted_73 (tgt := 34) (by decide) ?_
              have q := ih (i + 1) (.int (nI (ot_wrong Y i (E t)))) (by omega) (by omega)
              rw [ot_min, if_neg (show ¬ ot_wrong Y i (E t) < (ot_min (fun k => ot_wrong Y k (E t)) (Y 10 0) i) by omega)] at q
              exact q
            · refine jv_iload5 dX5_miscounted_63 ?_
              refine jv_goto dX5_miscounted_65 (tgt := 69) (by decide) ?_
              refine jv_istore3 dX5_miscounted_69 rfl ?_
              refine jv_iinc4N dX5_miscounted_70 rfl ?_
              refine jv_goto dX5_miscounted_73 (tgt := 34) (by decide) ?_
              have q := ih (i + 1) (.int (nI (ot_wrong Y i (E t)))) (by omega) (by omega)
              rw [ot_min, if_pos (show ot_wrong Y i (E t) < (ot_min (fun k => ot_wrong Y k (E t)) (Y 10 0) i) by omega)] at q
              exact q
      refine jv_aload0 dX5_miscounted_0 ?_
      refine jv_iload1 dX5_miscounted_1 ?_
      refine jv_v11 dX5_miscounted_2 okX5_noMorning inX5_noMorning seX5_noMorning mlX5_313 (ci := 5) (T := TX5) (N := 35) rfl (mk hM2.g) hT (by decide) (Nat.le_of_ble_eq_true rfl) ?_
      refine jv_istore2 dX5_miscounted_5 rfl ?_
      refine jv_iload2 dX5_miscounted_6 ?_
      refine jv_if_eqN dX5_miscounted_7 (tgt := 12) (by decide) (by omega) (fun hc7 => ?_) (fun hc7 => by omega)
      refine jv_aload0 dX5_miscounted_12 ?_
      refine jv_getI dX5_miscounted_13 flX5_91 rfl (mk hM2.g) (mi_counts hM2.r) ?_
      refine jv_if_neN dX5_miscounted_16 (tgt := 26) (by decide) (by omega) (fun hc16 => ?_) (fun hc16 => by omega)
      refine jv_aload0 dX5_miscounted_26 ?_
      refine jv_getI dX5_miscounted_27 flX5_80 rfl (mk hM2.g) (mi_children hM2.r) ?_
      refine jv_istore3 dX5_miscounted_30 rfl ?_
      refine jv_iconst dX5_miscounted_31 jv_c_iconst_0 ?_
      refine jv_istore4 dX5_miscounted_32 rfl ?_
      exact loop (Y 10 1 + 1) 0 _ (by omega) (by omega)
  · obtain ⟨I2, hT, h2, h3⟩ := om_noMorning h s
    rw [e] at hT h2
    have hT : jv_C 3 mX5_noMorning _ G I J (some (.int (-2))) G I2 J := hT
    rw [e, if_neg (by decide)]
    refine ⟨G, I2, J, ?_, h2, h3, ot_gx.rf⟩
    refine jv_enter okX5_miscounted (L := [.ref 64, .int s, .null, .null, .null, .null]) rfl (Nat.le_of_ble_eq_true rfl) ?_
    refine jv_aload0 dX5_miscounted_0 ?_
    refine jv_iload1 dX5_miscounted_1 ?_
    refine jv_v11 dX5_miscounted_2 okX5_noMorning inX5_noMorning seX5_noMorning mlX5_313 (ci := 5) (T := TX5) (N := 35) rfl (mk h.g) hT (by decide) (Nat.le_of_ble_eq_true rfl) ?_
    refine jv_istore2 dX5_miscounted_5 rfl ?_
    refine jv_iload2 dX5_miscounted_6 ?_
    refine jv_if_eq dX5_miscounted_7 (tgt := 12) (by decide) (fun h14 => absurd h14 (by decide)) (fun h14 => ?_)
    refine jv_iload2 dX5_miscounted_10 ?_
    exact jv_iret dX5_miscounted_11 rfl rfl rfl rfl rfl
  · obtain ⟨I2, hT, h2, h3⟩ := om_noMorning h s
    rw [e] at hT h2
    have hT : jv_C 3 mX5_noMorning _ G I J (some (.int (-3))) G I2 J := hT
    rw [e, if_neg (by decide)]
    refine ⟨G, I2, J, ?_, h2, h3, ot_gx.rf⟩
    refine jv_enter okX5_miscounted (L := [.ref 64, .int s, .null, .null, .null, .null]) rfl (Nat.le_of_ble_eq_true rfl) ?_
    refine jv_aload0 dX5_miscounted_0 ?_
    refine jv_iload1 dX5_miscounted_1 ?_
    refine jv_v11 dX5_miscounted_2 okX5_noMorning inX5_noMorning seX5_noMorning mlX5_313 (ci := 5) (T := TX5) (N := 35) rfl (mk h.g) hT (by decide) (Nat.le_of_ble_eq_true rfl) ?_
    refine jv_istore2 dX5_miscounted_5 rfl ?_
    refine jv_iload2 dX5_miscounted_6 ?_
    refine jv_if_eq dX5_miscounted_7 (tgt := 12) (by decide) (fun h14 => absurd h14 (by decide)) (fun h14 => ?_)
    refine jv_iload2 dX5_miscounted_10 ?_
    exact jv_iret dX5_miscounted_11 rfl rfl rfl rfl rfl
  · obtain ⟨I2, hT, h2, h3⟩ := om_noMorning h s
    rw [e] at hT h2
    have hT : jv_C 3 mX5_noMorning _ G I J (some (.int (-4))) G I2 J := hT
    rw [e, if_neg (by decide)]
    refine ⟨G, I2, J, ?_, h2, h3, ot_gx.rf⟩
    refine jv_enter okX5_miscounted (L := [.ref 64, .int s, .null, .null, .null, .null]) rfl (Nat.le_of_ble_eq_true rfl) ?_
    refine jv_aload0 dX5_miscounted_0 ?_
    refine jv_iload1 dX5_miscounted_1 ?_
    refine jv_v11 dX5_miscounted_2 okX5_noMorning inX5_noMorning seX5_noMorning mlX5_313 (ci := 5) (T := TX5) (N := 35) rfl (mk h.g) hT (by decide) (Nat.le_of_ble_eq_true rfl) ?_
    refine jv_istore2 dX5_miscounted_5 rfl ?_
    refine jv_iload2 dX5_miscounted_6 ?_
    refine jv_if_eq dX5_miscounted_7 (tgt := 12) (by decide) (fun h14 => absurd h14 (by decide)) (fun h14 => ?_)
    refine jv_iload2 dX5_miscounted_10 ?_
    exact jv_iret dX5_miscounted_11 rfl rfl rfl rfl rfl
