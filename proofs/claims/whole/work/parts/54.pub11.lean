/-! ===== the face: group 11 (element, says) ===== -/
def ot_elem (Z : ot_Y) (E : ot_E) (v i : Int32) : Int64 := if ot_rt Z v = 0 then (if 0 ≤ i.toInt ∧ i.toInt < Z 2 (ot_n v) then E (ot_n v) (ot_n i) else lN 0) else lN 0
set_option maxRecDepth 20000 in
theorem pc_element {G : jv_Gr} {I : jv_I} {J : jv_J} {Y Z : ot_Y} {E : ot_E} {K : Option ot_Y} (h : ot_C G I J Y Z E K) (s i : Int32) : jv_C 8 mX4_element [.ref 1, .int s, .int i] G I J (some (.long (ot_elem Z E s i))) G I J := by
  have bn := yw_n h.w
  have bc := yw_c h.w
  have bw := yw_w h.w
  rcases ot_rt_cases h.z s with ⟨e, t, ht, rfl, h1s⟩ | ⟨e, hn⟩ | ⟨e, t, ht, rfl, h2s⟩ | ⟨e, t, ht, rfl, h0s⟩
  · have hz := (h.z.1 t ht).2.1 h1s
    have hT := oc_rowT h (nI t)
    rw [e] at hT
    have hT : jv_C 3 mX4_rowTrouble _ G I J (some (.int (nI 0))) G I J := hT
    unfold ot_elem
    rw [e]
    rw [if_pos rfl, ot_n_nI (show t < 2 ^ 30 by omega)]
    by_cases hi : 0 ≤ i.toInt ∧ i.toInt < Z 2 t
    · obtain ⟨x, hx, rfl⟩ := ot_of hi (by omega)
      rw [if_pos hi, ot_n_nI (show x < 2 ^ 30 by omega)]
      refine jv_enter okX4_element (L := [.ref 1, .int (nI t), .int (nI x)]) rfl (Nat.le_of_ble_eq_true rfl) ?_
      refine jv_aload0 dX4_element_0 ?_
      refine jv_iload1 dX4_element_1 ?_
      refine jv_v11 dX4_element_2 okX4_rowTrouble inX4_rowTrouble seX4_rowTrouble mlX4_69 (ci := 4) (T := TX4) (N := 8) rfl (ck h.g) hT (by decide) (Nat.le_of_ble_eq_true rfl) ?_
      refine jv_if_neN dX4_element_5 (tgt := 21) (by decide) (by omega) (fun hc5 => by omega) (fun hc5 => ?_)
      refine jv_aload0 dX4_element_8 ?_
      refine jv_getR dX4_element_9 flX4_40 rfl (ck h.g) (cr_shelves h.g) ?_
      refine jv_iload1 dX4_element_12 ?_
      refine jv_aald2N dX4_element_13 (ck_shelves h.g) (by omega) (by decide) (cr_shelf h.g ht) ?_
      refine jv_iload2 dX4_element_14 ?_
      refine jv_v11 dX4_element_15 okX1_hasElement inX1_hasElement seX1_hasElement mlX4_72 (ci := 1) (T := TX1) (N := 3) rfl (sk h.g ht) (oc_hasElement h ht _) (by decide) (Nat.le_of_ble_eq_true rfl) ?_
      refine jv_if_neB dX4_element_18 (tgt := 23) (by decide) (fun h18 => ?_) (fun h18 => absurd (by rw [ot_slen_1 h1s]; exact hi) h18)
      refine jv_aload0 dX4_element_23 ?_
      refine jv_getR dX4_element_24 flX4_40 rfl (ck h.g) (cr_shelves h.g) ?_
      refine jv_iload1 dX4_element_27 ?_
      refine jv_aald2N dX4_element_28 (ck_shelves h.g) (by omega) (by decide) (cr_shelf h.g ht) ?_
      refine jv_getR dX4_element_29 flX4_87 rfl (sk h.g ht) (sr_elements h.g ht) ?_
      refine jv_iload2 dX4_element_32 ?_
      refine jv_laldN dX4_element_33 (sk_elements h.g ht) (by omega) (by decide) ((h.s.1 t ht).2.2 h1s x (by omega)) ?_
      exact jv_lret dX4_element_34 rfl rfl rfl rfl
    · rw [if_neg hi]
      refine jv_enter okX4_element (L := [.ref 1, .int (nI t), .int i]) rfl (Nat.le_of_ble_eq_true rfl) ?_
      refine jv_aload0 dX4_element_0 ?_
      refine jv_iload1 dX4_element_1 ?_
      refine jv_v11 dX4_element_2 okX4_rowTrouble inX4_rowTrouble seX4_rowTrouble mlX4_69 (ci := 4) (T := TX4) (N := 8) rfl (ck h.g) hT (by decide) (Nat.le_of_ble_eq_true rfl) ?_
      refine jv_if_neN dX4_element_5 (tgt := 21) (by decide) (by omega) (fun hc5 => by omega) (fun hc5 => ?_)
      refine jv_aload0 dX4_element_8 ?_
      refine jv_getR dX4_element_9 flX4_40 rfl (ck h.g) (cr_shelves h.g) ?_
      refine jv_iload1 dX4_element_12 ?_
      refine jv_aald2N dX4_element_13 (ck_shelves h.g) (by omega) (by decide) (cr_shelf h.g ht) ?_
      refine jv_iload2 dX4_element_14 ?_
      refine jv_v11 dX4_element_15 okX1_hasElement inX1_hasElement seX1_hasElement mlX4_72 (ci := 1) (T := TX1) (N := 3) rfl (sk h.g ht) (oc_hasElement h ht _) (by decide) (Nat.le_of_ble_eq_true rfl) ?_
      refine jv_if_neB dX4_element_18 (tgt := 23) (by decide) (fun h18 => absurd (by rw [ot_slen_1 h1s] at h18; exact h18) hi) (fun h18 => ?_)
      refine jv_lconst dX4_element_21 (v := lN 0) rfl ?_
      exact jv_lret dX4_element_22 rfl rfl rfl rfl
  · have hT := oc_rowT h s
    rw [e] at hT
    have hT : jv_C 3 mX4_rowTrouble _ G I J (some (.int (-2))) G I J := hT
    unfold ot_elem
    rw [e]
    refine jv_enter okX4_element (L := [.ref 1, .int s, .int i]) rfl (Nat.le_of_ble_eq_true rfl) ?_
    refine jv_aload0 dX4_element_0 ?_
    refine jv_iload1 dX4_element_1 ?_
    refine jv_v11 dX4_element_2 okX4_rowTrouble inX4_rowTrouble seX4_rowTrouble mlX4_69 (ci := 4) (T := TX4) (N := 8) rfl (ck h.g) hT (by decide) (Nat.le_of_ble_eq_true rfl) ?_
    refine jv_if_ne dX4_element_5 (tgt := 21) (by decide) (fun h5 => ?_) (fun h5 => absurd h5 (by decide))
    refine jv_lconst dX4_element_21 (v := lN 0) rfl ?_
    exact jv_lret dX4_element_22 rfl rfl rfl rfl
  · have hT := oc_rowT h (nI t)
    rw [e] at hT
    have hT : jv_C 3 mX4_rowTrouble _ G I J (some (.int (-3))) G I J := hT
    unfold ot_elem
    rw [e]
    refine jv_enter okX4_element (L := [.ref 1, .int (nI t), .int i]) rfl (Nat.le_of_ble_eq_true rfl) ?_
    refine jv_aload0 dX4_element_0 ?_
    refine jv_iload1 dX4_element_1 ?_
    refine jv_v11 dX4_element_2 okX4_rowTrouble inX4_rowTrouble seX4_rowTrouble mlX4_69 (ci := 4) (T := TX4) (N := 8) rfl (ck h.g) hT (by decide) (Nat.le_of_ble_eq_true rfl) ?_
    refine jv_if_ne dX4_element_5 (tgt := 21) (by decide) (fun h5 => ?_) (fun h5 => absurd h5 (by decide))
    refine jv_lconst dX4_element_21 (v := lN 0) rfl ?_
    exact jv_lret dX4_element_22 rfl rfl rfl rfl
  · have hT := oc_rowT h (nI t)
    rw [e] at hT
    have hT : jv_C 3 mX4_rowTrouble _ G I J (some (.int (-4))) G I J := hT
    unfold ot_elem
    rw [e]
    refine jv_enter okX4_element (L := [.ref 1, .int (nI t), .int i]) rfl (Nat.le_of_ble_eq_true rfl) ?_
    refine jv_aload0 dX4_element_0 ?_
    refine jv_iload1 dX4_element_1 ?_
    refine jv_v11 dX4_element_2 okX4_rowTrouble inX4_rowTrouble seX4_rowTrouble mlX4_69 (ci := 4) (T := TX4) (N := 8) rfl (ck h.g) hT (by decide) (Nat.le_of_ble_eq_true rfl) ?_
    refine jv_if_ne dX4_element_5 (tgt := 21) (by decide) (fun h5 => ?_) (fun h5 => absurd h5 (by decide))
    refine jv_lconst dX4_element_21 (v := lN 0) rfl ?_
    exact jv_lret dX4_element_22 rfl rfl rfl rfl
set_option maxRecDepth 20000 in
theorem pm_element {G : jv_Gr} {I : jv_I} {J : jv_J} {Y Z : ot_Y} {E : ot_E} {K : Option ot_Y} (h : ot_M G I J Y Z E K) (s i : Int32) : jv_C 8 mX5_element [.ref 64, .int s, .int i] G I J (some (.long (ot_elem Z E s i))) G I J := by
  have bn := yw_n h.w
  have bc := yw_c h.w
  have bw := yw_w h.w
  rcases ot_rt_cases h.z s with ⟨e, t, ht, rfl, h1s⟩ | ⟨e, hn⟩ | ⟨e, t, ht, rfl, h2s⟩ | ⟨e, t, ht, rfl, h0s⟩
  · have hz := (h.z.1 t ht).2.1 h1s
    unfold ot_elem
    rw [e]
    rw [if_pos rfl, ot_n_nI (show t < 2 ^ 30 by omega)]
    by_cases hi : 0 ≤ i.toInt ∧ i.toInt < Z 2 t
    · obtain ⟨x, hx, rfl⟩ := ot_of hi (by omega)
      rw [if_pos hi, ot_n_nI (show x < 2 ^ 30 by omega)]
      refine jv_enter okX5_element (L := [.ref 64, .int (nI t), .int (nI x)]) rfl (Nat.le_of_ble_eq_true rfl) ?_
      refine jv_iload1 dX5_element_0 ?_
      refine jv_i2l dX5_element_1 rfl ?_
      refine jv_lconst dX5_element_2 (v := lN 0) rfl ?_
      refine jv_ldc2 dX5_element_3 cnX5_98 ?_
      refine jv_s31 dX5_element_6 okX5_in stX5_in mlX5_83 (om_inC _ (a := 0) (b := 7) (by decide) (by decide)) (by decide) (Nat.le_of_ble_eq_true rfl) ?_
      refine jv_if_eqB dX5_element_9 (tgt := 51) (by decide) (fun hq9 => absurd (ot_7 ht) hq9) (fun hq9 => ?_)
      refine jv_aload0 dX5_element_12 ?_
      refine jv_getR dX5_element_13 flX5_7 rfl (mk h.g) (mr_shelf h.g) ?_
      refine jv_iload1 dX5_element_16 ?_
      refine jv_ialdN dX5_element_17 (mk_shelf h.g) (by omega) (by decide) ((nr_tag h.s ht).trans (by rw [h1s])) ?_
      refine jv_iconst dX5_element_18 jv_c_iconst_1 ?_
      refine jv_icmp_neN dX5_element_19 (tgt := 51) (by decide) (by omega) (by omega) (fun hc19 => by omega) (fun hc19 => ?_)
      refine jv_iload2 dX5_element_22 ?_
      refine jv_i2l dX5_element_23 rfl ?_
      refine jv_lconst dX5_element_24 (v := lN 0) rfl ?_
      refine jv_aload0 dX5_element_25 ?_
      refine jv_getR dX5_element_26 flX5_16 rfl (mk h.g) (mr_rowSize h.g) ?_
      refine jv_iload1 dX5_element_29 ?_
      refine jv_ialdN dX5_element_30 (mk_rowSize h.g) (by omega) (by decide) (nr_size h.s ht h1s) ?_
      refine jv_iconst dX5_element_31 jv_c_iconst_1 ?_
      refine jv_isub dX5_element_32 ?_
      refine jv_i2l dX5_element_33 rfl ?_
      refine jv_s31 dX5_element_34 okX5_in stX5_in mlX5_83 (om_inN _ (show Z 2 t < 2 ^ 30 by omega)) (by decide) (Nat.le_of_ble_eq_true rfl) ?_
      refine jv_if_eqB dX5_element_37 (tgt := 51) (by decide) (fun h37 => absurd hi h37) (fun h37 => ?_)
      refine jv_aload0 dX5_element_40 ?_
      refine jv_getR dX5_element_41 flX5_21 rfl (mk h.g) (mr_rows h.g) ?_
      refine jv_iload1 dX5_element_44 ?_
      refine jv_aald3N dX5_element_45 (mk_rows h.g) (by omega) (by decide) (mr_row h.g ht) ?_
      refine jv_iload2 dX5_element_46 ?_
      refine jv_laldN dX5_element_47 (mk_row h.g ht) (by omega) (by decide) (nr_el h.s ht h1s (by omega)) ?_
      refine jv_goto dX5_element_48 (tgt := 52) (by decide) ?_
      exact jv_lret dX5_element_52 rfl rfl rfl rfl
    · rw [if_neg hi]
      refine jv_enter okX5_element (L := [.ref 64, .int (nI t), .int i]) rfl (Nat.le_of_ble_eq_true rfl) ?_
      refine jv_iload1 dX5_element_0 ?_
      refine jv_i2l dX5_element_1 rfl ?_
      refine jv_lconst dX5_element_2 (v := lN 0) rfl ?_
      refine jv_ldc2 dX5_element_3 cnX5_98 ?_
      refine jv_s31 dX5_element_6 okX5_in stX5_in mlX5_83 (om_inC _ (a := 0) (b := 7) (by decide) (by decide)) (by decide) (Nat.le_of_ble_eq_true rfl) ?_
      refine jv_if_eqB dX5_element_9 (tgt := 51) (by decide) (fun hq9 => absurd (ot_7 ht) hq9) (fun hq9 => ?_)
      refine jv_aload0 dX5_element_12 ?_
      refine jv_getR dX5_element_13 flX5_7 rfl (mk h.g) (mr_shelf h.g) ?_
      refine jv_iload1 dX5_element_16 ?_
      refine jv_ialdN dX5_element_17 (mk_shelf h.g) (by omega) (by decide) ((nr_tag h.s ht).trans (by rw [h1s])) ?_
      refine jv_iconst dX5_element_18 jv_c_iconst_1 ?_
      refine jv_icmp_neN dX5_element_19 (tgt := 51) (by decide) (by omega) (by omega) (fun hc19 => by omega) (fun hc19 => ?_)
      refine jv_iload2 dX5_element_22 ?_
      refine jv_i2l dX5_element_23 rfl ?_
      refine jv_lconst dX5_element_24 (v := lN 0) rfl ?_
      refine jv_aload0 dX5_element_25 ?_
      refine jv_getR dX5_element_26 flX5_16 rfl (mk h.g) (mr_rowSize h.g) ?_
      refine jv_iload1 dX5_element_29 ?_
      refine jv_ialdN dX5_element_30 (mk_rowSize h.g) (by omega) (by decide) (nr_size h.s ht h1s) ?_
      refine jv_iconst dX5_element_31 jv_c_iconst_1 ?_
      refine jv_isub dX5_element_32 ?_
      refine jv_i2l dX5_element_33 rfl ?_
      refine jv_s31 dX5_element_34 okX5_in stX5_in mlX5_83 (om_inN _ (show Z 2 t < 2 ^ 30 by omega)) (by decide) (Nat.le_of_ble_eq_true rfl) ?_
      refine jv_if_eqB dX5_element_37 (tgt := 51) (by decide) (fun h37 => ?_) (fun h37 => absurd h37 hi)
      refine jv_lconst dX5_element_51 (v := lN 0) rfl ?_
      exact jv_lret dX5_element_52 rfl rfl rfl rfl
  · unfold ot_elem
    rw [e]
    refine jv_enter okX5_element (L := [.ref 64, .int s, .int i]) rfl (Nat.le_of_ble_eq_true rfl) ?_
    refine jv_iload1 dX5_element_0 ?_
    refine jv_i2l dX5_element_1 rfl ?_
    refine jv_lconst dX5_element_2 (v := lN 0) rfl ?_
    refine jv_ldc2 dX5_element_3 cnX5_98 ?_
    refine jv_s31 dX5_element_6 okX5_in stX5_in mlX5_83 (om_inC _ (a := 0) (b := 7) (by decide) (by decide)) (by decide) (Nat.le_of_ble_eq_true rfl) ?_
    refine jv_if_eqB dX5_element_9 (tgt := 51) (by decide) (fun hq9 => ?_) (fun hq9 => absurd ⟨hq9.1, by omega⟩ hn)
    refine jv_lconst dX5_element_51 (v := lN 0) rfl ?_
    exact jv_lret dX5_element_52 rfl rfl rfl rfl
  · unfold ot_elem
    rw [e]
    refine jv_enter okX5_element (L := [.ref 64, .int (nI t), .int i]) rfl (Nat.le_of_ble_eq_true rfl) ?_
    refine jv_iload1 dX5_element_0 ?_
    refine jv_i2l dX5_element_1 rfl ?_
    refine jv_lconst dX5_element_2 (v := lN 0) rfl ?_
    refine jv_ldc2 dX5_element_3 cnX5_98 ?_
    refine jv_s31 dX5_element_6 okX5_in stX5_in mlX5_83 (om_inC _ (a := 0) (b := 7) (by decide) (by decide)) (by decide) (Nat.le_of_ble_eq_true rfl) ?_
    refine jv_if_eqB dX5_element_9 (tgt := 51) (by decide) (fun hq9 => absurd (ot_7 ht) hq9) (fun hq9 => ?_)
    refine jv_aload0 dX5_element_12 ?_
    refine jv_getR dX5_element_13 flX5_7 rfl (mk h.g) (mr_shelf h.g) ?_
    refine jv_iload1 dX5_element_16 ?_
    refine jv_ialdN dX5_element_17 (mk_shelf h.g) (by omega) (by decide) ((nr_tag h.s ht).trans (by rw [h2s])) ?_
    refine jv_iconst dX5_element_18 jv_c_iconst_1 ?_
    refine jv_icmp_neN dX5_element_19 (tgt := 51) (by decide) (by omega) (by omega) (fun hc19 => ?_) (fun hc19 => by omega)
    refine jv_lconst dX5_element_51 (v := lN 0) rfl ?_
    exact jv_lret dX5_element_52 rfl rfl rfl rfl
  · unfold ot_elem
    rw [e]
    refine jv_enter okX5_element (L := [.ref 64, .int (nI t), .int i]) rfl (Nat.le_of_ble_eq_true rfl) ?_
    refine jv_iload1 dX5_element_0 ?_
    refine jv_i2l dX5_element_1 rfl ?_
    refine jv_lconst dX5_element_2 (v := lN 0) rfl ?_
    refine jv_ldc2 dX5_element_3 cnX5_98 ?_
    refine jv_s31 dX5_element_6 okX5_in stX5_in mlX5_83 (om_inC _ (a := 0) (b := 7) (by decide) (by decide)) (by decide) (Nat.le_of_ble_eq_true rfl) ?_
    refine jv_if_eqB dX5_element_9 (tgt := 51) (by decide) (fun hq9 => absurd (ot_7 ht) hq9) (fun hq9 => ?_)
    refine jv_aload0 dX5_element_12 ?_
    refine jv_getR dX5_element_13 flX5_7 rfl (mk h.g) (mr_shelf h.g) ?_
    refine jv_iload1 dX5_element_16 ?_
    refine jv_ialdN dX5_element_17 (mk_shelf h.g) (by omega) (by decide) ((nr_tag h.s ht).trans (by rw [h0s])) ?_
    refine jv_iconst dX5_element_18 jv_c_iconst_1 ?_
    refine jv_icmp_neN dX5_element_19 (tgt := 51) (by decide) (by omega) (by omega) (fun hc19 => ?_) (fun hc19 => by omega)
    refine jv_lconst dX5_element_51 (v := lN 0) rfl ?_
    exact jv_lret dX5_element_52 rfl rfl rfl rfl
def ot_under (kd w : Nat) : Prop := w = 0 ∨ kd = w ∨ (w = 1 ∧ kd = 4) ∨ (w = 3 ∧ kd = 5)
def ot_underB (kd w : Nat) : Bool := decide (w = 0 ∨ kd = w ∨ (w = 1 ∧ kd = 4) ∨ (w = 3 ∧ kd = 5))
theorem ot_underB_iff {kd w : Nat} : ot_underB kd w = true ↔ (w = 0 ∨ kd = w ∨ (w = 1 ∧ kd = 4) ∨ (w = 3 ∧ kd = 5)) := by unfold ot_underB; exact decide_eq_true_iff
theorem ot_under_at {kd w : Nat} (hk : kd ≤ 5) (hw : w ≤ 5) (h0 : w ≠ 0) (h1 : kd ≠ w) : jv_under kd = nI w ↔ ((w = 1 ∧ kd = 4) ∨ (w = 3 ∧ kd = 5)) := by
  rcases (show kd = 0 ∨ kd = 1 ∨ kd = 2 ∨ kd = 3 ∨ kd = 4 ∨ kd = 5 by omega) with rfl | rfl | rfl | rfl | rfl | rfl <;> rcases (show w = 1 ∨ w = 2 ∨ w = 3 ∨ w = 4 ∨ w = 5 by omega) with rfl | rfl | rfl | rfl | rfl <;> first | omega | decide
def ot_say (Y : ot_Y) (k w : Nat) : Int32 := if w = 0 then nI (Y 4 k) else if w = 1 then (if Y 10 0 = 0 then -1 else nI (ot_side Y k 0)) else if w = 2 then nI ((Y 10 0 + 1) / 2) else if w = 4 then (if Y 10 0 = 0 then -1 else nI (ot_side Y k (Y 10 0 - 1))) else jv_b (1 ≤ Y 5 k ∧ Y 5 k < Y 10 0)
def ot_rcy (Y Z : ot_Y) (s w : Int32) : Nat := if (0 ≤ s.toInt ∧ s.toInt < 8) ∧ (0 ≤ w.toInt ∧ w.toInt ≤ 5) then (if Z 0 (ot_n s) = 1 then 3 else if Z 0 (ot_n s) = 0 then 4 else if ot_underB (Y 3 (Z 3 (ot_n s))) (ot_n w) = true then 0 else 3) else 2
theorem ot_lt1 {n : Nat} (h : n < 2 ^ 30) : (nI n - nI 1 : Int32).toInt = (n : Int) - 1 := by rw [pk_sub_toInt h (by decide)]; rfl
set_option maxRecDepth 20000 in
theorem oc_isOfKind {G : jv_Gr} {I : jv_I} {J : jv_J} {kd u : Nat} (hk : kd ≤ 5) (hw : u ≤ 5) : jv_C 1 mX4_isOfKind [.int (nI kd), .int (nI u)] G I J (some (.int (jv_b (ot_underB kd u = true)))) G I J := by
  refine jv_enter okX4_isOfKind (L := [.int (nI kd), .int (nI u)]) rfl (Nat.le_of_ble_eq_true rfl) ?_
  refine jv_iload1 dX4_isOfKind_0 ?_
  refine jv_if_eqN dX4_isOfKind_1 (tgt := 18) (by decide) (by omega) (fun h1 => ?_) (fun h1 => ?_)
  · refine jv_iconst dX4_isOfKind_18 jv_c_iconst_1 ?_
    refine jv_goto dX4_isOfKind_19 (tgt := 23) (by decide) ?_
    exact jv_iret dX4_isOfKind_23 rfl (by decide) (ot_b1 (ot_underB_iff.mpr (.inl h1))) rfl rfl
  · refine jv_iload0 dX4_isOfKind_4 ?_
    refine jv_iload1 dX4_isOfKind_5 ?_
    refine jv_icmp_eqN dX4_isOfKind_6 (tgt := 18) (by decide) (by omega) (by omega) (fun h6 => ?_) (fun h6 => ?_)
    · refine jv_iconst dX4_isOfKind_18 jv_c_iconst_1 ?_
      refine jv_goto dX4_isOfKind_19 (tgt := 23) (by decide) ?_
      exact jv_iret dX4_isOfKind_23 rfl (by decide) (ot_b1 (ot_underB_iff.mpr (.inr (.inl h6)))) rfl rfl
    · refine jv_under_get dX4_isOfKind_9 flwX4_313 ?_
      refine jv_iload0 dX4_isOfKind_12 ?_
      refine jv_under_at dX4_isOfKind_13 (show kd < 6 by omega) ?_
      refine jv_iload1 dX4_isOfKind_14 ?_
      refine jv_icmp_ne dX4_isOfKind_15 (tgt := 22) (by decide) (fun h15 => ?_) (fun h15 => ?_)
      · rw [ot_under_at hk hw h1 h6] at h15
        refine jv_iconst dX4_isOfKind_22 jv_c_iconst_0 ?_
        exact jv_iret dX4_isOfKind_23 rfl (by decide) (ot_b0 (fun q => by rw [ot_underB_iff] at q; omega)) rfl rfl
      · rw [ot_under_at hk hw h1 h6] at h15
        refine jv_iconst dX4_isOfKind_18 jv_c_iconst_1 ?_
        refine jv_goto dX4_isOfKind_19 (tgt := 23) (by decide) ?_
        exact jv_iret dX4_isOfKind_23 rfl (by decide) (ot_b1 (ot_underB_iff.mpr (.inr (.inr h15)))) rfl rfl
set_option maxRecDepth 20000 in
theorem om_isUnder {G : jv_Gr} {I : jv_I} {J : jv_J} {kd u : Nat} (hk : kd ≤ 5) (hw : u ≤ 5) : jv_C 1 mX5_isUnder [.int (nI kd), .int (nI u)] G I J (some (.int (jv_b (ot_underB kd u = true)))) G I J := by
  refine jv_enter okX5_isUnder (L := [.int (nI kd), .int (nI u)]) rfl (Nat.le_of_ble_eq_true rfl) ?_
  refine jv_iload1 dX5_isUnder_0 ?_
  refine jv_if_eqN dX5_isUnder_1 (tgt := 29) (by decide) (by omega) (fun hc1 => ?_) (fun hc1 => ?_)
  · refine jv_iconst dX5_isUnder_29 jv_c_iconst_1 ?_
    refine jv_goto dX5_isUnder_30 (tgt := 34) (by decide) ?_
    exact jv_iret dX5_isUnder_34 rfl (by decide) (ot_b1 (ot_underB_iff.mpr (by omega))) rfl rfl
  · refine jv_iload0 dX5_isUnder_4 ?_
    refine jv_iload1 dX5_isUnder_5 ?_
    refine jv_icmp_eqN dX5_isUnder_6 (tgt := 29) (by decide) (by omega) (by omega) (fun hc6 => ?_) (fun hc6 => ?_)
    · refine jv_iconst dX5_isUnder_29 jv_c_iconst_1 ?_
      refine jv_goto dX5_isUnder_30 (tgt := 34) (by decide) ?_
      exact jv_iret dX5_isUnder_34 rfl (by decide) (ot_b1 (ot_underB_iff.mpr (by omega))) rfl rfl
    · refine jv_iload1 dX5_isUnder_9 ?_
      refine jv_iconst dX5_isUnder_10 jv_c_iconst_1 ?_
      refine jv_icmp_neN dX5_isUnder_11 (tgt := 19) (by decide) (by omega) (by omega) (fun hc11 => ?_) (fun hc11 => ?_)
      · refine jv_iload1 dX5_isUnder_19 ?_
        refine jv_iconst dX5_isUnder_20 jv_c_iconst_3 ?_
        refine jv_icmp_neN dX5_isUnder_21 (tgt := 33) (by decide) (by omega) (by omega) (fun hc21 => ?_) (fun hc21 => ?_)
        · refine jv_iconst dX5_isUnder_33 jv_c_iconst_0 ?_
          exact jv_iret dX5_isUnder_34 rfl (by decide) (ot_b0 (fun q => by rw [ot_underB_iff] at q; omega)) rfl rfl
        · refine jv_iload0 dX5_isUnder_24 ?_
          refine jv_iconst dX5_isUnder_25 jv_c_iconst_5 ?_
          refine jv_icmp_neN dX5_isUnder_26 (tgt := 33) (by decide) (by omega) (by omega) (fun hc26 => ?_) (fun hc26 => ?_)
          · refine jv_iconst dX5_isUnder_33 jv_c_iconst_0 ?_
            exact jv_iret dX5_isUnder_34 rfl (by decide) (ot_b0 (fun q => by rw [ot_underB_iff] at q; omega)) rfl rfl
          · refine jv_iconst dX5_isUnder_29 jv_c_iconst_1 ?_
            refine jv_goto dX5_isUnder_30 (tgt := 34) (by decide) ?_
            exact jv_iret dX5_isUnder_34 rfl (by decide) (ot_b1 (ot_underB_iff.mpr (by omega))) rfl rfl
      · refine jv_iload0 dX5_isUnder_14 ?_
        refine jv_iconst dX5_isUnder_15 jv_c_iconst_4 ?_
        refine jv_icmp_eqN dX5_isUnder_16 (tgt := 29) (by decide) (by omega) (by omega) (fun hc16 => ?_) (fun hc16 => ?_)
        · refine jv_iconst dX5_isUnder_29 jv_c_iconst_1 ?_
          refine jv_goto dX5_isUnder_30 (tgt := 34) (by decide) ?_
          exact jv_iret dX5_isUnder_34 rfl (by decide) (ot_b1 (ot_underB_iff.mpr (by omega))) rfl rfl
        · refine jv_iload1 dX5_isUnder_19 ?_
          refine jv_iconst dX5_isUnder_20 jv_c_iconst_3 ?_
          refine jv_icmp_neN dX5_isUnder_21 (tgt := 33) (by decide) (by omega) (by omega) (fun hc21 => ?_) (fun hc21 => ?_)
          · refine jv_iconst dX5_isUnder_33 jv_c_iconst_0 ?_
            exact jv_iret dX5_isUnder_34 rfl (by decide) (ot_b0 (fun q => by rw [ot_underB_iff] at q; omega)) rfl rfl
          · refine jv_iload0 dX5_isUnder_24 ?_
            refine jv_iconst dX5_isUnder_25 jv_c_iconst_5 ?_
            refine jv_icmp_neN dX5_isUnder_26 (tgt := 33) (by decide) (by omega) (by omega) (fun hc26 => ?_) (fun hc26 => ?_)
            · refine jv_iconst dX5_isUnder_33 jv_c_iconst_0 ?_
              exact jv_iret dX5_isUnder_34 rfl (by decide) (ot_b0 (fun q => by rw [ot_underB_iff] at q; omega)) rfl rfl
            · refine jv_iconst dX5_isUnder_29 jv_c_iconst_1 ?_
              refine jv_goto dX5_isUnder_30 (tgt := 34) (by decide) ?_
              exact jv_iret dX5_isUnder_34 rfl (by decide) (ot_b1 (ot_underB_iff.mpr (by omega))) rfl rfl
set_option maxRecDepth 20000 in
theorem oc_saying {G : jv_Gr} {I : jv_I} {J : jv_J} {Y Z : ot_Y} {E : ot_E} {K : Option ot_Y} (h : ot_C G I J Y Z E K) {k u : Nat} (hk : k < Y 10 1) (hu : u ≤ 5) : jv_C 3 mX4_saying [.ref 1, .int (nI k), .int (nI u)] G I J (some (.int (ot_say Y k u))) G I J := by
  refine jv_enter okX4_saying (L := [.ref 1, .int (nI k), .int (nI u), .null]) rfl (Nat.le_of_ble_eq_true rfl) ?_
  have bn := yw_n h.w
  have bc := yw_c h.w
  have bw := yw_w h.w
  have hq := yw_count h.w hk
  have e0 := ot_lt1 (show Y 10 0 < 2 ^ 30 by omega)
  unfold ot_say
  rcases (show u = 0 ∨ u = 1 ∨ u = 2 ∨ u = 3 ∨ u = 4 ∨ u = 5 by omega) with rfl | rfl | rfl | rfl | rfl | rfl
  · refine jv_aload0 dX4_saying_0 ?_
    refine jv_getR dX4_saying_1 flX4_10 rfl (ck h.g) (cr_now h.g) ?_
    refine jv_getI dX4_saying_4 flX4_128 rfl (yk (cg_now h.g)) (yi_children h.r) ?_
    refine jv_iconst dX4_saying_7 jv_c_iconst_1 ?_
    refine jv_isub dX4_saying_8 ?_
    refine jv_istore3 dX4_saying_9 rfl ?_
    refine jv_iload2 dX4_saying_10 ?_
    refine jv_tableOut dX4_saying_11 (tgt := 111) (by decide) (by decide) ?_
    refine jv_aload0 dX4_saying_111 ?_
    refine jv_getR dX4_saying_112 flX4_10 rfl (ck h.g) (cr_now h.g) ?_
    refine jv_getR dX4_saying_115 flX4_181 rfl (yk (cg_now h.g)) (yr_teams (cg_now h.g)) ?_
    refine jv_iload1 dX4_saying_118 ?_
    refine jv_ialdN dX4_saying_119 (yk_teams (cg_now h.g)) (by omega) (by decide) (ye_teams h.r (by omega)) ?_
    exact jv_iret dX4_saying_120 rfl rfl (by rw [if_pos rfl]) rfl rfl
  · refine jv_aload0 dX4_saying_0 ?_
    refine jv_getR dX4_saying_1 flX4_10 rfl (ck h.g) (cr_now h.g) ?_
    refine jv_getI dX4_saying_4 flX4_128 rfl (yk (cg_now h.g)) (yi_children h.r) ?_
    refine jv_iconst dX4_saying_7 jv_c_iconst_1 ?_
    refine jv_isub dX4_saying_8 ?_
    refine jv_istore3 dX4_saying_9 rfl ?_
    refine jv_iload2 dX4_saying_10 ?_
    refine jv_tableIn dX4_saying_11 (off := 33) (tgt := 44) (by decide) (by decide) (by decide) (by decide) ?_
    refine jv_iload3 dX4_saying_44 ?_
    refine jv_if_ge dX4_saying_45 (tgt := 52) (by decide) (fun hge => ?_) (fun hge => ?_)
    · rw [Int32.le_iff_toInt_le, e0] at hge
      have hge : ¬ Y 10 0 = 0 := by simp at hge; omega
      refine jv_aload0 dX4_saying_52 ?_
      refine jv_getR dX4_saying_53 flX4_10 rfl (ck h.g) (cr_now h.g) ?_
      refine jv_iload1 dX4_saying_56 ?_
      refine jv_iconst dX4_saying_57 jv_c_iconst_0 ?_
      refine jv_v21 dX4_saying_58 okX3_sideAt inX3_sideAt seX3_sideAt mlX4_323 (ci := 3) (T := TX3) (N := 15) rfl (yk (cg_now h.g)) (ot_sideAt (cg_now h.g) h.r h.w hk (show 0 < Y 10 0 by omega)) (by decide) (Nat.le_of_ble_eq_true rfl) ?_
      exact jv_iret dX4_saying_61 rfl rfl (by rw [if_neg (by decide), if_pos rfl, if_neg hge]) rfl rfl
    · rw [Int32.le_iff_toInt_le, e0] at hge
      have hge : Y 10 0 = 0 := by simp at hge; omega
      refine jv_iconst dX4_saying_48 jv_c_iconst_m1 ?_
      refine jv_goto dX4_saying_49 (tgt := 61) (by decide) ?_
      exact jv_iret dX4_saying_61 rfl rfl (by rw [if_neg (by decide), if_pos rfl, if_pos hge]) rfl rfl
  · refine jv_aload0 dX4_saying_0 ?_
    refine jv_getR dX4_saying_1 flX4_10 rfl (ck h.g) (cr_now h.g) ?_
    refine jv_getI dX4_saying_4 flX4_128 rfl (yk (cg_now h.g)) (yi_children h.r) ?_
    refine jv_iconst dX4_saying_7 jv_c_iconst_1 ?_
    refine jv_isub dX4_saying_8 ?_
    refine jv_istore3 dX4_saying_9 rfl ?_
    refine jv_iload2 dX4_saying_10 ?_
    refine jv_tableIn dX4_saying_11 (off := 51) (tgt := 62) (by decide) (by decide) (by decide) (by decide) ?_
    refine jv_aload0 dX4_saying_62 ?_
    refine jv_getR dX4_saying_63 flX4_10 rfl (ck h.g) (cr_now h.g) ?_
    refine jv_v01 dX4_saying_66 okX3_evenPlaces inX3_evenPlaces seX3_evenPlaces mlX4_326 (ci := 3) (T := TX3) (N := 15) rfl (yk (cg_now h.g)) (ot_evenPlaces (cg_now h.g) h.r h.w) (by decide) (Nat.le_of_ble_eq_true rfl) ?_
    exact jv_iret dX4_saying_69 rfl rfl (by rw [if_neg (by decide), if_neg (by decide), if_pos rfl]) rfl rfl
  · refine jv_aload0 dX4_saying_0 ?_
    refine jv_getR dX4_saying_1 flX4_10 rfl (ck h.g) (cr_now h.g) ?_
    refine jv_getI dX4_saying_4 flX4_128 rfl (yk (cg_now h.g)) (yi_children h.r) ?_
    refine jv_iconst dX4_saying_7 jv_c_iconst_1 ?_
    refine jv_isub dX4_saying_8 ?_
    refine jv_istore3 dX4_saying_9 rfl ?_
    refine jv_iload2 dX4_saying_10 ?_
    refine jv_tableIn dX4_saying_11 (off := 59) (tgt := 70) (by decide) (by decide) (by decide) (by decide) ?_
    refine jv_aload0 dX4_saying_70 ?_
    refine jv_getR dX4_saying_71 flX4_10 rfl (ck h.g) (cr_now h.g) ?_
    refine jv_getR dX4_saying_74 flX4_184 rfl (yk (cg_now h.g)) (yr_slips (cg_now h.g)) ?_
    refine jv_iload1 dX4_saying_77 ?_
    refine jv_ialdN dX4_saying_78 (yk_slips (cg_now h.g)) (by omega) (by decide) (ye_slips h.r (by omega)) ?_
    refine jv_iconst dX4_saying_79 jv_c_iconst_1 ?_
    refine jv_iload3 dX4_saying_80 ?_
    refine jv_s31 dX4_saying_81 okX4_within stX4_within mlX4_57 (ot_within (nI (Y 5 k)) (nI 1) (nI (Y 10 0) - nI 1)) (by decide) (Nat.le_of_ble_eq_true rfl) ?_
    refine jv_if_eqB dX4_saying_84 (tgt := 91) (by decide) (fun h84 => ?_) (fun h84 => ?_)
    · rw [Int32.le_iff_toInt_le, Int32.le_iff_toInt_le, e0, nI_toInt (show Y 5 k < 2 ^ 31 by omega), nI_toInt (show 1 < 2 ^ 31 by decide)] at h84
      refine jv_iconst dX4_saying_91 jv_c_iconst_0 ?_
      exact jv_iret dX4_saying_92 rfl rfl (by rw [if_neg (by decide), if_neg (by decide), if_neg (by decide), if_neg (by decide)]; exact ot_b0 (by omega)) rfl rfl
    · rw [Int32.le_iff_toInt_le, Int32.le_iff_toInt_le, e0, nI_toInt (show Y 5 k < 2 ^ 31 by omega), nI_toInt (show 1 < 2 ^ 31 by decide)] at h84
      refine jv_iconst dX4_saying_87 jv_c_iconst_1 ?_
      refine jv_goto dX4_saying_88 (tgt := 92) (by decide) ?_
      exact jv_iret dX4_saying_92 rfl rfl (by rw [if_neg (by decide), if_neg (by decide), if_neg (by decide), if_neg (by decide)]; exact ot_b1 (by omega)) rfl rfl
  · refine jv_aload0 dX4_saying_0 ?_
    refine jv_getR dX4_saying_1 flX4_10 rfl (ck h.g) (cr_now h.g) ?_
    refine jv_getI dX4_saying_4 flX4_128 rfl (yk (cg_now h.g)) (yi_children h.r) ?_
    refine jv_iconst dX4_saying_7 jv_c_iconst_1 ?_
    refine jv_isub dX4_saying_8 ?_
    refine jv_istore3 dX4_saying_9 rfl ?_
    refine jv_iload2 dX4_saying_10 ?_
    refine jv_tableIn dX4_saying_11 (off := 82) (tgt := 93) (by decide) (by decide) (by decide) (by decide) ?_
    refine jv_iload3 dX4_saying_93 ?_
    refine jv_if_ge dX4_saying_94 (tgt := 101) (by decide) (fun hge => ?_) (fun hge => ?_)
    · rw [Int32.le_iff_toInt_le, e0] at hge
      have hge : ¬ Y 10 0 = 0 := by simp at hge; omega
      refine jv_aload0 dX4_saying_101 ?_
      refine jv_getR dX4_saying_102 flX4_10 rfl (ck h.g) (cr_now h.g) ?_
      refine jv_iload1 dX4_saying_105 ?_
      refine jv_iload3 dX4_saying_106 ?_
      rw [pk_sub (show 1 ≤ Y 10 0 by omega)]
      refine jv_v21 dX4_saying_107 okX3_sideAt inX3_sideAt seX3_sideAt mlX4_323 (ci := 3) (T := TX3) (N := 15) rfl (yk (cg_now h.g)) (ot_sideAt (cg_now h.g) h.r h.w hk (show Y 10 0 - 1 < Y 10 0 by omega)) (by decide) (Nat.le_of_ble_eq_true rfl) ?_
      exact jv_iret dX4_saying_110 rfl rfl (by rw [if_neg (by decide), if_neg (by decide), if_neg (by decide), if_pos rfl, if_neg hge]) rfl rfl
    · rw [Int32.le_iff_toInt_le, e0] at hge
      have hge : Y 10 0 = 0 := by simp at hge; omega
      refine jv_iconst dX4_saying_97 jv_c_iconst_m1 ?_
      refine jv_goto dX4_saying_98 (tgt := 110) (by decide) ?_
      exact jv_iret dX4_saying_110 rfl rfl (by rw [if_neg (by decide), if_neg (by decide), if_neg (by decide), if_pos rfl, if_pos hge]) rfl rfl
  · refine jv_aload0 dX4_saying_0 ?_
    refine jv_getR dX4_saying_1 flX4_10 rfl (ck h.g) (cr_now h.g) ?_
    refine jv_getI dX4_saying_4 flX4_128 rfl (yk (cg_now h.g)) (yi_children h.r) ?_
    refine jv_iconst dX4_saying_7 jv_c_iconst_1 ?_
    refine jv_isub dX4_saying_8 ?_
    refine jv_istore3 dX4_saying_9 rfl ?_
    refine jv_iload2 dX4_saying_10 ?_
    refine jv_tableIn dX4_saying_11 (off := 59) (tgt := 70) (by decide) (by decide) (by decide) (by decide) ?_
    refine jv_aload0 dX4_saying_70 ?_
    refine jv_getR dX4_saying_71 flX4_10 rfl (ck h.g) (cr_now h.g) ?_
    refine jv_getR dX4_saying_74 flX4_184 rfl (yk (cg_now h.g)) (yr_slips (cg_now h.g)) ?_
    refine jv_iload1 dX4_saying_77 ?_
    refine jv_ialdN dX4_saying_78 (yk_slips (cg_now h.g)) (by omega) (by decide) (ye_slips h.r (by omega)) ?_
    refine jv_iconst dX4_saying_79 jv_c_iconst_1 ?_
    refine jv_iload3 dX4_saying_80 ?_
    refine jv_s31 dX4_saying_81 okX4_within stX4_within mlX4_57 (ot_within (nI (Y 5 k)) (nI 1) (nI (Y 10 0) - nI 1)) (by decide) (Nat.le_of_ble_eq_true rfl) ?_
    refine jv_if_eqB dX4_saying_84 (tgt := 91) (by decide) (fun h84 => ?_) (fun h84 => ?_)
    · rw [Int32.le_iff_toInt_le, Int32.le_iff_toInt_le, e0, nI_toInt (show Y 5 k < 2 ^ 31 by omega), nI_toInt (show 1 < 2 ^ 31 by decide)] at h84
      refine jv_iconst dX4_saying_91 jv_c_iconst_0 ?_
      exact jv_iret dX4_saying_92 rfl rfl (by rw [if_neg (by decide), if_neg (by decide), if_neg (by decide), if_neg (by decide)]; exact ot_b0 (by omega)) rfl rfl
    · rw [Int32.le_iff_toInt_le, Int32.le_iff_toInt_le, e0, nI_toInt (show Y 5 k < 2 ^ 31 by omega), nI_toInt (show 1 < 2 ^ 31 by decide)] at h84
      refine jv_iconst dX4_saying_87 jv_c_iconst_1 ?_
      refine jv_goto dX4_saying_88 (tgt := 92) (by decide) ?_
      exact jv_iret dX4_saying_92 rfl rfl (by rw [if_neg (by decide), if_neg (by decide), if_neg (by decide), if_neg (by decide)]; exact ot_b1 (by omega)) rfl rfl
set_option maxRecDepth 20000 in
theorem pc_says {G : jv_Gr} {I : jv_I} {J : jv_J} {Y Z : ot_Y} {E : ot_E} {K : Option ot_Y} (h : ot_C G I J Y Z E K) (s : Int32) (w : Int32) : ot_cc 8 mX4_says [.ref 1, .int s, .int w] G I J (ot_ans (ot_rcy Y Z s w) (ot_say Y (Z 3 (ot_n s)) (ot_n w))) Y (ot_zr Z (ot_rcy Y Z s w)) E K := by
  have bn := yw_n h.w
  have bc := yw_c h.w
  have bw := yw_w h.w
  unfold ot_rcy
  by_cases hv : (0 ≤ s.toInt ∧ s.toInt < 8) ∧ (0 ≤ w.toInt ∧ w.toInt ≤ 5)
  · obtain ⟨t, ht, rfl⟩ := ot_of (n := 8) hv.1 (by decide)
    obtain ⟨u, hu, rfl⟩ := ot_of (n := 6) (show 0 ≤ w.toInt ∧ w.toInt < ((6 : Nat) : Int) by omega) (by decide)
    rw [if_pos hv, ot_n_nI (show t < 2 ^ 30 by omega), ot_n_nI (show u < 2 ^ 30 by omega)]
    obtain ⟨z1, z2, z3⟩ := h.z.1 t ht
    have eu := nI_toInt (show u < 2 ^ 31 by omega)
    rcases (show Z 0 t = 0 ∨ Z 0 t = 1 ∨ Z 0 t = 2 by omega) with h0s | h1s | h2s
    · rw [if_neg (show ¬ Z 0 t = 1 by omega), if_pos h0s]
      obtain ⟨I2, hC, h2, h3⟩ := oc_refuse4 h
      refine ⟨I2, J, ?_, h2, h3⟩
      refine jv_enter okX4_says (L := [.ref 1, .int (nI t), .int (nI u), .null]) rfl (Nat.le_of_ble_eq_true rfl) ?_
      refine jv_iload1 dX4_says_0 ?_
      refine jv_s11 dX4_says_1 okX4_isShelf stX4_isShelf mlX4_53 (ot_isShelf _) (by decide) (Nat.le_of_ble_eq_true rfl) ?_
      refine jv_if_eqB dX4_says_4 (tgt := 16) (by decide) (fun hq4 => absurd hv.1 hq4) (fun hq4 => ?_)
      refine jv_iload2 dX4_says_7 ?_
      refine jv_iconst dX4_says_8 jv_c_iconst_0 ?_
      refine jv_iconst dX4_says_9 jv_c_iconst_5 ?_
      refine jv_s31 dX4_says_10 okX4_within stX4_within mlX4_57 (oc_inC _ (a := 0) (b := 5) (by decide) (by decide)) (by decide) (Nat.le_of_ble_eq_true rfl) ?_
      refine jv_if_neB dX4_says_13 (tgt := 23) (by decide) (fun hq13 => ?_) (fun hq13 => absurd (by omega) hq13)
      refine jv_aload0 dX4_says_23 ?_
      refine jv_getR dX4_says_24 flX4_40 rfl (ck h.g) (cr_shelves h.g) ?_
      refine jv_iload1 dX4_says_27 ?_
      refine jv_aald2N dX4_says_28 (ck_shelves h.g) (by omega) (by decide) (cr_shelf h.g ht) ?_
      refine jv_v01 dX4_says_29 okX1_isRow inX1_isRow seX1_isRow mlX4_111 (ci := 1) (T := TX1) (N := 3) rfl (sk h.g ht) (oc_isRow h ht) (by decide) (Nat.le_of_ble_eq_true rfl) ?_
      refine jv_if_eqB dX4_says_32 (tgt := 42) (by decide) (fun h32 => ?_) (fun h32 => by omega)
      refine jv_aload0 dX4_says_42 ?_
      refine jv_getR dX4_says_43 flX4_40 rfl (ck h.g) (cr_shelves h.g) ?_
      refine jv_iload1 dX4_says_46 ?_
      refine jv_aald2N dX4_says_47 (ck_shelves h.g) (by omega) (by decide) (cr_shelf h.g ht) ?_
      refine jv_v01 dX4_says_48 okX1_countNumber inX1_countNumber seX1_countNumber mlX4_115 (ci := 1) (T := TX1) (N := 3) rfl (sk h.g ht) (oc_countNone h ht (by omega)) (by decide) (Nat.le_of_ble_eq_true rfl) ?_
      refine jv_istore3 dX4_says_51 rfl ?_
      refine jv_aload0 dX4_says_52 ?_
      refine jv_getR dX4_says_53 flX4_10 rfl (ck h.g) (cr_now h.g) ?_
      refine jv_iload3 dX4_says_56 ?_
      refine jv_v11 dX4_says_57 okX3_hasCount inX3_hasCount seX3_hasCount mlX4_101 (ci := 3) (T := TX3) (N := 15) rfl (yk (cg_now h.g)) (ot_hasCount (cg_now h.g) h.r h.w _) (by decide) (Nat.le_of_ble_eq_true rfl) ?_
      refine jv_if_neB dX4_says_60 (tgt := 70) (by decide) (fun h60 => absurd h60.1 (by decide)) (fun h60 => ?_)
      refine jv_aload0 dX4_says_63 ?_
      refine jv_bipush dX4_says_64 jv_c_bipush_m4 ?_
      refine jv_v11 dX4_says_66 okX4_refuse inX4_refuse seX4_refuse mlX4_61 (ci := 4) (T := TX4) (N := 8) rfl (ck h.g) hC (by decide) (Nat.le_of_ble_eq_true rfl) ?_
      exact jv_iret dX4_says_69 rfl rfl rfl rfl rfl
    · rw [if_pos h1s]
      obtain ⟨I2, hC, h2, h3⟩ := oc_refuse3 h
      refine ⟨I2, J, ?_, h2, h3⟩
      refine jv_enter okX4_says (L := [.ref 1, .int (nI t), .int (nI u), .null]) rfl (Nat.le_of_ble_eq_true rfl) ?_
      refine jv_iload1 dX4_says_0 ?_
      refine jv_s11 dX4_says_1 okX4_isShelf stX4_isShelf mlX4_53 (ot_isShelf _) (by decide) (Nat.le_of_ble_eq_true rfl) ?_
      refine jv_if_eqB dX4_says_4 (tgt := 16) (by decide) (fun hq4 => absurd hv.1 hq4) (fun hq4 => ?_)
      refine jv_iload2 dX4_says_7 ?_
      refine jv_iconst dX4_says_8 jv_c_iconst_0 ?_
      refine jv_iconst dX4_says_9 jv_c_iconst_5 ?_
      refine jv_s31 dX4_says_10 okX4_within stX4_within mlX4_57 (oc_inC _ (a := 0) (b := 5) (by decide) (by decide)) (by decide) (Nat.le_of_ble_eq_true rfl) ?_
      refine jv_if_neB dX4_says_13 (tgt := 23) (by decide) (fun hq13 => ?_) (fun hq13 => absurd (by omega) hq13)
      refine jv_aload0 dX4_says_23 ?_
      refine jv_getR dX4_says_24 flX4_40 rfl (ck h.g) (cr_shelves h.g) ?_
      refine jv_iload1 dX4_says_27 ?_
      refine jv_aald2N dX4_says_28 (ck_shelves h.g) (by omega) (by decide) (cr_shelf h.g ht) ?_
      refine jv_v01 dX4_says_29 okX1_isRow inX1_isRow seX1_isRow mlX4_111 (ci := 1) (T := TX1) (N := 3) rfl (sk h.g ht) (oc_isRow h ht) (by decide) (Nat.le_of_ble_eq_true rfl) ?_
      refine jv_if_eqB dX4_says_32 (tgt := 42) (by decide) (fun h32 => absurd h1s h32) (fun h32 => ?_)
      refine jv_aload0 dX4_says_35 ?_
      refine jv_bipush dX4_says_36 jv_c_bipush_m3 ?_
      refine jv_v11 dX4_says_38 okX4_refuse inX4_refuse seX4_refuse mlX4_61 (ci := 4) (T := TX4) (N := 8) rfl (ck h.g) hC (by decide) (Nat.le_of_ble_eq_true rfl) ?_
      exact jv_iret dX4_says_41 rfl rfl rfl rfl rfl
    · have hk := z3 h2s
      have hq := yw_count h.w hk
      have ek := nI_toInt (show Z 3 t < 2 ^ 31 by omega)
      rw [if_neg (show ¬ Z 0 t = 1 by omega), if_neg (show ¬ Z 0 t = 0 by omega)]
      by_cases hun : ot_underB (Y 3 (Z 3 t)) u = true
      · rw [if_pos hun]
        refine ⟨I, J, ?_, h, ot_hi.rf⟩
        refine jv_enter okX4_says (L := [.ref 1, .int (nI t), .int (nI u), .null]) rfl (Nat.le_of_ble_eq_true rfl) ?_
        refine jv_iload1 dX4_says_0 ?_
        refine jv_s11 dX4_says_1 okX4_isShelf stX4_isShelf mlX4_53 (ot_isShelf _) (by decide) (Nat.le_of_ble_eq_true rfl) ?_
        refine jv_if_eqB dX4_says_4 (tgt := 16) (by decide) (fun hq4 => absurd hv.1 hq4) (fun hq4 => ?_)
        refine jv_iload2 dX4_says_7 ?_
        refine jv_iconst dX4_says_8 jv_c_iconst_0 ?_
        refine jv_iconst dX4_says_9 jv_c_iconst_5 ?_
        refine jv_s31 dX4_says_10 okX4_within stX4_within mlX4_57 (oc_inC _ (a := 0) (b := 5) (by decide) (by decide)) (by decide) (Nat.le_of_ble_eq_true rfl) ?_
        refine jv_if_neB dX4_says_13 (tgt := 23) (by decide) (fun hq13 => ?_) (fun hq13 => absurd (by omega) hq13)
        refine jv_aload0 dX4_says_23 ?_
        refine jv_getR dX4_says_24 flX4_40 rfl (ck h.g) (cr_shelves h.g) ?_
        refine jv_iload1 dX4_says_27 ?_
        refine jv_aald2N dX4_says_28 (ck_shelves h.g) (by omega) (by decide) (cr_shelf h.g ht) ?_
        refine jv_v01 dX4_says_29 okX1_isRow inX1_isRow seX1_isRow mlX4_111 (ci := 1) (T := TX1) (N := 3) rfl (sk h.g ht) (oc_isRow h ht) (by decide) (Nat.le_of_ble_eq_true rfl) ?_
        refine jv_if_eqB dX4_says_32 (tgt := 42) (by decide) (fun h32 => ?_) (fun h32 => by omega)
        refine jv_aload0 dX4_says_42 ?_
        refine jv_getR dX4_says_43 flX4_40 rfl (ck h.g) (cr_shelves h.g) ?_
        refine jv_iload1 dX4_says_46 ?_
        refine jv_aald2N dX4_says_47 (ck_shelves h.g) (by omega) (by decide) (cr_shelf h.g ht) ?_
        refine jv_v01 dX4_says_48 okX1_countNumber inX1_countNumber seX1_countNumber mlX4_115 (ci := 1) (T := TX1) (N := 3) rfl (sk h.g ht) (oc_countNumber h ht h2s) (by decide) (Nat.le_of_ble_eq_true rfl) ?_
        refine jv_istore3 dX4_says_51 rfl ?_
        refine jv_aload0 dX4_says_52 ?_
        refine jv_getR dX4_says_53 flX4_10 rfl (ck h.g) (cr_now h.g) ?_
        refine jv_iload3 dX4_says_56 ?_
        refine jv_v11 dX4_says_57 okX3_hasCount inX3_hasCount seX3_hasCount mlX4_101 (ci := 3) (T := TX3) (N := 15) rfl (yk (cg_now h.g)) (ot_hasCount (cg_now h.g) h.r h.w _) (by decide) (Nat.le_of_ble_eq_true rfl) ?_
        refine jv_if_neB dX4_says_60 (tgt := 70) (by decide) (fun h60 => ?_) (fun h60 => absurd (by omega) h60)
        refine jv_aload0 dX4_says_70 ?_
        refine jv_getR dX4_says_71 flX4_10 rfl (ck h.g) (cr_now h.g) ?_
        refine jv_getR dX4_says_74 flX4_119 rfl (yk (cg_now h.g)) (yr_kinds (cg_now h.g)) ?_
        refine jv_iload3 dX4_says_77 ?_
        refine jv_ialdN dX4_says_78 (yk_kinds (cg_now h.g)) (by omega) (by decide) (ye_kinds h.r (by omega)) ?_
        refine jv_iload2 dX4_says_79 ?_
        refine jv_s21 dX4_says_80 okX4_isOfKind stX4_isOfKind mlX4_122 (oc_isOfKind hq.1 (by omega)) (by decide) (Nat.le_of_ble_eq_true rfl) ?_
        refine jv_if_neB dX4_says_83 (tgt := 93) (by decide) (fun h83 => ?_) (fun h83 => absurd hun h83)
        refine jv_aload0 dX4_says_93 ?_
        refine jv_iload3 dX4_says_94 ?_
        refine jv_iload2 dX4_says_95 ?_
        refine jv_v21 dX4_says_96 okX4_saying inX4_saying seX4_saying mlX4_125 (ci := 4) (T := TX4) (N := 8) rfl (ck h.g) (oc_saying h hk (by omega)) (by decide) (Nat.le_of_ble_eq_true rfl) ?_
        exact jv_iret dX4_says_99 rfl rfl rfl rfl rfl
      · rw [if_neg hun]
        obtain ⟨I2, hC, h2, h3⟩ := oc_refuse3 h
        refine ⟨I2, J, ?_, h2, h3⟩
        refine jv_enter okX4_says (L := [.ref 1, .int (nI t), .int (nI u), .null]) rfl (Nat.le_of_ble_eq_true rfl) ?_
        refine jv_iload1 dX4_says_0 ?_
        refine jv_s11 dX4_says_1 okX4_isShelf stX4_isShelf mlX4_53 (ot_isShelf _) (by decide) (Nat.le_of_ble_eq_true rfl) ?_
        refine jv_if_eqB dX4_says_4 (tgt := 16) (by decide) (fun hq4 => absurd hv.1 hq4) (fun hq4 => ?_)
        refine jv_iload2 dX4_says_7 ?_
        refine jv_iconst dX4_says_8 jv_c_iconst_0 ?_
        refine jv_iconst dX4_says_9 jv_c_iconst_5 ?_
        refine jv_s31 dX4_says_10 okX4_within stX4_within mlX4_57 (oc_inC _ (a := 0) (b := 5) (by decide) (by decide)) (by decide) (Nat.le_of_ble_eq_true rfl) ?_
        refine jv_if_neB dX4_says_13 (tgt := 23) (by decide) (fun hq13 => ?_) (fun hq13 => absurd (by omega) hq13)
        refine jv_aload0 dX4_says_23 ?_
        refine jv_getR dX4_says_24 flX4_40 rfl (ck h.g) (cr_shelves h.g) ?_
        refine jv_iload1 dX4_says_27 ?_
        refine jv_aald2N dX4_says_28 (ck_shelves h.g) (by omega) (by decide) (cr_shelf h.g ht) ?_
        refine jv_v01 dX4_says_29 okX1_isRow inX1_isRow seX1_isRow mlX4_111 (ci := 1) (T := TX1) (N := 3) rfl (sk h.g ht) (oc_isRow h ht) (by decide) (Nat.le_of_ble_eq_true rfl) ?_
        refine jv_if_eqB dX4_says_32 (tgt := 42) (by decide) (fun h32 => ?_) (fun h32 => by omega)
        refine jv_aload0 dX4_says_42 ?_
        refine jv_getR dX4_says_43 flX4_40 rfl (ck h.g) (cr_shelves h.g) ?_
        refine jv_iload1 dX4_says_46 ?_
        refine jv_aald2N dX4_says_47 (ck_shelves h.g) (by omega) (by decide) (cr_shelf h.g ht) ?_
        refine jv_v01 dX4_says_48 okX1_countNumber inX1_countNumber seX1_countNumber mlX4_115 (ci := 1) (T := TX1) (N := 3) rfl (sk h.g ht) (oc_countNumber h ht h2s) (by decide) (Nat.le_of_ble_eq_true rfl) ?_
        refine jv_istore3 dX4_says_51 rfl ?_
        refine jv_aload0 dX4_says_52 ?_
        refine jv_getR dX4_says_53 flX4_10 rfl (ck h.g) (cr_now h.g) ?_
        refine jv_iload3 dX4_says_56 ?_
        refine jv_v11 dX4_says_57 okX3_hasCount inX3_hasCount seX3_hasCount mlX4_101 (ci := 3) (T := TX3) (N := 15) rfl (yk (cg_now h.g)) (ot_hasCount (cg_now h.g) h.r h.w _) (by decide) (Nat.le_of_ble_eq_true rfl) ?_
        refine jv_if_neB dX4_says_60 (tgt := 70) (by decide) (fun h60 => ?_) (fun h60 => absurd (by omega) h60)
        refine jv_aload0 dX4_says_70 ?_
        refine jv_getR dX4_says_71 flX4_10 rfl (ck h.g) (cr_now h.g) ?_
        refine jv_getR dX4_says_74 flX4_119 rfl (yk (cg_now h.g)) (yr_kinds (cg_now h.g)) ?_
        refine jv_iload3 dX4_says_77 ?_
        refine jv_ialdN dX4_says_78 (yk_kinds (cg_now h.g)) (by omega) (by decide) (ye_kinds h.r (by omega)) ?_
        refine jv_iload2 dX4_says_79 ?_
        refine jv_s21 dX4_says_80 okX4_isOfKind stX4_isOfKind mlX4_122 (oc_isOfKind hq.1 (by omega)) (by decide) (Nat.le_of_ble_eq_true rfl) ?_
        refine jv_if_neB dX4_says_83 (tgt := 93) (by decide) (fun h83 => absurd h83 hun) (fun h83 => ?_)
        refine jv_aload0 dX4_says_86 ?_
        refine jv_bipush dX4_says_87 jv_c_bipush_m3 ?_
        refine jv_v11 dX4_says_89 okX4_refuse inX4_refuse seX4_refuse mlX4_61 (ci := 4) (T := TX4) (N := 8) rfl (ck h.g) hC (by decide) (Nat.le_of_ble_eq_true rfl) ?_
        exact jv_iret dX4_says_92 rfl rfl rfl rfl rfl
  · rw [if_neg hv]
    obtain ⟨I2, hC, h2, h3⟩ := oc_refuse2 h
    refine ⟨I2, J, ?_, h2, h3⟩
    refine jv_enter okX4_says (L := [.ref 1, .int s, .int w, .null]) rfl (Nat.le_of_ble_eq_true rfl) ?_
    refine jv_iload1 dX4_says_0 ?_
    refine jv_s11 dX4_says_1 okX4_isShelf stX4_isShelf mlX4_53 (ot_isShelf _) (by decide) (Nat.le_of_ble_eq_true rfl) ?_
    refine jv_if_eqB dX4_says_4 (tgt := 16) (by decide) (fun g4 => ?_) (fun g4 => ?_)
    · refine jv_aload0 dX4_says_16 ?_
      refine jv_bipush dX4_says_17 jv_c_bipush_m2 ?_
      refine jv_v11 dX4_says_19 okX4_refuse inX4_refuse seX4_refuse mlX4_61 (ci := 4) (T := TX4) (N := 8) rfl (ck h.g) hC (by decide) (Nat.le_of_ble_eq_true rfl) ?_
      exact jv_iret dX4_says_22 rfl rfl rfl rfl rfl
    · refine jv_iload2 dX4_says_7 ?_
      refine jv_iconst dX4_says_8 jv_c_iconst_0 ?_
      refine jv_iconst dX4_says_9 jv_c_iconst_5 ?_
      refine jv_s31 dX4_says_10 okX4_within stX4_within mlX4_57 (oc_inC _ (a := 0) (b := 5) (by decide) (by decide)) (by decide) (Nat.le_of_ble_eq_true rfl) ?_
      refine jv_if_neB dX4_says_13 (tgt := 23) (by decide) (fun g13 => ?_) (fun g13 => ?_)
      · exact absurd ⟨g4, by omega⟩ hv
      · refine jv_aload0 dX4_says_16 ?_
        refine jv_bipush dX4_says_17 jv_c_bipush_m2 ?_
        refine jv_v11 dX4_says_19 okX4_refuse inX4_refuse seX4_refuse mlX4_61 (ci := 4) (T := TX4) (N := 8) rfl (ck h.g) hC (by decide) (Nat.le_of_ble_eq_true rfl) ?_
        exact jv_iret dX4_says_22 rfl rfl rfl rfl rfl
set_option maxRecDepth 20000 in
theorem pm_says {G : jv_Gr} {I : jv_I} {J : jv_J} {Y Z : ot_Y} {E : ot_E} {K : Option ot_Y} (h : ot_M G I J Y Z E K) (s : Int32) (w : Int32) : ot_mm 8 mX5_says [.ref 64, .int s, .int w] G I J (ot_ans (ot_rcy Y Z s w) (ot_say Y (Z 3 (ot_n s)) (ot_n w))) Y (ot_zr Z (ot_rcy Y Z s w)) E K := by
  have bn := yw_n h.w
  have bc := yw_c h.w
  have bw := yw_w h.w
  unfold ot_rcy
  by_cases hv : (0 ≤ s.toInt ∧ s.toInt < 8) ∧ (0 ≤ w.toInt ∧ w.toInt ≤ 5)
  · obtain ⟨t, ht, rfl⟩ := ot_of (n := 8) hv.1 (by decide)
    obtain ⟨u, hu, rfl⟩ := ot_of (n := 6) (show 0 ≤ w.toInt ∧ w.toInt < ((6 : Nat) : Int) by omega) (by decide)
    rw [if_pos hv, ot_n_nI (show t < 2 ^ 30 by omega), ot_n_nI (show u < 2 ^ 30 by omega)]
    obtain ⟨z1, z2, z3⟩ := h.z.1 t ht
    have eu := nI_toInt (show u < 2 ^ 31 by omega)
    rcases (show Z 0 t = 0 ∨ Z 0 t = 1 ∨ Z 0 t = 2 by omega) with h0s | h1s | h2s
    · rw [if_neg (show ¬ Z 0 t = 1 by omega), if_pos h0s]
      obtain ⟨I2, hC, h2, h3⟩ := om_refuse4 h
      refine ⟨G, I2, J, ?_, h2, h3, ot_gx.rf⟩
      refine jv_enter okX5_says (L := [.ref 64, .int (nI t), .int (nI u), .null]) rfl (Nat.le_of_ble_eq_true rfl) ?_
      refine jv_iload1 dX5_says_0 ?_
      refine jv_i2l dX5_says_1 rfl ?_
      refine jv_lconst dX5_says_2 (v := lN 0) rfl ?_
      refine jv_ldc2 dX5_says_3 cnX5_98 ?_
      refine jv_s31 dX5_says_6 okX5_in stX5_in mlX5_83 (om_inC _ (a := 0) (b := 7) (by decide) (by decide)) (by decide) (Nat.le_of_ble_eq_true rfl) ?_
      refine jv_if_eqB dX5_says_9 (tgt := 24) (by decide) (fun hq9 => absurd (ot_7 ht) hq9) (fun hq9 => ?_)
      refine jv_iload2 dX5_says_12 ?_
      refine jv_i2l dX5_says_13 rfl ?_
      refine jv_lconst dX5_says_14 (v := lN 0) rfl ?_
      refine jv_ldc2 dX5_says_15 cnX5_115 ?_
      refine jv_s31 dX5_says_18 okX5_in stX5_in mlX5_83 (om_inC _ (a := 0) (b := 5) (by decide) (by decide)) (by decide) (Nat.le_of_ble_eq_true rfl) ?_
      refine jv_if_neB dX5_says_21 (tgt := 31) (by decide) (fun hq21 => ?_) (fun hq21 => absurd (by omega) hq21)
      refine jv_aload0 dX5_says_31 ?_
      refine jv_getR dX5_says_32 flX5_7 rfl (mk h.g) (mr_shelf h.g) ?_
      refine jv_iload1 dX5_says_35 ?_
      refine jv_ialdN dX5_says_36 (mk_shelf h.g) (by omega) (by decide) ((nr_tag h.s ht).trans (by rw [h0s])) ?_
      refine jv_iconst dX5_says_37 jv_c_iconst_1 ?_
      refine jv_icmp_eqN dX5_says_38 (tgt := 69) (by decide) (by omega) (by omega) (fun hc38 => by omega) (fun hc38 => ?_)
      refine jv_aload0 dX5_says_41 ?_
      refine jv_getR dX5_says_42 flX5_7 rfl (mk h.g) (mr_shelf h.g) ?_
      refine jv_iload1 dX5_says_45 ?_
      refine jv_ialdN dX5_says_46 (mk_shelf h.g) (by omega) (by decide) ((nr_tag h.s ht).trans (by rw [h0s])) ?_
      refine jv_iconst dX5_says_47 jv_c_iconst_2 ?_
      refine jv_icmp_neN dX5_says_48 (tgt := 76) (by decide) (by omega) (by omega) (fun hc48 => ?_) (fun hc48 => by omega)
      refine jv_aload0 dX5_says_76 ?_
      refine jv_getR dX5_says_77 flX5_7 rfl (mk h.g) (mr_shelf h.g) ?_
      refine jv_iload1 dX5_says_80 ?_
      refine jv_ialdN dX5_says_81 (mk_shelf h.g) (by omega) (by decide) ((nr_tag h.s ht).trans (by rw [h0s])) ?_
      refine jv_if_neN dX5_says_82 (tgt := 92) (by decide) (by omega) (fun hc82 => by omega) (fun hc82 => ?_)
      refine jv_aload0 dX5_says_85 ?_
      refine jv_bipush dX5_says_86 jv_c_bipush_m4 ?_
      refine jv_v11 dX5_says_88 okX5_refuse inX5_refuse seX5_refuse mlX5_104 (ci := 5) (T := TX5) (N := 35) rfl (mk h.g) hC (by decide) (Nat.le_of_ble_eq_true rfl) ?_
      exact jv_iret dX5_says_91 rfl rfl rfl rfl rfl
    · rw [if_pos h1s]
      obtain ⟨I2, hC, h2, h3⟩ := om_refuse3 h
      refine ⟨G, I2, J, ?_, h2, h3, ot_gx.rf⟩
      refine jv_enter okX5_says (L := [.ref 64, .int (nI t), .int (nI u), .null]) rfl (Nat.le_of_ble_eq_true rfl) ?_
      refine jv_iload1 dX5_says_0 ?_
      refine jv_i2l dX5_says_1 rfl ?_
      refine jv_lconst dX5_says_2 (v := lN 0) rfl ?_
      refine jv_ldc2 dX5_says_3 cnX5_98 ?_
      refine jv_s31 dX5_says_6 okX5_in stX5_in mlX5_83 (om_inC _ (a := 0) (b := 7) (by decide) (by decide)) (by decide) (Nat.le_of_ble_eq_true rfl) ?_
      refine jv_if_eqB dX5_says_9 (tgt := 24) (by decide) (fun hq9 => absurd (ot_7 ht) hq9) (fun hq9 => ?_)
      refine jv_iload2 dX5_says_12 ?_
      refine jv_i2l dX5_says_13 rfl ?_
      refine jv_lconst dX5_says_14 (v := lN 0) rfl ?_
      refine jv_ldc2 dX5_says_15 cnX5_115 ?_
      refine jv_s31 dX5_says_18 okX5_in stX5_in mlX5_83 (om_inC _ (a := 0) (b := 5) (by decide) (by decide)) (by decide) (Nat.le_of_ble_eq_true rfl) ?_
      refine jv_if_neB dX5_says_21 (tgt := 31) (by decide) (fun hq21 => ?_) (fun hq21 => absurd (by omega) hq21)
      refine jv_aload0 dX5_says_31 ?_
      refine jv_getR dX5_says_32 flX5_7 rfl (mk h.g) (mr_shelf h.g) ?_
      refine jv_iload1 dX5_says_35 ?_
      refine jv_ialdN dX5_says_36 (mk_shelf h.g) (by omega) (by decide) ((nr_tag h.s ht).trans (by rw [h1s])) ?_
      refine jv_iconst dX5_says_37 jv_c_iconst_1 ?_
      refine jv_icmp_eqN dX5_says_38 (tgt := 69) (by decide) (by omega) (by omega) (fun hc38 => ?_) (fun hc38 => by omega)
      refine jv_aload0 dX5_says_69 ?_
      refine jv_bipush dX5_says_70 jv_c_bipush_m3 ?_
      refine jv_v11 dX5_says_72 okX5_refuse inX5_refuse seX5_refuse mlX5_104 (ci := 5) (T := TX5) (N := 35) rfl (mk h.g) hC (by decide) (Nat.le_of_ble_eq_true rfl) ?_
      exact jv_iret dX5_says_75 rfl rfl rfl rfl rfl
    · have hk := z3 h2s
      have hq := yw_count h.w hk
      have ek := nI_toInt (show Z 3 t < 2 ^ 31 by omega)
      have e0 := ot_lt1 (show Y 10 0 < 2 ^ 30 by omega)
      rw [if_neg (show ¬ Z 0 t = 1 by omega), if_neg (show ¬ Z 0 t = 0 by omega)]
      by_cases hun : ot_underB (Y 3 (Z 3 t)) u = true
      · rw [if_pos hun]
        refine ⟨G, I, J, ?_, h, ot_lo.rf, ot_gx.rf⟩
        refine jv_enter okX5_says (L := [.ref 64, .int (nI t), .int (nI u), .null]) rfl (Nat.le_of_ble_eq_true rfl) ?_
        rcases (show u = 0 ∨ u = 1 ∨ u = 2 ∨ u = 3 ∨ u = 4 ∨ u = 5 by omega) with rfl | rfl | rfl | rfl | rfl | rfl
        · refine jv_iload1 dX5_says_0 ?_
          refine jv_i2l dX5_says_1 rfl ?_
          refine jv_lconst dX5_says_2 (v := lN 0) rfl ?_
          refine jv_ldc2 dX5_says_3 cnX5_98 ?_
          refine jv_s31 dX5_says_6 okX5_in stX5_in mlX5_83 (om_inC _ (a := 0) (b := 7) (by decide) (by decide)) (by decide) (Nat.le_of_ble_eq_true rfl) ?_
          refine jv_if_eqB dX5_says_9 (tgt := 24) (by decide) (fun hq9 => absurd (ot_7 ht) hq9) (fun hq9 => ?_)
          refine jv_iload2 dX5_says_12 ?_
          refine jv_i2l dX5_says_13 rfl ?_
          refine jv_lconst dX5_says_14 (v := lN 0) rfl ?_
          refine jv_ldc2 dX5_says_15 cnX5_115 ?_
          refine jv_s31 dX5_says_18 okX5_in stX5_in mlX5_83 (om_inC _ (a := 0) (b := 5) (by decide) (by decide)) (by decide) (Nat.le_of_ble_eq_true rfl) ?_
          refine jv_if_neB dX5_says_21 (tgt := 31) (by decide) (fun hq21 => ?_) (fun hq21 => absurd (by omega) hq21)
          refine jv_aload0 dX5_says_31 ?_
          refine jv_getR dX5_says_32 flX5_7 rfl (mk h.g) (mr_shelf h.g) ?_
          refine jv_iload1 dX5_says_35 ?_
          refine jv_ialdN dX5_says_36 (mk_shelf h.g) (by omega) (by decide) ((nr_tag h.s ht).trans (by rw [h2s])) ?_
          refine jv_iconst dX5_says_37 jv_c_iconst_1 ?_
          refine jv_icmp_eqN dX5_says_38 (tgt := 69) (by decide) (by omega) (by omega) (fun h38 => by omega) (fun h38 => ?_)
          refine jv_aload0 dX5_says_41 ?_
          refine jv_getR dX5_says_42 flX5_7 rfl (mk h.g) (mr_shelf h.g) ?_
          refine jv_iload1 dX5_says_45 ?_
          refine jv_ialdN dX5_says_46 (mk_shelf h.g) (by omega) (by decide) ((nr_tag h.s ht).trans (by rw [h2s])) ?_
          refine jv_iconst dX5_says_47 jv_c_iconst_2 ?_
          refine jv_icmp_neN dX5_says_48 (tgt := 76) (by decide) (by omega) (by omega) (fun h48 => by omega) (fun h48 => ?_)
          refine jv_aload0 dX5_says_51 ?_
          refine jv_getR dX5_says_52 flX5_46 rfl (mk h.g) (mr_kind h.g) ?_
          refine jv_aload0 dX5_says_55 ?_
          refine jv_getR dX5_says_56 flX5_28 rfl (mk h.g) (mr_shown h.g) ?_
          refine jv_iload1 dX5_says_59 ?_
          refine jv_ialdN dX5_says_60 (mk_shown h.g) (by omega) (by decide) (nr_shown h.s ht h2s) ?_
          refine jv_ialdN dX5_says_61 (mk_kind h.g) (by omega) (by decide) (me_kind h.r hk) ?_
          refine jv_iload2 dX5_says_62 ?_
          refine jv_s21 dX5_says_63 okX5_isUnder stX5_isUnder mlX5_117 (om_isUnder hq.1 (by omega)) (by decide) (Nat.le_of_ble_eq_true rfl) ?_
          refine jv_if_neB dX5_says_66 (tgt := 76) (by decide) (fun h66 => ?_) (fun h66 => absurd hun h66)
          refine jv_aload0 dX5_says_76 ?_
          refine jv_getR dX5_says_77 flX5_7 rfl (mk h.g) (mr_shelf h.g) ?_
          refine jv_iload1 dX5_says_80 ?_
          refine jv_ialdN dX5_says_81 (mk_shelf h.g) (by omega) (by decide) ((nr_tag h.s ht).trans (by rw [h2s])) ?_
          refine jv_if_neN dX5_says_82 (tgt := 92) (by decide) (by omega) (fun h82 => ?_) (fun h82 => by omega)
          refine jv_aload0 dX5_says_92 ?_
          refine jv_getR dX5_says_93 flX5_28 rfl (mk h.g) (mr_shown h.g) ?_
          refine jv_iload1 dX5_says_96 ?_
          refine jv_ialdN dX5_says_97 (mk_shown h.g) (by omega) (by decide) (nr_shown h.s ht h2s) ?_
          refine jv_istore3 dX5_says_98 rfl ?_
          refine jv_iload2 dX5_says_99 ?_
          refine jv_tableIn dX5_says_100 (off := 36) (tgt := 136) (by decide) (by decide) (by decide) (by decide) ?_
          refine jv_aload0 dX5_says_136 ?_
          refine jv_getR dX5_says_137 flX5_49 rfl (mk h.g) (mr_by h.g) ?_
          refine jv_iload3 dX5_says_140 ?_
          refine jv_ialdN dX5_says_141 (mk_by h.g) (by omega) (by decide) (me_by h.r (by omega)) ?_
          exact jv_iret dX5_says_142 rfl rfl (by unfold ot_say; rw [if_pos rfl]; rfl) rfl rfl
        · refine jv_iload1 dX5_says_0 ?_
          refine jv_i2l dX5_says_1 rfl ?_
          refine jv_lconst dX5_says_2 (v := lN 0) rfl ?_
          refine jv_ldc2 dX5_says_3 cnX5_98 ?_
          refine jv_s31 dX5_says_6 okX5_in stX5_in mlX5_83 (om_inC _ (a := 0) (b := 7) (by decide) (by decide)) (by decide) (Nat.le_of_ble_eq_true rfl) ?_
          refine jv_if_eqB dX5_says_9 (tgt := 24) (by decide) (fun hq9 => absurd (ot_7 ht) hq9) (fun hq9 => ?_)
          refine jv_iload2 dX5_says_12 ?_
          refine jv_i2l dX5_says_13 rfl ?_
          refine jv_lconst dX5_says_14 (v := lN 0) rfl ?_
          refine jv_ldc2 dX5_says_15 cnX5_115 ?_
          refine jv_s31 dX5_says_18 okX5_in stX5_in mlX5_83 (om_inC _ (a := 0) (b := 5) (by decide) (by decide)) (by decide) (Nat.le_of_ble_eq_true rfl) ?_
          refine jv_if_neB dX5_says_21 (tgt := 31) (by decide) (fun hq21 => ?_) (fun hq21 => absurd (by omega) hq21)
          refine jv_aload0 dX5_says_31 ?_
          refine jv_getR dX5_says_32 flX5_7 rfl (mk h.g) (mr_shelf h.g) ?_
          refine jv_iload1 dX5_says_35 ?_
          refine jv_ialdN dX5_says_36 (mk_shelf h.g) (by omega) (by decide) ((nr_tag h.s ht).trans (by rw [h2s])) ?_
          refine jv_iconst dX5_says_37 jv_c_iconst_1 ?_
          refine jv_icmp_eqN dX5_says_38 (tgt := 69) (by decide) (by omega) (by omega) (fun h38 => by omega) (fun h38 => ?_)
          refine jv_aload0 dX5_says_41 ?_
          refine jv_getR dX5_says_42 flX5_7 rfl (mk h.g) (mr_shelf h.g) ?_
          refine jv_iload1 dX5_says_45 ?_
          refine jv_ialdN dX5_says_46 (mk_shelf h.g) (by omega) (by decide) ((nr_tag h.s ht).trans (by rw [h2s])) ?_
          refine jv_iconst dX5_says_47 jv_c_iconst_2 ?_
          refine jv_icmp_neN dX5_says_48 (tgt := 76) (by decide) (by omega) (by omega) (fun h48 => by omega) (fun h48 => ?_)
          refine jv_aload0 dX5_says_51 ?_
          refine jv_getR dX5_says_52 flX5_46 rfl (mk h.g) (mr_kind h.g) ?_
          refine jv_aload0 dX5_says_55 ?_
          refine jv_getR dX5_says_56 flX5_28 rfl (mk h.g) (mr_shown h.g) ?_
          refine jv_iload1 dX5_says_59 ?_
          refine jv_ialdN dX5_says_60 (mk_shown h.g) (by omega) (by decide) (nr_shown h.s ht h2s) ?_
          refine jv_ialdN dX5_says_61 (mk_kind h.g) (by omega) (by decide) (me_kind h.r hk) ?_
          refine jv_iload2 dX5_says_62 ?_
          refine jv_s21 dX5_says_63 okX5_isUnder stX5_isUnder mlX5_117 (om_isUnder hq.1 (by omega)) (by decide) (Nat.le_of_ble_eq_true rfl) ?_
          refine jv_if_neB dX5_says_66 (tgt := 76) (by decide) (fun h66 => ?_) (fun h66 => absurd hun h66)
          refine jv_aload0 dX5_says_76 ?_
          refine jv_getR dX5_says_77 flX5_7 rfl (mk h.g) (mr_shelf h.g) ?_
          refine jv_iload1 dX5_says_80 ?_
          refine jv_ialdN dX5_says_81 (mk_shelf h.g) (by omega) (by decide) ((nr_tag h.s ht).trans (by rw [h2s])) ?_
          refine jv_if_neN dX5_says_82 (tgt := 92) (by decide) (by omega) (fun h82 => ?_) (fun h82 => by omega)
          refine jv_aload0 dX5_says_92 ?_
          refine jv_getR dX5_says_93 flX5_28 rfl (mk h.g) (mr_shown h.g) ?_
          refine jv_iload1 dX5_says_96 ?_
          refine jv_ialdN dX5_says_97 (mk_shown h.g) (by omega) (by decide) (nr_shown h.s ht h2s) ?_
          refine jv_istore3 dX5_says_98 rfl ?_
          refine jv_iload2 dX5_says_99 ?_
          refine jv_tableIn dX5_says_100 (off := 43) (tgt := 143) (by decide) (by decide) (by decide) (by decide) ?_
          refine jv_aload0 dX5_says_143 ?_
          refine jv_getI dX5_says_144 flX5_80 rfl (mk h.g) (mi_children h.r) ?_
          refine jv_if_neN dX5_says_147 (tgt := 154) (by decide) (by omega) (fun h147 => ?_) (fun h147 => ?_)
          · refine jv_aload0 dX5_says_154 ?_
            refine jv_iload3 dX5_says_155 ?_
            refine jv_iconst dX5_says_156 jv_c_iconst_0 ?_
            refine jv_v21 dX5_says_157 okX5_teamAt inX5_teamAt seX5_teamAt mlX5_121 (ci := 5) (T := TX5) (N := 35) rfl (mk h.g) (om_teamAt h.g h.r h.w hk (show 0 < Y 10 0 by omega)) (by decide) (Nat.le_of_ble_eq_true rfl) ?_
            exact jv_iret dX5_says_160 rfl rfl (by unfold ot_say; rw [if_neg (by decide), if_pos rfl, if_neg h147]; rfl) rfl rfl
          · refine jv_iconst dX5_says_150 jv_c_iconst_m1 ?_
            refine jv_goto dX5_says_151 (tgt := 160) (by decide) ?_
            exact jv_iret dX5_says_160 rfl rfl (by unfold ot_say; rw [if_neg (by decide), if_pos rfl, if_pos h147]; rfl) rfl rfl
        · refine jv_iload1 dX5_says_0 ?_
          refine jv_i2l dX5_says_1 rfl ?_
          refine jv_lconst dX5_says_2 (v := lN 0) rfl ?_
          refine jv_ldc2 dX5_says_3 cnX5_98 ?_
          refine jv_s31 dX5_says_6 okX5_in stX5_in mlX5_83 (om_inC _ (a := 0) (b := 7) (by decide) (by decide)) (by decide) (Nat.le_of_ble_eq_true rfl) ?_
          refine jv_if_eqB dX5_says_9 (tgt := 24) (by decide) (fun hq9 => absurd (ot_7 ht) hq9) (fun hq9 => ?_)
          refine jv_iload2 dX5_says_12 ?_
          refine jv_i2l dX5_says_13 rfl ?_
          refine jv_lconst dX5_says_14 (v := lN 0) rfl ?_
          refine jv_ldc2 dX5_says_15 cnX5_115 ?_
          refine jv_s31 dX5_says_18 okX5_in stX5_in mlX5_83 (om_inC _ (a := 0) (b := 5) (by decide) (by decide)) (by decide) (Nat.le_of_ble_eq_true rfl) ?_
          refine jv_if_neB dX5_says_21 (tgt := 31) (by decide) (fun hq21 => ?_) (fun hq21 => absurd (by omega) hq21)
          refine jv_aload0 dX5_says_31 ?_
          refine jv_getR dX5_says_32 flX5_7 rfl (mk h.g) (mr_shelf h.g) ?_
          refine jv_iload1 dX5_says_35 ?_
          refine jv_ialdN dX5_says_36 (mk_shelf h.g) (by omega) (by decide) ((nr_tag h.s ht).trans (by rw [h2s])) ?_
          refine jv_iconst dX5_says_37 jv_c_iconst_1 ?_
          refine jv_icmp_eqN dX5_says_38 (tgt := 69) (by decide) (by omega) (by omega) (fun h38 => by omega) (fun h38 => ?_)
          refine jv_aload0 dX5_says_41 ?_
          refine jv_getR dX5_says_42 flX5_7 rfl (mk h.g) (mr_shelf h.g) ?_
          refine jv_iload1 dX5_says_45 ?_
          refine jv_ialdN dX5_says_46 (mk_shelf h.g) (by omega) (by decide) ((nr_tag h.s ht).trans (by rw [h2s])) ?_
          refine jv_iconst dX5_says_47 jv_c_iconst_2 ?_
          refine jv_icmp_neN dX5_says_48 (tgt := 76) (by decide) (by omega) (by omega) (fun h48 => by omega) (fun h48 => ?_)
          refine jv_aload0 dX5_says_51 ?_
          refine jv_getR dX5_says_52 flX5_46 rfl (mk h.g) (mr_kind h.g) ?_
          refine jv_aload0 dX5_says_55 ?_
          refine jv_getR dX5_says_56 flX5_28 rfl (mk h.g) (mr_shown h.g) ?_
          refine jv_iload1 dX5_says_59 ?_
          refine jv_ialdN dX5_says_60 (mk_shown h.g) (by omega) (by decide) (nr_shown h.s ht h2s) ?_
          refine jv_ialdN dX5_says_61 (mk_kind h.g) (by omega) (by decide) (me_kind h.r hk) ?_
          refine jv_iload2 dX5_says_62 ?_
          refine jv_s21 dX5_says_63 okX5_isUnder stX5_isUnder mlX5_117 (om_isUnder hq.1 (by omega)) (by decide) (Nat.le_of_ble_eq_true rfl) ?_
          refine jv_if_neB dX5_says_66 (tgt := 76) (by decide) (fun h66 => ?_) (fun h66 => absurd hun h66)
          refine jv_aload0 dX5_says_76 ?_
          refine jv_getR dX5_says_77 flX5_7 rfl (mk h.g) (mr_shelf h.g) ?_
          refine jv_iload1 dX5_says_80 ?_
          refine jv_ialdN dX5_says_81 (mk_shelf h.g) (by omega) (by decide) ((nr_tag h.s ht).trans (by rw [h2s])) ?_
          refine jv_if_neN dX5_says_82 (tgt := 92) (by decide) (by omega) (fun h82 => ?_) (fun h82 => by omega)
          refine jv_aload0 dX5_says_92 ?_
          refine jv_getR dX5_says_93 flX5_28 rfl (mk h.g) (mr_shown h.g) ?_
          refine jv_iload1 dX5_says_96 ?_
          refine jv_ialdN dX5_says_97 (mk_shown h.g) (by omega) (by decide) (nr_shown h.s ht h2s) ?_
          refine jv_istore3 dX5_says_98 rfl ?_
          refine jv_iload2 dX5_says_99 ?_
          refine jv_tableIn dX5_says_100 (off := 61) (tgt := 161) (by decide) (by decide) (by decide) (by decide) ?_
          refine jv_aload0 dX5_says_161 ?_
          refine jv_getI dX5_says_162 flX5_80 rfl (mk h.g) (mi_children h.r) ?_
          refine jv_iconst dX5_says_165 jv_c_iconst_1 ?_
          refine jv_iaddN dX5_says_166 ?_
          refine jv_iconst dX5_says_167 jv_c_iconst_2 ?_
          refine jv_idivN dX5_says_168 (by omega) (by omega) (by omega) ?_
          exact jv_iret dX5_says_169 rfl rfl (by unfold ot_say; rw [if_neg (by decide), if_neg (by decide), if_pos rfl]; rfl) rfl rfl
        · refine jv_iload1 dX5_says_0 ?_
          refine jv_i2l dX5_says_1 rfl ?_
          refine jv_lconst dX5_says_2 (v := lN 0) rfl ?_
          refine jv_ldc2 dX5_says_3 cnX5_98 ?_
          refine jv_s31 dX5_says_6 okX5_in stX5_in mlX5_83 (om_inC _ (a := 0) (b := 7) (by decide) (by decide)) (by decide) (Nat.le_of_ble_eq_true rfl) ?_
          refine jv_if_eqB dX5_says_9 (tgt := 24) (by decide) (fun hq9 => absurd (ot_7 ht) hq9) (fun hq9 => ?_)
          refine jv_iload2 dX5_says_12 ?_
          refine jv_i2l dX5_says_13 rfl ?_
          refine jv_lconst dX5_says_14 (v := lN 0) rfl ?_
          refine jv_ldc2 dX5_says_15 cnX5_115 ?_
          refine jv_s31 dX5_says_18 okX5_in stX5_in mlX5_83 (om_inC _ (a := 0) (b := 5) (by decide) (by decide)) (by decide) (Nat.le_of_ble_eq_true rfl) ?_
          refine jv_if_neB dX5_says_21 (tgt := 31) (by decide) (fun hq21 => ?_) (fun hq21 => absurd (by omega) hq21)
          refine jv_aload0 dX5_says_31 ?_
          refine jv_getR dX5_says_32 flX5_7 rfl (mk h.g) (mr_shelf h.g) ?_
          refine jv_iload1 dX5_says_35 ?_
          refine jv_ialdN dX5_says_36 (mk_shelf h.g) (by omega) (by decide) ((nr_tag h.s ht).trans (by rw [h2s])) ?_
          refine jv_iconst dX5_says_37 jv_c_iconst_1 ?_
          refine jv_icmp_eqN dX5_says_38 (tgt := 69) (by decide) (by omega) (by omega) (fun h38 => by omega) (fun h38 => ?_)
          refine jv_aload0 dX5_says_41 ?_
          refine jv_getR dX5_says_42 flX5_7 rfl (mk h.g) (mr_shelf h.g) ?_
          refine jv_iload1 dX5_says_45 ?_
          refine jv_ialdN dX5_says_46 (mk_shelf h.g) (by omega) (by decide) ((nr_tag h.s ht).trans (by rw [h2s])) ?_
          refine jv_iconst dX5_says_47 jv_c_iconst_2 ?_
          refine jv_icmp_neN dX5_says_48 (tgt := 76) (by decide) (by omega) (by omega) (fun h48 => by omega) (fun h48 => ?_)
          refine jv_aload0 dX5_says_51 ?_
          refine jv_getR dX5_says_52 flX5_46 rfl (mk h.g) (mr_kind h.g) ?_
          refine jv_aload0 dX5_says_55 ?_
          refine jv_getR dX5_says_56 flX5_28 rfl (mk h.g) (mr_shown h.g) ?_
          refine jv_iload1 dX5_says_59 ?_
          refine jv_ialdN dX5_says_60 (mk_shown h.g) (by omega) (by decide) (nr_shown h.s ht h2s) ?_
          refine jv_ialdN dX5_says_61 (mk_kind h.g) (by omega) (by decide) (me_kind h.r hk) ?_
          refine jv_iload2 dX5_says_62 ?_
          refine jv_s21 dX5_says_63 okX5_isUnder stX5_isUnder mlX5_117 (om_isUnder hq.1 (by omega)) (by decide) (Nat.le_of_ble_eq_true rfl) ?_
          refine jv_if_neB dX5_says_66 (tgt := 76) (by decide) (fun h66 => ?_) (fun h66 => absurd hun h66)
          refine jv_aload0 dX5_says_76 ?_
          refine jv_getR dX5_says_77 flX5_7 rfl (mk h.g) (mr_shelf h.g) ?_
          refine jv_iload1 dX5_says_80 ?_
          refine jv_ialdN dX5_says_81 (mk_shelf h.g) (by omega) (by decide) ((nr_tag h.s ht).trans (by rw [h2s])) ?_
          refine jv_if_neN dX5_says_82 (tgt := 92) (by decide) (by omega) (fun h82 => ?_) (fun h82 => by omega)
          refine jv_aload0 dX5_says_92 ?_
          refine jv_getR dX5_says_93 flX5_28 rfl (mk h.g) (mr_shown h.g) ?_
          refine jv_iload1 dX5_says_96 ?_
          refine jv_ialdN dX5_says_97 (mk_shown h.g) (by omega) (by decide) (nr_shown h.s ht h2s) ?_
          refine jv_istore3 dX5_says_98 rfl ?_
          refine jv_iload2 dX5_says_99 ?_
          refine jv_tableIn dX5_says_100 (off := 93) (tgt := 193) (by decide) (by decide) (by decide) (by decide) ?_
          refine jv_aload0 dX5_says_193 ?_
          refine jv_getR dX5_says_194 flX5_52 rfl (mk h.g) (mr_slips h.g) ?_
          refine jv_iload3 dX5_says_197 ?_
          refine jv_ialdN dX5_says_198 (mk_slips h.g) (by omega) (by decide) (me_slips h.r (by omega)) ?_
          refine jv_i2l dX5_says_199 rfl ?_
          refine jv_lconst dX5_says_200 (v := lN 1) rfl ?_
          refine jv_aload0 dX5_says_201 ?_
          refine jv_getI dX5_says_202 flX5_80 rfl (mk h.g) (mi_children h.r) ?_
          refine jv_iconst dX5_says_205 jv_c_iconst_1 ?_
          refine jv_isub dX5_says_206 ?_
          refine jv_i2l dX5_says_207 rfl ?_
          refine jv_s31 dX5_says_208 okX5_in stX5_in mlX5_83 (om_in _ _ _) (by decide) (Nat.le_of_ble_eq_true rfl) ?_
          refine jv_if_eqB dX5_says_211 (tgt := 218) (by decide) (fun h211 => ?_) (fun h211 => ?_)
          · rw [ot_inI, lN_toInt (by decide), Int32.toInt_toInt64, e0, nI_toInt (show Y 5 (Z 3 t) < 2 ^ 31 by omega)] at h211
            refine jv_iconst dX5_says_218 jv_c_iconst_0 ?_
            exact jv_iret dX5_says_219 rfl rfl (by unfold ot_say; rw [if_neg (by decide), if_neg (by decide), if_neg (by decide), if_neg (by decide)]; exact ot_b0 (by omega)) rfl rfl
          · rw [ot_inI, lN_toInt (by decide), Int32.toInt_toInt64, e0, nI_toInt (show Y 5 (Z 3 t) < 2 ^ 31 by omega)] at h211
            refine jv_iconst dX5_says_214 jv_c_iconst_1 ?_
            refine jv_goto dX5_says_215 (tgt := 219) (by decide) ?_
            exact jv_iret dX5_says_219 rfl rfl (by unfold ot_say; rw [if_neg (by decide), if_neg (by decide), if_neg (by decide), if_neg (by decide)]; exact ot_b1 (by omega)) rfl rfl
        · refine jv_iload1 dX5_says_0 ?_
          refine jv_i2l dX5_says_1 rfl ?_
          refine jv_lconst dX5_says_2 (v := lN 0) rfl ?_
          refine jv_ldc2 dX5_says_3 cnX5_98 ?_
          refine jv_s31 dX5_says_6 okX5_in stX5_in mlX5_83 (om_inC _ (a := 0) (b := 7) (by decide) (by decide)) (by decide) (Nat.le_of_ble_eq_true rfl) ?_
          refine jv_if_eqB dX5_says_9 (tgt := 24) (by decide) (fun hq9 => absurd (ot_7 ht) hq9) (fun hq9 => ?_)
          refine jv_iload2 dX5_says_12 ?_
          refine jv_i2l dX5_says_13 rfl ?_
          refine jv_lconst dX5_says_14 (v := lN 0) rfl ?_
          refine jv_ldc2 dX5_says_15 cnX5_115 ?_
          refine jv_s31 dX5_says_18 okX5_in stX5_in mlX5_83 (om_inC _ (a := 0) (b := 5) (by decide) (by decide)) (by decide) (Nat.le_of_ble_eq_true rfl) ?_
          refine jv_if_neB dX5_says_21 (tgt := 31) (by decide) (fun hq21 => ?_) (fun hq21 => absurd (by omega) hq21)
          refine jv_aload0 dX5_says_31 ?_
          refine jv_getR dX5_says_32 flX5_7 rfl (mk h.g) (mr_shelf h.g) ?_
          refine jv_iload1 dX5_says_35 ?_
          refine jv_ialdN dX5_says_36 (mk_shelf h.g) (by omega) (by decide) ((nr_tag h.s ht).trans (by rw [h2s])) ?_
          refine jv_iconst dX5_says_37 jv_c_iconst_1 ?_
          refine jv_icmp_eqN dX5_says_38 (tgt := 69) (by decide) (by omega) (by omega) (fun h38 => by omega) (fun h38 => ?_)
          refine jv_aload0 dX5_says_41 ?_
          refine jv_getR dX5_says_42 flX5_7 rfl (mk h.g) (mr_shelf h.g) ?_
          refine jv_iload1 dX5_says_45 ?_
          refine jv_ialdN dX5_says_46 (mk_shelf h.g) (by omega) (by decide) ((nr_tag h.s ht).trans (by rw [h2s])) ?_
          refine jv_iconst dX5_says_47 jv_c_iconst_2 ?_
          refine jv_icmp_neN dX5_says_48 (tgt := 76) (by decide) (by omega) (by omega) (fun h48 => by omega) (fun h48 => ?_)
          refine jv_aload0 dX5_says_51 ?_
          refine jv_getR dX5_says_52 flX5_46 rfl (mk h.g) (mr_kind h.g) ?_
          refine jv_aload0 dX5_says_55 ?_
          refine jv_getR dX5_says_56 flX5_28 rfl (mk h.g) (mr_shown h.g) ?_
          refine jv_iload1 dX5_says_59 ?_
          refine jv_ialdN dX5_says_60 (mk_shown h.g) (by omega) (by decide) (nr_shown h.s ht h2s) ?_
          refine jv_ialdN dX5_says_61 (mk_kind h.g) (by omega) (by decide) (me_kind h.r hk) ?_
          refine jv_iload2 dX5_says_62 ?_
          refine jv_s21 dX5_says_63 okX5_isUnder stX5_isUnder mlX5_117 (om_isUnder hq.1 (by omega)) (by decide) (Nat.le_of_ble_eq_true rfl) ?_
          refine jv_if_neB dX5_says_66 (tgt := 76) (by decide) (fun h66 => ?_) (fun h66 => absurd hun h66)
          refine jv_aload0 dX5_says_76 ?_
          refine jv_getR dX5_says_77 flX5_7 rfl (mk h.g) (mr_shelf h.g) ?_
          refine jv_iload1 dX5_says_80 ?_
          refine jv_ialdN dX5_says_81 (mk_shelf h.g) (by omega) (by decide) ((nr_tag h.s ht).trans (by rw [h2s])) ?_
          refine jv_if_neN dX5_says_82 (tgt := 92) (by decide) (by omega) (fun h82 => ?_) (fun h82 => by omega)
          refine jv_aload0 dX5_says_92 ?_
          refine jv_getR dX5_says_93 flX5_28 rfl (mk h.g) (mr_shown h.g) ?_
          refine jv_iload1 dX5_says_96 ?_
          refine jv_ialdN dX5_says_97 (mk_shown h.g) (by omega) (by decide) (nr_shown h.s ht h2s) ?_
          refine jv_istore3 dX5_says_98 rfl ?_
          refine jv_iload2 dX5_says_99 ?_
          refine jv_tableIn dX5_says_100 (off := 70) (tgt := 170) (by decide) (by decide) (by decide) (by decide) ?_
          refine jv_aload0 dX5_says_170 ?_
          refine jv_getI dX5_says_171 flX5_80 rfl (mk h.g) (mi_children h.r) ?_
          refine jv_if_neN dX5_says_174 (tgt := 181) (by decide) (by omega) (fun h174 => ?_) (fun h174 => ?_)
          · refine jv_aload0 dX5_says_181 ?_
            refine jv_iload3 dX5_says_182 ?_
            refine jv_aload0 dX5_says_183 ?_
            refine jv_getI dX5_says_184 flX5_80 rfl (mk h.g) (mi_children h.r) ?_
            refine jv_iconst dX5_says_187 jv_c_iconst_1 ?_
            refine jv_isubN dX5_says_188 (by omega) ?_
            refine jv_v21 dX5_says_189 okX5_teamAt inX5_teamAt seX5_teamAt mlX5_121 (ci := 5) (T := TX5) (N := 35) rfl (mk h.g) (om_teamAt h.g h.r h.w hk (show Y 10 0 - 1 < Y 10 0 by omega)) (by decide) (Nat.le_of_ble_eq_true rfl) ?_
            exact jv_iret dX5_says_192 rfl rfl (by unfold ot_say; rw [if_neg (by decide), if_neg (by decide), if_neg (by decide), if_pos rfl, if_neg h174]; rfl) rfl rfl
          · refine jv_iconst dX5_says_177 jv_c_iconst_m1 ?_
            refine jv_goto dX5_says_178 (tgt := 192) (by decide) ?_
            exact jv_iret dX5_says_192 rfl rfl (by unfold ot_say; rw [if_neg (by decide), if_neg (by decide), if_neg (by decide), if_pos rfl, if_pos h174]; rfl) rfl rfl
        · refine jv_iload1 dX5_says_0 ?_
          refine jv_i2l dX5_says_1 rfl ?_
          refine jv_lconst dX5_says_2 (v := lN 0) rfl ?_
          refine jv_ldc2 dX5_says_3 cnX5_98 ?_
          refine jv_s31 dX5_says_6 okX5_in stX5_in mlX5_83 (om_inC _ (a := 0) (b := 7) (by decide) (by decide)) (by decide) (Nat.le_of_ble_eq_true rfl) ?_
          refine jv_if_eqB dX5_says_9 (tgt := 24) (by decide) (fun hq9 => absurd (ot_7 ht) hq9) (fun hq9 => ?_)
          refine jv_iload2 dX5_says_12 ?_
          refine jv_i2l dX5_says_13 rfl ?_
          refine jv_lconst dX5_says_14 (v := lN 0) rfl ?_
          refine jv_ldc2 dX5_says_15 cnX5_115 ?_
          refine jv_s31 dX5_says_18 okX5_in stX5_in mlX5_83 (om_inC _ (a := 0) (b := 5) (by decide) (by decide)) (by decide) (Nat.le_of_ble_eq_true rfl) ?_
          refine jv_if_neB dX5_says_21 (tgt := 31) (by decide) (fun hq21 => ?_) (fun hq21 => absurd (by omega) hq21)
          refine jv_aload0 dX5_says_31 ?_
          refine jv_getR dX5_says_32 flX5_7 rfl (mk h.g) (mr_shelf h.g) ?_
          refine jv_iload1 dX5_says_35 ?_
          refine jv_ialdN dX5_says_36 (mk_shelf h.g) (by omega) (by decide) ((nr_tag h.s ht).trans (by rw [h2s])) ?_
          refine jv_iconst dX5_says_37 jv_c_iconst_1 ?_
          refine jv_icmp_eqN dX5_says_38 (tgt := 69) (by decide) (by omega) (by omega) (fun h38 => by omega) (fun h38 => ?_)
          refine jv_aload0 dX5_says_41 ?_
          refine jv_getR dX5_says_42 flX5_7 rfl (mk h.g) (mr_shelf h.g) ?_
          refine jv_iload1 dX5_says_45 ?_
          refine jv_ialdN dX5_says_46 (mk_shelf h.g) (by omega) (by decide) ((nr_tag h.s ht).trans (by rw [h2s])) ?_
          refine jv_iconst dX5_says_47 jv_c_iconst_2 ?_
          refine jv_icmp_neN dX5_says_48 (tgt := 76) (by decide) (by omega) (by omega) (fun h48 => by omega) (fun h48 => ?_)
          refine jv_aload0 dX5_says_51 ?_
          refine jv_getR dX5_says_52 flX5_46 rfl (mk h.g) (mr_kind h.g) ?_
          refine jv_aload0 dX5_says_55 ?_
          refine jv_getR dX5_says_56 flX5_28 rfl (mk h.g) (mr_shown h.g) ?_
          refine jv_iload1 dX5_says_59 ?_
          refine jv_ialdN dX5_says_60 (mk_shown h.g) (by omega) (by decide) (nr_shown h.s ht h2s) ?_
          refine jv_ialdN dX5_says_61 (mk_kind h.g) (by omega) (by decide) (me_kind h.r hk) ?_
          refine jv_iload2 dX5_says_62 ?_
          refine jv_s21 dX5_says_63 okX5_isUnder stX5_isUnder mlX5_117 (om_isUnder hq.1 (by omega)) (by decide) (Nat.le_of_ble_eq_true rfl) ?_
          refine jv_if_neB dX5_says_66 (tgt := 76) (by decide) (fun h66 => ?_) (fun h66 => absurd hun h66)
          refine jv_aload0 dX5_says_76 ?_
          refine jv_getR dX5_says_77 flX5_7 rfl (mk h.g) (mr_shelf h.g) ?_
          refine jv_iload1 dX5_says_80 ?_
          refine jv_ialdN dX5_says_81 (mk_shelf h.g) (by omega) (by decide) ((nr_tag h.s ht).trans (by rw [h2s])) ?_
          refine jv_if_neN dX5_says_82 (tgt := 92) (by decide) (by omega) (fun h82 => ?_) (fun h82 => by omega)
          refine jv_aload0 dX5_says_92 ?_
          refine jv_getR dX5_says_93 flX5_28 rfl (mk h.g) (mr_shown h.g) ?_
          refine jv_iload1 dX5_says_96 ?_
          refine jv_ialdN dX5_says_97 (mk_shown h.g) (by omega) (by decide) (nr_shown h.s ht h2s) ?_
          refine jv_istore3 dX5_says_98 rfl ?_
          refine jv_iload2 dX5_says_99 ?_
          refine jv_tableOut dX5_says_100 (tgt := 193) (by decide) (by decide) ?_
          refine jv_aload0 dX5_says_193 ?_
          refine jv_getR dX5_says_194 flX5_52 rfl (mk h.g) (mr_slips h.g) ?_
          refine jv_iload3 dX5_says_197 ?_
          refine jv_ialdN dX5_says_198 (mk_slips h.g) (by omega) (by decide) (me_slips h.r (by omega)) ?_
          refine jv_i2l dX5_says_199 rfl ?_
          refine jv_lconst dX5_says_200 (v := lN 1) rfl ?_
          refine jv_aload0 dX5_says_201 ?_
          refine jv_getI dX5_says_202 flX5_80 rfl (mk h.g) (mi_children h.r) ?_
          refine jv_iconst dX5_says_205 jv_c_iconst_1 ?_
          refine jv_isub dX5_says_206 ?_
          refine jv_i2l dX5_says_207 rfl ?_
          refine jv_s31 dX5_says_208 okX5_in stX5_in mlX5_83 (om_in _ _ _) (by decide) (Nat.le_of_ble_eq_true rfl) ?_
          refine jv_if_eqB dX5_says_211 (tgt := 218) (by decide) (fun h211 => ?_) (fun h211 => ?_)
          · rw [ot_inI, lN_toInt (by decide), Int32.toInt_toInt64, e0, nI_toInt (show Y 5 (Z 3 t) < 2 ^ 31 by omega)] at h211
            refine jv_iconst dX5_says_218 jv_c_iconst_0 ?_
            exact jv_iret dX5_says_219 rfl rfl (by unfold ot_say; rw [if_neg (by decide), if_neg (by decide), if_neg (by decide), if_neg (by decide)]; exact ot_b0 (by omega)) rfl rfl
          · rw [ot_inI, lN_toInt (by decide), Int32.toInt_toInt64, e0, nI_toInt (show Y 5 (Z 3 t) < 2 ^ 31 by omega)] at h211
            refine jv_iconst dX5_says_214 jv_c_iconst_1 ?_
            refine jv_goto dX5_says_215 (tgt := 219) (by decide) ?_
            exact jv_iret dX5_says_219 rfl rfl (by unfold ot_say; rw [if_neg (by decide), if_neg (by decide), if_neg (by decide), if_neg (by decide)]; exact ot_b1 (by omega)) rfl rfl
      · rw [if_neg hun]
        obtain ⟨I2, hC, h2, h3⟩ := om_refuse3 h
        refine ⟨G, I2, J, ?_, h2, h3, ot_gx.rf⟩
        refine jv_enter okX5_says (L := [.ref 64, .int (nI t), .int (nI u), .null]) rfl (Nat.le_of_ble_eq_true rfl) ?_
        refine jv_iload1 dX5_says_0 ?_
        refine jv_i2l dX5_says_1 rfl ?_
        refine jv_lconst dX5_says_2 (v := lN 0) rfl ?_
        refine jv_ldc2 dX5_says_3 cnX5_98 ?_
        refine jv_s31 dX5_says_6 okX5_in stX5_in mlX5_83 (om_inC _ (a := 0) (b := 7) (by decide) (by decide)) (by decide) (Nat.le_of_ble_eq_true rfl) ?_
        refine jv_if_eqB dX5_says_9 (tgt := 24) (by decide) (fun hq9 => absurd (ot_7 ht) hq9) (fun hq9 => ?_)
        refine jv_iload2 dX5_says_12 ?_
        refine jv_i2l dX5_says_13 rfl ?_
        refine jv_lconst dX5_says_14 (v := lN 0) rfl ?_
        refine jv_ldc2 dX5_says_15 cnX5_115 ?_
        refine jv_s31 dX5_says_18 okX5_in stX5_in mlX5_83 (om_inC _ (a := 0) (b := 5) (by decide) (by decide)) (by decide) (Nat.le_of_ble_eq_true rfl) ?_
        refine jv_if_neB dX5_says_21 (tgt := 31) (by decide) (fun hq21 => ?_) (fun hq21 => absurd (by omega) hq21)
        refine jv_aload0 dX5_says_31 ?_
        refine jv_getR dX5_says_32 flX5_7 rfl (mk h.g) (mr_shelf h.g) ?_
        refine jv_iload1 dX5_says_35 ?_
        refine jv_ialdN dX5_says_36 (mk_shelf h.g) (by omega) (by decide) ((nr_tag h.s ht).trans (by rw [h2s])) ?_
        refine jv_iconst dX5_says_37 jv_c_iconst_1 ?_
        refine jv_icmp_eqN dX5_says_38 (tgt := 69) (by decide) (by omega) (by omega) (fun h38 => by omega) (fun h38 => ?_)
        refine jv_aload0 dX5_says_41 ?_
        refine jv_getR dX5_says_42 flX5_7 rfl (mk h.g) (mr_shelf h.g) ?_
        refine jv_iload1 dX5_says_45 ?_
        refine jv_ialdN dX5_says_46 (mk_shelf h.g) (by omega) (by decide) ((nr_tag h.s ht).trans (by rw [h2s])) ?_
        refine jv_iconst dX5_says_47 jv_c_iconst_2 ?_
        refine jv_icmp_neN dX5_says_48 (tgt := 76) (by decide) (by omega) (by omega) (fun h48 => by omega) (fun h48 => ?_)
        refine jv_aload0 dX5_says_51 ?_
        refine jv_getR dX5_says_52 flX5_46 rfl (mk h.g) (mr_kind h.g) ?_
        refine jv_aload0 dX5_says_55 ?_
        refine jv_getR dX5_says_56 flX5_28 rfl (mk h.g) (mr_shown h.g) ?_
        refine jv_iload1 dX5_says_59 ?_
        refine jv_ialdN dX5_says_60 (mk_shown h.g) (by omega) (by decide) (nr_shown h.s ht h2s) ?_
        refine jv_ialdN dX5_says_61 (mk_kind h.g) (by omega) (by decide) (me_kind h.r hk) ?_
        refine jv_iload2 dX5_says_62 ?_
        refine jv_s21 dX5_says_63 okX5_isUnder stX5_isUnder mlX5_117 (om_isUnder hq.1 (by omega)) (by decide) (Nat.le_of_ble_eq_true rfl) ?_
        refine jv_if_neB dX5_says_66 (tgt := 76) (by decide) (fun h66 => absurd h66 hun) (fun h66 => ?_)
        refine jv_aload0 dX5_says_69 ?_
        refine jv_bipush dX5_says_70 jv_c_bipush_m3 ?_
        refine jv_v11 dX5_says_72 okX5_refuse inX5_refuse seX5_refuse mlX5_104 (ci := 5) (T := TX5) (N := 35) rfl (mk h.g) hC (by decide) (Nat.le_of_ble_eq_true rfl) ?_
        exact jv_iret dX5_says_75 rfl rfl rfl rfl rfl
  · rw [if_neg hv]
    obtain ⟨I2, hC, h2, h3⟩ := om_refuse2 h
    refine ⟨G, I2, J, ?_, h2, h3, ot_gx.rf⟩
    refine jv_enter okX5_says (L := [.ref 64, .int s, .int w, .null]) rfl (Nat.le_of_ble_eq_true rfl) ?_
    refine jv_iload1 dX5_says_0 ?_
    refine jv_i2l dX5_says_1 rfl ?_
    refine jv_lconst dX5_says_2 (v := lN 0) rfl ?_
    refine jv_ldc2 dX5_says_3 cnX5_98 ?_
    refine jv_s31 dX5_says_6 okX5_in stX5_in mlX5_83 (om_inC _ (a := 0) (b := 7) (by decide) (by decide)) (by decide) (Nat.le_of_ble_eq_true rfl) ?_
    refine jv_if_eqB dX5_says_9 (tgt := 24) (by decide) (fun g9 => ?_) (fun g9 => ?_)
    · refine jv_aload0 dX5_says_24 ?_
      refine jv_bipush dX5_says_25 jv_c_bipush_m2 ?_
      refine jv_v11 dX5_says_27 okX5_refuse inX5_refuse seX5_refuse mlX5_104 (ci := 5) (T := TX5) (N := 35) rfl (mk h.g) hC (by decide) (Nat.le_of_ble_eq_true rfl) ?_
      exact jv_iret dX5_says_30 rfl rfl rfl rfl rfl
    · refine jv_iload2 dX5_says_12 ?_
      refine jv_i2l dX5_says_13 rfl ?_
      refine jv_lconst dX5_says_14 (v := lN 0) rfl ?_
      refine jv_ldc2 dX5_says_15 cnX5_115 ?_
      refine jv_s31 dX5_says_18 okX5_in stX5_in mlX5_83 (om_inC _ (a := 0) (b := 5) (by decide) (by decide)) (by decide) (Nat.le_of_ble_eq_true rfl) ?_
      refine jv_if_neB dX5_says_21 (tgt := 31) (by decide) (fun g21 => ?_) (fun g21 => ?_)
      · exact absurd ⟨⟨g9.1, by omega⟩, by omega⟩ hv
      · refine jv_aload0 dX5_says_24 ?_
        refine jv_bipush dX5_says_25 jv_c_bipush_m2 ?_
        refine jv_v11 dX5_says_27 okX5_refuse inX5_refuse seX5_refuse mlX5_104 (ci := 5) (T := TX5) (N := 35) rfl (mk h.g) hC (by decide) (Nat.le_of_ble_eq_true rfl) ?_
        exact jv_iret dX5_says_30 rfl rfl rfl rfl rfl
