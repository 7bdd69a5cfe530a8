/-! ===== the face: group 8 (shelves) ===== -/
theorem oc_isShelfN {G : jv_Gr} {I : jv_I} {J : jv_J} {t : Nat} (ht : t < 8) : jv_C 2 mX4_isShelf [.int (nI t)] G I J (some (.int (jv_b True))) G I J := by
  have q := ot_isShelf (G := G) (I := I) (J := J) (nI t)
  rw [jv_b_iff (show _ ↔ True from iff_true_intro (by rw [nI_toInt (by omega)]; omega))] at q
  exact q
set_option maxRecDepth 20000 in
theorem oc_takeNothing {G : jv_Gr} {I : jv_I} {J : jv_J} {Y Z : ot_Y} {E : ot_E} {K : Option ot_Y} (h : ot_C G I J Y Z E K) {s : Nat} (hs : s < 8) : jv_C 1 mX1_takeNothing [.ref (48 + 2 * s)] G I J none G (jv_up (jv_up I (48 + 2 * s) 0 (-1)) (48 + 2 * s) 1 (nI 0)) J := by
  refine jv_enter okX1_takeNothing (L := [.ref (48 + 2 * s)]) rfl (Nat.le_of_ble_eq_true rfl) ?_
  refine jv_aload0 dX1_takeNothing_0 ?_
  refine jv_iconst dX1_takeNothing_1 jv_c_iconst_m1 ?_
  refine jv_putI dX1_takeNothing_2 flX1_9 rfl (sk h.g hs) rfl rfl ?_
  refine jv_aload0 dX1_takeNothing_5 ?_
  refine jv_iconst dX1_takeNothing_6 jv_c_iconst_0 ?_
  refine jv_putI dX1_takeNothing_7 flX1_15 rfl (sk h.g hs) rfl rfl ?_
  exact jv_vret dX1_takeNothing_10 rfl rfl rfl rfl
set_option maxRecDepth 20000 in
theorem oc_takeCount {G : jv_Gr} {I : jv_I} {J : jv_J} {Y Z : ot_Y} {E : ot_E} {K : Option ot_Y} (h : ot_C G I J Y Z E K) {s : Nat} (hs : s < 8) {k : Nat} : jv_C 1 mX1_takeCount [.ref (48 + 2 * s), .int (nI k)] G I J none G (jv_up (jv_up I (48 + 2 * s) 0 (nI (10 + k))) (48 + 2 * s) 1 (nI 0)) J := by
  refine jv_enter okX1_takeCount (L := [.ref (48 + 2 * s), .int (nI k)]) rfl (Nat.le_of_ble_eq_true rfl) ?_
  refine jv_aload0 dX1_takeCount_0 ?_
  refine jv_bipush dX1_takeCount_1 jv_c_bipush_10 ?_
  refine jv_iload1 dX1_takeCount_3 ?_
  refine jv_iaddN dX1_takeCount_4 ?_
  refine jv_putI dX1_takeCount_5 flX1_9 rfl (sk h.g hs) rfl rfl ?_
  refine jv_aload0 dX1_takeCount_8 ?_
  refine jv_iconst dX1_takeCount_9 jv_c_iconst_0 ?_
  refine jv_putI dX1_takeCount_10 flX1_15 rfl (sk h.g hs) rfl rfl ?_
  exact jv_vret dX1_takeCount_13 rfl rfl rfl rfl
def ot_zeros (J : jv_J) (a n : Nat) : jv_J := fun q i => if q = a ∧ i < n then lN 0 else J q i
theorem ot_zeros_0 (J : jv_J) (a : Nat) : ot_zeros J a 0 = J := by funext q i; unfold ot_zeros; rw [if_neg (by omega)]
theorem ot_zeros_s (J : jv_J) (a n : Nat) : jv_up (ot_zeros J a n) a n (lN 0) = ot_zeros J a (n + 1) := by
  funext q i
  unfold ot_zeros
  by_cases e : q = a
  · subst e
    by_cases e2 : i = n
    · subst e2; simp [jv_up]
    · simp only [jv_up, if_pos rfl, if_neg e2]
      by_cases e3 : i < n
      · simp [e3, show i < n + 1 by omega]
      · simp [e3, show ¬ i < n + 1 by omega]
  · simp [jv_up, e]
theorem ot_zeros_ne (J : jv_J) {a n q : Nat} (h : q ≠ a) : ot_zeros J a n q = J q := by funext i; unfold ot_zeros; rw [if_neg (by omega)]
theorem ot_zeros_at (J : jv_J) {a n i : Nat} (h : i < n) : ot_zeros J a n a i = lN 0 := by unfold ot_zeros; rw [if_pos ⟨rfl, h⟩]
set_option maxRecDepth 20000 in
theorem oc_takeRow {G : jv_Gr} {I : jv_I} {J : jv_J} {Y Z : ot_Y} {E : ot_E} {K : Option ot_Y} (h : ot_C G I J Y Z E K) {s : Nat} (hs : s < 8) {k n : Nat} : jv_C 1 mX1_takeRow [.ref (48 + 2 * s), .int (nI k), .int (nI n)] G I J none G (jv_up (jv_up I (48 + 2 * s) 0 (nI k)) (48 + 2 * s) 1 (nI n)) (ot_zeros J (49 + 2 * s) 40) := by
  refine jv_enter okX1_takeRow (L := [.ref (48 + 2 * s), .int (nI k), .int (nI n), .null]) rfl (Nat.le_of_ble_eq_true rfl) ?_
  have loop : ∀ (m i : Nat) , 40 + 1 ≤ i + m → i ≤ 40 → jv_V 1 mX1_takeRow 12 [.ref (48 + 2 * s), .int (nI k), .int (nI n), .int (nI i)] [] G (jv_up (jv_up I (48 + 2 * s) 0 (nI k)) (48 + 2 * s) 1 (nI n)) (ot_zeros J (49 + 2 * s) i) none G (jv_up (jv_up I (48 + 2 * s) 0 (nI k)) (48 + 2 * s) 1 (nI n)) (ot_zeros J (49 + 2 * s) 40) := by
    intro m
    induction m with
    | zero => intro i  h1 h2; omega
    | succ m ih =>
      intro i  h1 h2 
      refine jv_iload3 dX1_takeRow_12 ?_
      refine jv_bipush dX1_takeRow_13 jv_c_bipush_40 ?_
      refine jv_icmp_geN dX1_takeRow_15 (tgt := 31) (by decide) (by omega) (by omega) (fun hc15 => ?_) (fun hc15 => ?_)
      · exact jv_vret dX1_takeRow_31 rfl rfl rfl (by rw [show i = 40 by omega])
      · refine jv_aload0 dX1_takeRow_18 ?_
        refine jv_getR dX1_takeRow_19 flX1_18 rfl (sk h.g hs) (sr_elements h.g hs) ?_
        refine jv_iload3 dX1_takeRow_22 ?_
        refine jv_lconst dX1_takeRow_23 (v := lN 0) rfl ?_
        refine jv_lastN dX1_takeRow_24 (sk_elements h.g hs) (by omega) (by decide) ?_
        refine jv_iinc3N dX1_takeRow_25 rfl ?_
        refine jv_goto dX1_takeRow_28 (tgt := 12) (by decide) ?_
        rw [ot_zeros_s]
        exact ih (i + 1) (by omega) (by omega)
  refine jv_aload0 dX1_takeRow_0 ?_
  refine jv_iload1 dX1_takeRow_1 ?_
  refine jv_putI dX1_takeRow_2 flX1_9 rfl (sk h.g hs) rfl rfl ?_
  refine jv_aload0 dX1_takeRow_5 ?_
  refine jv_iload2 dX1_takeRow_6 ?_
  refine jv_putI dX1_takeRow_7 flX1_15 rfl (sk h.g hs) rfl rfl ?_
  refine jv_iconst dX1_takeRow_10 jv_c_iconst_0 ?_
  refine jv_istore3 dX1_takeRow_11 rfl ?_
  have q := loop 41 0 (by omega) (by omega)
  rw [ot_zeros_0] at q
  exact q
set_option maxRecDepth 20000 in
theorem pc_row {G : jv_Gr} {I : jv_I} {J : jv_J} {Y Z : ot_Y} {E : ot_E} {K : Option ot_Y} (h : ot_C G I J Y Z E K) (s : Int32) (k : Int32) (n : Int32) : ot_cc 8 mX4_row [.ref 1, .int s, .int k, .int n] G I J (ot_ans (ot_rc ((0 ≤ s.toInt ∧ s.toInt < 8) ∧ (0 ≤ k.toInt ∧ k.toInt ≤ 4) ∧ (0 ≤ n.toInt ∧ n.toInt ≤ 40))) (nI 1)) Y (ot_pk (ot_rc ((0 ≤ s.toInt ∧ s.toInt < 8) ∧ (0 ≤ k.toInt ∧ k.toInt ≤ 4) ∧ (0 ≤ n.toInt ∧ n.toInt ≤ 40))) (ot_zs Z (ot_n s) 1 (ot_n k) (ot_n n) 0) (ot_zr Z (ot_rc ((0 ≤ s.toInt ∧ s.toInt < 8) ∧ (0 ≤ k.toInt ∧ k.toInt ≤ 4) ∧ (0 ≤ n.toInt ∧ n.toInt ≤ 40))))) (ot_pk (ot_rc ((0 ≤ s.toInt ∧ s.toInt < 8) ∧ (0 ≤ k.toInt ∧ k.toInt ≤ 4) ∧ (0 ≤ n.toInt ∧ n.toInt ≤ 40))) (ot_es E (ot_n s) (fun _ => lN 0)) E) K := by
  have bn := yw_n h.w
  have bc := yw_c h.w
  have bw := yw_w h.w
  refine ot_rc_split (motive := fun rc => ot_cc 8 mX4_row [.ref 1, .int s, .int k, .int n] G I J (ot_ans rc (nI 1)) Y (ot_pk rc (ot_zs Z (ot_n s) 1 (ot_n k) (ot_n n) 0) (ot_zr Z rc)) (ot_pk rc (ot_es E (ot_n s) (fun _ => lN 0)) E) K) (fun hv => ?_) (fun hv => ?_)
  · obtain ⟨t, ht, rfl⟩ := ot_of (n := 8) hv.1 (by decide)
    rw [ot_n_nI (show t < 2 ^ 30 by omega)]
    obtain ⟨x, hx, rfl⟩ := ot_of (n := 5) (show 0 ≤ k.toInt ∧ k.toInt < ((5 : Nat) : Int) by omega) (by decide)
    rw [ot_n_nI (show x < 2 ^ 30 by omega)]
    have ex := nI_toInt (show x < 2 ^ 31 by omega)
    obtain ⟨z, hz, rfl⟩ := ot_of (n := 41) (show 0 ≤ n.toInt ∧ n.toInt < ((41 : Nat) : Int) by omega) (by decide)
    rw [ot_n_nI (show z < 2 ^ 30 by omega)]
    have ez := nI_toInt (show z < 2 ^ 31 by omega)
    have hs2 := ot_C_shelf (I2 := (jv_up (jv_up I (48 + 2 * t) 0 (nI x)) (48 + 2 * t) 1 (nI z))) (J2 := (ot_zeros J (49 + 2 * t) 40)) (tg := 1) (so := x) (si := z) (sh := 0) (f := fun _ => lN 0) h ht (by decide) (fun _ => by omega) (fun q => absurd q (by decide)) (fun q hq => (jv_up_ne _ _ _ hq).trans (jv_up_ne _ _ _ hq)) (fun q hq => ot_zeros_ne J hq) (by rw [jv_up_at_ne _ _ _ (by decide), jv_up_at, ot_thing_1 ot_zs_0, ot_zs_1]) (by rw [jv_up_at]; unfold ot_slen; rw [ot_zs_0, if_pos rfl, ot_zs_2]) (fun _ i hi => ot_zeros_at J hi)
    refine ⟨(jv_up (jv_up I (48 + 2 * t) 0 (nI x)) (48 + 2 * t) 1 (nI z)), (ot_zeros J (49 + 2 * t) 40), ?_, hs2, fun q hq => ⟨(jv_up_ne _ _ _ (by omega)).trans (jv_up_ne _ _ _ (by omega)), ot_zeros_ne J (by omega)⟩⟩
    refine jv_enter okX4_row (L := [.ref 1, .int (nI t), .int (nI x), .int (nI z)]) rfl (Nat.le_of_ble_eq_true rfl) ?_
    refine jv_iload1 dX4_row_0 ?_
    refine jv_s11 dX4_row_1 okX4_isShelf stX4_isShelf mlX4_53 (ot_isShelf _) (by decide) (Nat.le_of_ble_eq_true rfl) ?_
    refine jv_if_eqB dX4_row_4 (tgt := 26) (by decide) (fun hq4 => absurd hv.1 hq4) (fun hq4 => ?_)
    refine jv_iload2 dX4_row_7 ?_
    refine jv_iconst dX4_row_8 jv_c_iconst_0 ?_
    refine jv_iconst dX4_row_9 jv_c_iconst_4 ?_
    refine jv_s31 dX4_row_10 okX4_within stX4_within mlX4_57 (oc_inC _ (a := 0) (b := 4) (by decide) (by decide)) (by decide) (Nat.le_of_ble_eq_true rfl) ?_
    refine jv_if_eqB dX4_row_13 (tgt := 26) (by decide) (fun hq13 => absurd (by omega) hq13) (fun hq13 => ?_)
    refine jv_iload3 dX4_row_16 ?_
    refine jv_iconst dX4_row_17 jv_c_iconst_0 ?_
    refine jv_bipush dX4_row_18 jv_c_bipush_40 ?_
    refine jv_s31 dX4_row_20 okX4_within stX4_within mlX4_57 (oc_inC _ (a := 0) (b := 40) (by decide) (by decide)) (by decide) (Nat.le_of_ble_eq_true rfl) ?_
    refine jv_if_neB dX4_row_23 (tgt := 33) (by decide) (fun hq23 => ?_) (fun hq23 => absurd (by omega) hq23)
    refine jv_aload0 dX4_row_33 ?_
    refine jv_getR dX4_row_34 flX4_40 rfl (ck h.g) (cr_shelves h.g) ?_
    refine jv_iload1 dX4_row_37 ?_
    refine jv_aald2N dX4_row_38 (ck_shelves h.g) (by omega) (by decide) (cr_shelf h.g ht) ?_
    refine jv_iload2 dX4_row_39 ?_
    refine jv_iload3 dX4_row_40 ?_
    refine jv_v20 dX4_row_41 okX1_takeRow inX1_takeRow seX1_takeRow mlX4_65 (ci := 1) (T := TX1) (N := 3) rfl (sk h.g ht) (oc_takeRow h ht) (by decide) (Nat.le_of_ble_eq_true rfl) ?_
    refine jv_iconst dX4_row_44 jv_c_iconst_1 ?_
    exact jv_iret dX4_row_45 rfl rfl rfl rfl rfl
  · obtain ⟨I2, hC, h2, h3⟩ := oc_refuse2 h
    refine ⟨I2, J, ?_, h2, h3⟩
    refine jv_enter okX4_row (L := [.ref 1, .int s, .int k, .int n]) rfl (Nat.le_of_ble_eq_true rfl) ?_
    refine jv_iload1 dX4_row_0 ?_
    refine jv_s11 dX4_row_1 okX4_isShelf stX4_isShelf mlX4_53 (ot_isShelf _) (by decide) (Nat.le_of_ble_eq_true rfl) ?_
    refine jv_if_eqB dX4_row_4 (tgt := 26) (by decide) (fun g4 => ?_) (fun g4 => ?_)
    · refine jv_aload0 dX4_row_26 ?_
      refine jv_bipush dX4_row_27 jv_c_bipush_m2 ?_
      refine jv_v11 dX4_row_29 okX4_refuse inX4_refuse seX4_refuse mlX4_61 (ci := 4) (T := TX4) (N := 8) rfl (ck h.g) hC (by decide) (Nat.le_of_ble_eq_true rfl) ?_
      exact jv_iret dX4_row_32 rfl rfl rfl rfl rfl
    · refine jv_iload2 dX4_row_7 ?_
      refine jv_iconst dX4_row_8 jv_c_iconst_0 ?_
      refine jv_iconst dX4_row_9 jv_c_iconst_4 ?_
      refine jv_s31 dX4_row_10 okX4_within stX4_within mlX4_57 (oc_inC _ (a := 0) (b := 4) (by decide) (by decide)) (by decide) (Nat.le_of_ble_eq_true rfl) ?_
      refine jv_if_eqB dX4_row_13 (tgt := 26) (by decide) (fun g13 => ?_) (fun g13 => ?_)
      · refine jv_aload0 dX4_row_26 ?_
        refine jv_bipush dX4_row_27 jv_c_bipush_m2 ?_
        refine jv_v11 dX4_row_29 okX4_refuse inX4_refuse seX4_refuse mlX4_61 (ci := 4) (T := TX4) (N := 8) rfl (ck h.g) hC (by decide) (Nat.le_of_ble_eq_true rfl) ?_
        exact jv_iret dX4_row_32 rfl rfl rfl rfl rfl
      · refine jv_iload3 dX4_row_16 ?_
        refine jv_iconst dX4_row_17 jv_c_iconst_0 ?_
        refine jv_bipush dX4_row_18 jv_c_bipush_40 ?_
        refine jv_s31 dX4_row_20 okX4_within stX4_within mlX4_57 (oc_inC _ (a := 0) (b := 40) (by decide) (by decide)) (by decide) (Nat.le_of_ble_eq_true rfl) ?_
        refine jv_if_neB dX4_row_23 (tgt := 33) (by decide) (fun g23 => ?_) (fun g23 => ?_)
        · exact absurd ⟨g4, by omega, by omega⟩ hv
        · refine jv_aload0 dX4_row_26 ?_
          refine jv_bipush dX4_row_27 jv_c_bipush_m2 ?_
          refine jv_v11 dX4_row_29 okX4_refuse inX4_refuse seX4_refuse mlX4_61 (ci := 4) (T := TX4) (N := 8) rfl (ck h.g) hC (by decide) (Nat.le_of_ble_eq_true rfl) ?_
          exact jv_iret dX4_row_32 rfl rfl rfl rfl rfl
set_option maxRecDepth 20000 in
theorem pm_row {G : jv_Gr} {I : jv_I} {J : jv_J} {Y Z : ot_Y} {E : ot_E} {K : Option ot_Y} (h : ot_M G I J Y Z E K) (s : Int32) (k : Int32) (n : Int32) : ot_mm 8 mX5_row [.ref 64, .int s, .int k, .int n] G I J (ot_ans (ot_rc ((0 ≤ s.toInt ∧ s.toInt < 8) ∧ (0 ≤ k.toInt ∧ k.toInt ≤ 4) ∧ (0 ≤ n.toInt ∧ n.toInt ≤ 40))) (nI 1)) Y (ot_pk (ot_rc ((0 ≤ s.toInt ∧ s.toInt < 8) ∧ (0 ≤ k.toInt ∧ k.toInt ≤ 4) ∧ (0 ≤ n.toInt ∧ n.toInt ≤ 40))) (ot_zs Z (ot_n s) 1 (ot_n k) (ot_n n) 0) (ot_zr Z (ot_rc ((0 ≤ s.toInt ∧ s.toInt < 8) ∧ (0 ≤ k.toInt ∧ k.toInt ≤ 4) ∧ (0 ≤ n.toInt ∧ n.toInt ≤ 40))))) (ot_pk (ot_rc ((0 ≤ s.toInt ∧ s.toInt < 8) ∧ (0 ≤ k.toInt ∧ k.toInt ≤ 4) ∧ (0 ≤ n.toInt ∧ n.toInt ≤ 40))) (ot_es E (ot_n s) (fun _ => lN 0)) E) K := by
  have bn := yw_n h.w
  have bc := yw_c h.w
  have bw := yw_w h.w
  refine ot_rc_split (motive := fun rc => ot_mm 8 mX5_row [.ref 64, .int s, .int k, .int n] G I J (ot_ans rc (nI 1)) Y (ot_pk rc (ot_zs Z (ot_n s) 1 (ot_n k) (ot_n n) 0) (ot_zr Z rc)) (ot_pk rc (ot_es E (ot_n s) (fun _ => lN 0)) E) K) (fun hv => ?_) (fun hv => ?_)
  · obtain ⟨t, ht, rfl⟩ := ot_of (n := 8) hv.1 (by decide)
    rw [ot_n_nI (show t < 2 ^ 30 by omega)]
    obtain ⟨x, hx, rfl⟩ := ot_of (n := 5) (show 0 ≤ k.toInt ∧ k.toInt < ((5 : Nat) : Int) by omega) (by decide)
    rw [ot_n_nI (show x < 2 ^ 30 by omega)]
    have ex := nI_toInt (show x < 2 ^ 31 by omega)
    obtain ⟨z, hz, rfl⟩ := ot_of (n := 41) (show 0 ≤ n.toInt ∧ n.toInt < ((41 : Nat) : Int) by omega) (by decide)
    rw [ot_n_nI (show z < 2 ^ 30 by omega)]
    have ez := nI_toInt (show z < 2 ^ 31 by omega)
    have hs2 := ot_M_shelf (I2 := (jv_up (jv_up (jv_up I (64 + 1) t (nI 1)) (64 + 2) t (nI x)) (64 + 3) t (nI z))) (J2 := (ot_zeros J (64 + (5 + t)) 40)) (tg := 1) (so := x) (si := z) (sh := 0) (f := fun _ => lN 0) h ht (by decide) (fun _ => by omega) (fun q => absurd q (by decide)) (fun q q1 q2 q3 q4 => (jv_up_ne _ _ _ (by omega)).trans ((jv_up_ne _ _ _ (by omega)).trans (jv_up_ne _ _ _ (by omega)))) (fun q u hu => by simp [jv_up, hu]) (fun q hq => ot_zeros_ne J hq) (by simp [jv_up]) (fun _ => ⟨by simp [jv_up], by simp [jv_up]⟩) (fun q => absurd q (by decide)) (fun _ i hi => ot_zeros_at J hi)
    refine ⟨G, (jv_up (jv_up (jv_up I (64 + 1) t (nI 1)) (64 + 2) t (nI x)) (64 + 3) t (nI z)), (ot_zeros J (64 + (5 + t)) 40), ?_, hs2, fun q hq => ⟨(jv_up_ne _ _ _ (by omega)).trans ((jv_up_ne _ _ _ (by omega)).trans (jv_up_ne _ _ _ (by omega))), ot_zeros_ne J (by omega)⟩, ot_gx.rf⟩
    refine jv_enter okX5_row (L := [.ref 64, .int (nI t), .int (nI x), .int (nI z), .null]) rfl (Nat.le_of_ble_eq_true rfl) ?_
    have loop : ∀ (n i : Nat) , 40 + 1 ≤ i + n → i ≤ 40 → jv_V 8 mX5_row 67 [.ref 64, .int (nI t), .int (nI x), .int (nI z), .int (nI i)] [] G (jv_up (jv_up (jv_up I (64 + 1) t (nI 1)) (64 + 2) t (nI x)) (64 + 3) t (nI z)) (ot_zeros J (64 + (5 + t)) i) (some (.int (nI 1))) G (jv_up (jv_up (jv_up I (64 + 1) t (nI 1)) (64 + 2) t (nI x)) (64 + 3) t (nI z)) (ot_zeros J (64 + (5 + t)) 40) := by
      intro n
      induction n with
      | zero => intro i  h1 h2; omega
      | succ n ih =>
        intro i  h1 h2 
        refine jv_iload4 dX5_row_67 ?_
        refine jv_bipush dX5_row_69 jv_c_bipush_40 ?_
        refine jv_icmp_geN dX5_row_71 (tgt := 90) (by decide) (by omega) (by omega) (fun hc71 => ?_) (fun hc71 => ?_)
        · refine jv_iconst dX5_row_90 jv_c_iconst_1 ?_
          exact jv_iret dX5_row_91 rfl rfl rfl rfl (by rw [show i = 40 by omega])
        · refine jv_aload0 dX5_row_74 ?_
          refine jv_getR dX5_row_75 flX5_21 rfl (mk h.g) (mr_rows h.g) ?_
          refine jv_iload1 dX5_row_78 ?_
          refine jv_aald3N dX5_row_79 (mk_rows h.g) (by omega) (by decide) (mr_row h.g ht) ?_
          refine jv_iload4 dX5_row_80 ?_
          refine jv_lconst dX5_row_82 (v := lN 0) rfl ?_
          refine jv_lastN dX5_row_83 (mk_row h.g ht) (by omega) (by decide) ?_
          refine jv_iinc4N dX5_row_84 rfl ?_
          refine jv_goto dX5_row_87 (tgt := 67) (by decide) ?_
          rw [ot_zeros_s]
          exact ih (i + 1) (by omega) (by omega)
    refine jv_iload1 dX5_row_0 ?_
    refine jv_i2l dX5_row_1 rfl ?_
    refine jv_lconst dX5_row_2 (v := lN 0) rfl ?_
    refine jv_ldc2 dX5_row_3 cnX5_98 ?_
    refine jv_s31 dX5_row_6 okX5_in stX5_in mlX5_83 (om_inC _ (a := 0) (b := 7) (by decide) (by decide)) (by decide) (Nat.le_of_ble_eq_true rfl) ?_
    refine jv_if_eqB dX5_row_9 (tgt := 36) (by decide) (fun hq9 => absurd (by omega) hq9) (fun hq9 => ?_)
    refine jv_iload2 dX5_row_12 ?_
    refine jv_i2l dX5_row_13 rfl ?_
    refine jv_lconst dX5_row_14 (v := lN 0) rfl ?_
    refine jv_ldc2 dX5_row_15 cnX5_100 ?_
    refine jv_s31 dX5_row_18 okX5_in stX5_in mlX5_83 (om_inC _ (a := 0) (b := 4) (by decide) (by decide)) (by decide) (Nat.le_of_ble_eq_true rfl) ?_
    refine jv_if_eqB dX5_row_21 (tgt := 36) (by decide) (fun hq21 => absurd (by omega) hq21) (fun hq21 => ?_)
    refine jv_iload3 dX5_row_24 ?_
    refine jv_i2l dX5_row_25 rfl ?_
    refine jv_lconst dX5_row_26 (v := lN 0) rfl ?_
    refine jv_ldc2 dX5_row_27 cnX5_102 ?_
    refine jv_s31 dX5_row_30 okX5_in stX5_in mlX5_83 (om_inC _ (a := 0) (b := 40) (by decide) (by decide)) (by decide) (Nat.le_of_ble_eq_true rfl) ?_
    refine jv_if_neB dX5_row_33 (tgt := 43) (by decide) (fun hq33 => ?_) (fun hq33 => absurd (by omega) hq33)
    refine jv_aload0 dX5_row_43 ?_
    refine jv_getR dX5_row_44 flX5_7 rfl (mk h.g) (mr_shelf h.g) ?_
    refine jv_iload1 dX5_row_47 ?_
    refine jv_iconst dX5_row_48 jv_c_iconst_1 ?_
    refine jv_iastN dX5_row_49 (mk_shelf h.g) (by omega) (by decide) ?_
    refine jv_aload0 dX5_row_50 ?_
    refine jv_getR dX5_row_51 flX5_13 rfl (mk h.g) (mr_rowSort h.g) ?_
    refine jv_iload1 dX5_row_54 ?_
    refine jv_iload2 dX5_row_55 ?_
    refine jv_iastN dX5_row_56 (mk_rowSort h.g) (by omega) (by decide) ?_
    refine jv_aload0 dX5_row_57 ?_
    refine jv_getR dX5_row_58 flX5_16 rfl (mk h.g) (mr_rowSize h.g) ?_
    refine jv_iload1 dX5_row_61 ?_
    refine jv_iload3 dX5_row_62 ?_
    refine jv_iastN dX5_row_63 (mk_rowSize h.g) (by omega) (by decide) ?_
    refine jv_iconst dX5_row_64 jv_c_iconst_0 ?_
    refine jv_istore4 dX5_row_65 rfl ?_
    have q := loop 41 0 (by omega) (by omega)
    rw [ot_zeros_0] at q
    exact q
  · obtain ⟨I2, hC, h2, h3⟩ := om_refuse2 h
    refine ⟨G, I2, J, ?_, h2, h3, ot_gx.rf⟩
    refine jv_enter okX5_row (L := [.ref 64, .int s, .int k, .int n, .null]) rfl (Nat.le_of_ble_eq_true rfl) ?_
    refine jv_iload1 dX5_row_0 ?_
    refine jv_i2l dX5_row_1 rfl ?_
    refine jv_lconst dX5_row_2 (v := lN 0) rfl ?_
    refine jv_ldc2 dX5_row_3 cnX5_98 ?_
    refine jv_s31 dX5_row_6 okX5_in stX5_in mlX5_83 (om_inC _ (a := 0) (b := 7) (by decide) (by decide)) (by decide) (Nat.le_of_ble_eq_true rfl) ?_
    refine jv_if_eqB dX5_row_9 (tgt := 36) (by decide) (fun g4 => ?_) (fun g4 => ?_)
    · refine jv_aload0 dX5_row_36 ?_
      refine jv_bipush dX5_row_37 jv_c_bipush_m2 ?_
      refine jv_v11 dX5_row_39 okX5_refuse inX5_refuse seX5_refuse mlX5_104 (ci := 5) (T := TX5) (N := 35) rfl (mk h.g) hC (by decide) (Nat.le_of_ble_eq_true rfl) ?_
      exact jv_iret dX5_row_42 rfl rfl rfl rfl rfl
    · refine jv_iload2 dX5_row_12 ?_
      refine jv_i2l dX5_row_13 rfl ?_
      refine jv_lconst dX5_row_14 (v := lN 0) rfl ?_
      refine jv_ldc2 dX5_row_15 cnX5_100 ?_
      refine jv_s31 dX5_row_18 okX5_in stX5_in mlX5_83 (om_inC _ (a := 0) (b := 4) (by decide) (by decide)) (by decide) (Nat.le_of_ble_eq_true rfl) ?_
      refine jv_if_eqB dX5_row_21 (tgt := 36) (by decide) (fun g13 => ?_) (fun g13 => ?_)
      · refine jv_aload0 dX5_row_36 ?_
        refine jv_bipush dX5_row_37 jv_c_bipush_m2 ?_
        refine jv_v11 dX5_row_39 okX5_refuse inX5_refuse seX5_refuse mlX5_104 (ci := 5) (T := TX5) (N := 35) rfl (mk h.g) hC (by decide) (Nat.le_of_ble_eq_true rfl) ?_
        exact jv_iret dX5_row_42 rfl rfl rfl rfl rfl
      · refine jv_iload3 dX5_row_24 ?_
        refine jv_i2l dX5_row_25 rfl ?_
        refine jv_lconst dX5_row_26 (v := lN 0) rfl ?_
        refine jv_ldc2 dX5_row_27 cnX5_102 ?_
        refine jv_s31 dX5_row_30 okX5_in stX5_in mlX5_83 (om_inC _ (a := 0) (b := 40) (by decide) (by decide)) (by decide) (Nat.le_of_ble_eq_true rfl) ?_
        refine jv_if_neB dX5_row_33 (tgt := 43) (by decide) (fun g23 => ?_) (fun g23 => ?_)
        · exact absurd ⟨by omega, by omega, by omega⟩ hv
        · refine jv_aload0 dX5_row_36 ?_
          refine jv_bipush dX5_row_37 jv_c_bipush_m2 ?_
          refine jv_v11 dX5_row_39 okX5_refuse inX5_refuse seX5_refuse mlX5_104 (ci := 5) (T := TX5) (N := 35) rfl (mk h.g) hC (by decide) (Nat.le_of_ble_eq_true rfl) ?_
          exact jv_iret dX5_row_42 rfl rfl rfl rfl rfl
set_option maxRecDepth 20000 in
theorem oc_rowT {G : jv_Gr} {I : jv_I} {J : jv_J} {Y Z : ot_Y} {E : ot_E} {K : Option ot_Y} (h : ot_C G I J Y Z E K) (v : Int32) : jv_C 3 mX4_rowTrouble [.ref 1, .int v] G I J (some (.int (ot_ans (ot_rt Z v) (nI 0)))) G I J := by
  refine jv_enter okX4_rowTrouble (L := [.ref 1, .int v]) rfl (Nat.le_of_ble_eq_true rfl) ?_
  rcases ot_rt_cases h.z v with ⟨e, t, ht, rfl, h1s⟩ | ⟨e, hn⟩ | ⟨e, t, ht, rfl, h2s⟩ | ⟨e, t, ht, rfl, h0s⟩
  · rw [e]
    refine jv_iload1 dX4_rowTrouble_0 ?_
    refine jv_s11 dX4_rowTrouble_1 okX4_isShelf stX4_isShelf mlX4_53 (ot_isShelf _) (by decide) (Nat.le_of_ble_eq_true rfl) ?_
    refine jv_if_neB dX4_rowTrouble_4 (tgt := 10) (by decide) (fun hq4 => ?_) (fun hq4 => absurd (show 0 ≤ (nI t).toInt ∧ (nI t).toInt < 8 by rw [nI_toInt (by omega)]; omega) hq4)
    refine jv_aload0 dX4_rowTrouble_10 ?_
    refine jv_getR dX4_rowTrouble_11 flX4_40 rfl (ck h.g) (cr_shelves h.g) ?_
    refine jv_iload1 dX4_rowTrouble_14 ?_
    refine jv_aald2N dX4_rowTrouble_15 (ck_shelves h.g) (by omega) (by decide) (cr_shelf h.g ht) ?_
    refine jv_v01 dX4_rowTrouble_16 okX1_isCount inX1_isCount seX1_isCount mlX4_301 (ci := 1) (T := TX1) (N := 3) rfl (sk h.g ht) (oc_isCount h ht) (by decide) (Nat.le_of_ble_eq_true rfl) ?_
    refine jv_if_eqB dX4_rowTrouble_19 (tgt := 25) (by decide) (fun h19 => ?_) (fun h19 => by omega)
    refine jv_aload0 dX4_rowTrouble_25 ?_
    refine jv_getR dX4_rowTrouble_26 flX4_40 rfl (ck h.g) (cr_shelves h.g) ?_
    refine jv_iload1 dX4_rowTrouble_29 ?_
    refine jv_aald2N dX4_rowTrouble_30 (ck_shelves h.g) (by omega) (by decide) (cr_shelf h.g ht) ?_
    refine jv_v01 dX4_rowTrouble_31 okX1_isRow inX1_isRow seX1_isRow mlX4_111 (ci := 1) (T := TX1) (N := 3) rfl (sk h.g ht) (oc_isRow h ht) (by decide) (Nat.le_of_ble_eq_true rfl) ?_
    refine jv_if_eqB dX4_rowTrouble_34 (tgt := 41) (by decide) (fun h34 => absurd h1s h34) (fun h34 => ?_)
    refine jv_iconst dX4_rowTrouble_37 jv_c_iconst_0 ?_
    refine jv_goto dX4_rowTrouble_38 (tgt := 43) (by decide) ?_
    exact jv_iret dX4_rowTrouble_43 rfl rfl rfl rfl rfl
  · rw [e]
    refine jv_iload1 dX4_rowTrouble_0 ?_
    refine jv_s11 dX4_rowTrouble_1 okX4_isShelf stX4_isShelf mlX4_53 (ot_isShelf _) (by decide) (Nat.le_of_ble_eq_true rfl) ?_
    refine jv_if_neB dX4_rowTrouble_4 (tgt := 10) (by decide) (fun hq4 => absurd hq4 hn) (fun hq4 => ?_)
    refine jv_bipush dX4_rowTrouble_7 jv_c_bipush_m2 ?_
    exact jv_iret dX4_rowTrouble_9 rfl rfl rfl rfl rfl
  · rw [e]
    refine jv_iload1 dX4_rowTrouble_0 ?_
    refine jv_s11 dX4_rowTrouble_1 okX4_isShelf stX4_isShelf mlX4_53 (ot_isShelf _) (by decide) (Nat.le_of_ble_eq_true rfl) ?_
    refine jv_if_neB dX4_rowTrouble_4 (tgt := 10) (by decide) (fun hq4 => ?_) (fun hq4 => absurd (show 0 ≤ (nI t).toInt ∧ (nI t).toInt < 8 by rw [nI_toInt (by omega)]; omega) hq4)
    refine jv_aload0 dX4_rowTrouble_10 ?_
    refine jv_getR dX4_rowTrouble_11 flX4_40 rfl (ck h.g) (cr_shelves h.g) ?_
    refine jv_iload1 dX4_rowTrouble_14 ?_
    refine jv_aald2N dX4_rowTrouble_15 (ck_shelves h.g) (by omega) (by decide) (cr_shelf h.g ht) ?_
    refine jv_v01 dX4_rowTrouble_16 okX1_isCount inX1_isCount seX1_isCount mlX4_301 (ci := 1) (T := TX1) (N := 3) rfl (sk h.g ht) (oc_isCount h ht) (by decide) (Nat.le_of_ble_eq_true rfl) ?_
    refine jv_if_eqB dX4_rowTrouble_19 (tgt := 25) (by decide) (fun h19 => absurd h2s h19) (fun h19 => ?_)
    refine jv_bipush dX4_rowTrouble_22 jv_c_bipush_m3 ?_
    exact jv_iret dX4_rowTrouble_24 rfl rfl rfl rfl rfl
  · rw [e]
    refine jv_iload1 dX4_rowTrouble_0 ?_
    refine jv_s11 dX4_rowTrouble_1 okX4_isShelf stX4_isShelf mlX4_53 (ot_isShelf _) (by decide) (Nat.le_of_ble_eq_true rfl) ?_
    refine jv_if_neB dX4_rowTrouble_4 (tgt := 10) (by decide) (fun hq4 => ?_) (fun hq4 => absurd (show 0 ≤ (nI t).toInt ∧ (nI t).toInt < 8 by rw [nI_toInt (by omega)]; omega) hq4)
    refine jv_aload0 dX4_rowTrouble_10 ?_
    refine jv_getR dX4_rowTrouble_11 flX4_40 rfl (ck h.g) (cr_shelves h.g) ?_
    refine jv_iload1 dX4_rowTrouble_14 ?_
    refine jv_aald2N dX4_rowTrouble_15 (ck_shelves h.g) (by omega) (by decide) (cr_shelf h.g ht) ?_
    refine jv_v01 dX4_rowTrouble_16 okX1_isCount inX1_isCount seX1_isCount mlX4_301 (ci := 1) (T := TX1) (N := 3) rfl (sk h.g ht) (oc_isCount h ht) (by decide) (Nat.le_of_ble_eq_true rfl) ?_
    refine jv_if_eqB dX4_rowTrouble_19 (tgt := 25) (by decide) (fun h19 => ?_) (fun h19 => by omega)
    refine jv_aload0 dX4_rowTrouble_25 ?_
    refine jv_getR dX4_rowTrouble_26 flX4_40 rfl (ck h.g) (cr_shelves h.g) ?_
    refine jv_iload1 dX4_rowTrouble_29 ?_
    refine jv_aald2N dX4_rowTrouble_30 (ck_shelves h.g) (by omega) (by decide) (cr_shelf h.g ht) ?_
    refine jv_v01 dX4_rowTrouble_31 okX1_isRow inX1_isRow seX1_isRow mlX4_111 (ci := 1) (T := TX1) (N := 3) rfl (sk h.g ht) (oc_isRow h ht) (by decide) (Nat.le_of_ble_eq_true rfl) ?_
    refine jv_if_eqB dX4_rowTrouble_34 (tgt := 41) (by decide) (fun h34 => ?_) (fun h34 => by omega)
    refine jv_bipush dX4_rowTrouble_41 jv_c_bipush_m4 ?_
    exact jv_iret dX4_rowTrouble_43 rfl rfl rfl rfl rfl
set_option maxRecDepth 20000 in
theorem om_noRow {G : jv_Gr} {I : jv_I} {J : jv_J} {Y Z : ot_Y} {E : ot_E} {K : Option ot_Y} (h : ot_M G I J Y Z E K) (v : Int32) : ∃ I2, jv_C 2 mX5_noRow [.ref 64, .int v] G I J (some (.int (ot_ans (ot_rt Z v) (nI 0)))) G I2 J ∧ ot_M G I2 J Y (ot_zr Z (ot_rt Z v)) E K ∧ ot_lo I I2 J J := by
  rcases ot_rt_cases h.z v with ⟨e, t, ht, rfl, h1s⟩ | ⟨e, hn⟩ | ⟨e, t, ht, rfl, h2s⟩ | ⟨e, t, ht, rfl, h0s⟩
  · rw [e]
    refine ⟨I, ?_, h, ot_lo.rf⟩
    refine jv_enter okX5_noRow (L := [.ref 64, .int (nI t)]) rfl (Nat.le_of_ble_eq_true rfl) ?_
    refine jv_iload1 dX5_noRow_0 ?_
    refine jv_i2l dX5_noRow_1 rfl ?_
    refine jv_lconst dX5_noRow_2 (v := lN 0) rfl ?_
    refine jv_ldc2 dX5_noRow_3 cnX5_98 ?_
    refine jv_s31 dX5_noRow_6 okX5_in stX5_in mlX5_83 (om_inC _ (a := 0) (b := 7) (by decide) (by decide)) (by decide) (Nat.le_of_ble_eq_true rfl) ?_
    refine jv_if_neB dX5_noRow_9 (tgt := 19) (by decide) (fun hq9 => ?_) (fun hq9 => absurd (show (0 : Int) ≤ (nI t).toInt ∧ (nI t).toInt ≤ 7 by rw [nI_toInt (by omega)]; omega) hq9)
    refine jv_aload0 dX5_noRow_19 ?_
    refine jv_getR dX5_noRow_20 flX5_7 rfl (mk h.g) (mr_shelf h.g) ?_
    refine jv_iload1 dX5_noRow_23 ?_
    refine jv_ialdN dX5_noRow_24 (mk_shelf h.g) (by omega) (by decide) ((nr_tag h.s ht).trans (by rw [h1s])) ?_
    refine jv_iconst dX5_noRow_25 jv_c_iconst_2 ?_
    refine jv_icmp_neN dX5_noRow_26 (tgt := 36) (by decide) (by omega) (by omega) (fun h26 => ?_) (fun h26 => by omega)
    refine jv_aload0 dX5_noRow_36 ?_
    refine jv_getR dX5_noRow_37 flX5_7 rfl (mk h.g) (mr_shelf h.g) ?_
    refine jv_iload1 dX5_noRow_40 ?_
    refine jv_ialdN dX5_noRow_41 (mk_shelf h.g) (by omega) (by decide) ((nr_tag h.s ht).trans (by rw [h1s])) ?_
    refine jv_if_neN dX5_noRow_42 (tgt := 54) (by decide) (by omega) (fun h42 => ?_) (fun h42 => by omega)
    refine jv_iconst dX5_noRow_54 jv_c_iconst_0 ?_
    exact jv_iret dX5_noRow_55 rfl rfl rfl rfl rfl
  · rw [e]
    obtain ⟨I2, hC, h2, h3⟩ := om_refuse2 h
    refine ⟨I2, ?_, h2, h3⟩
    refine jv_enter okX5_noRow (L := [.ref 64, .int v]) rfl (Nat.le_of_ble_eq_true rfl) ?_
    refine jv_iload1 dX5_noRow_0 ?_
    refine jv_i2l dX5_noRow_1 rfl ?_
    refine jv_lconst dX5_noRow_2 (v := lN 0) rfl ?_
    refine jv_ldc2 dX5_noRow_3 cnX5_98 ?_
    refine jv_s31 dX5_noRow_6 okX5_in stX5_in mlX5_83 (om_inC _ (a := 0) (b := 7) (by decide) (by decide)) (by decide) (Nat.le_of_ble_eq_true rfl) ?_
    refine jv_if_neB dX5_noRow_9 (tgt := 19) (by decide) (fun hq9 => absurd ⟨hq9.1, by omega⟩ hn) (fun hq9 => ?_)
    refine jv_aload0 dX5_noRow_12 ?_
    refine jv_bipush dX5_noRow_13 jv_c_bipush_m2 ?_
    refine jv_v11 dX5_noRow_15 okX5_refuse inX5_refuse seX5_refuse mlX5_104 (ci := 5) (T := TX5) (N := 35) rfl (mk h.g) hC (by decide) (Nat.le_of_ble_eq_true rfl) ?_
    exact jv_iret dX5_noRow_18 rfl rfl rfl rfl rfl
  · rw [e]
    obtain ⟨I2, hC, h2, h3⟩ := om_refuse3 h
    refine ⟨I2, ?_, h2, h3⟩
    refine jv_enter okX5_noRow (L := [.ref 64, .int (nI t)]) rfl (Nat.le_of_ble_eq_true rfl) ?_
    refine jv_iload1 dX5_noRow_0 ?_
    refine jv_i2l dX5_noRow_1 rfl ?_
    refine jv_lconst dX5_noRow_2 (v := lN 0) rfl ?_
    refine jv_ldc2 dX5_noRow_3 cnX5_98 ?_
    refine jv_s31 dX5_noRow_6 okX5_in stX5_in mlX5_83 (om_inC _ (a := 0) (b := 7) (by decide) (by decide)) (by decide) (Nat.le_of_ble_eq_true rfl) ?_
    refine jv_if_neB dX5_noRow_9 (tgt := 19) (by decide) (fun hq9 => ?_) (fun hq9 => absurd (show (0 : Int) ≤ (nI t).toInt ∧ (nI t).toInt ≤ 7 by rw [nI_toInt (by omega)]; omega) hq9)
    refine jv_aload0 dX5_noRow_19 ?_
    refine jv_getR dX5_noRow_20 flX5_7 rfl (mk h.g) (mr_shelf h.g) ?_
    refine jv_iload1 dX5_noRow_23 ?_
    refine jv_ialdN dX5_noRow_24 (mk_shelf h.g) (by omega) (by decide) ((nr_tag h.s ht).trans (by rw [h2s])) ?_
    refine jv_iconst dX5_noRow_25 jv_c_iconst_2 ?_
    refine jv_icmp_neN dX5_noRow_26 (tgt := 36) (by decide) (by omega) (by omega) (fun h26 => by omega) (fun h26 => ?_)
    refine jv_aload0 dX5_noRow_29 ?_
    refine jv_bipush dX5_noRow_30 jv_c_bipush_m3 ?_
    refine jv_v11 dX5_noRow_32 okX5_refuse inX5_refuse seX5_refuse mlX5_104 (ci := 5) (T := TX5) (N := 35) rfl (mk h.g) hC (by decide) (Nat.le_of_ble_eq_true rfl) ?_
    exact jv_iret dX5_noRow_35 rfl rfl rfl rfl rfl
  · rw [e]
    obtain ⟨I2, hC, h2, h3⟩ := om_refuse4 h
    refine ⟨I2, ?_, h2, h3⟩
    refine jv_enter okX5_noRow (L := [.ref 64, .int (nI t)]) rfl (Nat.le_of_ble_eq_true rfl) ?_
    refine jv_iload1 dX5_noRow_0 ?_
    refine jv_i2l dX5_noRow_1 rfl ?_
    refine jv_lconst dX5_noRow_2 (v := lN 0) rfl ?_
    refine jv_ldc2 dX5_noRow_3 cnX5_98 ?_
    refine jv_s31 dX5_noRow_6 okX5_in stX5_in mlX5_83 (om_inC _ (a := 0) (b := 7) (by decide) (by decide)) (by decide) (Nat.le_of_ble_eq_true rfl) ?_
    refine jv_if_neB dX5_noRow_9 (tgt := 19) (by decide) (fun hq9 => ?_) (fun hq9 => absurd (show (0 : Int) ≤ (nI t).toInt ∧ (nI t).toInt ≤ 7 by rw [nI_toInt (by omega)]; omega) hq9)
    refine jv_aload0 dX5_noRow_19 ?_
    refine jv_getR dX5_noRow_20 flX5_7 rfl (mk h.g) (mr_shelf h.g) ?_
    refine jv_iload1 dX5_noRow_23 ?_
    refine jv_ialdN dX5_noRow_24 (mk_shelf h.g) (by omega) (by decide) ((nr_tag h.s ht).trans (by rw [h0s])) ?_
    refine jv_iconst dX5_noRow_25 jv_c_iconst_2 ?_
    refine jv_icmp_neN dX5_noRow_26 (tgt := 36) (by decide) (by omega) (by omega) (fun h26 => ?_) (fun h26 => by omega)
    refine jv_aload0 dX5_noRow_36 ?_
    refine jv_getR dX5_noRow_37 flX5_7 rfl (mk h.g) (mr_shelf h.g) ?_
    refine jv_iload1 dX5_noRow_40 ?_
    refine jv_ialdN dX5_noRow_41 (mk_shelf h.g) (by omega) (by decide) ((nr_tag h.s ht).trans (by rw [h0s])) ?_
    refine jv_if_neN dX5_noRow_42 (tgt := 54) (by decide) (by omega) (fun h42 => by omega) (fun h42 => ?_)
    refine jv_aload0 dX5_noRow_45 ?_
    refine jv_bipush dX5_noRow_46 jv_c_bipush_m4 ?_
    refine jv_v11 dX5_noRow_48 okX5_refuse inX5_refuse seX5_refuse mlX5_104 (ci := 5) (T := TX5) (N := 35) rfl (mk h.g) hC (by decide) (Nat.le_of_ble_eq_true rfl) ?_
    refine jv_goto dX5_noRow_51 (tgt := 55) (by decide) ?_
    exact jv_iret dX5_noRow_55 rfl rfl rfl rfl rfl
