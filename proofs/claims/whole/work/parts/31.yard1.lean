/-! ===== the component's Yard: reads ===== -/
theorem nlX1_22 (base : Nat) (adS : Nat → Nat) (U : State) (h : jv_env base adS U) : va_Nw (.methodLinkNest RX1 22 yX4_within RX4) U := h.2.2.2.2.2.1 _ (show (RX1, 22, yX4_within, RX4) ∈ jv_nests from List.mem_of_getElem? (i := 3) rfl)
theorem nlX3_64 (base : Nat) (adS : Nat → Nat) (U : State) (h : jv_env base adS U) : va_Nw (.methodLinkNest RX3 64 yX4_within RX4) U := h.2.2.2.2.2.1 _ (show (RX3, 64, yX4_within, RX4) ∈ jv_nests from List.mem_of_getElem? (i := 4) rfl)
theorem nlX2_49 (base : Nat) (adS : Nat → Nat) (U : State) (h : jv_env base adS U) : va_Nw (.methodLinkNest RX2 49 yX4_within RX4) U := h.2.2.2.2.2.1 _ (show (RX2, 49, yX4_within, RX4) ∈ jv_nests from List.mem_of_getElem? (i := 5) rfl)
theorem ot_le0 (v : Int32) : nI 0 ≤ v ↔ 0 ≤ v.toInt := by rw [Int32.le_iff_toInt_le, nI_toInt (by decide)]; rfl
theorem ot_le_pred (v : Int32) {n : Nat} (hn : n < 2 ^ 30) : v ≤ nI n - nI 1 ↔ v.toInt < n := by
  rw [Int32.le_iff_toInt_le, pk_sub_toInt (by omega) (by omega)]
  omega
theorem ot_leN (v : Int32) {n : Nat} (hn : n < 2 ^ 31) : v ≤ nI n ↔ v.toInt ≤ n := by rw [Int32.le_iff_toInt_le, nI_toInt hn]
theorem ot_Nle (v : Int32) {n : Nat} (hn : n < 2 ^ 31) : nI n ≤ v ↔ (n : Int) ≤ v.toInt := by rw [Int32.le_iff_toInt_le, nI_toInt hn]
theorem ot_of {v : Int32} {n : Nat} (h : 0 ≤ v.toInt ∧ v.toInt < n) (hn : n < 2 ^ 31) : ∃ j : Nat, j < n ∧ v = nI j := vp_in_of (vp_in_iff.mpr h) hn
theorem ot_b1 {P : Prop} [Decidable P] (h : P) : nI 1 = jv_b P := (jv_b_t h).symm
theorem ot_b0 {P : Prop} [Decidable P] (h : ¬ P) : nI 0 = jv_b P := (jv_b_f h).symm
set_option maxRecDepth 20000 in
theorem ot_within {G : jv_Gr} {I : jv_I} {J : jv_J} (v lo hi : Int32) : jv_C 1 mX4_within [.int v, .int lo, .int hi] G I J (some (.int (jv_b (lo ≤ v ∧ v ≤ hi)))) G I J := by
  refine jv_enter okX4_within (L := [.int v, .int lo, .int hi]) rfl (Nat.le_of_ble_eq_true rfl) ?_
  refine jv_iload0 dX4_within_0 ?_
  refine jv_iload1 dX4_within_1 ?_
  refine jv_icmp_lt dX4_within_2 (tgt := 14) (by decide) (fun h1 => ?_) (fun h1 => ?_)
  · refine jv_iconst dX4_within_14 jv_c_iconst_0 ?_
    exact jv_iret dX4_within_15 rfl (by decide) (ot_b0 (fun q => absurd h1 (Int32.not_lt.mpr q.1))) rfl rfl
  · refine jv_iload0 dX4_within_5 ?_
    refine jv_iload2 dX4_within_6 ?_
    refine jv_icmp_gt dX4_within_7 (tgt := 14) (by decide) (fun h2 => ?_) (fun h2 => ?_)
    · refine jv_iconst dX4_within_14 jv_c_iconst_0 ?_
      exact jv_iret dX4_within_15 rfl (by decide) (ot_b0 (fun q => absurd h2 (Int32.not_lt.mpr q.2))) rfl rfl
    · refine jv_iconst dX4_within_10 jv_c_iconst_1 ?_
      refine jv_goto dX4_within_11 (tgt := 15) (by decide) ?_
      exact jv_iret dX4_within_15 rfl (by decide) (ot_b1 ⟨Int32.not_lt.mp h1, Int32.not_lt.mp h2⟩) rfl rfl
set_option maxRecDepth 20000 in
theorem ot_isShelf {G : jv_Gr} {I : jv_I} {J : jv_J} (v : Int32) : jv_C 2 mX4_isShelf [.int v] G I J (some (.int (jv_b (0 ≤ v.toInt ∧ v.toInt < 8)))) G I J := by
  refine jv_enter okX4_isShelf (L := [.int v]) rfl (Nat.le_of_ble_eq_true rfl) ?_
  refine jv_iload0 dX4_isShelf_0 ?_
  refine jv_iconst dX4_isShelf_1 jv_c_iconst_0 ?_
  refine jv_bipush dX4_isShelf_2 jv_c_bipush_7 ?_
  refine jv_s31 dX4_isShelf_4 okX4_within stX4_within mlX4_57 (ot_within v (nI 0) (nI 7)) (by decide) (Nat.le_of_ble_eq_true rfl) ?_
  exact jv_iret dX4_isShelf_7 rfl jv_b_n (jv_b_iff (by rw [ot_le0, ot_leN v (by decide)]; omega)) rfl rfl
set_option maxRecDepth 20000 in
theorem ot_hasChild {G : jv_Gr} {I : jv_I} {J : jv_J} {y : Nat} {Y : ot_Y} (hG : ot_YG G y) (hR : ot_YR I y Y) (hW : ot_YW Y) (v : Int32) : jv_C 2 mX3_hasChild [.ref y, .int v] G I J (some (.int (jv_b (0 ≤ v.toInt ∧ v.toInt < Y 10 0)))) G I J := by
  refine jv_enter okX3_hasChild (L := [.ref y, .int v]) rfl (Nat.le_of_ble_eq_true rfl) ?_
  have bn := yw_n hW
  have bc := yw_c hW
  have bw := yw_w hW
  refine jv_iload1 dX3_hasChild_0 ?_
  refine jv_iconst dX3_hasChild_1 jv_c_iconst_0 ?_
  refine jv_aload0 dX3_hasChild_2 ?_
  refine jv_getI dX3_hasChild_3 flX3_9 rfl (yk hG) (yi_children hR) ?_
  refine jv_iconst dX3_hasChild_6 jv_c_iconst_1 ?_
  refine jv_isub dX3_hasChild_7 ?_
  refine jv_sn31 dX3_hasChild_8 okX4_within stX4_within nlX3_64 (ot_within v (nI 0) (nI (Y 10 0) - nI 1)) (by decide) (Nat.le_of_ble_eq_true rfl) ?_
  exact jv_iret dX3_hasChild_11 rfl jv_b_n (jv_b_iff (by rw [ot_le0, ot_le_pred v (by omega)])) rfl rfl
set_option maxRecDepth 20000 in
theorem ot_hasPlace {G : jv_Gr} {I : jv_I} {J : jv_J} {y : Nat} {Y : ot_Y} (hG : ot_YG G y) (hR : ot_YR I y Y) (hW : ot_YW Y) (v : Int32) : jv_C 2 mX3_hasPlace [.ref y, .int v] G I J (some (.int (jv_b (0 ≤ v.toInt ∧ v.toInt < Y 10 0)))) G I J := by
  refine jv_enter okX3_hasPlace (L := [.ref y, .int v]) rfl (Nat.le_of_ble_eq_true rfl) ?_
  have bn := yw_n hW
  have bc := yw_c hW
  have bw := yw_w hW
  refine jv_iload1 dX3_hasPlace_0 ?_
  refine jv_iconst dX3_hasPlace_1 jv_c_iconst_0 ?_
  refine jv_aload0 dX3_hasPlace_2 ?_
  refine jv_getI dX3_hasPlace_3 flX3_9 rfl (yk hG) (yi_children hR) ?_
  refine jv_iconst dX3_hasPlace_6 jv_c_iconst_1 ?_
  refine jv_isub dX3_hasPlace_7 ?_
  refine jv_sn31 dX3_hasPlace_8 okX4_within stX4_within nlX3_64 (ot_within v (nI 0) (nI (Y 10 0) - nI 1)) (by decide) (Nat.le_of_ble_eq_true rfl) ?_
  exact jv_iret dX3_hasPlace_11 rfl jv_b_n (jv_b_iff (by rw [ot_le0, ot_le_pred v (by omega)])) rfl rfl
set_option maxRecDepth 20000 in
theorem ot_hasCount {G : jv_Gr} {I : jv_I} {J : jv_J} {y : Nat} {Y : ot_Y} (hG : ot_YG G y) (hR : ot_YR I y Y) (hW : ot_YW Y) (v : Int32) : jv_C 2 mX3_hasCount [.ref y, .int v] G I J (some (.int (jv_b (0 ≤ v.toInt ∧ v.toInt < Y 10 1)))) G I J := by
  refine jv_enter okX3_hasCount (L := [.ref y, .int v]) rfl (Nat.le_of_ble_eq_true rfl) ?_
  have bn := yw_n hW
  have bc := yw_c hW
  have bw := yw_w hW
  refine jv_iload1 dX3_hasCount_0 ?_
  refine jv_iconst dX3_hasCount_1 jv_c_iconst_0 ?_
  refine jv_aload0 dX3_hasCount_2 ?_
  refine jv_getI dX3_hasCount_3 flX3_28 rfl (yk hG) (yi_counts hR) ?_
  refine jv_iconst dX3_hasCount_6 jv_c_iconst_1 ?_
  refine jv_isub dX3_hasCount_7 ?_
  refine jv_sn31 dX3_hasCount_8 okX4_within stX4_within nlX3_64 (ot_within v (nI 0) (nI (Y 10 1) - nI 1)) (by decide) (Nat.le_of_ble_eq_true rfl) ?_
  exact jv_iret dX3_hasCount_11 rfl jv_b_n (jv_b_iff (by rw [ot_le0, ot_le_pred v (by omega)])) rfl rfl
set_option maxRecDepth 20000 in
theorem ot_hasWish {G : jv_Gr} {I : jv_I} {J : jv_J} {y : Nat} {Y : ot_Y} (hG : ot_YG G y) (hR : ot_YR I y Y) (hW : ot_YW Y) (v : Int32) : jv_C 2 mX3_hasWish [.ref y, .int v] G I J (some (.int (jv_b (0 ≤ v.toInt ∧ v.toInt < Y 10 2)))) G I J := by
  refine jv_enter okX3_hasWish (L := [.ref y, .int v]) rfl (Nat.le_of_ble_eq_true rfl) ?_
  have bn := yw_n hW
  have bc := yw_c hW
  have bw := yw_w hW
  refine jv_iload1 dX3_hasWish_0 ?_
  refine jv_iconst dX3_hasWish_1 jv_c_iconst_0 ?_
  refine jv_aload0 dX3_hasWish_2 ?_
  refine jv_getI dX3_hasWish_3 flX3_40 rfl (yk hG) (yi_wishes hR) ?_
  refine jv_iconst dX3_hasWish_6 jv_c_iconst_1 ?_
  refine jv_isub dX3_hasWish_7 ?_
  refine jv_sn31 dX3_hasWish_8 okX4_within stX4_within nlX3_64 (ot_within v (nI 0) (nI (Y 10 2) - nI 1)) (by decide) (Nat.le_of_ble_eq_true rfl) ?_
  exact jv_iret dX3_hasWish_11 rfl jv_b_n (jv_b_iff (by rw [ot_le0, ot_le_pred v (by omega)])) rfl rfl
set_option maxRecDepth 20000 in
theorem ot_evenPlaces {G : jv_Gr} {I : jv_I} {J : jv_J} {y : Nat} {Y : ot_Y} (hG : ot_YG G y) (hR : ot_YR I y Y) (hW : ot_YW Y) : jv_C 1 mX3_evenPlaces [.ref y] G I J (some (.int (nI ((Y 10 0 + 1) / 2)))) G I J := by
  refine jv_enter okX3_evenPlaces (L := [.ref y]) rfl (Nat.le_of_ble_eq_true rfl) ?_
  have bn := yw_n hW
  have bc := yw_c hW
  have bw := yw_w hW
  refine jv_aload0 dX3_evenPlaces_0 ?_
  refine jv_getI dX3_evenPlaces_1 flX3_9 rfl (yk hG) (yi_children hR) ?_
  refine jv_iconst dX3_evenPlaces_4 jv_c_iconst_1 ?_
  refine jv_iaddN dX3_evenPlaces_5 ?_
  refine jv_iconst dX3_evenPlaces_6 jv_c_iconst_2 ?_
  refine jv_idivN dX3_evenPlaces_7 (by omega) (by omega) (by omega) ?_
  exact jv_iret dX3_evenPlaces_8 rfl rfl rfl rfl rfl
set_option maxRecDepth 20000 in
theorem ot_sideAt {G : jv_Gr} {I : jv_I} {J : jv_J} {y : Nat} {Y : ot_Y} (hG : ot_YG G y) (hR : ot_YR I y Y) (hW : ot_YW Y) {k p : Nat} (hk : k < Y 10 1) (hp : p < Y 10 0) : jv_C 2 mX3_sideAt [.ref y, .int (nI k), .int (nI p)] G I J (some (.int (nI (ot_side Y k p)))) G I J := by
  refine jv_enter okX3_sideAt (L := [.ref y, .int (nI k), .int (nI p), .null, .null]) rfl (Nat.le_of_ble_eq_true rfl) ?_
  have bn := yw_n hW
  have bc := yw_c hW
  have bw := yw_w hW
  have hq := yw_count hW hk
  have J : ∀ b : Int32, b = jv_b (0 < Y 5 k ∧ Y 5 k ≤ p) → jv_V 2 mX3_sideAt 38 [.ref y, .int (nI k), .int (nI p), .int (nI (Y 4 k)), .null] [.int b] G I J (some (.int (nI (ot_side Y k p)))) G I J := by
    intro b hb
    subst hb
    rcases (show Y 3 k = 0 ∨ Y 3 k = 1 ∨ Y 3 k = 2 ∨ Y 3 k = 3 ∨ Y 3 k = 4 ∨ Y 3 k = 5 by omega) with e3 | e3 | e3 | e3 | e3 | e3
    · refine jv_istore4 dX3_sideAt_38 rfl ?_
      refine jv_aload0 dX3_sideAt_40 ?_
      refine jv_getR dX3_sideAt_41 flX3_31 rfl (yk hG) (yr_kinds hG) ?_
      refine jv_iload1 dX3_sideAt_44 ?_
      refine jv_ialdN dX3_sideAt_45 (yk_kinds hG) (by omega) (by decide) (ye_kinds hR (by omega)) ?_
      refine jv_tableOut dX3_sideAt_46 (tgt := 163) (by rw [nI_toInt (by omega)]; omega) (by decide) ?_
      refine jv_iload2 dX3_sideAt_163 ?_
      refine jv_iload3 dX3_sideAt_164 ?_
      refine jv_iremN dX3_sideAt_165 (by omega) (by omega) (by omega) ?_
      exact jv_iret dX3_sideAt_166 rfl rfl (by unfold ot_side; simp [e3]) rfl rfl
    · refine jv_istore4 dX3_sideAt_38 rfl ?_
      refine jv_aload0 dX3_sideAt_40 ?_
      refine jv_getR dX3_sideAt_41 flX3_31 rfl (yk hG) (yr_kinds hG) ?_
      refine jv_iload1 dX3_sideAt_44 ?_
      refine jv_ialdN dX3_sideAt_45 (yk_kinds hG) (by omega) (by decide) (ye_kinds hR (by omega)) ?_
      refine jv_tableIn dX3_sideAt_46 (tgt := 80) (by rw [nI_toInt (by omega)]; omega) (by rw [nI_toInt (by omega)]; omega) (by rw [nI_toInt (by omega), e3]; rfl) (by decide) ?_
      refine jv_aload0 dX3_sideAt_80 ?_
      refine jv_getI dX3_sideAt_81 flX3_9 rfl (yk hG) (yi_children hR) ?_
      refine jv_iconst dX3_sideAt_84 jv_c_iconst_1 ?_
      refine jv_isubN dX3_sideAt_85 (by omega) ?_
      refine jv_iload2 dX3_sideAt_86 ?_
      refine jv_isubN dX3_sideAt_87 (by omega) ?_
      refine jv_iload3 dX3_sideAt_88 ?_
      refine jv_iremN dX3_sideAt_89 (by omega) (by omega) (by omega) ?_
      exact jv_iret dX3_sideAt_90 rfl rfl (by unfold ot_side; simp [e3]) rfl rfl
    · refine jv_istore4 dX3_sideAt_38 rfl ?_
      refine jv_aload0 dX3_sideAt_40 ?_
      refine jv_getR dX3_sideAt_41 flX3_31 rfl (yk hG) (yr_kinds hG) ?_
      refine jv_iload1 dX3_sideAt_44 ?_
      refine jv_ialdN dX3_sideAt_45 (yk_kinds hG) (by omega) (by decide) (ye_kinds hR (by omega)) ?_
      refine jv_tableIn dX3_sideAt_46 (tgt := 91) (by rw [nI_toInt (by omega)]; omega) (by rw [nI_toInt (by omega)]; omega) (by rw [nI_toInt (by omega), e3]; rfl) (by decide) ?_
      refine jv_iload2 dX3_sideAt_91 ?_
      refine jv_iconst dX3_sideAt_92 jv_c_iconst_2 ?_
      refine jv_iremN dX3_sideAt_93 (by omega) (by omega) (by omega) ?_
      refine jv_if_neN dX3_sideAt_94 (tgt := 103) (by decide) (by omega) (fun h94 => ?_) (fun h94 => ?_)
      · refine jv_aload0 dX3_sideAt_103 ?_
        refine jv_v01 dX3_sideAt_104 okX3_evenPlaces inX3_evenPlaces seX3_evenPlaces mlX3_98 (ci := 3) (T := TX3) (N := 15) rfl (yk hG) (ot_evenPlaces hG hR hW) (by decide) (Nat.le_of_ble_eq_true rfl) ?_
        refine jv_iload2 dX3_sideAt_107 ?_
        refine jv_iconst dX3_sideAt_108 jv_c_iconst_2 ?_
        refine jv_idivN dX3_sideAt_109 (by omega) (by omega) (by omega) ?_
        refine jv_iaddN dX3_sideAt_110 ?_
        refine jv_iload3 dX3_sideAt_111 ?_
        refine jv_iremN dX3_sideAt_112 (by omega) (by omega) (by omega) ?_
        exact jv_iret dX3_sideAt_113 rfl rfl (by unfold ot_side; simp [e3, h94]) rfl rfl
      · refine jv_iload2 dX3_sideAt_97 ?_
        refine jv_iconst dX3_sideAt_98 jv_c_iconst_2 ?_
        refine jv_idivN dX3_sideAt_99 (by omega) (by omega) (by omega) ?_
        refine jv_goto dX3_sideAt_100 (tgt := 111) (by decide) ?_
        refine jv_iload3 dX3_sideAt_111 ?_
        refine jv_iremN dX3_sideAt_112 (by omega) (by omega) (by omega) ?_
        exact jv_iret dX3_sideAt_113 rfl rfl (by unfold ot_side; simp [e3, h94]) rfl rfl
    · refine jv_istore4 dX3_sideAt_38 rfl ?_
      refine jv_aload0 dX3_sideAt_40 ?_
      refine jv_getR dX3_sideAt_41 flX3_31 rfl (yk hG) (yr_kinds hG) ?_
      refine jv_iload1 dX3_sideAt_44 ?_
      refine jv_ialdN dX3_sideAt_45 (yk_kinds hG) (by omega) (by decide) (ye_kinds hR (by omega)) ?_
      refine jv_tableIn dX3_sideAt_46 (tgt := 114) (by rw [nI_toInt (by omega)]; omega) (by rw [nI_toInt (by omega)]; omega) (by rw [nI_toInt (by omega), e3]; rfl) (by decide) ?_
      refine jv_iload4 dX3_sideAt_114 ?_
      refine jv_if_eqB dX3_sideAt_116 (tgt := 127) (by decide) (fun h116 => ?_) (fun h116 => ?_)
      · refine jv_iload2 dX3_sideAt_127 ?_
        refine jv_iload3 dX3_sideAt_128 ?_
        refine jv_iremN dX3_sideAt_129 (by omega) (by omega) (by omega) ?_
        exact jv_iret dX3_sideAt_130 rfl rfl (by unfold ot_side ot_slipped; rw [if_neg (show ¬ (0 < Y 5 k ∧ Y 5 k ≤ p) from h116)]; simp [e3]) rfl rfl
      · refine jv_iload2 dX3_sideAt_119 ?_
        refine jv_iconst dX3_sideAt_120 jv_c_iconst_1 ?_
        refine jv_isubN dX3_sideAt_121 (by omega) ?_
        refine jv_iload3 dX3_sideAt_122 ?_
        refine jv_iremN dX3_sideAt_123 (by omega) (by omega) (by omega) ?_
        refine jv_goto dX3_sideAt_124 (tgt := 130) (by decide) ?_
        exact jv_iret dX3_sideAt_130 rfl rfl (by unfold ot_side ot_slipped; rw [if_pos (show 0 < Y 5 k ∧ Y 5 k ≤ p from h116)]; simp [e3]) rfl rfl
    · refine jv_istore4 dX3_sideAt_38 rfl ?_
      refine jv_aload0 dX3_sideAt_40 ?_
      refine jv_getR dX3_sideAt_41 flX3_31 rfl (yk hG) (yr_kinds hG) ?_
      refine jv_iload1 dX3_sideAt_44 ?_
      refine jv_ialdN dX3_sideAt_45 (yk_kinds hG) (by omega) (by decide) (ye_kinds hR (by omega)) ?_
      refine jv_tableIn dX3_sideAt_46 (tgt := 131) (by rw [nI_toInt (by omega)]; omega) (by rw [nI_toInt (by omega)]; omega) (by rw [nI_toInt (by omega), e3]; rfl) (by decide) ?_
      refine jv_iload3 dX3_sideAt_131 ?_
      refine jv_iconst dX3_sideAt_132 jv_c_iconst_1 ?_
      refine jv_isubN dX3_sideAt_133 (by omega) ?_
      refine jv_aload0 dX3_sideAt_134 ?_
      refine jv_getI dX3_sideAt_135 flX3_9 rfl (yk hG) (yi_children hR) ?_
      refine jv_iconst dX3_sideAt_138 jv_c_iconst_1 ?_
      refine jv_isubN dX3_sideAt_139 (by omega) ?_
      refine jv_iload2 dX3_sideAt_140 ?_
      refine jv_isubN dX3_sideAt_141 (by omega) ?_
      refine jv_iload3 dX3_sideAt_142 ?_
      refine jv_iremN dX3_sideAt_143 (by omega) (by omega) (by omega) ?_
      refine jv_isubN dX3_sideAt_144 (by have := Nat.mod_lt (Y 10 0 - 1 - p) (show Y 4 k > 0 by omega); omega) ?_
      exact jv_iret dX3_sideAt_145 rfl rfl (by unfold ot_side; simp [e3]) rfl rfl
    · refine jv_istore4 dX3_sideAt_38 rfl ?_
      refine jv_aload0 dX3_sideAt_40 ?_
      refine jv_getR dX3_sideAt_41 flX3_31 rfl (yk hG) (yr_kinds hG) ?_
      refine jv_iload1 dX3_sideAt_44 ?_
      refine jv_ialdN dX3_sideAt_45 (yk_kinds hG) (by omega) (by decide) (ye_kinds hR (by omega)) ?_
      refine jv_tableIn dX3_sideAt_46 (tgt := 146) (by rw [nI_toInt (by omega)]; omega) (by rw [nI_toInt (by omega)]; omega) (by rw [nI_toInt (by omega), e3]; rfl) (by decide) ?_
      refine jv_iload4 dX3_sideAt_146 ?_
      refine jv_if_eqB dX3_sideAt_148 (tgt := 157) (by decide) (fun h148 => ?_) (fun h148 => ?_)
      · refine jv_iload2 dX3_sideAt_157 ?_
        refine jv_iconst dX3_sideAt_158 jv_c_iconst_1 ?_
        refine jv_iaddN dX3_sideAt_159 ?_
        refine jv_iload3 dX3_sideAt_160 ?_
        refine jv_iremN dX3_sideAt_161 (by omega) (by omega) (by omega) ?_
        exact jv_iret dX3_sideAt_162 rfl rfl (by unfold ot_side ot_slipped; rw [if_neg (show ¬ (0 < Y 5 k ∧ Y 5 k ≤ p) from h148)]; simp [e3]) rfl rfl
      · refine jv_iload2 dX3_sideAt_151 ?_
        refine jv_iload3 dX3_sideAt_152 ?_
        refine jv_iremN dX3_sideAt_153 (by omega) (by omega) (by omega) ?_
        refine jv_goto dX3_sideAt_154 (tgt := 162) (by decide) ?_
        exact jv_iret dX3_sideAt_162 rfl rfl (by unfold ot_side ot_slipped; rw [if_pos (show 0 < Y 5 k ∧ Y 5 k ≤ p from h148)]; simp [e3, show p - 1 + 1 = p by omega]) rfl rfl
  refine jv_aload0 dX3_sideAt_0 ?_
  refine jv_getR dX3_sideAt_1 flX3_34 rfl (yk hG) (yr_teams hG) ?_
  refine jv_iload1 dX3_sideAt_4 ?_
  refine jv_ialdN dX3_sideAt_5 (yk_teams hG) (by omega) (by decide) (ye_teams hR (by omega)) ?_
  refine jv_istore3 dX3_sideAt_6 rfl ?_
  refine jv_iload3 dX3_sideAt_7 ?_
  refine jv_iconst dX3_sideAt_8 jv_c_iconst_2 ?_
  refine jv_icmp_geN dX3_sideAt_9 (tgt := 14) (by decide) (by omega) (by omega) (fun h9 => ?_) (fun h9 => by omega)
  refine jv_aload0 dX3_sideAt_14 ?_
  refine jv_getR dX3_sideAt_15 flX3_37 rfl (yk hG) (yr_slips hG) ?_
  refine jv_iload1 dX3_sideAt_18 ?_
  refine jv_ialdN dX3_sideAt_19 (yk_slips hG) (by omega) (by decide) (ye_slips hR (by omega)) ?_
  refine jv_if_leN dX3_sideAt_20 (tgt := 37) (by decide) (by omega) (fun h20 => ?_) (fun h20 => ?_)
  · refine jv_iconst dX3_sideAt_37 jv_c_iconst_0 ?_
    exact J _ (ot_b0 (by omega))
  · refine jv_iload2 dX3_sideAt_23 ?_
    refine jv_aload0 dX3_sideAt_24 ?_
    refine jv_getR dX3_sideAt_25 flX3_37 rfl (yk hG) (yr_slips hG) ?_
    refine jv_iload1 dX3_sideAt_28 ?_
    refine jv_ialdN dX3_sideAt_29 (yk_slips hG) (by omega) (by decide) (ye_slips hR (by omega)) ?_
    refine jv_icmp_ltN dX3_sideAt_30 (tgt := 37) (by decide) (by omega) (by omega) (fun h30 => ?_) (fun h30 => ?_)
    · refine jv_iconst dX3_sideAt_37 jv_c_iconst_0 ?_
      exact J _ (ot_b0 (by omega))
    · refine jv_iconst dX3_sideAt_33 jv_c_iconst_1 ?_
      refine jv_goto dX3_sideAt_34 (tgt := 38) (by decide) ?_
      exact J _ (ot_b1 (by omega))
set_option maxRecDepth 20000 in
theorem ot_sideOfM {G : jv_Gr} {I : jv_I} {J : jv_J} {y : Nat} {Y : ot_Y} (hG : ot_YG G y) (hR : ot_YR I y Y) (hW : ot_YW Y) {k c : Nat} (hk : k < Y 10 1) (hc : c < Y 10 0) : jv_C 3 mX3_sideOf [.ref y, .int (nI k), .int (nI c)] G I J (some (.int (nI (ot_sideOf Y k c)))) G I J := by
  refine jv_enter okX3_sideOf (L := [.ref y, .int (nI k), .int (nI c)]) rfl (Nat.le_of_ble_eq_true rfl) ?_
  have bn := yw_n hW
  have bc := yw_c hW
  have bw := yw_w hW
  refine jv_aload0 dX3_sideOf_0 ?_
  refine jv_iload1 dX3_sideOf_1 ?_
  refine jv_aload0 dX3_sideOf_2 ?_
  refine jv_getR dX3_sideOf_3 flX3_22 rfl (yk hG) (yr_where hG) ?_
  refine jv_iload2 dX3_sideOf_6 ?_
  refine jv_ialdN dX3_sideOf_7 (yk_where hG) (by omega) (by decide) (ye_where hR (by omega)) ?_
  refine jv_v21 dX3_sideOf_8 okX3_sideAt inX3_sideAt seX3_sideAt mlX3_102 (ci := 3) (T := TX3) (N := 15) rfl (yk hG) (ot_sideAt hG hR hW hk (yw_child hW hc).2.2.2) (by decide) (Nat.le_of_ble_eq_true rfl) ?_
  exact jv_iret dX3_sideOf_11 rfl rfl rfl rfl rfl
set_option maxRecDepth 20000 in
theorem ot_sameSideM {G : jv_Gr} {I : jv_I} {J : jv_J} {y : Nat} {Y : ot_Y} (hG : ot_YG G y) (hR : ot_YR I y Y) (hW : ot_YW Y) {k c e : Nat} (hk : k < Y 10 1) (hc : c < Y 10 0) (he : e < Y 10 0) : jv_C 3 mX3_sameSide [.ref y, .int (nI k), .int (nI c), .int (nI e)] G I J (some (.int (jv_b (ot_sideOf Y k c = ot_sideOf Y k e)))) G I J := by
  refine jv_enter okX3_sameSide (L := [.ref y, .int (nI k), .int (nI c), .int (nI e)]) rfl (Nat.le_of_ble_eq_true rfl) ?_
  have bn := yw_n hW
  have bc := yw_c hW
  have bw := yw_w hW
  refine jv_aload0 dX3_sameSide_0 ?_
  refine jv_iload1 dX3_sameSide_1 ?_
  refine jv_aload0 dX3_sameSide_2 ?_
  refine jv_getR dX3_sameSide_3 flX3_22 rfl (yk hG) (yr_where hG) ?_
  refine jv_iload2 dX3_sameSide_6 ?_
  refine jv_ialdN dX3_sameSide_7 (yk_where hG) (by omega) (by decide) (ye_where hR (by omega)) ?_
  refine jv_v21 dX3_sameSide_8 okX3_sideAt inX3_sideAt seX3_sideAt mlX3_102 (ci := 3) (T := TX3) (N := 15) rfl (yk hG) (ot_sideAt hG hR hW hk (yw_child hW hc).2.2.2) (by decide) (Nat.le_of_ble_eq_true rfl) ?_
  refine jv_aload0 dX3_sameSide_11 ?_
  refine jv_iload1 dX3_sameSide_12 ?_
  refine jv_aload0 dX3_sameSide_13 ?_
  refine jv_getR dX3_sameSide_14 flX3_22 rfl (yk hG) (yr_where hG) ?_
  refine jv_iload3 dX3_sameSide_17 ?_
  refine jv_ialdN dX3_sameSide_18 (yk_where hG) (by omega) (by decide) (ye_where hR (by omega)) ?_
  refine jv_v21 dX3_sameSide_19 okX3_sideAt inX3_sideAt seX3_sideAt mlX3_102 (ci := 3) (T := TX3) (N := 15) rfl (yk hG) (ot_sideAt hG hR hW hk (yw_child hW he).2.2.2) (by decide) (Nat.le_of_ble_eq_true rfl) ?_
  refine jv_icmp_neN dX3_sameSide_22 (tgt := 29) (by decide) (by have := ot_side_5 hW hk (Y 2 c); omega) (by have := ot_side_5 hW hk (Y 2 e); omega) (fun h22 => ?_) (fun h22 => ?_)
  · refine jv_iconst dX3_sameSide_29 jv_c_iconst_0 ?_
    exact jv_iret dX3_sameSide_30 rfl (by decide) (ot_b0 h22) rfl rfl
  · refine jv_iconst dX3_sameSide_25 jv_c_iconst_1 ?_
    refine jv_goto dX3_sameSide_26 (tgt := 30) (by decide) ?_
    exact jv_iret dX3_sameSide_30 rfl (by decide) (ot_b1 h22) rfl rfl
set_option maxRecDepth 20000 in
theorem ot_isMetM {G : jv_Gr} {I : jv_I} {J : jv_J} {y : Nat} {Y : ot_Y} (hG : ot_YG G y) (hR : ot_YR I y Y) (hW : ot_YW Y) {k i : Nat} (hk : k < Y 10 1) (hi : i < Y 10 2) : jv_C 3 mX3_isMet [.ref y, .int (nI k), .int (nI i)] G I J (some (.int (jv_b (ot_met Y k i = true)))) G I J := by
  refine jv_enter okX3_isMet (L := [.ref y, .int (nI k), .int (nI i), .null, .null]) rfl (Nat.le_of_ble_eq_true rfl) ?_
  have bn := yw_n hW
  have bc := yw_c hW
  have bw := yw_w hW
  have hq := yw_wish hW hi
  have hf := yw_child hW hq.1
  have hs := yw_child hW hq.2.1
  have s1 := ot_side_5 hW hk (Y 2 (Y 6 i))
  have s2 := ot_side_5 hW hk (Y 2 (Y 7 i))
  refine jv_aload0 dX3_isMet_0 ?_
  refine jv_iload1 dX3_isMet_1 ?_
  refine jv_aload0 dX3_isMet_2 ?_
  refine jv_getR dX3_isMet_3 flX3_22 rfl (yk hG) (yr_where hG) ?_
  refine jv_aload0 dX3_isMet_6 ?_
  refine jv_getR dX3_isMet_7 flX3_43 rfl (yk hG) (yr_firsts hG) ?_
  refine jv_iload2 dX3_isMet_10 ?_
  refine jv_ialdN dX3_isMet_11 (yk_firsts hG) (by omega) (by decide) (ye_firsts hR (by omega)) ?_
  refine jv_ialdN dX3_isMet_12 (yk_where hG) (by omega) (by decide) (ye_where hR (by omega)) ?_
  refine jv_v21 dX3_isMet_13 okX3_sideAt inX3_sideAt seX3_sideAt mlX3_102 (ci := 3) (T := TX3) (N := 15) rfl (yk hG) (ot_sideAt hG hR hW hk hf.2.2.2) (by decide) (Nat.le_of_ble_eq_true rfl) ?_
  refine jv_istore3 dX3_isMet_16 rfl ?_
  refine jv_aload0 dX3_isMet_17 ?_
  refine jv_iload1 dX3_isMet_18 ?_
  refine jv_aload0 dX3_isMet_19 ?_
  refine jv_getR dX3_isMet_20 flX3_22 rfl (yk hG) (yr_where hG) ?_
  refine jv_aload0 dX3_isMet_23 ?_
  refine jv_getR dX3_isMet_24 flX3_46 rfl (yk hG) (yr_seconds hG) ?_
  refine jv_iload2 dX3_isMet_27 ?_
  refine jv_ialdN dX3_isMet_28 (yk_seconds hG) (by omega) (by decide) (ye_seconds hR (by omega)) ?_
  refine jv_ialdN dX3_isMet_29 (yk_where hG) (by omega) (by decide) (ye_where hR (by omega)) ?_
  refine jv_v21 dX3_isMet_30 okX3_sideAt inX3_sideAt seX3_sideAt mlX3_102 (ci := 3) (T := TX3) (N := 15) rfl (yk hG) (ot_sideAt hG hR hW hk hs.2.2.2) (by decide) (Nat.le_of_ble_eq_true rfl) ?_
  refine jv_istore4 dX3_isMet_33 rfl ?_
  refine jv_iload3 dX3_isMet_35 ?_
  refine jv_iload4 dX3_isMet_36 ?_
  refine jv_icmp_neN dX3_isMet_38 (tgt := 45) (by decide) (by omega) (by omega) (fun h38 => ?_) (fun h38 => ?_)
  · refine jv_iconst dX3_isMet_45 jv_c_iconst_0 ?_
    refine jv_aload0 dX3_isMet_46 ?_
    refine jv_getR dX3_isMet_47 flX3_49 rfl (yk hG) (yr_together hG) ?_
    refine jv_iload2 dX3_isMet_50 ?_
    refine jv_ialdN dX3_isMet_51 (yk_together hG) (by omega) (by decide) (ye_together hR (by omega)) ?_
    refine jv_iconst dX3_isMet_52 jv_c_iconst_1 ?_
    refine jv_icmp_neN dX3_isMet_53 (tgt := 60) (by decide) (by omega) (by omega) (fun h53 => ?_) (fun h53 => ?_)
    · refine jv_iconst dX3_isMet_60 jv_c_iconst_0 ?_
      refine jv_icmp_neN dX3_isMet_61 (tgt := 68) (by decide) (by omega) (by omega) (fun h61 => ?_) (fun h61 => ?_)
      · refine jv_iconst dX3_isMet_68 jv_c_iconst_0 ?_
        exact jv_iret dX3_isMet_69 rfl (by decide) (ot_b0 (by unfold ot_met ot_sideOf; simp_all)) rfl rfl
      · refine jv_iconst dX3_isMet_64 jv_c_iconst_1 ?_
        refine jv_goto dX3_isMet_65 (tgt := 69) (by decide) ?_
        exact jv_iret dX3_isMet_69 rfl (by decide) (ot_b1 (by unfold ot_met ot_sideOf; simp_all)) rfl rfl
    · refine jv_iconst dX3_isMet_56 jv_c_iconst_1 ?_
      refine jv_goto dX3_isMet_57 (tgt := 61) (by decide) ?_
      refine jv_icmp_neN dX3_isMet_61 (tgt := 68) (by decide) (by omega) (by omega) (fun h61 => ?_) (fun h61 => ?_)
      · refine jv_iconst dX3_isMet_68 jv_c_iconst_0 ?_
        exact jv_iret dX3_isMet_69 rfl (by decide) (ot_b0 (by unfold ot_met ot_sideOf; simp_all)) rfl rfl
      · refine jv_iconst dX3_isMet_64 jv_c_iconst_1 ?_
        refine jv_goto dX3_isMet_65 (tgt := 69) (by decide) ?_
        exact jv_iret dX3_isMet_69 rfl (by decide) (ot_b1 (by unfold ot_met ot_sideOf; simp_all)) rfl rfl
  · refine jv_iconst dX3_isMet_41 jv_c_iconst_1 ?_
    refine jv_goto dX3_isMet_42 (tgt := 46) (by decide) ?_
    refine jv_aload0 dX3_isMet_46 ?_
    refine jv_getR dX3_isMet_47 flX3_49 rfl (yk hG) (yr_together hG) ?_
    refine jv_iload2 dX3_isMet_50 ?_
    refine jv_ialdN dX3_isMet_51 (yk_together hG) (by omega) (by decide) (ye_together hR (by omega)) ?_
    refine jv_iconst dX3_isMet_52 jv_c_iconst_1 ?_
    refine jv_icmp_neN dX3_isMet_53 (tgt := 60) (by decide) (by omega) (by omega) (fun h53 => ?_) (fun h53 => ?_)
    · refine jv_iconst dX3_isMet_60 jv_c_iconst_0 ?_
      refine jv_icmp_neN dX3_isMet_61 (tgt := 68) (by decide) (by omega) (by omega) (fun h61 => ?_) (fun h61 => ?_)
      · refine jv_iconst dX3_isMet_68 jv_c_iconst_0 ?_
        exact jv_iret dX3_isMet_69 rfl (by decide) (ot_b0 (by unfold ot_met ot_sideOf; simp_all)) rfl rfl
      · refine jv_iconst dX3_isMet_64 jv_c_iconst_1 ?_
        refine jv_goto dX3_isMet_65 (tgt := 69) (by decide) ?_
        exact jv_iret dX3_isMet_69 rfl (by decide) (ot_b1 (by unfold ot_met ot_sideOf; simp_all)) rfl rfl
    · refine jv_iconst dX3_isMet_56 jv_c_iconst_1 ?_
      refine jv_goto dX3_isMet_57 (tgt := 61) (by decide) ?_
      refine jv_icmp_neN dX3_isMet_61 (tgt := 68) (by decide) (by omega) (by omega) (fun h61 => ?_) (fun h61 => ?_)
      · refine jv_iconst dX3_isMet_68 jv_c_iconst_0 ?_
        exact jv_iret dX3_isMet_69 rfl (by decide) (ot_b0 (by unfold ot_met ot_sideOf; simp_all)) rfl rfl
      · refine jv_iconst dX3_isMet_64 jv_c_iconst_1 ?_
        refine jv_goto dX3_isMet_65 (tgt := 69) (by decide) ?_
        exact jv_iret dX3_isMet_69 rfl (by decide) (ot_b1 (by unfold ot_met ot_sideOf; simp_all)) rfl rfl
set_option maxRecDepth 20000 in
theorem ot_valueByM {G : jv_Gr} {I : jv_I} {J : jv_J} {y : Nat} {Y : ot_Y} (hG : ot_YG G y) (hR : ot_YR I y Y) (hW : ot_YW Y) {k : Nat} (hk : k < Y 10 1) : jv_C 4 mX3_valueBy [.ref y, .int (nI k)] G I J (some (.int (nI (ot_value Y k)))) G I J := by
  refine jv_enter okX3_valueBy (L := [.ref y, .int (nI k), .null, .null]) rfl (Nat.le_of_ble_eq_true rfl) ?_
  have bn := yw_n hW
  have bc := yw_c hW
  have bw := yw_w hW
  have loop : ∀ (n i acc : Nat), Y 10 2 + 1 ≤ i + n → i ≤ Y 10 2 → acc = ot_sum (fun i => if ot_met Y k i = true then Y 9 i else 0) i → jv_V 4 mX3_valueBy 4 [.ref y, .int (nI k), .int (nI acc), .int (nI i)] [] G I J (some (.int (nI (ot_value Y k)))) G I J := by
    intro n
    induction n with
    | zero => intro i acc h1 h2; omega
    | succ n ih =>
      intro i acc h1 h2 ea
      refine jv_iload3 dX3_valueBy_4 ?_
      refine jv_aload0 dX3_valueBy_5 ?_
      refine jv_getI dX3_valueBy_6 flX3_40 rfl (yk hG) (yi_wishes hR) ?_
      refine jv_icmp_geN dX3_valueBy_9 (tgt := 36) (by decide) (by omega) (by omega) (fun h9 => ?_) (fun h9 => ?_)
      · refine jv_iload2 dX3_valueBy_36 ?_
        exact jv_iret dX3_valueBy_37 rfl rfl (by rw [ea, show i = Y 10 2 by omega]; rfl) rfl rfl
      · refine jv_aload0 dX3_valueBy_12 ?_
        refine jv_iload1 dX3_valueBy_13 ?_
        refine jv_iload3 dX3_valueBy_14 ?_
        refine jv_v21 dX3_valueBy_15 okX3_isMet inX3_isMet seX3_isMet mlX3_106 (ci := 3) (T := TX3) (N := 15) rfl (yk hG) (ot_isMetM hG hR hW hk (by omega)) (by decide) (Nat.le_of_ble_eq_true rfl) ?_
        refine jv_if_eqB dX3_valueBy_18 (tgt := 30) (by decide) (fun h18 => ?_) (fun h18 => ?_)
        · refine jv_iinc3N dX3_valueBy_30 rfl ?_
          refine jv_goto dX3_valueBy_33 (tgt := 4) (by decide) ?_
          exact ih (i + 1) _ (by omega) (by omega) (by rw [ot_sum, if_neg h18, ea]; rfl)
        · refine jv_iload2 dX3_valueBy_21 ?_
          refine jv_aload0 dX3_valueBy_22 ?_
          refine jv_getR dX3_valueBy_23 flX3_52 rfl (yk hG) (yr_worths hG) ?_
          refine jv_iload3 dX3_valueBy_26 ?_
          refine jv_ialdN dX3_valueBy_27 (yk_worths hG) (by omega) (by decide) (ye_worths hR (by omega)) ?_
          refine jv_iaddN dX3_valueBy_28 ?_
          refine jv_istore2 dX3_valueBy_29 rfl ?_
          refine jv_iinc3N dX3_valueBy_30 rfl ?_
          refine jv_goto dX3_valueBy_33 (tgt := 4) (by decide) ?_
          exact ih (i + 1) _ (by omega) (by omega) (by rw [ot_sum, if_pos h18, ea])
  refine jv_iconst dX3_valueBy_0 jv_c_iconst_0 ?_
  refine jv_istore2 dX3_valueBy_1 rfl ?_
  refine jv_iconst dX3_valueBy_2 jv_c_iconst_0 ?_
  refine jv_istore3 dX3_valueBy_3 rfl ?_
  exact loop (Y 10 2 + 1) 0 0 (by omega) (by omega) rfl
