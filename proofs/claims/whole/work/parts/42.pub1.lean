/-! ===== the face: what both answer (group 1) ===== -/
def ot_cc (d : Nat) (M : jv_M) (As : List Value) (G : jv_Gr) (I : jv_I) (J : jv_J) (A : Int32) (Y Z : ot_Y) (E : ot_E) (K : Option ot_Y) : Prop := ∃ I2 J2, jv_C d M As G I J (some (.int A)) G I2 J2 ∧ ot_C G I2 J2 Y Z E K ∧ ot_hi I I2 J J2
def ot_gx (G G2 : jv_Gr) : Prop := ∀ q, q < 64 → jv_k G2 q = jv_k G q ∧ ∀ i, jv_r G2 q i = jv_r G q i
theorem ot_gx.rf {G : jv_Gr} : ot_gx G G := fun _ _ => ⟨rfl, fun _ => rfl⟩
theorem ot_gx.tr {G G1 G2 : jv_Gr} (h : ot_gx G G1) (h2 : ot_gx G1 G2) : ot_gx G G2 := fun q hq => ⟨(h2 q hq).1.trans (h q hq).1, fun i => ((h2 q hq).2 i).trans ((h q hq).2 i)⟩
def ot_mm (d : Nat) (M : jv_M) (As : List Value) (G : jv_Gr) (I : jv_I) (J : jv_J) (A : Int32) (Y Z : ot_Y) (E : ot_E) (K : Option ot_Y) : Prop := ∃ G2 I2 J2, jv_C d M As G I J (some (.int A)) G2 I2 J2 ∧ ot_M G2 I2 J2 Y Z E K ∧ ot_lo I I2 J J2 ∧ ot_gx G G2
/-- the number of an argument that is none below 0 -/
def ot_n (v : Int32) : Nat := v.toInt.toNat
theorem ot_n_nI {j : Nat} (h : j < 2 ^ 30) : ot_n (nI j) = j := by
  unfold ot_n; rw [nI_toInt (by omega)]; omega
section OTN
variable {I : jv_I} {J : jv_J} {Z : ot_Y} {E : ot_E} {s : Nat}
theorem nr_tag (h : ot_NR I J Z E) (hs : s < 8) : I (64 + 1) s = nI (Z 0 s) := (h.1 s hs).1
theorem nr_sort (h : ot_NR I J Z E) (hs : s < 8) (h1 : Z 0 s = 1) : I (64 + 2) s = nI (Z 1 s) := ((h.1 s hs).2.1 h1).1
theorem nr_size (h : ot_NR I J Z E) (hs : s < 8) (h1 : Z 0 s = 1) : I (64 + 3) s = nI (Z 2 s) := ((h.1 s hs).2.1 h1).2.1
theorem nr_el (h : ot_NR I J Z E) (hs : s < 8) (h1 : Z 0 s = 1) {i : Nat} (hi : i < 40) : J (64 + (5 + s)) i = E s i := ((h.1 s hs).2.1 h1).2.2 i hi
theorem nr_shown (h : ot_NR I J Z E) (hs : s < 8) (h2 : Z 0 s = 2) : I (64 + 14) s = nI (Z 3 s) := (h.1 s hs).2.2 h2
theorem nr_tsize (h : ot_NR I J Z E) : I 64 7 = nI (Z 4 0) := h.2.1.1
theorem nr_tape (h : ot_NR I J Z E) {i : Nat} (hi : i < Z 4 0) : I (64 + 15) i = nI (Z 5 i) := h.2.1.2 i hi
theorem nr_ref (h : ot_NR I J Z E) {j : Nat} (hj : j < 5) : I (64 + 16) (j + 2) = nI (Z 6 j) := h.2.2 j hj
end OTN
set_option maxRecDepth 20000 in
theorem om_refuse20 {G : jv_Gr} {I : jv_I} {J : jv_J} {Y Z : ot_Y} {E : ot_E} {K : Option ot_Y} (h : ot_M G I J Y Z E K) : jv_C 1 mX5_refuse [.ref 64, .int (-2)] G I J (some (.int (-2))) G (jv_up I 80 2 (nI (Z 6 0 + 1))) J := by
  refine jv_enter okX5_refuse (L := [.ref 64, .int (-2)]) rfl (Nat.le_of_ble_eq_true rfl) ?_
  refine jv_aload0 dX5_refuse_0 ?_
  refine jv_getR dX5_refuse_1 flX5_34 rfl (mk h.g) (mr_refused h.g) ?_
  refine jv_iload1 dX5_refuse_4 ?_
  refine jv_ineg dX5_refuse_5 ?_
  rw [show -(-2 : Int32) = nI 2 by decide]
  refine jv_dup2 dX5_refuse_6 rfl rfl ?_
  refine jv_ialdN dX5_refuse_7 (mk_refused h.g) (by decide) (by decide) (nr_ref h.s (show 0 < 5 by decide)) ?_
  refine jv_iconst dX5_refuse_8 jv_c_iconst_1 ?_
  refine jv_iaddN dX5_refuse_9 ?_
  refine jv_iastN dX5_refuse_10 (mk_refused h.g) (by decide) (by decide) ?_
  refine jv_iload1 dX5_refuse_11 ?_
  exact jv_iret dX5_refuse_12 rfl rfl rfl rfl rfl
theorem om_refuse2 {G : jv_Gr} {I : jv_I} {J : jv_J} {Y Z : ot_Y} {E : ot_E} {K : Option ot_Y} (h : ot_M G I J Y Z E K) : ∃ I2, jv_C 1 mX5_refuse [.ref 64, .int (-2)] G I J (some (.int (-2))) G I2 J ∧ ot_M G I2 J Y (ot_ref Z 0) E K ∧ ot_lo I I2 J J := ⟨_, om_refuse20 h, ot_M_ref h (by decide), fun q hq => ⟨jv_up_ne _ _ _ (by omega), rfl⟩⟩
set_option maxRecDepth 20000 in
theorem om_refuse30 {G : jv_Gr} {I : jv_I} {J : jv_J} {Y Z : ot_Y} {E : ot_E} {K : Option ot_Y} (h : ot_M G I J Y Z E K) : jv_C 1 mX5_refuse [.ref 64, .int (-3)] G I J (some (.int (-3))) G (jv_up I 80 3 (nI (Z 6 1 + 1))) J := by
  refine jv_enter okX5_refuse (L := [.ref 64, .int (-3)]) rfl (Nat.le_of_ble_eq_true rfl) ?_
  refine jv_aload0 dX5_refuse_0 ?_
  refine jv_getR dX5_refuse_1 flX5_34 rfl (mk h.g) (mr_refused h.g) ?_
  refine jv_iload1 dX5_refuse_4 ?_
  refine jv_ineg dX5_refuse_5 ?_
  rw [show -(-3 : Int32) = nI 3 by decide]
  refine jv_dup2 dX5_refuse_6 rfl rfl ?_
  refine jv_ialdN dX5_refuse_7 (mk_refused h.g) (by decide) (by decide) (nr_ref h.s (show 1 < 5 by decide)) ?_
  refine jv_iconst dX5_refuse_8 jv_c_iconst_1 ?_
  refine jv_iaddN dX5_refuse_9 ?_
  refine jv_iastN dX5_refuse_10 (mk_refused h.g) (by decide) (by decide) ?_
  refine jv_iload1 dX5_refuse_11 ?_
  exact jv_iret dX5_refuse_12 rfl rfl rfl rfl rfl
theorem om_refuse3 {G : jv_Gr} {I : jv_I} {J : jv_J} {Y Z : ot_Y} {E : ot_E} {K : Option ot_Y} (h : ot_M G I J Y Z E K) : ∃ I2, jv_C 1 mX5_refuse [.ref 64, .int (-3)] G I J (some (.int (-3))) G I2 J ∧ ot_M G I2 J Y (ot_ref Z 1) E K ∧ ot_lo I I2 J J := ⟨_, om_refuse30 h, ot_M_ref h (by decide), fun q hq => ⟨jv_up_ne _ _ _ (by omega), rfl⟩⟩
set_option maxRecDepth 20000 in
theorem om_refuse40 {G : jv_Gr} {I : jv_I} {J : jv_J} {Y Z : ot_Y} {E : ot_E} {K : Option ot_Y} (h : ot_M G I J Y Z E K) : jv_C 1 mX5_refuse [.ref 64, .int (-4)] G I J (some (.int (-4))) G (jv_up I 80 4 (nI (Z 6 2 + 1))) J := by
  refine jv_enter okX5_refuse (L := [.ref 64, .int (-4)]) rfl (Nat.le_of_ble_eq_true rfl) ?_
  refine jv_aload0 dX5_refuse_0 ?_
  refine jv_getR dX5_refuse_1 flX5_34 rfl (mk h.g) (mr_refused h.g) ?_
  refine jv_iload1 dX5_refuse_4 ?_
  refine jv_ineg dX5_refuse_5 ?_
  rw [show -(-4 : Int32) = nI 4 by decide]
  refine jv_dup2 dX5_refuse_6 rfl rfl ?_
  refine jv_ialdN dX5_refuse_7 (mk_refused h.g) (by decide) (by decide) (nr_ref h.s (show 2 < 5 by decide)) ?_
  refine jv_iconst dX5_refuse_8 jv_c_iconst_1 ?_
  refine jv_iaddN dX5_refuse_9 ?_
  refine jv_iastN dX5_refuse_10 (mk_refused h.g) (by decide) (by decide) ?_
  refine jv_iload1 dX5_refuse_11 ?_
  exact jv_iret dX5_refuse_12 rfl rfl rfl rfl rfl
theorem om_refuse4 {G : jv_Gr} {I : jv_I} {J : jv_J} {Y Z : ot_Y} {E : ot_E} {K : Option ot_Y} (h : ot_M G I J Y Z E K) : ∃ I2, jv_C 1 mX5_refuse [.ref 64, .int (-4)] G I J (some (.int (-4))) G I2 J ∧ ot_M G I2 J Y (ot_ref Z 2) E K ∧ ot_lo I I2 J J := ⟨_, om_refuse40 h, ot_M_ref h (by decide), fun q hq => ⟨jv_up_ne _ _ _ (by omega), rfl⟩⟩
set_option maxRecDepth 20000 in
theorem om_refuse50 {G : jv_Gr} {I : jv_I} {J : jv_J} {Y Z : ot_Y} {E : ot_E} {K : Option ot_Y} (h : ot_M G I J Y Z E K) : jv_C 1 mX5_refuse [.ref 64, .int (-5)] G I J (some (.int (-5))) G (jv_up I 80 5 (nI (Z 6 3 + 1))) J := by
  refine jv_enter okX5_refuse (L := [.ref 64, .int (-5)]) rfl (Nat.le_of_ble_eq_true rfl) ?_
  refine jv_aload0 dX5_refuse_0 ?_
  refine jv_getR dX5_refuse_1 flX5_34 rfl (mk h.g) (mr_refused h.g) ?_
  refine jv_iload1 dX5_refuse_4 ?_
  refine jv_ineg dX5_refuse_5 ?_
  rw [show -(-5 : Int32) = nI 5 by decide]
  refine jv_dup2 dX5_refuse_6 rfl rfl ?_
  refine jv_ialdN dX5_refuse_7 (mk_refused h.g) (by decide) (by decide) (nr_ref h.s (show 3 < 5 by decide)) ?_
  refine jv_iconst dX5_refuse_8 jv_c_iconst_1 ?_
  refine jv_iaddN dX5_refuse_9 ?_
  refine jv_iastN dX5_refuse_10 (mk_refused h.g) (by decide) (by decide) ?_
  refine jv_iload1 dX5_refuse_11 ?_
  exact jv_iret dX5_refuse_12 rfl rfl rfl rfl rfl
theorem om_refuse5 {G : jv_Gr} {I : jv_I} {J : jv_J} {Y Z : ot_Y} {E : ot_E} {K : Option ot_Y} (h : ot_M G I J Y Z E K) : ∃ I2, jv_C 1 mX5_refuse [.ref 64, .int (-5)] G I J (some (.int (-5))) G I2 J ∧ ot_M G I2 J Y (ot_ref Z 3) E K ∧ ot_lo I I2 J J := ⟨_, om_refuse50 h, ot_M_ref h (by decide), fun q hq => ⟨jv_up_ne _ _ _ (by omega), rfl⟩⟩
set_option maxRecDepth 20000 in
theorem om_refuse60 {G : jv_Gr} {I : jv_I} {J : jv_J} {Y Z : ot_Y} {E : ot_E} {K : Option ot_Y} (h : ot_M G I J Y Z E K) : jv_C 1 mX5_refuse [.ref 64, .int (-6)] G I J (some (.int (-6))) G (jv_up I 80 6 (nI (Z 6 4 + 1))) J := by
  refine jv_enter okX5_refuse (L := [.ref 64, .int (-6)]) rfl (Nat.le_of_ble_eq_true rfl) ?_
  refine jv_aload0 dX5_refuse_0 ?_
  refine jv_getR dX5_refuse_1 flX5_34 rfl (mk h.g) (mr_refused h.g) ?_
  refine jv_iload1 dX5_refuse_4 ?_
  refine jv_ineg dX5_refuse_5 ?_
  rw [show -(-6 : Int32) = nI 6 by decide]
  refine jv_dup2 dX5_refuse_6 rfl rfl ?_
  refine jv_ialdN dX5_refuse_7 (mk_refused h.g) (by decide) (by decide) (nr_ref h.s (show 4 < 5 by decide)) ?_
  refine jv_iconst dX5_refuse_8 jv_c_iconst_1 ?_
  refine jv_iaddN dX5_refuse_9 ?_
  refine jv_iastN dX5_refuse_10 (mk_refused h.g) (by decide) (by decide) ?_
  refine jv_iload1 dX5_refuse_11 ?_
  exact jv_iret dX5_refuse_12 rfl rfl rfl rfl rfl
theorem om_refuse6 {G : jv_Gr} {I : jv_I} {J : jv_J} {Y Z : ot_Y} {E : ot_E} {K : Option ot_Y} (h : ot_M G I J Y Z E K) : ∃ I2, jv_C 1 mX5_refuse [.ref 64, .int (-6)] G I J (some (.int (-6))) G I2 J ∧ ot_M G I2 J Y (ot_ref Z 4) E K ∧ ot_lo I I2 J J := ⟨_, om_refuse60 h, ot_M_ref h (by decide), fun q hq => ⟨jv_up_ne _ _ _ (by omega), rfl⟩⟩
theorem om_isChildI {G : jv_Gr} {I : jv_I} {J : jv_J} {m : Nat} {Y : ot_Y} (hG : ot_MG G m) (hR : ot_MR I m Y) (hW : ot_YW Y) (v : Int32) : jv_C 2 mX5_isChild [.ref m, .long v.toInt64] G I J (some (.int (jv_b (0 ≤ v.toInt ∧ v.toInt < Y 10 0)))) G I J := by
  have q := om_isChild (J := J) hG hR hW v.toInt64
  rw [Int32.toInt_toInt64] at q
  exact q
theorem ot_toL_ne (a b : Int32) : a.toInt64 ≠ b.toInt64 ↔ a ≠ b := by
  constructor
  · intro h e; exact h (by rw [e])
  · intro h e; apply h; have := congrArg Int64.toInt e; rw [Int32.toInt_toInt64, Int32.toInt_toInt64] at this; exact Int32.toInt_inj.mp this
theorem om_areTwoI {G : jv_Gr} {I : jv_I} {J : jv_J} {m : Nat} {Y : ot_Y} (hG : ot_MG G m) (hR : ot_MR I m Y) (hW : ot_YW Y) (a b : Int32) : jv_C 3 mX5_areTwo [.ref m, .long a.toInt64, .long b.toInt64] G I J (some (.int (jv_b ((0 ≤ a.toInt ∧ a.toInt < Y 10 0) ∧ (0 ≤ b.toInt ∧ b.toInt < Y 10 0) ∧ a ≠ b)))) G I J := by
  have q := om_areTwo (J := J) hG hR hW a.toInt64 b.toInt64
  rw [Int32.toInt_toInt64, Int32.toInt_toInt64] at q
  rw [← jv_b_iff (and_congr_right fun _ => and_congr_right fun _ => ot_toL_ne a b)]
  exact q
theorem om_inN {G : jv_Gr} {I : jv_I} {J : jv_J} (v : Int32) {n : Nat} (hn : n < 2 ^ 30) : jv_C 1 mX5_in [.long v.toInt64, .long (lN 0), .long (nI n - nI 1).toInt64] G I J (some (.int (jv_b (0 ≤ v.toInt ∧ v.toInt < n)))) G I J := by
  have q := om_in (G := G) (I := I) (J := J) v.toInt64 (lN 0) (nI n - nI 1).toInt64
  rw [jv_b_iff (show _ ↔ (0 ≤ v.toInt ∧ v.toInt < n) by rw [ot_l0, ot_lpred _ hn, Int32.toInt_toInt64])] at q
  exact q
theorem om_inC {G : jv_Gr} {I : jv_I} {J : jv_J} (v : Int32) {a b : Nat} (ha : a < 2 ^ 30) (hb : b < 2 ^ 30) : jv_C 1 mX5_in [.long v.toInt64, .long (lN a), .long (lN b)] G I J (some (.int (jv_b (a ≤ v.toInt ∧ v.toInt ≤ b)))) G I J := by
  have q := om_in (G := G) (I := I) (J := J) v.toInt64 (lN a) (lN b)
  rw [jv_b_iff (show _ ↔ (a ≤ v.toInt ∧ v.toInt ≤ b) by rw [ot_inI, lN_toInt (by omega), lN_toInt (by omega)])] at q
  exact q
theorem oc_inC {G : jv_Gr} {I : jv_I} {J : jv_J} (v : Int32) {a b : Nat} (ha : a < 2 ^ 30) (hb : b < 2 ^ 30) : jv_C 1 mX4_within [.int v, .int (nI a), .int (nI b)] G I J (some (.int (jv_b (a ≤ v.toInt ∧ v.toInt ≤ b)))) G I J := by
  have q := ot_within (G := G) (I := I) (J := J) v (nI a) (nI b)
  rw [jv_b_iff (show _ ↔ (a ≤ v.toInt ∧ v.toInt ≤ b) by rw [Int32.le_iff_toInt_le, Int32.le_iff_toInt_le, nI_toInt (by omega), nI_toInt (by omega)])] at q
  exact q
set_option maxRecDepth 20000 in
theorem ot_hasTeam {G : jv_Gr} {I : jv_I} {J : jv_J} {y : Nat} {Y : ot_Y} (hG : ot_YG G y) (hR : ot_YR I y Y) (hW : ot_YW Y) (k t : Int32) : jv_C 3 mX3_hasTeam [.ref y, .int k, .int t] G I J (some (.int (jv_b ((0 ≤ k.toInt ∧ k.toInt < Y 10 1) ∧ (0 ≤ t.toInt ∧ t.toInt < Y 4 (ot_n k)))))) G I J := by
  refine jv_enter okX3_hasTeam (L := [.ref y, .int k, .int t]) rfl (Nat.le_of_ble_eq_true rfl) ?_
  have bn := yw_n hW
  have bc := yw_c hW
  refine jv_aload0 dX3_hasTeam_0 ?_
  refine jv_iload1 dX3_hasTeam_1 ?_
  refine jv_v11 dX3_hasTeam_2 okX3_hasCount inX3_hasCount seX3_hasCount mlX3_68 (ci := 3) (T := TX3) (N := 15) rfl (yk hG) (ot_hasCount hG hR hW k) (by decide) (Nat.le_of_ble_eq_true rfl) ?_
  refine jv_if_eqB dX3_hasTeam_5 (tgt := 28) (by decide) (fun h5 => ?_) (fun h5 => ?_)
  · refine jv_iconst dX3_hasTeam_28 jv_c_iconst_0 ?_
    exact jv_iret dX3_hasTeam_29 rfl (by decide) (ot_b0 (fun q => h5 q.1)) rfl rfl
  · have e := ot_of h5 (by omega)
    obtain ⟨j, hj, rfl⟩ := e
    rw [ot_n_nI (show j < 2 ^ 30 by omega)]
    have hq := yw_count hW hj
    refine jv_iload2 dX3_hasTeam_8 ?_
    refine jv_iconst dX3_hasTeam_9 jv_c_iconst_0 ?_
    refine jv_aload0 dX3_hasTeam_10 ?_
    refine jv_getR dX3_hasTeam_11 flX3_34 rfl (yk hG) (yr_teams hG) ?_
    refine jv_iload1 dX3_hasTeam_14 ?_
    refine jv_ialdN dX3_hasTeam_15 (yk_teams hG) (by omega) (by decide) (ye_teams hR (by omega)) ?_
    refine jv_iconst dX3_hasTeam_16 jv_c_iconst_1 ?_
    refine jv_isub dX3_hasTeam_17 ?_
    refine jv_sn31 dX3_hasTeam_18 okX4_within stX4_within nlX3_64 (ot_within t (nI 0) (nI (Y 4 j) - nI 1)) (by decide) (Nat.le_of_ble_eq_true rfl) ?_
    refine jv_if_eqB dX3_hasTeam_21 (tgt := 28) (by decide) (fun h21 => ?_) (fun h21 => ?_)
    · rw [ot_le0, ot_le_pred t (by omega)] at h21
      refine jv_iconst dX3_hasTeam_28 jv_c_iconst_0 ?_
      exact jv_iret dX3_hasTeam_29 rfl (by decide) (ot_b0 (fun q => h21 q.2)) rfl rfl
    · rw [ot_le0, ot_le_pred t (by omega)] at h21
      refine jv_iconst dX3_hasTeam_24 jv_c_iconst_1 ?_
      refine jv_goto dX3_hasTeam_25 (tgt := 29) (by decide) ?_
      exact jv_iret dX3_hasTeam_29 rfl (by decide) (ot_b1 ⟨h5, h21⟩) rfl rfl
set_option maxRecDepth 20000 in
theorem om_isTeam {G : jv_Gr} {I : jv_I} {J : jv_J} {m : Nat} {Y : ot_Y} (hG : ot_MG G m) (hR : ot_MR I m Y) (hW : ot_YW Y) (k t : Int32) : jv_C 3 mX5_isTeam [.ref m, .int k, .int t] G I J (some (.int (jv_b ((0 ≤ k.toInt ∧ k.toInt < Y 10 1) ∧ (0 ≤ t.toInt ∧ t.toInt < Y 4 (ot_n k)))))) G I J := by
  refine jv_enter okX5_isTeam (L := [.ref m, .int k, .int t]) rfl (Nat.le_of_ble_eq_true rfl) ?_
  have bn := yw_n hW
  have bc := yw_c hW
  refine jv_aload0 dX5_isTeam_0 ?_
  refine jv_iload1 dX5_isTeam_1 ?_
  refine jv_v11 dX5_isTeam_2 okX5_isCount inX5_isCount seX5_isCount mlX5_94 (ci := 5) (T := TX5) (N := 35) rfl (mk hG) (om_isCount hG hR hW k) (by decide) (Nat.le_of_ble_eq_true rfl) ?_
  refine jv_if_eqB dX5_isTeam_5 (tgt := 30) (by decide) (fun h5 => ?_) (fun h5 => ?_)
  · refine jv_iconst dX5_isTeam_30 jv_c_iconst_0 ?_
    exact jv_iret dX5_isTeam_31 rfl (by decide) (ot_b0 (fun q => h5 q.1)) rfl rfl
  · have e := ot_of h5 (by omega)
    obtain ⟨j, hj, rfl⟩ := e
    rw [ot_n_nI (show j < 2 ^ 30 by omega)]
    have hq := yw_count hW hj
    refine jv_iload2 dX5_isTeam_8 ?_
    refine jv_i2l dX5_isTeam_9 rfl ?_
    refine jv_lconst dX5_isTeam_10 (v := lN 0) rfl ?_
    refine jv_aload0 dX5_isTeam_11 ?_
    refine jv_getR dX5_isTeam_12 flX5_49 rfl (mk hG) (mr_by hG) ?_
    refine jv_iload1 dX5_isTeam_15 ?_
    refine jv_ialdN dX5_isTeam_16 (mk_by hG) (by omega) (by decide) (me_by hR (by omega)) ?_
    refine jv_iconst dX5_isTeam_17 jv_c_iconst_1 ?_
    refine jv_isub dX5_isTeam_18 ?_
    refine jv_i2l dX5_isTeam_19 rfl ?_
    refine jv_s31 dX5_isTeam_20 okX5_in stX5_in mlX5_83 (om_inN t (show Y 4 j < 2 ^ 30 by omega)) (by decide) (Nat.le_of_ble_eq_true rfl) ?_
    refine jv_if_eqB dX5_isTeam_23 (tgt := 30) (by decide) (fun h23 => ?_) (fun h23 => ?_)
    · refine jv_iconst dX5_isTeam_30 jv_c_iconst_0 ?_
      exact jv_iret dX5_isTeam_31 rfl (by decide) (ot_b0 (fun q => h23 q.2)) rfl rfl
    · refine jv_iconst dX5_isTeam_26 jv_c_iconst_1 ?_
      refine jv_goto dX5_isTeam_27 (tgt := 31) (by decide) ?_
      exact jv_iret dX5_isTeam_31 rfl (by decide) (ot_b1 ⟨h5, h23⟩) rfl rfl
set_option maxRecDepth 20000 in
theorem pc_value {G : jv_Gr} {I : jv_I} {J : jv_J} {Y Z : ot_Y} {E : ot_E} {K : Option ot_Y} (h : ot_C G I J Y Z E K) (k : Int32) : ot_cc 8 mX4_value [.ref 1, .int k] G I J (ot_ans (ot_rc (0 ≤ k.toInt ∧ k.toInt < Y 10 1)) (nI (ot_value Y (ot_n k)))) Y (ot_zr Z (ot_rc (0 ≤ k.toInt ∧ k.toInt < Y 10 1))) E K := by
  have bn := yw_n h.w
  have bc := yw_c h.w
  have bw := yw_w h.w
  refine ot_case (motive := fun A Z' => ot_cc 8 mX4_value [.ref 1, .int k] G I J A Y Z' E K) (fun hv => ?_) (fun hv => ?_)
  · obtain ⟨j, hj, rfl⟩ := ot_of hv (by omega)
    rw [ot_n_nI (show j < 2 ^ 30 by omega)]
    refine ⟨I, J, ?_, h, ot_hi.rf⟩
    refine jv_enter okX4_value (L := [.ref 1, .int (nI j)]) rfl (Nat.le_of_ble_eq_true rfl) ?_
    refine jv_aload0 dX4_value_0 ?_
    refine jv_getR dX4_value_1 flX4_10 rfl (ck h.g) (cr_now h.g) ?_
    refine jv_iload1 dX4_value_4 ?_
    refine jv_v11 dX4_value_5 okX3_hasCount inX3_hasCount seX3_hasCount mlX4_101 (ci := 3) (T := TX3) (N := 15) rfl (yk (cg_now h.g)) (ot_hasCount (cg_now h.g) h.r h.w _) (by decide) (Nat.le_of_ble_eq_true rfl) ?_
    refine jv_if_eqB dX4_value_8 (tgt := 22) (by decide) (fun hq8 => absurd hv hq8) (fun hq8 => ?_)
    refine jv_aload0 dX4_value_11 ?_
    refine jv_getR dX4_value_12 flX4_10 rfl (ck h.g) (cr_now h.g) ?_
    refine jv_iload1 dX4_value_15 ?_
    refine jv_v11 dX4_value_16 okX3_valueBy inX3_valueBy seX3_valueBy mlX4_223 (ci := 3) (T := TX3) (N := 15) rfl (yk (cg_now h.g)) (ot_valueByM (cg_now h.g) h.r h.w hj) (by decide) (Nat.le_of_ble_eq_true rfl) ?_
    refine jv_goto dX4_value_19 (tgt := 28) (by decide) ?_
    exact jv_iret dX4_value_28 rfl rfl rfl rfl rfl
  · obtain ⟨I2, hC, h2, h3⟩ := oc_refuse2 h
    refine ⟨I2, J, ?_, h2, h3⟩
    refine jv_enter okX4_value (L := [.ref 1, .int k]) rfl (Nat.le_of_ble_eq_true rfl) ?_
    refine jv_aload0 dX4_value_0 ?_
    refine jv_getR dX4_value_1 flX4_10 rfl (ck h.g) (cr_now h.g) ?_
    refine jv_iload1 dX4_value_4 ?_
    refine jv_v11 dX4_value_5 okX3_hasCount inX3_hasCount seX3_hasCount mlX4_101 (ci := 3) (T := TX3) (N := 15) rfl (yk (cg_now h.g)) (ot_hasCount (cg_now h.g) h.r h.w _) (by decide) (Nat.le_of_ble_eq_true rfl) ?_
    refine jv_if_eqB dX4_value_8 (tgt := 22) (by decide) (fun g8 => ?_) (fun g8 => ?_)
    · refine jv_aload0 dX4_value_22 ?_
      refine jv_bipush dX4_value_23 jv_c_bipush_m2 ?_
      refine jv_v11 dX4_value_25 okX4_refuse inX4_refuse seX4_refuse mlX4_61 (ci := 4) (T := TX4) (N := 8) rfl (ck h.g) hC (by decide) (Nat.le_of_ble_eq_true rfl) ?_
      exact jv_iret dX4_value_28 rfl rfl rfl rfl rfl
    · exact absurd g8 hv
set_option maxRecDepth 20000 in
theorem pm_value {G : jv_Gr} {I : jv_I} {J : jv_J} {Y Z : ot_Y} {E : ot_E} {K : Option ot_Y} (h : ot_M G I J Y Z E K) (k : Int32) : ot_mm 8 mX5_value [.ref 64, .int k] G I J (ot_ans (ot_rc (0 ≤ k.toInt ∧ k.toInt < Y 10 1)) (nI (ot_value Y (ot_n k)))) Y (ot_zr Z (ot_rc (0 ≤ k.toInt ∧ k.toInt < Y 10 1))) E K := by
  have bn := yw_n h.w
  have bc := yw_c h.w
  have bw := yw_w h.w
  refine ot_case (motive := fun A Z' => ot_mm 8 mX5_value [.ref 64, .int k] G I J A Y Z' E K) (fun hv => ?_) (fun hv => ?_)
  · obtain ⟨j, hj, rfl⟩ := ot_of hv (by omega)
    rw [ot_n_nI (show j < 2 ^ 30 by omega)]
    refine ⟨G, I, J, ?_, h, ot_lo.rf, ot_gx.rf⟩
    refine jv_enter okX5_value (L := [.ref 64, .int (nI j)]) rfl (Nat.le_of_ble_eq_true rfl) ?_
    refine jv_aload0 dX5_value_0 ?_
    refine jv_iload1 dX5_value_1 ?_
    refine jv_v11 dX5_value_2 okX5_isCount inX5_isCount seX5_isCount mlX5_94 (ci := 5) (T := TX5) (N := 35) rfl (mk h.g) (om_isCount h.g h.r h.w _) (by decide) (Nat.le_of_ble_eq_true rfl) ?_
    refine jv_if_eqB dX5_value_5 (tgt := 16) (by decide) (fun hq5 => absurd hv hq5) (fun hq5 => ?_)
    refine jv_aload0 dX5_value_8 ?_
    refine jv_iload1 dX5_value_9 ?_
    refine jv_v11 dX5_value_10 okX5_valueOf inX5_valueOf seX5_valueOf mlX5_278 (ci := 5) (T := TX5) (N := 35) rfl (mk h.g) (om_valueOf h.g h.r h.w hj) (by decide) (Nat.le_of_ble_eq_true rfl) ?_
    refine jv_goto dX5_value_13 (tgt := 22) (by decide) ?_
    exact jv_iret dX5_value_22 rfl rfl rfl rfl rfl
  · obtain ⟨I2, hC, h2, h3⟩ := om_refuse2 h
    refine ⟨G, I2, J, ?_, h2, h3, ot_gx.rf⟩
    refine jv_enter okX5_value (L := [.ref 64, .int k]) rfl (Nat.le_of_ble_eq_true rfl) ?_
    refine jv_aload0 dX5_value_0 ?_
    refine jv_iload1 dX5_value_1 ?_
    refine jv_v11 dX5_value_2 okX5_isCount inX5_isCount seX5_isCount mlX5_94 (ci := 5) (T := TX5) (N := 35) rfl (mk h.g) (om_isCount h.g h.r h.w _) (by decide) (Nat.le_of_ble_eq_true rfl) ?_
    refine jv_if_eqB dX5_value_5 (tgt := 16) (by decide) (fun g5 => ?_) (fun g5 => ?_)
    · refine jv_aload0 dX5_value_16 ?_
      refine jv_bipush dX5_value_17 jv_c_bipush_m2 ?_
      refine jv_v11 dX5_value_19 okX5_refuse inX5_refuse seX5_refuse mlX5_104 (ci := 5) (T := TX5) (N := 35) rfl (mk h.g) hC (by decide) (Nat.le_of_ble_eq_true rfl) ?_
      exact jv_iret dX5_value_22 rfl rfl rfl rfl rfl
    · exact absurd g5 hv
set_option maxRecDepth 20000 in
theorem pc_even {G : jv_Gr} {I : jv_I} {J : jv_J} {Y Z : ot_Y} {E : ot_E} {K : Option ot_Y} (h : ot_C G I J Y Z E K) (k : Int32) : ot_cc 8 mX4_even [.ref 1, .int k] G I J (ot_ans (ot_rc (0 ≤ k.toInt ∧ k.toInt < Y 10 1)) (nI (ot_even Y (ot_n k)))) Y (ot_zr Z (ot_rc (0 ≤ k.toInt ∧ k.toInt < Y 10 1))) E K := by
  have bn := yw_n h.w
  have bc := yw_c h.w
  have bw := yw_w h.w
  refine ot_case (motive := fun A Z' => ot_cc 8 mX4_even [.ref 1, .int k] G I J A Y Z' E K) (fun hv => ?_) (fun hv => ?_)
  · obtain ⟨j, hj, rfl⟩ := ot_of hv (by omega)
    rw [ot_n_nI (show j < 2 ^ 30 by omega)]
    refine ⟨I, J, ?_, h, ot_hi.rf⟩
    refine jv_enter okX4_even (L := [.ref 1, .int (nI j)]) rfl (Nat.le_of_ble_eq_true rfl) ?_
    refine jv_aload0 dX4_even_0 ?_
    refine jv_getR dX4_even_1 flX4_10 rfl (ck h.g) (cr_now h.g) ?_
    refine jv_iload1 dX4_even_4 ?_
    refine jv_v11 dX4_even_5 okX3_hasCount inX3_hasCount seX3_hasCount mlX4_101 (ci := 3) (T := TX3) (N := 15) rfl (yk (cg_now h.g)) (ot_hasCount (cg_now h.g) h.r h.w _) (by decide) (Nat.le_of_ble_eq_true rfl) ?_
    refine jv_if_eqB dX4_even_8 (tgt := 22) (by decide) (fun hq8 => absurd hv hq8) (fun hq8 => ?_)
    refine jv_aload0 dX4_even_11 ?_
    refine jv_getR dX4_even_12 flX4_10 rfl (ck h.g) (cr_now h.g) ?_
    refine jv_iload1 dX4_even_15 ?_
    refine jv_v11 dX4_even_16 okX3_unevenness inX3_unevenness seX3_unevenness mlX4_241 (ci := 3) (T := TX3) (N := 15) rfl (yk (cg_now h.g)) (ot_evenM (cg_now h.g) h.r h.w hj) (by decide) (Nat.le_of_ble_eq_true rfl) ?_
    refine jv_goto dX4_even_19 (tgt := 28) (by decide) ?_
    exact jv_iret dX4_even_28 rfl rfl rfl rfl rfl
  · obtain ⟨I2, hC, h2, h3⟩ := oc_refuse2 h
    refine ⟨I2, J, ?_, h2, h3⟩
    refine jv_enter okX4_even (L := [.ref 1, .int k]) rfl (Nat.le_of_ble_eq_true rfl) ?_
    refine jv_aload0 dX4_even_0 ?_
    refine jv_getR dX4_even_1 flX4_10 rfl (ck h.g) (cr_now h.g) ?_
    refine jv_iload1 dX4_even_4 ?_
    refine jv_v11 dX4_even_5 okX3_hasCount inX3_hasCount seX3_hasCount mlX4_101 (ci := 3) (T := TX3) (N := 15) rfl (yk (cg_now h.g)) (ot_hasCount (cg_now h.g) h.r h.w _) (by decide) (Nat.le_of_ble_eq_true rfl) ?_
    refine jv_if_eqB dX4_even_8 (tgt := 22) (by decide) (fun g8 => ?_) (fun g8 => ?_)
    · refine jv_aload0 dX4_even_22 ?_
      refine jv_bipush dX4_even_23 jv_c_bipush_m2 ?_
      refine jv_v11 dX4_even_25 okX4_refuse inX4_refuse seX4_refuse mlX4_61 (ci := 4) (T := TX4) (N := 8) rfl (ck h.g) hC (by decide) (Nat.le_of_ble_eq_true rfl) ?_
      exact jv_iret dX4_even_28 rfl rfl rfl rfl rfl
    · exact absurd g8 hv
set_option maxRecDepth 20000 in
theorem pm_even {G : jv_Gr} {I : jv_I} {J : jv_J} {Y Z : ot_Y} {E : ot_E} {K : Option ot_Y} (h : ot_M G I J Y Z E K) (k : Int32) : ot_mm 8 mX5_even [.ref 64, .int k] G I J (ot_ans (ot_rc (0 ≤ k.toInt ∧ k.toInt < Y 10 1)) (nI (ot_even Y (ot_n k)))) Y (ot_zr Z (ot_rc (0 ≤ k.toInt ∧ k.toInt < Y 10 1))) E K := by
  have bn := yw_n h.w
  have bc := yw_c h.w
  have bw := yw_w h.w
  refine ot_case (motive := fun A Z' => ot_mm 8 mX5_even [.ref 64, .int k] G I J A Y Z' E K) (fun hv => ?_) (fun hv => ?_)
  · obtain ⟨j, hj, rfl⟩ := ot_of hv (by omega)
    rw [ot_n_nI (show j < 2 ^ 30 by omega)]
    refine ⟨G, I, J, ?_, h, ot_lo.rf, ot_gx.rf⟩
    refine jv_enter okX5_even (L := [.ref 64, .int (nI j)]) rfl (Nat.le_of_ble_eq_true rfl) ?_
    refine jv_aload0 dX5_even_0 ?_
    refine jv_iload1 dX5_even_1 ?_
    refine jv_v11 dX5_even_2 okX5_isCount inX5_isCount seX5_isCount mlX5_94 (ci := 5) (T := TX5) (N := 35) rfl (mk h.g) (om_isCount h.g h.r h.w _) (by decide) (Nat.le_of_ble_eq_true rfl) ?_
    refine jv_if_eqB dX5_even_5 (tgt := 16) (by decide) (fun hq5 => absurd hv hq5) (fun hq5 => ?_)
    refine jv_aload0 dX5_even_8 ?_
    refine jv_iload1 dX5_even_9 ?_
    refine jv_v11 dX5_even_10 okX5_evenOf inX5_evenOf seX5_evenOf mlX5_287 (ci := 5) (T := TX5) (N := 35) rfl (mk h.g) (om_evenOf h.g h.r h.w hj) (by decide) (Nat.le_of_ble_eq_true rfl) ?_
    refine jv_goto dX5_even_13 (tgt := 22) (by decide) ?_
    exact jv_iret dX5_even_22 rfl rfl rfl rfl rfl
  · obtain ⟨I2, hC, h2, h3⟩ := om_refuse2 h
    refine ⟨G, I2, J, ?_, h2, h3, ot_gx.rf⟩
    refine jv_enter okX5_even (L := [.ref 64, .int k]) rfl (Nat.le_of_ble_eq_true rfl) ?_
    refine jv_aload0 dX5_even_0 ?_
    refine jv_iload1 dX5_even_1 ?_
    refine jv_v11 dX5_even_2 okX5_isCount inX5_isCount seX5_isCount mlX5_94 (ci := 5) (T := TX5) (N := 35) rfl (mk h.g) (om_isCount h.g h.r h.w _) (by decide) (Nat.le_of_ble_eq_true rfl) ?_
    refine jv_if_eqB dX5_even_5 (tgt := 16) (by decide) (fun g5 => ?_) (fun g5 => ?_)
    · refine jv_aload0 dX5_even_16 ?_
      refine jv_bipush dX5_even_17 jv_c_bipush_m2 ?_
      refine jv_v11 dX5_even_19 okX5_refuse inX5_refuse seX5_refuse mlX5_104 (ci := 5) (T := TX5) (N := 35) rfl (mk h.g) hC (by decide) (Nat.le_of_ble_eq_true rfl) ?_
      exact jv_iret dX5_even_22 rfl rfl rfl rfl rfl
    · exact absurd g5 hv
/-- the first of n for which p holds; n, if none -/
def ot_fst (p : Nat → Bool) : Nat → Nat
  | 0 => 0
  | n + 1 => if ot_fst p n < n then ot_fst p n else if p n = true then n else n + 1
theorem ot_fst_le (p : Nat → Bool) : ∀ n, ot_fst p n ≤ n
  | 0 => Nat.le_refl _
  | n + 1 => by have := ot_fst_le p n; rw [ot_fst]; split <;> (try split) <;> omega
theorem ot_fst_none {p : Nat → Bool} : ∀ n, (∀ j, j < n → p j = false) → ot_fst p n = n
  | 0, _ => rfl
  | n + 1, h => by rw [ot_fst, ot_fst_none n (fun j hj => h j (by omega)), if_neg (by omega), if_neg (by rw [h n (by omega)]; decide)]
theorem ot_fst_some {p : Nat → Bool} {i : Nat} : ∀ n, i < n → p i = true → (∀ j, j < i → p j = false) → ot_fst p n = i
  | 0, h, _, _ => absurd h (by omega)
  | n + 1, h, h1, h2 => by
    rw [ot_fst]
    by_cases e : i = n
    · subst e
      rw [ot_fst_none i h2, if_neg (by omega), if_pos h1]
    · rw [ot_fst_some n (by omega) h1 h2, if_pos (by omega)]
/-- the first of the greatest of n -/
def ot_arg (f : Nat → Nat) : Nat → Nat
  | 0 => 0
  | n + 1 => if f (ot_arg f n) < f n then n else ot_arg f n
theorem ot_arg_one (f : Nat → Nat) : ot_arg f 1 = 0 := by
  show (if f 0 < f 0 then 0 else 0) = 0
  split <;> rfl
theorem ot_arg_lt (f : Nat → Nat) : ∀ n, 0 < n → ot_arg f n < n
  | 0, h => absurd h (by omega)
  | 1, _ => by rw [ot_arg_one]; decide
  | n + 2, _ => by have := ot_arg_lt f (n + 1) (by omega); rw [ot_arg]; split <;> omega
def ot_at (Y : ot_Y) (p : Nat) : Nat := ot_fst (fun c => decide (Y 2 c = p)) (Y 10 0)
theorem ot_at_eq {Y : ot_Y} (hW : ot_YW Y) {e : Nat} (he : e < Y 10 0) : ot_at Y (Y 2 e) = e :=
  ot_fst_some _ he (decide_eq_true rfl) (fun j hj => decide_eq_false (fun q => by have := yw_inj hW (show j < Y 10 0 by omega) he q; omega))
def ot_unlike (Y : ot_Y) (k j : Nat) : Nat := ot_sum (fun c => if ot_sideOf Y k c = ot_sideOf Y j c then 0 else 1) (Y 10 0)
def ot_o (x : Option Nat) : Int32 := match x with
  | none => -1
  | some j => nI j
theorem ot_nI_n1 {j : Nat} (h : j < 2 ^ 30) : nI j ≠ -1 := fun e => by
  have := congrArg Int32.toInt e
  rw [nI_toInt (by omega), show (-1 : Int32).toInt = -1 by decide] at this
  omega
def ot_unmet (Y : ot_Y) (k : Nat) : Nat → Option Nat
  | 0 => none
  | i + 1 => if ot_met Y k i = true then ot_unmet Y k i else match ot_unmet Y k i with
    | none => some i
    | some j => if Y 9 j < Y 9 i then some i else some j
theorem ot_unmet_lt {Y : ot_Y} {k j : Nat} : ∀ i, ot_unmet Y k i = some j → j < i
  | 0, h => by cases h
  | i + 1, h => by
    rw [ot_unmet] at h
    split at h
    · have := ot_unmet_lt i h; omega
    · cases e : ot_unmet Y k i with
      | none => rw [e] at h; cases h; omega
      | some x =>
        rw [e] at h
        have hx := ot_unmet_lt i e
        dsimp only at h
        split at h <;> cases h <;> omega
theorem jv_b_and {P Q : Prop} [Decidable P] [Decidable Q] : jv_b P &&& jv_b Q = jv_b (P ∧ Q) := by
  unfold jv_b
  by_cases hp : P <;> by_cases hq : Q <;> simp [hp, hq] <;> rfl
theorem ot_times_all {Y : ot_Y} {a b : Nat} : ∀ n, (ot_sum (fun k => if ot_sideOf Y k a = ot_sideOf Y k b then 1 else 0) n = n ↔ ∀ k, k < n → ot_sideOf Y k a = ot_sideOf Y k b) ∧ ot_sum (fun k => if ot_sideOf Y k a = ot_sideOf Y k b then 1 else 0) n ≤ n
  | 0 => ⟨⟨fun _ k hk => absurd hk (by omega), fun _ => rfl⟩, Nat.le_refl _⟩
  | n + 1 => by
    obtain ⟨i1, i2⟩ := ot_times_all (Y := Y) (a := a) (b := b) n
    rw [ot_sum]
    by_cases e : ot_sideOf Y n a = ot_sideOf Y n b
    · rw [if_pos e]
      refine ⟨⟨fun q k hk => ?_, fun q => ?_⟩, by omega⟩
      · by_cases e2 : k = n
        · rw [e2]; exact e
        · exact i1.mp (by omega) k (by omega)
      · have := i1.mpr (fun k hk => q k (by omega)); omega
    · rw [if_neg e]
      refine ⟨⟨fun q => by omega, fun q => absurd (q n (by omega)) e⟩, by omega⟩
set_option maxRecDepth 20000 in
theorem pc_met {G : jv_Gr} {I : jv_I} {J : jv_J} {Y Z : ot_Y} {E : ot_E} {K : Option ot_Y} (h : ot_C G I J Y Z E K) (k : Int32) (i : Int32) : ot_cc 8 mX4_met [.ref 1, .int k, .int i] G I J (ot_ans (ot_rc ((0 ≤ k.toInt ∧ k.toInt < Y 10 1) ∧ (0 ≤ i.toInt ∧ i.toInt < Y 10 2))) (jv_b (ot_met Y (ot_n k) (ot_n i) = true))) Y (ot_zr Z (ot_rc ((0 ≤ k.toInt ∧ k.toInt < Y 10 1) ∧ (0 ≤ i.toInt ∧ i.toInt < Y 10 2)))) E K := by
  have bn := yw_n h.w
  have bc := yw_c h.w
  have bw := yw_w h.w
  refine ot_case (motive := fun A Z' => ot_cc 8 mX4_met [.ref 1, .int k, .int i] G I J A Y Z' E K) (fun hv => ?_) (fun hv => ?_)
  · obtain ⟨j, hj, rfl⟩ := ot_of hv.1 (by omega)
    rw [ot_n_nI (show j < 2 ^ 30 by omega)]
    obtain ⟨e, he, rfl⟩ := ot_of hv.2 (by omega)
    rw [ot_n_nI (show e < 2 ^ 30 by omega)]
    refine ⟨I, J, ?_, h, ot_hi.rf⟩
    refine jv_enter okX4_met (L := [.ref 1, .int (nI j), .int (nI e)]) rfl (Nat.le_of_ble_eq_true rfl) ?_
    refine jv_aload0 dX4_met_0 ?_
    refine jv_getR dX4_met_1 flX4_10 rfl (ck h.g) (cr_now h.g) ?_
    refine jv_iload1 dX4_met_4 ?_
    refine jv_v11 dX4_met_5 okX3_hasCount inX3_hasCount seX3_hasCount mlX4_101 (ci := 3) (T := TX3) (N := 15) rfl (yk (cg_now h.g)) (ot_hasCount (cg_now h.g) h.r h.w _) (by decide) (Nat.le_of_ble_eq_true rfl) ?_
    refine jv_if_eqB dX4_met_8 (tgt := 22) (by decide) (fun hq8 => absurd hv.1 hq8) (fun hq8 => ?_)
    refine jv_aload0 dX4_met_11 ?_
    refine jv_getR dX4_met_12 flX4_10 rfl (ck h.g) (cr_now h.g) ?_
    refine jv_iload2 dX4_met_15 ?_
    refine jv_v11 dX4_met_16 okX3_hasWish inX3_hasWish seX3_hasWish mlX4_187 (ci := 3) (T := TX3) (N := 15) rfl (yk (cg_now h.g)) (ot_hasWish (cg_now h.g) h.r h.w _) (by decide) (Nat.le_of_ble_eq_true rfl) ?_
    refine jv_if_neB dX4_met_19 (tgt := 29) (by decide) (fun hq19 => ?_) (fun hq19 => absurd hv.2 hq19)
    refine jv_aload0 dX4_met_29 ?_
    refine jv_getR dX4_met_30 flX4_10 rfl (ck h.g) (cr_now h.g) ?_
    refine jv_iload1 dX4_met_33 ?_
    refine jv_iload2 dX4_met_34 ?_
    refine jv_v21 dX4_met_35 okX3_isMet inX3_isMet seX3_isMet mlX4_226 (ci := 3) (T := TX3) (N := 15) rfl (yk (cg_now h.g)) (ot_isMetM (cg_now h.g) h.r h.w hj he) (by decide) (Nat.le_of_ble_eq_true rfl) ?_
    refine jv_if_eqB dX4_met_38 (tgt := 45) (by decide) (fun h38 => ?_) (fun h38 => ?_)
    · refine jv_iconst dX4_met_45 jv_c_iconst_0 ?_
      exact jv_iret dX4_met_46 rfl rfl (ot_b0 h38) rfl rfl
    · refine jv_iconst dX4_met_41 jv_c_iconst_1 ?_
      refine jv_goto dX4_met_42 (tgt := 46) (by decide) ?_
      exact jv_iret dX4_met_46 rfl rfl (ot_b1 h38) rfl rfl
  · obtain ⟨I2, hC, h2, h3⟩ := oc_refuse2 h
    refine ⟨I2, J, ?_, h2, h3⟩
    refine jv_enter okX4_met (L := [.ref 1, .int k, .int i]) rfl (Nat.le_of_ble_eq_true rfl) ?_
    refine jv_aload0 dX4_met_0 ?_
    refine jv_getR dX4_met_1 flX4_10 rfl (ck h.g) (cr_now h.g) ?_
    refine jv_iload1 dX4_met_4 ?_
    refine jv_v11 dX4_met_5 okX3_hasCount inX3_hasCount seX3_hasCount mlX4_101 (ci := 3) (T := TX3) (N := 15) rfl (yk (cg_now h.g)) (ot_hasCount (cg_now h.g) h.r h.w _) (by decide) (Nat.le_of_ble_eq_true rfl) ?_
    refine jv_if_eqB dX4_met_8 (tgt := 22) (by decide) (fun g8 => ?_) (fun g8 => ?_)
    · refine jv_aload0 dX4_met_22 ?_
      refine jv_bipush dX4_met_23 jv_c_bipush_m2 ?_
      refine jv_v11 dX4_met_25 okX4_refuse inX4_refuse seX4_refuse mlX4_61 (ci := 4) (T := TX4) (N := 8) rfl (ck h.g) hC (by decide) (Nat.le_of_ble_eq_true rfl) ?_
      exact jv_iret dX4_met_28 rfl rfl rfl rfl rfl
    · refine jv_aload0 dX4_met_11 ?_
      refine jv_getR dX4_met_12 flX4_10 rfl (ck h.g) (cr_now h.g) ?_
      refine jv_iload2 dX4_met_15 ?_
      refine jv_v11 dX4_met_16 okX3_hasWish inX3_hasWish seX3_hasWish mlX4_187 (ci := 3) (T := TX3) (N := 15) rfl (yk (cg_now h.g)) (ot_hasWish (cg_now h.g) h.r h.w _) (by decide) (Nat.le_of_ble_eq_true rfl) ?_
      refine jv_if_neB dX4_met_19 (tgt := 29) (by decide) (fun g19 => ?_) (fun g19 => ?_)
      · exact absurd ⟨g8, g19⟩ hv
      · refine jv_aload0 dX4_met_22 ?_
        refine jv_bipush dX4_met_23 jv_c_bipush_m2 ?_
        refine jv_v11 dX4_met_25 okX4_refuse inX4_refuse seX4_refuse mlX4_61 (ci := 4) (T := TX4) (N := 8) rfl (ck h.g) hC (by decide) (Nat.le_of_ble_eq_true rfl) ?_
        exact jv_iret dX4_met_28 rfl rfl rfl rfl rfl
set_option maxRecDepth 20000 in
theorem pm_met {G : jv_Gr} {I : jv_I} {J : jv_J} {Y Z : ot_Y} {E : ot_E} {K : Option ot_Y} (h : ot_M G I J Y Z E K) (k : Int32) (i : Int32) : ot_mm 8 mX5_met [.ref 64, .int k, .int i] G I J (ot_ans (ot_rc ((0 ≤ k.toInt ∧ k.toInt < Y 10 1) ∧ (0 ≤ i.toInt ∧ i.toInt < Y 10 2))) (jv_b (ot_met Y (ot_n k) (ot_n i) = true))) Y (ot_zr Z (ot_rc ((0 ≤ k.toInt ∧ k.toInt < Y 10 1) ∧ (0 ≤ i.toInt ∧ i.toInt < Y 10 2)))) E K := by
  have bn := yw_n h.w
  have bc := yw_c h.w
  have bw := yw_w h.w
  refine ot_case (motive := fun A Z' => ot_mm 8 mX5_met [.ref 64, .int k, .int i] G I J A Y Z' E K) (fun hv => ?_) (fun hv => ?_)
  · obtain ⟨j, hj, rfl⟩ := ot_of hv.1 (by omega)
    rw [ot_n_nI (show j < 2 ^ 30 by omega)]
    obtain ⟨e, he, rfl⟩ := ot_of hv.2 (by omega)
    rw [ot_n_nI (show e < 2 ^ 30 by omega)]
    refine ⟨G, I, J, ?_, h, ot_lo.rf, ot_gx.rf⟩
    refine jv_enter okX5_met (L := [.ref 64, .int (nI j), .int (nI e)]) rfl (Nat.le_of_ble_eq_true rfl) ?_
    refine jv_aload0 dX5_met_0 ?_
    refine jv_iload1 dX5_met_1 ?_
    refine jv_v11 dX5_met_2 okX5_isCount inX5_isCount seX5_isCount mlX5_94 (ci := 5) (T := TX5) (N := 35) rfl (mk h.g) (om_isCount h.g h.r h.w _) (by decide) (Nat.le_of_ble_eq_true rfl) ?_
    refine jv_if_eqB dX5_met_5 (tgt := 24) (by decide) (fun hq5 => absurd hv.1 hq5) (fun hq5 => ?_)
    refine jv_iload2 dX5_met_8 ?_
    refine jv_i2l dX5_met_9 rfl ?_
    refine jv_lconst dX5_met_10 (v := lN 0) rfl ?_
    refine jv_aload0 dX5_met_11 ?_
    refine jv_getI dX5_met_12 flX5_141 rfl (mk h.g) (mi_wishes h.r) ?_
    refine jv_iconst dX5_met_15 jv_c_iconst_1 ?_
    refine jv_isub dX5_met_16 ?_
    refine jv_i2l dX5_met_17 rfl ?_
    refine jv_s31 dX5_met_18 okX5_in stX5_in mlX5_83 (om_inN _ (show Y 10 2 < 2 ^ 30 by omega)) (by decide) (Nat.le_of_ble_eq_true rfl) ?_
    refine jv_if_neB dX5_met_21 (tgt := 31) (by decide) (fun hq21 => ?_) (fun hq21 => absurd hv.2 hq21)
    refine jv_aload0 dX5_met_31 ?_
    refine jv_iload1 dX5_met_32 ?_
    refine jv_iload2 dX5_met_33 ?_
    refine jv_v21 dX5_met_34 okX5_isMet inX5_isMet seX5_isMet mlX5_266 (ci := 5) (T := TX5) (N := 35) rfl (mk h.g) (om_isMet h.g h.r h.w hj he) (by decide) (Nat.le_of_ble_eq_true rfl) ?_
    refine jv_if_eqB dX5_met_37 (tgt := 44) (by decide) (fun h38 => ?_) (fun h38 => ?_)
    · refine jv_iconst dX5_met_44 jv_c_iconst_0 ?_
      exact jv_iret dX5_met_45 rfl rfl (ot_b0 h38) rfl rfl
    · refine jv_iconst dX5_met_40 jv_c_iconst_1 ?_
      refine jv_goto dX5_met_41 (tgt := 45) (by decide) ?_
      exact jv_iret dX5_met_45 rfl rfl (ot_b1 h38) rfl rfl
  · obtain ⟨I2, hC, h2, h3⟩ := om_refuse2 h
    refine ⟨G, I2, J, ?_, h2, h3, ot_gx.rf⟩
    refine jv_enter okX5_met (L := [.ref 64, .int k, .int i]) rfl (Nat.le_of_ble_eq_true rfl) ?_
    refine jv_aload0 dX5_met_0 ?_
    refine jv_iload1 dX5_met_1 ?_
    refine jv_v11 dX5_met_2 okX5_isCount inX5_isCount seX5_isCount mlX5_94 (ci := 5) (T := TX5) (N := 35) rfl (mk h.g) (om_isCount h.g h.r h.w _) (by decide) (Nat.le_of_ble_eq_true rfl) ?_
    refine jv_if_eqB dX5_met_5 (tgt := 24) (by decide) (fun g5 => ?_) (fun g5 => ?_)
    · refine jv_aload0 dX5_met_24 ?_
      refine jv_bipush dX5_met_25 jv_c_bipush_m2 ?_
      refine jv_v11 dX5_met_27 okX5_refuse inX5_refuse seX5_refuse mlX5_104 (ci := 5) (T := TX5) (N := 35) rfl (mk h.g) hC (by decide) (Nat.le_of_ble_eq_true rfl) ?_
      exact jv_iret dX5_met_30 rfl rfl rfl rfl rfl
    · refine jv_iload2 dX5_met_8 ?_
      refine jv_i2l dX5_met_9 rfl ?_
      refine jv_lconst dX5_met_10 (v := lN 0) rfl ?_
      refine jv_aload0 dX5_met_11 ?_
      refine jv_getI dX5_met_12 flX5_141 rfl (mk h.g) (mi_wishes h.r) ?_
      refine jv_iconst dX5_met_15 jv_c_iconst_1 ?_
      refine jv_isub dX5_met_16 ?_
      refine jv_i2l dX5_met_17 rfl ?_
      refine jv_s31 dX5_met_18 okX5_in stX5_in mlX5_83 (om_inN _ (show Y 10 2 < 2 ^ 30 by omega)) (by decide) (Nat.le_of_ble_eq_true rfl) ?_
      refine jv_if_neB dX5_met_21 (tgt := 31) (by decide) (fun g21 => ?_) (fun g21 => ?_)
      · exact absurd ⟨g5, g21⟩ hv
      · refine jv_aload0 dX5_met_24 ?_
        refine jv_bipush dX5_met_25 jv_c_bipush_m2 ?_
        refine jv_v11 dX5_met_27 okX5_refuse inX5_refuse seX5_refuse mlX5_104 (ci := 5) (T := TX5) (N := 35) rfl (mk h.g) hC (by decide) (Nat.le_of_ble_eq_true rfl) ?_
        exact jv_iret dX5_met_30 rfl rfl rfl rfl rfl
set_option maxRecDepth 20000 in
theorem pc_team {G : jv_Gr} {I : jv_I} {J : jv_J} {Y Z : ot_Y} {E : ot_E} {K : Option ot_Y} (h : ot_C G I J Y Z E K) (k : Int32) (c : Int32) : ot_cc 8 mX4_team [.ref 1, .int k, .int c] G I J (ot_ans (ot_rc ((0 ≤ k.toInt ∧ k.toInt < Y 10 1) ∧ (0 ≤ c.toInt ∧ c.toInt < Y 10 0))) (nI (ot_sideOf Y (ot_n k) (ot_n c)))) Y (ot_zr Z (ot_rc ((0 ≤ k.toInt ∧ k.toInt < Y 10 1) ∧ (0 ≤ c.toInt ∧ c.toInt < Y 10 0)))) E K := by
  have bn := yw_n h.w
  have bc := yw_c h.w
  have bw := yw_w h.w
  refine ot_case (motive := fun A Z' => ot_cc 8 mX4_team [.ref 1, .int k, .int c] G I J A Y Z' E K) (fun hv => ?_) (fun hv => ?_)
  · obtain ⟨j, hj, rfl⟩ := ot_of hv.1 (by omega)
    rw [ot_n_nI (show j < 2 ^ 30 by omega)]
    obtain ⟨e, he, rfl⟩ := ot_of hv.2 (by omega)
    rw [ot_n_nI (show e < 2 ^ 30 by omega)]
    refine ⟨I, J, ?_, h, ot_hi.rf⟩
    refine jv_enter okX4_team (L := [.ref 1, .int (nI j), .int (nI e)]) rfl (Nat.le_of_ble_eq_true rfl) ?_
    refine jv_aload0 dX4_team_0 ?_
    refine jv_getR dX4_team_1 flX4_10 rfl (ck h.g) (cr_now h.g) ?_
    refine jv_iload1 dX4_team_4 ?_
    refine jv_v11 dX4_team_5 okX3_hasCount inX3_hasCount seX3_hasCount mlX4_101 (ci := 3) (T := TX3) (N := 15) rfl (yk (cg_now h.g)) (ot_hasCount (cg_now h.g) h.r h.w _) (by decide) (Nat.le_of_ble_eq_true rfl) ?_
    refine jv_if_eqB dX4_team_8 (tgt := 22) (by decide) (fun hq8 => absurd hv.1 hq8) (fun hq8 => ?_)
    refine jv_aload0 dX4_team_11 ?_
    refine jv_getR dX4_team_12 flX4_10 rfl (ck h.g) (cr_now h.g) ?_
    refine jv_iload2 dX4_team_15 ?_
    refine jv_v11 dX4_team_16 okX3_hasChild inX3_hasChild seX3_hasChild mlX4_166 (ci := 3) (T := TX3) (N := 15) rfl (yk (cg_now h.g)) (ot_hasChild (cg_now h.g) h.r h.w _) (by decide) (Nat.le_of_ble_eq_true rfl) ?_
    refine jv_if_neB dX4_team_19 (tgt := 29) (by decide) (fun hq19 => ?_) (fun hq19 => absurd hv.2 hq19)
    refine jv_aload0 dX4_team_29 ?_
    refine jv_getR dX4_team_30 flX4_10 rfl (ck h.g) (cr_now h.g) ?_
    refine jv_iload1 dX4_team_33 ?_
    refine jv_iload2 dX4_team_34 ?_
    refine jv_v21 dX4_team_35 okX3_sideOf inX3_sideOf seX3_sideOf mlX4_208 (ci := 3) (T := TX3) (N := 15) rfl (yk (cg_now h.g)) (ot_sideOfM (cg_now h.g) h.r h.w hj he) (by decide) (Nat.le_of_ble_eq_true rfl) ?_
    exact jv_iret dX4_team_38 rfl rfl rfl rfl rfl
  · obtain ⟨I2, hC, h2, h3⟩ := oc_refuse2 h
    refine ⟨I2, J, ?_, h2, h3⟩
    refine jv_enter okX4_team (L := [.ref 1, .int k, .int c]) rfl (Nat.le_of_ble_eq_true rfl) ?_
    refine jv_aload0 dX4_team_0 ?_
    refine jv_getR dX4_team_1 flX4_10 rfl (ck h.g) (cr_now h.g) ?_
    refine jv_iload1 dX4_team_4 ?_
    refine jv_v11 dX4_team_5 okX3_hasCount inX3_hasCount seX3_hasCount mlX4_101 (ci := 3) (T := TX3) (N := 15) rfl (yk (cg_now h.g)) (ot_hasCount (cg_now h.g) h.r h.w _) (by decide) (Nat.le_of_ble_eq_true rfl) ?_
    refine jv_if_eqB dX4_team_8 (tgt := 22) (by decide) (fun g8 => ?_) (fun g8 => ?_)
    · refine jv_aload0 dX4_team_22 ?_
      refine jv_bipush dX4_team_23 jv_c_bipush_m2 ?_
      refine jv_v11 dX4_team_25 okX4_refuse inX4_refuse seX4_refuse mlX4_61 (ci := 4) (T := TX4) (N := 8) rfl (ck h.g) hC (by decide) (Nat.le_of_ble_eq_true rfl) ?_
      exact jv_iret dX4_team_28 rfl rfl rfl rfl rfl
    · refine jv_aload0 dX4_team_11 ?_
      refine jv_getR dX4_team_12 flX4_10 rfl (ck h.g) (cr_now h.g) ?_
      refine jv_iload2 dX4_team_15 ?_
      refine jv_v11 dX4_team_16 okX3_hasChild inX3_hasChild seX3_hasChild mlX4_166 (ci := 3) (T := TX3) (N := 15) rfl (yk (cg_now h.g)) (ot_hasChild (cg_now h.g) h.r h.w _) (by decide) (Nat.le_of_ble_eq_true rfl) ?_
      refine jv_if_neB dX4_team_19 (tgt := 29) (by decide) (fun g19 => ?_) (fun g19 => ?_)
      · exact absurd ⟨g8, g19⟩ hv
      · refine jv_aload0 dX4_team_22 ?_
        refine jv_bipush dX4_team_23 jv_c_bipush_m2 ?_
        refine jv_v11 dX4_team_25 okX4_refuse inX4_refuse seX4_refuse mlX4_61 (ci := 4) (T := TX4) (N := 8) rfl (ck h.g) hC (by decide) (Nat.le_of_ble_eq_true rfl) ?_
        exact jv_iret dX4_team_28 rfl rfl rfl rfl rfl
set_option maxRecDepth 20000 in
theorem pm_team {G : jv_Gr} {I : jv_I} {J : jv_J} {Y Z : ot_Y} {E : ot_E} {K : Option ot_Y} (h : ot_M G I J Y Z E K) (k : Int32) (c : Int32) : ot_mm 8 mX5_team [.ref 64, .int k, .int c] G I J (ot_ans (ot_rc ((0 ≤ k.toInt ∧ k.toInt < Y 10 1) ∧ (0 ≤ c.toInt ∧ c.toInt < Y 10 0))) (nI (ot_sideOf Y (ot_n k) (ot_n c)))) Y (ot_zr Z (ot_rc ((0 ≤ k.toInt ∧ k.toInt < Y 10 1) ∧ (0 ≤ c.toInt ∧ c.toInt < Y 10 0)))) E K := by
  have bn := yw_n h.w
  have bc := yw_c h.w
  have bw := yw_w h.w
  refine ot_case (motive := fun A Z' => ot_mm 8 mX5_team [.ref 64, .int k, .int c] G I J A Y Z' E K) (fun hv => ?_) (fun hv => ?_)
  · obtain ⟨j, hj, rfl⟩ := ot_of hv.1 (by omega)
    rw [ot_n_nI (show j < 2 ^ 30 by omega)]
    obtain ⟨e, he, rfl⟩ := ot_of hv.2 (by omega)
    rw [ot_n_nI (show e < 2 ^ 30 by omega)]
    refine ⟨G, I, J, ?_, h, ot_lo.rf, ot_gx.rf⟩
    refine jv_enter okX5_team (L := [.ref 64, .int (nI j), .int (nI e)]) rfl (Nat.le_of_ble_eq_true rfl) ?_
    refine jv_aload0 dX5_team_0 ?_
    refine jv_iload1 dX5_team_1 ?_
    refine jv_v11 dX5_team_2 okX5_isCount inX5_isCount seX5_isCount mlX5_94 (ci := 5) (T := TX5) (N := 35) rfl (mk h.g) (om_isCount h.g h.r h.w _) (by decide) (Nat.le_of_ble_eq_true rfl) ?_
    refine jv_if_eqB dX5_team_5 (tgt := 26) (by decide) (fun hq5 => absurd hv.1 hq5) (fun hq5 => ?_)
    refine jv_aload0 dX5_team_8 ?_
    refine jv_iload2 dX5_team_9 ?_
    refine jv_i2l dX5_team_10 rfl ?_
    refine jv_v11 dX5_team_11 okX5_isChild inX5_isChild seX5_isChild mlX5_87 (ci := 5) (T := TX5) (N := 35) rfl (mk h.g) (om_isChildI h.g h.r h.w _) (by decide) (Nat.le_of_ble_eq_true rfl) ?_
    refine jv_if_eqB dX5_team_14 (tgt := 26) (by decide) (fun hq14 => absurd hv.2 hq14) (fun hq14 => ?_)
    refine jv_aload0 dX5_team_17 ?_
    refine jv_iload1 dX5_team_18 ?_
    refine jv_iload2 dX5_team_19 ?_
    refine jv_v21 dX5_team_20 okX5_teamOf inX5_teamOf seX5_teamOf mlX5_260 (ci := 5) (T := TX5) (N := 35) rfl (mk h.g) (om_teamOf h.g h.r h.w hj he) (by decide) (Nat.le_of_ble_eq_true rfl) ?_
    refine jv_goto dX5_team_23 (tgt := 32) (by decide) ?_
    exact jv_iret dX5_team_32 rfl rfl rfl rfl rfl
  · obtain ⟨I2, hC, h2, h3⟩ := om_refuse2 h
    refine ⟨G, I2, J, ?_, h2, h3, ot_gx.rf⟩
    refine jv_enter okX5_team (L := [.ref 64, .int k, .int c]) rfl (Nat.le_of_ble_eq_true rfl) ?_
    refine jv_aload0 dX5_team_0 ?_
    refine jv_iload1 dX5_team_1 ?_
    refine jv_v11 dX5_team_2 okX5_isCount inX5_isCount seX5_isCount mlX5_94 (ci := 5) (T := TX5) (N := 35) rfl (mk h.g) (om_isCount h.g h.r h.w _) (by decide) (Nat.le_of_ble_eq_true rfl) ?_
    refine jv_if_eqB dX5_team_5 (tgt := 26) (by decide) (fun g5 => ?_) (fun g5 => ?_)
    · refine jv_aload0 dX5_team_26 ?_
      refine jv_bipush dX5_team_27 jv_c_bipush_m2 ?_
      refine jv_v11 dX5_team_29 okX5_refuse inX5_refuse seX5_refuse mlX5_104 (ci := 5) (T := TX5) (N := 35) rfl (mk h.g) hC (by decide) (Nat.le_of_ble_eq_true rfl) ?_
      exact jv_iret dX5_team_32 rfl rfl rfl rfl rfl
    · refine jv_aload0 dX5_team_8 ?_
      refine jv_iload2 dX5_team_9 ?_
      refine jv_i2l dX5_team_10 rfl ?_
      refine jv_v11 dX5_team_11 okX5_isChild inX5_isChild seX5_isChild mlX5_87 (ci := 5) (T := TX5) (N := 35) rfl (mk h.g) (om_isChildI h.g h.r h.w _) (by decide) (Nat.le_of_ble_eq_true rfl) ?_
      refine jv_if_eqB dX5_team_14 (tgt := 26) (by decide) (fun g14 => ?_) (fun g14 => ?_)
      · refine jv_aload0 dX5_team_26 ?_
        refine jv_bipush dX5_team_27 jv_c_bipush_m2 ?_
        refine jv_v11 dX5_team_29 okX5_refuse inX5_refuse seX5_refuse mlX5_104 (ci := 5) (T := TX5) (N := 35) rfl (mk h.g) hC (by decide) (Nat.le_of_ble_eq_true rfl) ?_
        exact jv_iret dX5_team_32 rfl rfl rfl rfl rfl
      · exact absurd ⟨g5, g14⟩ hv
set_option maxRecDepth 20000 in
theorem pc_at {G : jv_Gr} {I : jv_I} {J : jv_J} {Y Z : ot_Y} {E : ot_E} {K : Option ot_Y} (h : ot_C G I J Y Z E K) (p : Int32) : ot_cc 8 mX4_at [.ref 1, .int p] G I J (ot_ans (ot_rc (0 ≤ p.toInt ∧ p.toInt < Y 10 0)) (nI (ot_at Y (ot_n p)))) Y (ot_zr Z (ot_rc (0 ≤ p.toInt ∧ p.toInt < Y 10 0))) E K := by
  have bn := yw_n h.w
  have bc := yw_c h.w
  have bw := yw_w h.w
  refine ot_case (motive := fun A Z' => ot_cc 8 mX4_at [.ref 1, .int p] G I J A Y Z' E K) (fun hv => ?_) (fun hv => ?_)
  · obtain ⟨p2, hp2, rfl⟩ := ot_of hv (by omega)
    obtain ⟨e, he, rfl⟩ := ot_who h.w hp2
    rw [ot_n_nI (show Y 2 e < 2 ^ 30 by omega), ot_at_eq h.w he]
    refine ⟨I, J, ?_, h, ot_hi.rf⟩
    refine jv_enter okX4_at (L := [.ref 1, .int (nI (Y 2 e))]) rfl (Nat.le_of_ble_eq_true rfl) ?_
    refine jv_aload0 dX4_at_0 ?_
    refine jv_getR dX4_at_1 flX4_10 rfl (ck h.g) (cr_now h.g) ?_
    refine jv_iload1 dX4_at_4 ?_
    refine jv_v11 dX4_at_5 okX3_hasPlace inX3_hasPlace seX3_hasPlace mlX4_202 (ci := 3) (T := TX3) (N := 15) rfl (yk (cg_now h.g)) (ot_hasPlace (cg_now h.g) h.r h.w _) (by decide) (Nat.le_of_ble_eq_true rfl) ?_
    refine jv_if_eqB dX4_at_8 (tgt := 23) (by decide) (fun hq8 => absurd hv hq8) (fun hq8 => ?_)
    refine jv_aload0 dX4_at_11 ?_
    refine jv_getR dX4_at_12 flX4_10 rfl (ck h.g) (cr_now h.g) ?_
    refine jv_getR dX4_at_15 flX4_205 rfl (yk (cg_now h.g)) (yr_who (cg_now h.g)) ?_
    refine jv_iload1 dX4_at_18 ?_
    refine jv_ialdN dX4_at_19 (yk_who (cg_now h.g)) (by omega) (by decide) (ye_who h.r he) ?_
    refine jv_goto dX4_at_20 (tgt := 29) (by decide) ?_
    exact jv_iret dX4_at_29 rfl rfl rfl rfl rfl
  · obtain ⟨I2, hC, h2, h3⟩ := oc_refuse2 h
    refine ⟨I2, J, ?_, h2, h3⟩
    refine jv_enter okX4_at (L := [.ref 1, .int p]) rfl (Nat.le_of_ble_eq_true rfl) ?_
    refine jv_aload0 dX4_at_0 ?_
    refine jv_getR dX4_at_1 flX4_10 rfl (ck h.g) (cr_now h.g) ?_
    refine jv_iload1 dX4_at_4 ?_
    refine jv_v11 dX4_at_5 okX3_hasPlace inX3_hasPlace seX3_hasPlace mlX4_202 (ci := 3) (T := TX3) (N := 15) rfl (yk (cg_now h.g)) (ot_hasPlace (cg_now h.g) h.r h.w _) (by decide) (Nat.le_of_ble_eq_true rfl) ?_
    refine jv_if_eqB dX4_at_8 (tgt := 23) (by decide) (fun g8 => ?_) (fun g8 => ?_)
    · refine jv_aload0 dX4_at_23 ?_
      refine jv_bipush dX4_at_24 jv_c_bipush_m2 ?_
      refine jv_v11 dX4_at_26 okX4_refuse inX4_refuse seX4_refuse mlX4_61 (ci := 4) (T := TX4) (N := 8) rfl (ck h.g) hC (by decide) (Nat.le_of_ble_eq_true rfl) ?_
      exact jv_iret dX4_at_29 rfl rfl rfl rfl rfl
    · exact absurd g8 hv
set_option maxRecDepth 20000 in
theorem pm_at {G : jv_Gr} {I : jv_I} {J : jv_J} {Y Z : ot_Y} {E : ot_E} {K : Option ot_Y} (h : ot_M G I J Y Z E K) (p : Int32) : ot_mm 8 mX5_at [.ref 64, .int p] G I J (ot_ans (ot_rc (0 ≤ p.toInt ∧ p.toInt < Y 10 0)) (nI (ot_at Y (ot_n p)))) Y (ot_zr Z (ot_rc (0 ≤ p.toInt ∧ p.toInt < Y 10 0))) E K := by
  have bn := yw_n h.w
  have bc := yw_c h.w
  have bw := yw_w h.w
  refine ot_case (motive := fun A Z' => ot_mm 8 mX5_at [.ref 64, .int p] G I J A Y Z' E K) (fun hv => ?_) (fun hv => ?_)
  · obtain ⟨p2, hp2, rfl⟩ := ot_of hv (by omega)
    obtain ⟨e, he, rfl⟩ := ot_who h.w hp2
    rw [ot_n_nI (show Y 2 e < 2 ^ 30 by omega), ot_at_eq h.w he]
    refine ⟨G, I, J, ?_, h, ot_lo.rf, ot_gx.rf⟩
    refine jv_enter okX5_at (L := [.ref 64, .int (nI (Y 2 e))]) rfl (Nat.le_of_ble_eq_true rfl) ?_
    refine jv_aload0 dX5_at_0 ?_
    refine jv_iload1 dX5_at_1 ?_
    refine jv_i2l dX5_at_2 rfl ?_
    refine jv_v11 dX5_at_3 okX5_isChild inX5_isChild seX5_isChild mlX5_87 (ci := 5) (T := TX5) (N := 35) rfl (mk h.g) (om_isChildI h.g h.r h.w _) (by decide) (Nat.le_of_ble_eq_true rfl) ?_
    refine jv_if_eqB dX5_at_6 (tgt := 17) (by decide) (fun hq6 => absurd hv hq6) (fun hq6 => ?_)
    refine jv_aload0 dX5_at_9 ?_
    refine jv_iload1 dX5_at_10 ?_
    refine jv_v11 dX5_at_11 okX5_standing inX5_standing seX5_standing mlX5_254 (ci := 5) (T := TX5) (N := 35) rfl (mk h.g) (om_standing h.g h.r h.w he) (by decide) (Nat.le_of_ble_eq_true rfl) ?_
    refine jv_goto dX5_at_14 (tgt := 23) (by decide) ?_
    exact jv_iret dX5_at_23 rfl rfl rfl rfl rfl
  · obtain ⟨I2, hC, h2, h3⟩ := om_refuse2 h
    refine ⟨G, I2, J, ?_, h2, h3, ot_gx.rf⟩
    refine jv_enter okX5_at (L := [.ref 64, .int p]) rfl (Nat.le_of_ble_eq_true rfl) ?_
    refine jv_aload0 dX5_at_0 ?_
    refine jv_iload1 dX5_at_1 ?_
    refine jv_i2l dX5_at_2 rfl ?_
    refine jv_v11 dX5_at_3 okX5_isChild inX5_isChild seX5_isChild mlX5_87 (ci := 5) (T := TX5) (N := 35) rfl (mk h.g) (om_isChildI h.g h.r h.w _) (by decide) (Nat.le_of_ble_eq_true rfl) ?_
    refine jv_if_eqB dX5_at_6 (tgt := 17) (by decide) (fun g6 => ?_) (fun g6 => ?_)
    · refine jv_aload0 dX5_at_17 ?_
      refine jv_bipush dX5_at_18 jv_c_bipush_m2 ?_
      refine jv_v11 dX5_at_20 okX5_refuse inX5_refuse seX5_refuse mlX5_104 (ci := 5) (T := TX5) (N := 35) rfl (mk h.g) hC (by decide) (Nat.le_of_ble_eq_true rfl) ?_
      exact jv_iret dX5_at_23 rfl rfl rfl rfl rfl
    · exact absurd g6 hv
set_option maxRecDepth 20000 in
theorem pc_members {G : jv_Gr} {I : jv_I} {J : jv_J} {Y Z : ot_Y} {E : ot_E} {K : Option ot_Y} (h : ot_C G I J Y Z E K) (k : Int32) (t : Int32) : ot_cc 8 mX4_members [.ref 1, .int k, .int t] G I J (ot_ans (ot_rc ((0 ≤ k.toInt ∧ k.toInt < Y 10 1) ∧ (0 ≤ t.toInt ∧ t.toInt < Y 4 (ot_n k)))) (ot_bitsOf Y (ot_n k) (ot_n t))) Y (ot_zr Z (ot_rc ((0 ≤ k.toInt ∧ k.toInt < Y 10 1) ∧ (0 ≤ t.toInt ∧ t.toInt < Y 4 (ot_n k))))) E K := by
  have bn := yw_n h.w
  have bc := yw_c h.w
  have bw := yw_w h.w
  refine ot_case (motive := fun A Z' => ot_cc 8 mX4_members [.ref 1, .int k, .int t] G I J A Y Z' E K) (fun hv => ?_) (fun hv => ?_)
  · obtain ⟨j, hj, rfl⟩ := ot_of hv.1 (by omega)
    rw [ot_n_nI (show j < 2 ^ 30 by omega)]
    have hvt : 0 ≤ t.toInt ∧ t.toInt < Y 4 j := by have q := hv.2; rw [ot_n_nI (show j < 2 ^ 30 by omega)] at q; exact q
    have hq4 := yw_count h.w hj
    obtain ⟨e, he, rfl⟩ := ot_of hvt (by omega)
    rw [ot_n_nI (show e < 2 ^ 30 by omega)]
    refine ⟨I, J, ?_, h, ot_hi.rf⟩
    refine jv_enter okX4_members (L := [.ref 1, .int (nI j), .int (nI e)]) rfl (Nat.le_of_ble_eq_true rfl) ?_
    refine jv_aload0 dX4_members_0 ?_
    refine jv_getR dX4_members_1 flX4_10 rfl (ck h.g) (cr_now h.g) ?_
    refine jv_iload1 dX4_members_4 ?_
    refine jv_iload2 dX4_members_5 ?_
    refine jv_v21 dX4_members_6 okX3_hasTeam inX3_hasTeam seX3_hasTeam mlX4_211 (ci := 3) (T := TX3) (N := 15) rfl (yk (cg_now h.g)) (ot_hasTeam (cg_now h.g) h.r h.w _ _) (by decide) (Nat.le_of_ble_eq_true rfl) ?_
    refine jv_if_neB dX4_members_9 (tgt := 19) (by decide) (fun hq9 => ?_) (fun hq9 => absurd hv hq9)
    refine jv_aload0 dX4_members_19 ?_
    refine jv_getR dX4_members_20 flX4_10 rfl (ck h.g) (cr_now h.g) ?_
    refine jv_iload1 dX4_members_23 ?_
    refine jv_iload2 dX4_members_24 ?_
    refine jv_v21 dX4_members_25 okX3_bitsOfSide inX3_bitsOfSide seX3_bitsOfSide mlX4_214 (ci := 3) (T := TX3) (N := 15) rfl (yk (cg_now h.g)) (ot_bitsOfM (cg_now h.g) h.r h.w hj (show e < 5 by omega)) (by decide) (Nat.le_of_ble_eq_true rfl) ?_
    exact jv_iret dX4_members_28 rfl rfl rfl rfl rfl
  · obtain ⟨I2, hC, h2, h3⟩ := oc_refuse2 h
    refine ⟨I2, J, ?_, h2, h3⟩
    refine jv_enter okX4_members (L := [.ref 1, .int k, .int t]) rfl (Nat.le_of_ble_eq_true rfl) ?_
    refine jv_aload0 dX4_members_0 ?_
    refine jv_getR dX4_members_1 flX4_10 rfl (ck h.g) (cr_now h.g) ?_
    refine jv_iload1 dX4_members_4 ?_
    refine jv_iload2 dX4_members_5 ?_
    refine jv_v21 dX4_members_6 okX3_hasTeam inX3_hasTeam seX3_hasTeam mlX4_211 (ci := 3) (T := TX3) (N := 15) rfl (yk (cg_now h.g)) (ot_hasTeam (cg_now h.g) h.r h.w _ _) (by decide) (Nat.le_of_ble_eq_true rfl) ?_
    refine jv_if_neB dX4_members_9 (tgt := 19) (by decide) (fun g9 => ?_) (fun g9 => ?_)
    · exact absurd g9 hv
    · refine jv_aload0 dX4_members_12 ?_
      refine jv_bipush dX4_members_13 jv_c_bipush_m2 ?_
      refine jv_v11 dX4_members_15 okX4_refuse inX4_refuse seX4_refuse mlX4_61 (ci := 4) (T := TX4) (N := 8) rfl (ck h.g) hC (by decide) (Nat.le_of_ble_eq_true rfl) ?_
      exact jv_iret dX4_members_18 rfl rfl rfl rfl rfl
set_option maxRecDepth 20000 in
theorem pc_strength {G : jv_Gr} {I : jv_I} {J : jv_J} {Y Z : ot_Y} {E : ot_E} {K : Option ot_Y} (h : ot_C G I J Y Z E K) (k : Int32) (t : Int32) : ot_cc 8 mX4_strength [.ref 1, .int k, .int t] G I J (ot_ans (ot_rc ((0 ≤ k.toInt ∧ k.toInt < Y 10 1) ∧ (0 ≤ t.toInt ∧ t.toInt < Y 4 (ot_n k)))) (nI (ot_strongOf Y (ot_n k) (ot_n t)))) Y (ot_zr Z (ot_rc ((0 ≤ k.toInt ∧ k.toInt < Y 10 1) ∧ (0 ≤ t.toInt ∧ t.toInt < Y 4 (ot_n k))))) E K := by
  have bn := yw_n h.w
  have bc := yw_c h.w
  have bw := yw_w h.w
  refine ot_case (motive := fun A Z' => ot_cc 8 mX4_strength [.ref 1, .int k, .int t] G I J A Y Z' E K) (fun hv => ?_) (fun hv => ?_)
  · obtain ⟨j, hj, rfl⟩ := ot_of hv.1 (by omega)
    rw [ot_n_nI (show j < 2 ^ 30 by omega)]
    have hvt : 0 ≤ t.toInt ∧ t.toInt < Y 4 j := by have q := hv.2; rw [ot_n_nI (show j < 2 ^ 30 by omega)] at q; exact q
    have hq4 := yw_count h.w hj
    obtain ⟨e, he, rfl⟩ := ot_of hvt (by omega)
    rw [ot_n_nI (show e < 2 ^ 30 by omega)]
    refine ⟨I, J, ?_, h, ot_hi.rf⟩
    refine jv_enter okX4_strength (L := [.ref 1, .int (nI j), .int (nI e)]) rfl (Nat.le_of_ble_eq_true rfl) ?_
    refine jv_aload0 dX4_strength_0 ?_
    refine jv_getR dX4_strength_1 flX4_10 rfl (ck h.g) (cr_now h.g) ?_
    refine jv_iload1 dX4_strength_4 ?_
    refine jv_iload2 dX4_strength_5 ?_
    refine jv_v21 dX4_strength_6 okX3_hasTeam inX3_hasTeam seX3_hasTeam mlX4_211 (ci := 3) (T := TX3) (N := 15) rfl (yk (cg_now h.g)) (ot_hasTeam (cg_now h.g) h.r h.w _ _) (by decide) (Nat.le_of_ble_eq_true rfl) ?_
    refine jv_if_neB dX4_strength_9 (tgt := 19) (by decide) (fun hq9 => ?_) (fun hq9 => absurd hv hq9)
    refine jv_aload0 dX4_strength_19 ?_
    refine jv_getR dX4_strength_20 flX4_10 rfl (ck h.g) (cr_now h.g) ?_
    refine jv_iload1 dX4_strength_23 ?_
    refine jv_iload2 dX4_strength_24 ?_
    refine jv_v21 dX4_strength_25 okX3_strongOfSide inX3_strongOfSide seX3_strongOfSide mlX4_217 (ci := 3) (T := TX3) (N := 15) rfl (yk (cg_now h.g)) (ot_strongOfM (cg_now h.g) h.r h.w hj (show e < 5 by omega)) (by decide) (Nat.le_of_ble_eq_true rfl) ?_
    exact jv_iret dX4_strength_28 rfl rfl rfl rfl rfl
  · obtain ⟨I2, hC, h2, h3⟩ := oc_refuse2 h
    refine ⟨I2, J, ?_, h2, h3⟩
    refine jv_enter okX4_strength (L := [.ref 1, .int k, .int t]) rfl (Nat.le_of_ble_eq_true rfl) ?_
    refine jv_aload0 dX4_strength_0 ?_
    refine jv_getR dX4_strength_1 flX4_10 rfl (ck h.g) (cr_now h.g) ?_
    refine jv_iload1 dX4_strength_4 ?_
    refine jv_iload2 dX4_strength_5 ?_
    refine jv_v21 dX4_strength_6 okX3_hasTeam inX3_hasTeam seX3_hasTeam mlX4_211 (ci := 3) (T := TX3) (N := 15) rfl (yk (cg_now h.g)) (ot_hasTeam (cg_now h.g) h.r h.w _ _) (by decide) (Nat.le_of_ble_eq_true rfl) ?_
    refine jv_if_neB dX4_strength_9 (tgt := 19) (by decide) (fun g9 => ?_) (fun g9 => ?_)
    · exact absurd g9 hv
    · refine jv_aload0 dX4_strength_12 ?_
      refine jv_bipush dX4_strength_13 jv_c_bipush_m2 ?_
      refine jv_v11 dX4_strength_15 okX4_refuse inX4_refuse seX4_refuse mlX4_61 (ci := 4) (T := TX4) (N := 8) rfl (ck h.g) hC (by decide) (Nat.le_of_ble_eq_true rfl) ?_
      exact jv_iret dX4_strength_18 rfl rfl rfl rfl rfl
set_option maxRecDepth 20000 in
theorem pm_strength {G : jv_Gr} {I : jv_I} {J : jv_J} {Y Z : ot_Y} {E : ot_E} {K : Option ot_Y} (h : ot_M G I J Y Z E K) (k : Int32) (t : Int32) : ot_mm 8 mX5_strength [.ref 64, .int k, .int t] G I J (ot_ans (ot_rc ((0 ≤ k.toInt ∧ k.toInt < Y 10 1) ∧ (0 ≤ t.toInt ∧ t.toInt < Y 4 (ot_n k)))) (nI (ot_strongOf Y (ot_n k) (ot_n t)))) Y (ot_zr Z (ot_rc ((0 ≤ k.toInt ∧ k.toInt < Y 10 1) ∧ (0 ≤ t.toInt ∧ t.toInt < Y 4 (ot_n k))))) E K := by
  have bn := yw_n h.w
  have bc := yw_c h.w
  have bw := yw_w h.w
  refine ot_case (motive := fun A Z' => ot_mm 8 mX5_strength [.ref 64, .int k, .int t] G I J A Y Z' E K) (fun hv => ?_) (fun hv => ?_)
  · obtain ⟨j, hj, rfl⟩ := ot_of hv.1 (by omega)
    rw [ot_n_nI (show j < 2 ^ 30 by omega)]
    have hvt : 0 ≤ t.toInt ∧ t.toInt < Y 4 j := by have q := hv.2; rw [ot_n_nI (show j < 2 ^ 30 by omega)] at q; exact q
    have hq4 := yw_count h.w hj
    obtain ⟨e, he, rfl⟩ := ot_of hvt (by omega)
    rw [ot_n_nI (show e < 2 ^ 30 by omega)]
    refine ⟨G, I, J, ?_, h, ot_lo.rf, ot_gx.rf⟩
    refine jv_enter okX5_strength (L := [.ref 64, .int (nI j), .int (nI e)]) rfl (Nat.le_of_ble_eq_true rfl) ?_
    refine jv_aload0 dX5_strength_0 ?_
    refine jv_iload1 dX5_strength_1 ?_
    refine jv_iload2 dX5_strength_2 ?_
    refine jv_v21 dX5_strength_3 okX5_isTeam inX5_isTeam seX5_isTeam mlX5_269 (ci := 5) (T := TX5) (N := 35) rfl (mk h.g) (om_isTeam h.g h.r h.w _ _) (by decide) (Nat.le_of_ble_eq_true rfl) ?_
    refine jv_if_eqB dX5_strength_6 (tgt := 18) (by decide) (fun hq6 => absurd hv hq6) (fun hq6 => ?_)
    refine jv_aload0 dX5_strength_9 ?_
    refine jv_iload1 dX5_strength_10 ?_
    refine jv_iload2 dX5_strength_11 ?_
    refine jv_v21 dX5_strength_12 okX5_strengthOf inX5_strengthOf seX5_strengthOf mlX5_272 (ci := 5) (T := TX5) (N := 35) rfl (mk h.g) (om_strengthOf h.g h.r h.w hj (show e < 5 by omega)) (by decide) (Nat.le_of_ble_eq_true rfl) ?_
    refine jv_goto dX5_strength_15 (tgt := 24) (by decide) ?_
    exact jv_iret dX5_strength_24 rfl rfl rfl rfl rfl
  · obtain ⟨I2, hC, h2, h3⟩ := om_refuse2 h
    refine ⟨G, I2, J, ?_, h2, h3, ot_gx.rf⟩
    refine jv_enter okX5_strength (L := [.ref 64, .int k, .int t]) rfl (Nat.le_of_ble_eq_true rfl) ?_
    refine jv_aload0 dX5_strength_0 ?_
    refine jv_iload1 dX5_strength_1 ?_
    refine jv_iload2 dX5_strength_2 ?_
    refine jv_v21 dX5_strength_3 okX5_isTeam inX5_isTeam seX5_isTeam mlX5_269 (ci := 5) (T := TX5) (N := 35) rfl (mk h.g) (om_isTeam h.g h.r h.w _ _) (by decide) (Nat.le_of_ble_eq_true rfl) ?_
    refine jv_if_eqB dX5_strength_6 (tgt := 18) (by decide) (fun g6 => ?_) (fun g6 => ?_)
    · refine jv_aload0 dX5_strength_18 ?_
      refine jv_bipush dX5_strength_19 jv_c_bipush_m2 ?_
      refine jv_v11 dX5_strength_21 okX5_refuse inX5_refuse seX5_refuse mlX5_104 (ci := 5) (T := TX5) (N := 35) rfl (mk h.g) hC (by decide) (Nat.le_of_ble_eq_true rfl) ?_
      exact jv_iret dX5_strength_24 rfl rfl rfl rfl rfl
    · exact absurd g6 hv
theorem ot_or0 (x : Int32) : x ||| nI 0 = x := by
  rw [show nI 0 = 0 by decide]; exact Int32.or_zero
set_option maxRecDepth 20000 in
theorem pm_members {G : jv_Gr} {I : jv_I} {J : jv_J} {Y Z : ot_Y} {E : ot_E} {K : Option ot_Y} (h : ot_M G I J Y Z E K) (k : Int32) (t : Int32) : ot_mm 8 mX5_members [.ref 64, .int k, .int t] G I J (ot_ans (ot_rc ((0 ≤ k.toInt ∧ k.toInt < Y 10 1) ∧ (0 ≤ t.toInt ∧ t.toInt < Y 4 (ot_n k)))) (ot_bitsOf Y (ot_n k) (ot_n t))) Y (ot_zr Z (ot_rc ((0 ≤ k.toInt ∧ k.toInt < Y 10 1) ∧ (0 ≤ t.toInt ∧ t.toInt < Y 4 (ot_n k))))) E K := by
  have bn := yw_n h.w
  have bc := yw_c h.w
  have bw := yw_w h.w
  refine ot_case (motive := fun A Z' => ot_mm 8 mX5_members [.ref 64, .int k, .int t] G I J A Y Z' E K) (fun hv => ?_) (fun hv => ?_)
  · obtain ⟨j, hj, rfl⟩ := ot_of hv.1 (by omega)
    rw [ot_n_nI (show j < 2 ^ 30 by omega)]
    have hvt : 0 ≤ t.toInt ∧ t.toInt < Y 4 j := by have q := hv.2; rw [ot_n_nI (show j < 2 ^ 30 by omega)] at q; exact q
    have hq4 := yw_count h.w hj
    obtain ⟨e, he, rfl⟩ := ot_of hvt (by omega)
    rw [ot_n_nI (show e < 2 ^ 30 by omega)]
    refine ⟨G, I, J, ?_, h, ot_lo.rf, ot_gx.rf⟩
    refine jv_enter okX5_members (L := [.ref 64, .int (nI j), .int (nI e), .null, .null]) rfl (Nat.le_of_ble_eq_true rfl) ?_
    have loop : ∀ (n i : Nat) (acc : Int32), Y 10 0 + 1 ≤ i + n → i ≤ Y 10 0 → acc = ot_bits (fun c => decide (ot_sideOf Y j c = e)) i → jv_V 8 mX5_members 21 [.ref 64, .int (nI j), .int (nI e), .int acc, .int (nI i)] [] G I J (some (.int (ot_bitsOf Y j e))) G I J := by
      intro n
      induction n with
      | zero => intro i acc h1 h2; omega
      | succ n ih =>
        intro i acc h1 h2 ea
        refine jv_iload4 dX5_members_21 ?_
        refine jv_aload0 dX5_members_23 ?_
        refine jv_getI dX5_members_24 flX5_80 rfl (mk h.g) (mi_children h.r) ?_
        refine jv_icmp_geN dX5_members_27 (tgt := 58) (by decide) (by omega) (by omega) (fun hc27 => ?_) (fun hc27 => ?_)
        · refine jv_iload3 dX5_members_58 ?_
          exact jv_iret dX5_members_59 rfl rfl (by rw [ea, show i = Y 10 0 by omega]; rfl) rfl rfl
        · refine jv_iload3 dX5_members_30 ?_
          refine jv_aload0 dX5_members_31 ?_
          refine jv_iload1 dX5_members_32 ?_
          refine jv_iload4 dX5_members_33 ?_
          refine jv_v21 dX5_members_35 okX5_teamOf inX5_teamOf seX5_teamOf mlX5_260 (ci := 5) (T := TX5) (N := 35) rfl (mk h.g) (om_teamOf h.g h.r h.w hj (show i < Y 10 0 by omega)) (by decide) (Nat.le_of_ble_eq_true rfl) ?_
          refine jv_iload2 dX5_members_38 ?_
          refine jv_icmp_neN dX5_members_39 (tgt := 49) (by decide) (by have := ot_side_5 h.w hj (Y 2 i); unfold ot_sideOf; omega) (by omega) (fun h39 => ?_) (fun h39 => ?_)
          · refine jv_iconst dX5_members_49 jv_c_iconst_0 ?_
            refine jv_ior dX5_members_50 ?_
            refine jv_istore3 dX5_members_51 rfl ?_
            refine jv_iinc4N dX5_members_52 rfl ?_
            refine jv_goto dX5_members_55 (tgt := 21) (by decide) ?_
            exact ih (i + 1) _ (by omega) (by omega) (by rw [ot_bits, if_neg (by simp [h39]), ea]; exact ot_or0 _)
          · refine jv_iconst dX5_members_42 jv_c_iconst_1 ?_
            refine jv_iload4 dX5_members_43 ?_
            refine jv_ishl dX5_members_45 ?_
            refine jv_goto dX5_members_46 (tgt := 50) (by decide) ?_
            refine jv_ior dX5_members_50 ?_
            refine jv_istore3 dX5_members_51 rfl ?_
            refine jv_iinc4N dX5_members_52 rfl ?_
            refine jv_goto dX5_members_55 (tgt := 21) (by decide) ?_
            exact ih (i + 1) _ (by omega) (by omega) (by rw [ot_bits, if_pos (decide_eq_true h39), ea])
    refine jv_aload0 dX5_members_0 ?_
    refine jv_iload1 dX5_members_1 ?_
    refine jv_iload2 dX5_members_2 ?_
    refine jv_v21 dX5_members_3 okX5_isTeam inX5_isTeam seX5_isTeam mlX5_269 (ci := 5) (T := TX5) (N := 35) rfl (mk h.g) (om_isTeam h.g h.r h.w _ _) (by decide) (Nat.le_of_ble_eq_true rfl) ?_
    refine jv_if_neB dX5_members_6 (tgt := 16) (by decide) (fun hq6 => ?_) (fun hq6 => absurd hv hq6)
    refine jv_iconst dX5_members_16 jv_c_iconst_0 ?_
    refine jv_istore3 dX5_members_17 rfl ?_
    refine jv_iconst dX5_members_18 jv_c_iconst_0 ?_
    refine jv_istore4 dX5_members_19 rfl ?_
    exact loop (Y 10 0 + 1) 0 _ (by omega) (by omega) rfl
  · obtain ⟨I2, hC, h2, h3⟩ := om_refuse2 h
    refine ⟨G, I2, J, ?_, h2, h3, ot_gx.rf⟩
    refine jv_enter okX5_members (L := [.ref 64, .int k, .int t, .null, .null]) rfl (Nat.le_of_ble_eq_true rfl) ?_
    refine jv_aload0 dX5_members_0 ?_
    refine jv_iload1 dX5_members_1 ?_
    refine jv_iload2 dX5_members_2 ?_
    refine jv_v21 dX5_members_3 okX5_isTeam inX5_isTeam seX5_isTeam mlX5_269 (ci := 5) (T := TX5) (N := 35) rfl (mk h.g) (om_isTeam h.g h.r h.w _ _) (by decide) (Nat.le_of_ble_eq_true rfl) ?_
    refine jv_if_neB dX5_members_6 (tgt := 16) (by decide) (fun g6 => ?_) (fun g6 => ?_)
    · exact absurd g6 hv
    · refine jv_aload0 dX5_members_9 ?_
      refine jv_bipush dX5_members_10 jv_c_bipush_m2 ?_
      refine jv_v11 dX5_members_12 okX5_refuse inX5_refuse seX5_refuse mlX5_104 (ci := 5) (T := TX5) (N := 35) rfl (mk h.g) hC (by decide) (Nat.le_of_ble_eq_true rfl) ?_
      exact jv_iret dX5_members_15 rfl rfl rfl rfl rfl
set_option maxRecDepth 20000 in
theorem pc_often {G : jv_Gr} {I : jv_I} {J : jv_J} {Y Z : ot_Y} {E : ot_E} {K : Option ot_Y} (h : ot_C G I J Y Z E K) (a : Int32) (b : Int32) : ot_cc 8 mX4_often [.ref 1, .int a, .int b] G I J (ot_ans (ot_rc ((0 ≤ a.toInt ∧ a.toInt < Y 10 0) ∧ (0 ≤ b.toInt ∧ b.toInt < Y 10 0) ∧ a ≠ b)) (nI (ot_times Y (ot_n a) (ot_n b)))) Y (ot_zr Z (ot_rc ((0 ≤ a.toInt ∧ a.toInt < Y 10 0) ∧ (0 ≤ b.toInt ∧ b.toInt < Y 10 0) ∧ a ≠ b))) E K := by
  have bn := yw_n h.w
  have bc := yw_c h.w
  have bw := yw_w h.w
  refine ot_case (motive := fun A Z' => ot_cc 8 mX4_often [.ref 1, .int a, .int b] G I J A Y Z' E K) (fun hv => ?_) (fun hv => ?_)
  · obtain ⟨x, hx, rfl⟩ := ot_of hv.1 (by omega)
    rw [ot_n_nI (show x < 2 ^ 30 by omega)]
    obtain ⟨z, hz, rfl⟩ := ot_of hv.2.1 (by omega)
    rw [ot_n_nI (show z < 2 ^ 30 by omega)]
    refine ⟨I, J, ?_, h, ot_hi.rf⟩
    refine jv_enter okX4_often (L := [.ref 1, .int (nI x), .int (nI z)]) rfl (Nat.le_of_ble_eq_true rfl) ?_
    refine jv_aload0 dX4_often_0 ?_
    refine jv_iload1 dX4_often_1 ?_
    refine jv_iload2 dX4_often_2 ?_
    refine jv_v21 dX4_often_3 okX4_areTwo inX4_areTwo seX4_areTwo mlX4_141 (ci := 4) (T := TX4) (N := 8) rfl (ck h.g) (oc_areTwo h _ _) (by decide) (Nat.le_of_ble_eq_true rfl) ?_
    refine jv_if_eqB dX4_often_6 (tgt := 21) (by decide) (fun hq6 => absurd hv hq6) (fun hq6 => ?_)
    refine jv_aload0 dX4_often_9 ?_
    refine jv_getR dX4_often_10 flX4_10 rfl (ck h.g) (cr_now h.g) ?_
    refine jv_iload1 dX4_often_13 ?_
    refine jv_iload2 dX4_often_14 ?_
    refine jv_v21 dX4_often_15 okX3_timesTogether inX3_timesTogether seX3_timesTogether mlX4_253 (ci := 3) (T := TX3) (N := 15) rfl (yk (cg_now h.g)) (ot_timesM (cg_now h.g) h.r h.w hx hz) (by decide) (Nat.le_of_ble_eq_true rfl) ?_
    refine jv_goto dX4_often_18 (tgt := 27) (by decide) ?_
    exact jv_iret dX4_often_27 rfl rfl rfl rfl rfl
  · obtain ⟨I2, hC, h2, h3⟩ := oc_refuse2 h
    refine ⟨I2, J, ?_, h2, h3⟩
    refine jv_enter okX4_often (L := [.ref 1, .int a, .int b]) rfl (Nat.le_of_ble_eq_true rfl) ?_
    refine jv_aload0 dX4_often_0 ?_
    refine jv_iload1 dX4_often_1 ?_
    refine jv_iload2 dX4_often_2 ?_
    refine jv_v21 dX4_often_3 okX4_areTwo inX4_areTwo seX4_areTwo mlX4_141 (ci := 4) (T := TX4) (N := 8) rfl (ck h.g) (oc_areTwo h _ _) (by decide) (Nat.le_of_ble_eq_true rfl) ?_
    refine jv_if_eqB dX4_often_6 (tgt := 21) (by decide) (fun g6 => ?_) (fun g6 => ?_)
    · refine jv_aload0 dX4_often_21 ?_
      refine jv_bipush dX4_often_22 jv_c_bipush_m2 ?_
      refine jv_v11 dX4_often_24 okX4_refuse inX4_refuse seX4_refuse mlX4_61 (ci := 4) (T := TX4) (N := 8) rfl (ck h.g) hC (by decide) (Nat.le_of_ble_eq_true rfl) ?_
      exact jv_iret dX4_often_27 rfl rfl rfl rfl rfl
    · exact absurd g6 hv
set_option maxRecDepth 20000 in
theorem pm_often {G : jv_Gr} {I : jv_I} {J : jv_J} {Y Z : ot_Y} {E : ot_E} {K : Option ot_Y} (h : ot_M G I J Y Z E K) (a : Int32) (b : Int32) : ot_mm 8 mX5_often [.ref 64, .int a, .int b] G I J (ot_ans (ot_rc ((0 ≤ a.toInt ∧ a.toInt < Y 10 0) ∧ (0 ≤ b.toInt ∧ b.toInt < Y 10 0) ∧ a ≠ b)) (nI (ot_times Y (ot_n a) (ot_n b)))) Y (ot_zr Z (ot_rc ((0 ≤ a.toInt ∧ a.toInt < Y 10 0) ∧ (0 ≤ b.toInt ∧ b.toInt < Y 10 0) ∧ a ≠ b))) E K := by
  have bn := yw_n h.w
  have bc := yw_c h.w
  have bw := yw_w h.w
  refine ot_case (motive := fun A Z' => ot_mm 8 mX5_often [.ref 64, .int a, .int b] G I J A Y Z' E K) (fun hv => ?_) (fun hv => ?_)
  · obtain ⟨x, hx, rfl⟩ := ot_of hv.1 (by omega)
    rw [ot_n_nI (show x < 2 ^ 30 by omega)]
    obtain ⟨z, hz, rfl⟩ := ot_of hv.2.1 (by omega)
    rw [ot_n_nI (show z < 2 ^ 30 by omega)]
    refine ⟨G, I, J, ?_, h, ot_lo.rf, ot_gx.rf⟩
    refine jv_enter okX5_often (L := [.ref 64, .int (nI x), .int (nI z)]) rfl (Nat.le_of_ble_eq_true rfl) ?_
    refine jv_aload0 dX5_often_0 ?_
    refine jv_iload1 dX5_often_1 ?_
    refine jv_i2l dX5_often_2 rfl ?_
    refine jv_iload2 dX5_often_3 ?_
    refine jv_i2l dX5_often_4 rfl ?_
    refine jv_v21 dX5_often_5 okX5_areTwo inX5_areTwo seX5_areTwo mlX5_144 (ci := 5) (T := TX5) (N := 35) rfl (mk h.g) (om_areTwoI h.g h.r h.w _ _) (by decide) (Nat.le_of_ble_eq_true rfl) ?_
    refine jv_if_eqB dX5_often_8 (tgt := 20) (by decide) (fun hq8 => absurd hv hq8) (fun hq8 => ?_)
    refine jv_aload0 dX5_often_11 ?_
    refine jv_iload1 dX5_often_12 ?_
    refine jv_iload2 dX5_often_13 ?_
    refine jv_v21 dX5_often_14 okX5_oftenOf inX5_oftenOf seX5_oftenOf mlX5_304 (ci := 5) (T := TX5) (N := 35) rfl (mk h.g) (om_oftenOf h.g h.r h.w hx hz) (by decide) (Nat.le_of_ble_eq_true rfl) ?_
    refine jv_goto dX5_often_17 (tgt := 26) (by decide) ?_
    exact jv_iret dX5_often_26 rfl rfl rfl rfl rfl
  · obtain ⟨I2, hC, h2, h3⟩ := om_refuse2 h
    refine ⟨G, I2, J, ?_, h2, h3, ot_gx.rf⟩
    refine jv_enter okX5_often (L := [.ref 64, .int a, .int b]) rfl (Nat.le_of_ble_eq_true rfl) ?_
    refine jv_aload0 dX5_often_0 ?_
    refine jv_iload1 dX5_often_1 ?_
    refine jv_i2l dX5_often_2 rfl ?_
    refine jv_iload2 dX5_often_3 ?_
    refine jv_i2l dX5_often_4 rfl ?_
    refine jv_v21 dX5_often_5 okX5_areTwo inX5_areTwo seX5_areTwo mlX5_144 (ci := 5) (T := TX5) (N := 35) rfl (mk h.g) (om_areTwoI h.g h.r h.w _ _) (by decide) (Nat.le_of_ble_eq_true rfl) ?_
    refine jv_if_eqB dX5_often_8 (tgt := 20) (by decide) (fun g8 => ?_) (fun g8 => ?_)
    · refine jv_aload0 dX5_often_20 ?_
      refine jv_bipush dX5_often_21 jv_c_bipush_m2 ?_
      refine jv_v11 dX5_often_23 okX5_refuse inX5_refuse seX5_refuse mlX5_104 (ci := 5) (T := TX5) (N := 35) rfl (mk h.g) hC (by decide) (Nat.le_of_ble_eq_true rfl) ?_
      exact jv_iret dX5_often_26 rfl rfl rfl rfl rfl
    · exact absurd g8 hv
