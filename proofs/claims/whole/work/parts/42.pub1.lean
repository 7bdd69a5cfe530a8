/-! ===== the face: what both answer (group 1) ===== -/
def ot_cc (d : Nat) (M : jv_M) (As : List Value) (G : jv_Gr) (I : jv_I) (J : jv_J) (A : Int32) (Y Z : ot_Y) (E : ot_E) (K : Option ot_Y) : Prop := ∃ I2 J2, jv_C d M As G I J (some (.int A)) G I2 J2 ∧ ot_C G I2 J2 Y Z E K ∧ ot_hi I I2 J J2
def ot_gx (G G2 : jv_Gr) : Prop := ∀ q, q < 64 → jv_k G2 q = jv_k G q ∧ ∀ i, jv_r G2 q i = jv_r G q i
theorem ot_gx.rf {G : jv_Gr} : ot_gx G G := fun _ _ => ⟨rfl, fun _ => rfl⟩
theorem ot_gx.tr {G G1 G2 : jv_Gr} (h : ot_gx G G1) (h2 : ot_gx G1 G2) : ot_gx G G2 := fun q hq => ⟨(h2 q hq).1.trans (h q hq).1, fun i => ((h2 q hq).2 i).trans ((h q hq).2 i)⟩
def ot_mm (d : Nat) (M : jv_M) (As : List Value) (G : jv_Gr) (I : jv_I) (J : jv_J) (A : Int32) (Y Z : ot_Y) (E : ot_E) (K : Option ot_Y) : Prop := ∃ G2 I2 J2, jv_C d M As G I J (some (.int A)) G2 I2 J2 ∧ ot_M G2 I2 J2 Y Z E K ∧ ot_lo I I2 J J2 ∧ ot_gx G G2
/-- the number of an argument that is none below 0 -/
def ot_n (v : Int32) : Nat := v.toInt.toNat
theorem ot_n_nI {j : Nat} (h : j < 2 ^ 30) : ot_n (nI j) = j := by
  unfold ot_n; rw [nI_toInt (by omega)]; omega
section OTN
variable {I : jv_I} {J : jv_J} {Z : ot_Y} {E : ot_E} {s : Nat}
theorem nr_tag (h : ot_NR I J Z E) (hs : s < 8) : I (64 + 1) s = nI (Z 0 s) := (h.1 s hs).1
theorem nr_sort (h : ot_NR I J Z E) (hs : s < 8) (h1 : Z 0 s = 1) : I (64 + 2) s = nI (Z 1 s) := ((h.1 s hs).2.1 h1).1
theorem nr_size (h : ot_NR I J Z E) (hs : s < 8) (h1 : Z 0 s = 1) : I (64 + 3) s = nI (Z 2 s) := ((h.1 s hs).2.1 h1).2.1
theorem nr_el (h : ot_NR I J Z E) (hs : s < 8) (h1 : Z 0 s = 1) {i : Nat} (hi : i < 40) : J (64 + (5 + s)) i = E s i := ((h.1 s hs).2.1 h1).2.2 i hi
theorem nr_shown (h : ot_NR I J Z E) (hs : s < 8) (h2 : Z 0 s = 2) : I (64 + 14) s = nI (Z 3 s) := (h.1 s hs).2.2 h2
theorem nr_tsize (h : ot_NR I J Z E) : I 64 7 = nI (Z 4 0) := h.2.1.1
theorem nr_tape (h : ot_NR I J Z E) {i : Nat} (hi : i < Z 4 0) : I (64 + 15) i = nI (Z 5 i) := h.2.1.2 i hi
theorem nr_ref (h : ot_NR I J Z E) {j : Nat} (hj : j < 5) : I (64 + 16) (j + 2) = nI (Z 6 j) := h.2.2 j hj
end OTN
set_option maxRecDepth 20000 in
theorem om_refuse20 {G : jv_Gr} {I : jv_I} {J : jv_J} {Y Z : ot_Y} {E : ot_E} {K : Option ot_Y} (h : ot_M G I J Y Z E K) : jv_C 1 mX5_refuse [.ref 64, .int (-2)] G I J (some (.int (-2))) G (jv_up I 80 2 (nI (Z 6 0 + 1))) J := by
  refine jv_enter okX5_refuse (L := [.ref 64, .int (-2)]) rfl (Nat.le_of_ble_eq_true rfl) ?_
  refine jv_aload0 dX5_refuse_0 ?_
  refine jv_getR dX5_refuse_1 flX5_34 rfl (mk h.g) (mr_refused h.g) ?_
  refine jv_iload1 dX5_refuse_4 ?_
  refine jv_ineg dX5_refuse_5 ?_
  rw [show -(-2 : Int32) = nI 2 by decide]
  refine jv_dup2 dX5_refuse_6 rfl rfl ?_
  refine jv_ialdN dX5_refuse_7 (mk_refused h.g) (by decide) (by decide) (nr_ref h.s (show 0 < 5 by decide)) ?_
  refine jv_iconst dX5_refuse_8 jv_c_iconst_1 ?_
  refine jv_iaddN dX5_refuse_9 ?_
  refine jv_iastN dX5_refuse_10 (mk_refused h.g) (by decide) (by decide) ?_
  refine jv_iload1 dX5_refuse_11 ?_
  exact jv_iret dX5_refuse_12 rfl rfl rfl rfl rfl
theorem om_refuse2 {G : jv_Gr} {I : jv_I} {J : jv_J} {Y Z : ot_Y} {E : ot_E} {K : Option ot_Y} (h : ot_M G I J Y Z E K) : ∃ I2, jv_C 1 mX5_refuse [.ref 64, .int (-2)] G I J (some (.int (-2))) G I2 J ∧ ot_M G I2 J Y (ot_ref Z 0) E K ∧ ot_lo I I2 J J := ⟨_, om_refuse20 h, ot_M_ref h (by decide), fun q hq => ⟨jv_up_ne _ _ _ (by omega), rfl⟩⟩
set_option maxRecDepth 20000 in
theorem om_refuse30 {G : jv_Gr} {I : jv_I} {J : jv_J} {Y Z : ot_Y} {E : ot_E} {K : Option ot_Y} (h : ot_M G I J Y Z E K) : jv_C 1 mX5_refuse [.ref 64, .int (-3)] G I J (some (.int (-3))) G (jv_up I 80 3 (nI (Z 6 1 + 1))) J := by
  refine jv_enter okX5_refuse (L := [.ref 64, .int (-3)]) rfl (Nat.le_of_ble_eq_true rfl) ?_
  refine jv_aload0 dX5_refuse_0 ?_
  refine jv_getR dX5_refuse_1 flX5_34 rfl (mk h.g) (mr_refused h.g) ?_
  refine jv_iload1 dX5_refuse_4 ?_
  refine jv_ineg dX5_refuse_5 ?_
  rw [show -(-3 : Int32) = nI 3 by decide]
  refine jv_dup2 dX5_refuse_6 rfl rfl ?_
  refine jv_ialdN dX5_refuse_7 (mk_refused h.g) (by decide) (by decide) (nr_ref h.s (show 1 < 5 by decide)) ?_
  refine jv_iconst dX5_refuse_8 jv_c_iconst_1 ?_
  refine jv_iaddN dX5_refuse_9 ?_
  refine jv_iastN dX5_refuse_10 (mk_refused h.g) (by decide) (by decide) ?_
  refine jv_iload1 dX5_refuse_11 ?_
  exact jv_iret dX5_refuse_12 rfl rfl rfl rfl rfl
theorem om_refuse3 {G : jv_Gr} {I : jv_I} {J : jv_J} {Y Z : ot_Y} {E : ot_E} {K : Option ot_Y} (h : ot_M G I J Y Z E K) : ∃ I2, jv_C 1 mX5_refuse [.ref 64, .int (-3)] G I J (some (.int (-3))) G I2 J ∧ ot_M G I2 J Y (ot_ref Z 1) E K ∧ ot_lo I I2 J J := ⟨_, om_refuse30 h, ot_M_ref h (by decide), fun q hq => ⟨jv_up_ne _ _ _ (by omega), rfl⟩⟩
set_option maxRecDepth 20000 in
theorem om_refuse40 {G : jv_Gr} {I : jv_I} {J : jv_J} {Y Z : ot_Y} {E : ot_E} {K : Option ot_Y} (h : ot_M G I J Y Z E K) : jv_C 1 mX5_refuse [.ref 64, .int (-4)] G I J (some (.int (-4))) G (jv_up I 80 4 (nI (Z 6 2 + 1))) J := by
  refine jv_enter okX5_refuse (L := [.ref 64, .int (-4)]) rfl (Nat.le_of_ble_eq_true rfl) ?_
  refine jv_aload0 dX5_refuse_0 ?_
  refine jv_getR dX5_refuse_1 flX5_34 rfl (mk h.g) (mr_refused h.g) ?_
  refine jv_iload1 dX5_refuse_4 ?_
  refine jv_ineg dX5_refuse_5 ?_
  rw [show -(-4 : Int32) = nI 4 by decide]
  refine jv_dup2 dX5_refuse_6 rfl rfl ?_
  refine jv_ialdN dX5_refuse_7 (mk_refused h.g) (by decide) (by decide) (nr_ref h.s (show 2 < 5 by decide)) ?_
  refine jv_iconst dX5_refuse_8 jv_c_iconst_1 ?_
  refine jv_iaddN dX5_refuse_9 ?_
  refine jv_iastN dX5_refuse_10 (mk_refused h.g) (by decide) (by decide) ?_
  refine jv_iload1 dX5_refuse_11 ?_
  exact jv_iret dX5_refuse_12 rfl rfl rfl rfl rfl
theorem om_refuse4 {G : jv_Gr} {I : jv_I} {J : jv_J} {Y Z : ot_Y} {E : ot_E} {K : Option ot_Y} (h : ot_M G I J Y Z E K) : ∃ I2, jv_C 1 mX5_refuse [.ref 64, .int (-4)] G I J (some (.int (-4))) G I2 J ∧ ot_M G I2 J Y (ot_ref Z 2) E K ∧ ot_lo I I2 J J := ⟨_, om_refuse40 h, ot_M_ref h (by decide), fun q hq => ⟨jv_up_ne _ _ _ (by omega), rfl⟩⟩
set_option maxRecDepth 20000 in
theorem om_refuse50 {G : jv_Gr} {I : jv_I} {J : jv_J} {Y Z : ot_Y} {E : ot_E} {K : Option ot_Y} (h : ot_M G I J Y Z E K) : jv_C 1 mX5_refuse [.ref 64, .int (-5)] G I J (some (.int (-5))) G (jv_up I 80 5 (nI (Z 6 3 + 1))) J := by
  refine jv_enter okX5_refuse (L := [.ref 64, .int (-5)]) rfl (Nat.le_of_ble_eq_true rfl) ?_
  refine jv_aload0 dX5_refuse_0 ?_
  refine jv_getR dX5_refuse_1 flX5_34 rfl (mk h.g) (mr_refused h.g) ?_
  refine jv_iload1 dX5_refuse_4 ?_
  refine jv_ineg dX5_refuse_5 ?_
  rw [show -(-5 : Int32) = nI 5 by decide]
  refine jv_dup2 dX5_refuse_6 rfl rfl ?_
  refine jv_ialdN dX5_refuse_7 (mk_refused h.g) (by decide) (by decide) (nr_ref h.s (show 3 < 5 by decide)) ?_
  refine jv_iconst dX5_refuse_8 jv_c_iconst_1 ?_
  refine jv_iaddN dX5_refuse_9 ?_
  refine jv_iastN dX5_refuse_10 (mk_refused h.g) (by decide) (by decide) ?_
  refine jv_iload1 dX5_refuse_11 ?_
  exact jv_iret dX5_refuse_12 rfl rfl rfl rfl rfl
theorem om_refuse5 {G : jv_Gr} {I : jv_I} {J : jv_J} {Y Z : ot_Y} {E : ot_E} {K : Option ot_Y} (h : ot_M G I J Y Z E K) : ∃ I2, jv_C 1 mX5_refuse [.ref 64, .int (-5)] G I J (some (.int (-5))) G I2 J ∧ ot_M G I2 J Y (ot_ref Z 3) E K ∧ ot_lo I I2 J J := ⟨_, om_refuse50 h, ot_M_ref h (by decide), fun q hq => ⟨jv_up_ne _ _ _ (by omega), rfl⟩⟩
set_option maxRecDepth 20000 in
theorem om_refuse60 {G : jv_Gr} {I : jv_I} {J : jv_J} {Y Z : ot_Y} {E : ot_E} {K : Option ot_Y} (h : ot_M G I J Y Z E K) : jv_C 1 mX5_refuse [.ref 64, .int (-6)] G I J (some (.int (-6))) G (jv_up I 80 6 (nI (Z 6 4 + 1))) J := by
  refine jv_enter okX5_refuse (L := [.ref 64, .int (-6)]) rfl (Nat.le_of_ble_eq_true rfl) ?_
  refine jv_aload0 dX5_refuse_0 ?_
  refine jv_getR dX5_refuse_1 flX5_34 rfl (mk h.g) (mr_refused h.g) ?_
  refine jv_iload1 dX5_refuse_4 ?_
  refine jv_ineg dX5_refuse_5 ?_
  rw [show -(-6 : Int32) = nI 6 by decide]
  refine jv_dup2 dX5_refuse_6 rfl rfl ?_
  refine jv_ialdN dX5_refuse_7 (mk_refused h.g) (by decide) (by decide) (nr_ref h.s (show 4 < 5 by decide)) ?_
  refine jv_iconst dX5_refuse_8 jv_c_iconst_1 ?_
  refine jv_iaddN dX5_refuse_9 ?_
  refine jv_iastN dX5_refuse_10 (mk_refused h.g) (by decide) (by decide) ?_
  refine jv_iload1 dX5_refuse_11 ?_
  exact jv_iret dX5_refuse_12 rfl rfl rfl rfl rfl
theorem om_refuse6 {G : jv_Gr} {I : jv_I} {J : jv_J} {Y Z : ot_Y} {E : ot_E} {K : Option ot_Y} (h : ot_M G I J Y Z E K) : ∃ I2, jv_C 1 mX5_refuse [.ref 64, .int (-6)] G I J (some (.int (-6))) G I2 J ∧ ot_M G I2 J Y (ot_ref Z 4) E K ∧ ot_lo I I2 J J := ⟨_, om_refuse60 h, ot_M_ref h (by decide), fun q hq => ⟨jv_up_ne _ _ _ (by omega), rfl⟩⟩
theorem om_isChildI {G : jv_Gr} {I : jv_I} {J : jv_J} {m : Nat} {Y : ot_Y} (hG : ot_MG G m) (hR : ot_MR I m Y) (hW : ot_YW Y) (v : Int32) : jv_C 2 mX5_isChild [.ref m, .long v.toInt64] G I J (some (.int (jv_b (0 ≤ v.toInt ∧ v.toInt < Y 10 0)))) G I J := by
  have q := om_isChild (J := J) hG hR hW v.toInt64
  rw [Int32.toInt_toInt64] at q
  exact q
theorem ot_toL_ne (a b : Int32) : a.toInt64 ≠ b.toInt64 ↔ a ≠ b := by
  constructor
  · intro h e; exact h (by rw [e])
  · intro h e; apply h; have := congrArg Int64.toInt e; rw [Int32.toInt_toInt64, Int32.toInt_toInt64] at this; exact Int32.toInt_inj.mp this
theorem om_areTwoI {G : jv_Gr} {I : jv_I} {J : jv_J} {m : Nat} {Y : ot_Y} (hG : ot_MG G m) (hR : ot_MR I m Y) (hW : ot_YW Y) (a b : Int32) : jv_C 3 mX5_areTwo [.ref m, .long a.toInt64, .long b.toInt64] G I J (some (.int (jv_b ((0 ≤ a.toInt ∧ a.toInt < Y 10 0) ∧ (0 ≤ b.toInt ∧ b.toInt < Y 10 0) ∧ a ≠ b)))) G I J := by
  have q := om_areTwo (J := J) hG hR hW a.toInt64 b.toInt64
  rw [Int32.toInt_toInt64, Int32.toInt_toInt64] at q
  rw [← jv_b_iff (and_congr_right fun _ => and_congr_right fun _ => ot_toL_ne a b)]
  exact q
theorem om_inN {G : jv_Gr} {I : jv_I} {J : jv_J} (v : Int32) {n : Nat} (hn : n < 2 ^ 30) : jv_C 1 mX5_in [.long v.toInt64, .long (lN 0), .long (nI n - nI 1).toInt64] G I J (some (.int (jv_b (0 ≤ v.toInt ∧ v.toInt < n)))) G I J := by
  have q := om_in (G := G) (I := I) (J := J) v.toInt64 (lN 0) (nI n - nI 1).toInt64
  rw [jv_b_iff (show _ ↔ (0 ≤ v.toInt ∧ v.toInt < n) by rw [ot_l0, ot_lpred _ hn, Int32.toInt_toInt64])] at q
  exact q
theorem om_inC {G : jv_Gr} {I : jv_I} {J : jv_J} (v : Int32) {a b : Nat} (ha : a < 2 ^ 30) (hb : b < 2 ^ 30) : jv_C 1 mX5_in [.long v.toInt64, .long (lN a), .long (lN b)] G I J (some (.int (jv_b (a ≤ v.toInt ∧ v.toInt ≤ b)))) G I J := by
  have q := om_in (G := G) (I := I) (J := J) v.toInt64 (lN a) (lN b)
  rw [jv_b_iff (show _ ↔ (a ≤ v.toInt ∧ v.toInt ≤ b) by rw [ot_inI, lN_toInt (by omega), lN_toInt (by omega)])] at q
  exact q
theorem oc_inC {G : jv_Gr} {I : jv_I} {J : jv_J} (v : Int32) {a b : Nat} (ha : a < 2 ^ 30) (hb : b < 2 ^ 30) : jv_C 1 mX4_within [.int v, .int (nI a), .int (nI b)] G I J (some (.int (jv_b (a ≤ v.toInt ∧ v.toInt ≤ b)))) G I J := by
  have q := ot_within (G := G) (I := I) (J := J) v (nI a) (nI b)
  rw [jv_b_iff (show _ ↔ (a ≤ v.toInt ∧ v.toInt ≤ b) by rw [Int32.le_iff_toInt_le, Int32.le_iff_toInt_le, nI_toInt (by omega), nI_toInt (by omega)])] at q
  exact q
set_option maxRecDepth 20000 in
theorem ot_hasTeam {G : jv_Gr} {I : jv_I} {J : jv_J} {y : Nat} {Y : ot_Y} (hG : ot_YG G y) (hR : ot_YR I y Y) (hW : ot_YW Y) (k t : Int32) : jv_C 3 mX3_hasTeam [.ref y, .int k, .int t] G I J (some (.int (jv_b ((0 ≤ k.toInt ∧ k.toInt < Y 10 1) ∧ (0 ≤ t.toInt ∧ t.toInt < Y 4 (ot_n k)))))) G I J := by
  refine jv_enter okX3_hasTeam (L := [.ref y, .int k, .int t]) rfl (Nat.le_of_ble_eq_true rfl) ?_
  have bn := yw_n hW
  have bc := yw_c hW
  refine jv_aload0 dX3_hasTeam_0 ?_
  refine jv_iload1 dX3_hasTeam_1 ?_
  refine jv_v11 dX3_hasTeam_2 okX3_hasCount inX3_hasCount seX3_hasCount mlX3_68 (ci := 3) (T := TX3) (N := 15) rfl (yk hG) (ot_hasCount hG hR hW k) (by decide) (Nat.le_of_ble_eq_true rfl) ?_
  refine jv_if_eqB dX3_hasTeam_5 (tgt := 28) (by decide) (fun h5 => ?_) (fun h5 => ?_)
  · refine jv_iconst dX3_hasTeam_28 jv_c_iconst_0 ?_
    exact jv_iret dX3_hasTeam_29 rfl (by decide) (ot_b0 (fun q => h5 q.1)) rfl rfl
  · have e := ot_of h5 (by omega)
    obtain ⟨j, hj, rfl⟩ := e
    rw [ot_n_nI (show j < 2 ^ 30 by omega)]
    have hq := yw_count hW hj
    refine jv_iload2 dX3_hasTeam_8 ?_
    refine jv_iconst dX3_hasTeam_9 jv_c_iconst_0 ?_
    refine jv_aload0 dX3_hasTeam_10 ?_
    refine jv_getR dX3_hasTeam_11 flX3_34 rfl (yk hG) (yr_teams hG) ?_
    refine jv_iload1 dX3_hasTeam_14 ?_
    refine jv_ialdN dX3_hasTeam_15 (yk_teams hG) (by omega) (by decide) (ye_teams hR (by omega)) ?_
    refine jv_iconst dX3_hasTeam_16 jv_c_iconst_1 ?_
    refine jv_isub dX3_hasTeam_17 ?_
    refine jv_sn31 dX3_hasTeam_18 okX4_within stX4_within nlX3_64 (ot_within t (nI 0) (nI (Y 4 j) - nI 1)) (by decide) (Nat.le_of_ble_eq_true rfl) ?_
    refine jv_if_eqB dX3_hasTeam_21 (tgt := 28) (by decide) (fun h21 => ?_) (fun h21 => ?_)
    · rw [ot_le0, ot_le_pred t (by omega)] at h21
      refine jv_iconst dX3_hasTeam_28 jv_c_iconst_0 ?_
      exact jv_iret dX3_hasTeam_29 rfl (by decide) (ot_b0 (fun q => h21 q.2)) rfl rfl
    · rw [ot_le0, ot_le_pred t (by omega)] at h21
      refine jv_iconst dX3_hasTeam_24 jv_c_iconst_1 ?_
      refine jv_goto dX3_hasTeam_25 (tgt := 29) (by decide) ?_
      exact jv_iret dX3_hasTeam_29 rfl (by decide) (ot_b1 ⟨h5, h21⟩) rfl rfl
set_option maxRecDepth 20000 in
theorem om_isTeam {G : jv_Gr} {I : jv_I} {J : jv_J} {m : Nat} {Y : ot_Y} (hG : ot_MG G m) (hR : ot_MR I m Y) (hW : ot_YW Y) (k t : Int32) : jv_C 3 mX5_isTeam [.ref m, .int k, .int t] G I J (some (.int (jv_b ((0 ≤ k.toInt ∧ k.toInt < Y 10 1) ∧ (0 ≤ t.toInt ∧ t.toInt < Y 4 (ot_n k)))))) G I J := by
  refine jv_enter okX5_isTeam (L := [.ref m, .int k, .int t]) rfl (Nat.le_of_ble_eq_true rfl) ?_
  have bn := yw_n hW
  have bc := yw_c hW
  refine jv_aload0 dX5_isTeam_0 ?_
  refine jv_iload1 dX5_isTeam_1 ?_
  refine jv_v11 dX5_isTeam_2 okX5_isCount inX5_isCount seX5_isCount mlX5_94 (ci := 5) (T := TX5) (N := 35) rfl (mk hG) (om_isCount hG hR hW k) (by decide) (Nat.le_of_ble_eq_true rfl) ?_
  refine jv_if_eqB dX5_isTeam_5 (tgt := 30) (by decide) (fun h5 => ?_) (fun h5 => ?_)
  · refine jv_iconst dX5_isTeam_30 jv_c_iconst_0 ?_
    exact jv_iret dX5_isTeam_31 rfl (by decide) (ot_b0 (fun q => h5 q.1)) rfl rfl
  · have e := ot_of h5 (by omega)
    obtain ⟨j, hj, rfl⟩ := e
    rw [ot_n_nI (show j < 2 ^ 30 by omega)]
    have hq := yw_count hW hj
    refine jv_iload2 dX5_isTeam_8 ?_
    refine jv_i2l dX5_isTeam_9 rfl ?_
    refine jv_lconst dX5_isTeam_10 (v := lN 0) rfl ?_
    refine jv_aload0 dX5_isTeam_11 ?_
    refine jv_getR dX5_isTeam_12 flX5_49 rfl (mk hG) (mr_by hG) ?_
    refine jv_iload1 dX5_isTeam_15 ?_
    refine jv_ialdN dX5_isTeam_16 (mk_by hG) (by omega) (by decide) (me_by hR (by omega)) ?_
    refine jv_iconst dX5_isTeam_17 jv_c_iconst_1 ?_
    refine jv_isub dX5_isTeam_18 ?_
    refine jv_i2l dX5_isTeam_19 rfl ?_
    refine jv_s31 dX5_isTeam_20 okX5_in stX5_in mlX5_83 (om_inN t (show Y 4 j < 2 ^ 30 by omega)) (by decide) (Nat.le_of_ble_eq_true rfl) ?_
    refine jv_if_eqB dX5_isTeam_23 (tgt := 30) (by decide) (fun h23 => ?_) (fun h23 => ?_)
    · refine jv_iconst dX5_isTeam_30 jv_c_iconst_0 ?_
      exact jv_iret dX5_isTeam_31 rfl (by decide) (ot_b0 (fun q => h23 q.2)) rfl rfl
    · refine jv_iconst dX5_isTeam_26 jv_c_iconst_1 ?_
      refine jv_goto dX5_isTeam_27 (tgt := 31) (by decide) ?_
      exact jv_iret dX5_isTeam_31 rfl (by decide) (ot_b1 ⟨h5, h23⟩) rfl rfl
set_option maxRecDepth 20000 in
theorem pc_value {G : jv_Gr} {I : jv_I} {J : jv_J} {Y Z : ot_Y} {E : ot_E} {K : Option ot_Y} (h : ot_C G I J Y Z E K) (k : Int32) : ot_cc 8 mX4_value [.ref 1, .int k] G I J (ot_ans (ot_rc (0 ≤ k.toInt ∧ k.toInt < Y 10 1)) (nI (ot_value Y (ot_n k)))) Y (ot_zr Z (ot_rc (0 ≤ k.toInt ∧ k.toInt < Y 10 1))) E K := by
  have bn := yw_n h.w
  have bc := yw_c h.w
  have bw := yw_w h.w
  refine ot_case (motive := fun A Z' => ot_cc 8 mX4_value [.ref 1, .int k] G I J A Y Z' E K) (fun hv => ?_) (fun hv => ?_)
  · obtain ⟨j, hj, rfl⟩ := ot_of hv (by omega)
    rw [ot_n_nI (show j < 2 ^ 30 by omega)]
    refine ⟨I, J, ?_, h, ot_hi.rf⟩
    refine jv_enter okX4_value (L := [.ref 1, .int (nI j)]) rfl (Nat.le_of_ble_eq_true rfl) ?_
    refine jv_aload0 dX4_value_0 ?_
    refine jv_getR dX4_value_1 flX4_10 rfl (ck h.g) (cr_now h.g) ?_
    refine jv_iload1 dX4_value_4 ?_
    refine jv_v11 dX4_value_5 okX3_hasCount inX3_hasCount seX3_hasCount mlX4_101 (ci := 3) (T := TX3) (N := 15) rfl (yk (cg_now h.g)) (ot_hasCount (cg_now h.g) h.r h.w _) (by decide) (Nat.le_of_ble_eq_true rfl) ?_
    refine jv_if_eqB dX4_value_8 (tgt := 22) (by decide) (fun hq8 => absurd hv hq8) (fun hq8 => ?_)
    refine jv_aload0 dX4_value_11 ?_
    refine jv_getR dX4_value_12 flX4_10 rfl (ck h.g) (cr_now h.g) ?_
    refine jv_iload1 dX4_value_15 ?_
    refine jv_v11 dX4_value_16 okX3_valueBy inX3_valueBy seX3_valueBy mlX4_223 (ci := 3) (T := TX3) (N := 15) rfl (yk (cg_now h.g)) (ot_valueByM (cg_now h.g) h.r h.w hj) (by decide) (Nat.le_of_ble_eq_true rfl) ?_
    refine jv_goto dX4_value_19 (tgt := 28) (by decide) ?_
    exact jv_iret dX4_value_28 rfl rfl rfl rfl rfl
  · obtain ⟨I2, hC, h2, h3⟩ := oc_refuse2 h
    refine ⟨I2, J, ?_, h2, h3⟩
    refine jv_enter okX4_value (L := [.ref 1, .int k]) rfl (Nat.le_of_ble_eq_true rfl) ?_
    refine jv_aload0 dX4_value_0 ?_
    refine jv_getR dX4_value_1 flX4_10 rfl (ck h.g) (cr_now h.g) ?_
    refine jv_iload1 dX4_value_4 ?_
    refine jv_v11 dX4_value_5 okX3_hasCount inX3_hasCount seX3_hasCount mlX4_101 (ci := 3) (T := TX3) (N := 15) rfl (yk (cg_now h.g)) (ot_hasCount (cg_now h.g) h.r h.w _) (by decide) (Nat.le_of_ble_eq_true rfl) ?_
    refine jv_if_eqB dX4_value_8 (tgt := 22) (by decide) (fun g8 => ?_) (fun g8 => ?_)
    · refine jv_aload0 dX4_value_22 ?_
      refine jv_bipush dX4_value_23 jv_c_bipush_m2 ?_
      refine jv_v11 dX4_value_25 okX4_refuse inX4_refuse seX4_refuse mlX4_61 (ci := 4) (T := TX4) (N := 8) rfl (ck h.g) hC (by decide) (Nat.le_of_ble_eq_true rfl) ?_
      exact jv_iret dX4_value_28 rfl rfl rfl rfl rfl
    · exact absurd g8 hv
set_option maxRecDepth 20000 in
theorem pm_value {G : jv_Gr} {I : jv_I} {J : jv_J} {Y Z : ot_Y} {E : ot_E} {K : Option ot_Y} (h : ot_M G I J Y Z E K) (k : Int32) : ot_mm 8 mX5_value [.ref 64, .int k] G I J (ot_ans (ot_rc (0 ≤ k.toInt ∧ k.toInt < Y 10 1)) (nI (ot_value Y (ot_n k)))) Y (ot_zr Z (ot_rc (0 ≤ k.toInt ∧ k.toInt < Y 10 1))) E K := by
  have bn := yw_n h.w
  have bc := yw_c h.w
  have bw := yw_w h.w
  refine ot_case (motive := fun A Z' => ot_mm 8 mX5_value [.ref 64, .int k] G I J A Y Z' E K) (fun hv => ?_) (fun hv => ?_)
  · obtain ⟨j, hj, rfl⟩ := ot_of hv (by omega)
    rw [ot_n_nI (show j < 2 ^ 30 by omega)]
    refine ⟨G, I, J, ?_, h, ot_lo.rf, ot_gx.rf⟩
    refine jv_enter okX5_value (L := [.ref 64, .int (nI j)]) rfl (Nat.le_of_ble_eq_true rfl) ?_
    refine jv_aload0 dX5_value_0 ?_
    refine jv_iload1 dX5_value_1 ?_
    refine jv_v11 dX5_value_2 okX5_isCount inX5_isCount seX5_isCount mlX5_94 (ci := 5) (T := TX5) (N := 35) rfl (mk h.g) (om_isCount h.g h.r h.w _) (by decide) (Nat.le_of_ble_eq_true rfl) ?_
    refine jv_if_eqB dX5_value_5 (tgt := 16) (by decide) (fun hq5 => absurd hv hq5) (fun hq5 => ?_)
    refine jv_aload0 dX5_value_8 ?_
    refine jv_iload1 dX5_value_9 ?_
    refine jv_v11 dX5_value_10 okX5_valueOf inX5_valueOf seX5_valueOf mlX5_278 (ci := 5) (T := TX5) (N := 35) rfl (mk h.g) (om_valueOf h.g h.r h.w hj) (by decide) (Nat.le_of_ble_eq_true rfl) ?_
    refine jv_goto dX5_value_13 (tgt := 22) (by decide) ?_
    exact jv_iret dX5_value_22 rfl rfl rfl rfl rfl
  · obtain ⟨I2, hC, h2, h3⟩ := om_refuse2 h
    refine ⟨G, I2, J, ?_, h2, h3, ot_gx.rf⟩
    refine jv_enter okX5_value (L := [.ref 64, .int k]) rfl (Nat.le_of_ble_eq_true rfl) ?_
    refine jv_aload0 dX5_value_0 ?_
    refine jv_iload1 dX5_value_1 ?_
    refine jv_v11 dX5_value_2 okX5_isCount inX5_isCount seX5_isCount mlX5_94 (ci := 5) (T := TX5) (N := 35) rfl (mk h.g) (om_isCount h.g h.r h.w _) (by decide) (Nat.le_of_ble_eq_true rfl) ?_
    refine jv_if_eqB dX5_value_5 (tgt := 16) (by decide) (fun g5 => ?_) (fun g5 => ?_)
    · refine jv_aload0 dX5_value_16 ?_
      refine jv_bipush dX5_value_17 jv_c_bipush_m2 ?_
      refine jv_v11 dX5_value_19 okX5_refuse inX5_refuse seX5_refuse mlX5_104 (ci := 5) (T := TX5) (N := 35) rfl (mk h.g) hC (by decide) (Nat.le_of_ble_eq_true rfl) ?_
      exact jv_iret dX5_value_22 rfl rfl rfl rfl rfl
    · exact absurd g5 hv
set_option maxRecDepth 20000 in
theorem pc_even {G : jv_Gr} {I : jv_I} {J : jv_J} {Y Z : ot_Y} {E : ot_E} {K : Option ot_Y} (h : ot_C G I J Y Z E K) (k : Int32) : ot_cc 8 mX4_even [.ref 1, .int k] G I J (ot_ans (ot_rc (0 ≤ k.toInt ∧ k.toInt < Y 10 1)) (nI (ot_even Y (ot_n k)))) Y (ot_zr Z (ot_rc (0 ≤ k.toInt ∧ k.toInt < Y 10 1))) E K := by
  have bn := yw_n h.w
  have bc := yw_c h.w
  have bw := yw_w h.w
  refine ot_case (motive := fun A Z' => ot_cc 8 mX4_even [.ref 1, .int k] G I J A Y Z' E K) (fun hv => ?_) (fun hv => ?_)
  · obtain ⟨j, hj, rfl⟩ := ot_of hv (by omega)
    rw [ot_n_nI (show j < 2 ^ 30 by omega)]
    refine ⟨I, J, ?_, h, ot_hi.rf⟩
    refine jv_enter okX4_even (L := [.ref 1, .int (nI j)]) rfl (Nat.le_of_ble_eq_true rfl) ?_
    refine jv_aload0 dX4_even_0 ?_
    refine jv_getR dX4_even_1 flX4_10 rfl (ck h.g) (cr_now h.g) ?_
    refine jv_iload1 dX4_even_4 ?_
    refine jv_v11 dX4_even_5 okX3_hasCount inX3_hasCount seX3_hasCount mlX4_101 (ci := 3) (T := TX3) (N := 15) rfl (yk (cg_now h.g)) (ot_hasCount (cg_now h.g) h.r h.w _) (by decide) (Nat.le_of_ble_eq_true rfl) ?_
    refine jv_if_eqB dX4_even_8 (tgt := 22) (by decide) (fun hq8 => absurd hv hq8) (fun hq8 => ?_)
    refine jv_aload0 dX4_even_11 ?_
    refine jv_getR dX4_even_12 flX4_10 rfl (ck h.g) (cr_now h.g) ?_
    refine jv_iload1 dX4_even_15 ?_
    refine jv_v11 dX4_even_16 okX3_unevenness inX3_unevenness seX3_unevenness mlX4_241 (ci := 3) (T := TX3) (N := 15) rfl (yk (cg_now h.g)) (ot_evenM (cg_now h.g) h.r h.w hj) (by decide) (Nat.le_of_ble_eq_true rfl) ?_
    refine jv_goto dX4_even_19 (tgt := 28) (by decide) ?_
    exact jv_iret dX4_even_28 rfl rfl rfl rfl rfl
  · obtain ⟨I2, hC, h2, h3⟩ := oc_refuse2 h
    refine ⟨I2, J, ?_, h2, h3⟩
    refine jv_enter okX4_even (L := [.ref 1, .int k]) rfl (Nat.le_of_ble_eq_true rfl) ?_
    refine jv_aload0 dX4_even_0 ?_
    refine jv_getR dX4_even_1 flX4_10 rfl (ck h.g) (cr_now h.g) ?_
    refine jv_iload1 dX4_even_4 ?_
    refine jv_v11 dX4_even_5 okX3_hasCount inX3_hasCount seX3_hasCount mlX4_101 (ci := 3) (T := TX3) (N := 15) rfl (yk (cg_now h.g)) (ot_hasCount (cg_now h.g) h.r h.w _) (by decide) (Nat.le_of_ble_eq_true rfl) ?_
    refine jv_if_eqB dX4_even_8 (tgt := 22) (by decide) (fun g8 => ?_) (fun g8 => ?_)
    · refine jv_aload0 dX4_even_22 ?_
      refine jv_bipush dX4_even_23 jv_c_bipush_m2 ?_
      refine jv_v11 dX4_even_25 okX4_refuse inX4_refuse seX4_refuse mlX4_61 (ci := 4) (T := TX4) (N := 8) rfl (ck h.g) hC (by decide) (Nat.le_of_ble_eq_true rfl) ?_
      exact jv_iret dX4_even_28 rfl rfl rfl rfl rfl
    · exact absurd g8 hv
set_option maxRecDepth 20000 in
theorem pm_even {G : jv_Gr} {I : jv_I} {J : jv_J} {Y Z : ot_Y} {E : ot_E} {K : Option ot_Y} (h : ot_M G I J Y Z E K) (k : Int32) : ot_mm 8 mX5_even [.ref 64, .int k] G I J (ot_ans (ot_rc (0 ≤ k.toInt ∧ k.toInt < Y 10 1)) (nI (ot_even Y (ot_n k)))) Y (ot_zr Z (ot_rc (0 ≤ k.toInt ∧ k.toInt < Y 10 1))) E K := by
  have bn := yw_n h.w
  have bc := yw_c h.w
  have bw := yw_w h.w
  refine ot_case (motive := fun A Z' => ot_mm 8 mX5_even [.ref 64, .int k] G I J A Y Z' E K) (fun hv => ?_) (fun hv => ?_)
  · obtain ⟨j, hj, rfl⟩ := ot_of hv (by omega)
    rw [ot_n_nI (show j < 2 ^ 30 by omega)]
    refine ⟨G, I, J, ?_, h, ot_lo.rf, ot_gx.rf⟩
    refine jv_enter okX5_even (L := [.ref 64, .int (nI j)]) rfl (Nat.le_of_ble_eq_true rfl) ?_
    refine jv_aload0 dX5_even_0 ?_
    refine jv_iload1 dX5_even_1 ?_
    refine jv_v11 dX5_even_2 okX5_isCount inX5_isCount seX5_isCount mlX5_94 (ci := 5) (T := TX5) (N := 35) rfl (mk h.g) (om_isCount h.g h.r h.w _) (by decide) (Nat.le_of_ble_eq_true rfl) ?_
    refine jv_if_eqB dX5_even_5 (tgt := 16) (by decide) (fun hq5 => absurd hv hq5) (fun hq5 => ?_)
    refine jv_aload0 dX5_even_8 ?_
    refine jv_iload1 dX5_even_9 ?_
    refine jv_v11 dX5_even_10 okX5_evenOf inX5_evenOf seX5_evenOf mlX5_287 (ci := 5) (T := TX5) (N := 35) rfl (mk h.g) (om_evenOf h.g h.r h.w hj) (by decide) (Nat.le_of_ble_eq_true rfl) ?_
    refine jv_goto dX5_even_13 (tgt := 22) (by decide) ?_
    exact jv_iret dX5_even_22 rfl rfl rfl rfl rfl
  · obtain ⟨I2, hC, h2, h3⟩ := om_refuse2 h
    refine ⟨G, I2, J, ?_, h2, h3, ot_gx.rf⟩
    refine jv_enter okX5_even (L := [.ref 64, .int k]) rfl (Nat.le_of_ble_eq_true rfl) ?_
    refine jv_aload0 dX5_even_0 ?_
    refine jv_iload1 dX5_even_1 ?_
    refine jv_v11 dX5_even_2 okX5_isCount inX5_isCount seX5_isCount mlX5_94 (ci := 5) (T := TX5) (N := 35) rfl (mk h.g) (om_isCount h.g h.r h.w _) (by decide) (Nat.le_of_ble_eq_true rfl) ?_
    refine jv_if_eqB dX5_even_5 (tgt := 16) (by decide) (fun g5 => ?_) (fun g5 => ?_)
    · refine jv_aload0 dX5_even_16 ?_
      refine jv_bipush dX5_even_17 jv_c_bipush_m2 ?_
      refine jv_v11 dX5_even_19 okX5_refuse inX5_refuse seX5_refuse mlX5_104 (ci := 5) (T := TX5) (N := 35) rfl (mk h.g) hC (by decide) (Nat.le_of_ble_eq_true rfl) ?_
      exact jv_iret dX5_even_22 rfl rfl rfl rfl rfl
    · exact absurd g5 hv
