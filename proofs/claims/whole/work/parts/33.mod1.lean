/-! ===== the reference: its state, and reads ===== -/
def ot_mkind (j : Nat) : Nat × Nat := match j with
  | 0 => (0, 8)
  | 1 => (0, 8)
  | 2 => (0, 8)
  | 3 => (3, 8)
  | 4 => (1, 40)
  | 5 => (1, 40)
  | 6 => (1, 40)
  | 7 => (1, 40)
  | 8 => (1, 40)
  | 9 => (1, 40)
  | 10 => (1, 40)
  | 11 => (1, 40)
  | 12 => (1, 40)
  | 13 => (0, 8)
  | 14 => (0, 250)
  | 15 => (0, 8)
  | 16 => (0, 14)
  | 17 => (0, 14)
  | 18 => (0, 14)
  | 19 => (0, 6)
  | 20 => (0, 6)
  | 21 => (0, 6)
  | 22 => (0, 20)
  | 23 => (0, 20)
  | 24 => (0, 20)
  | 25 => (0, 20)
  | 26 => (0, 3)
  | 27 => (0, 14)
  | _ => (0, 14)
def ot_mfld (j : Nat) : Nat := match j with
  | 0 => 0
  | 1 => 1
  | 2 => 2
  | 3 => 3
  | 4 => 4
  | 5 => 5
  | 6 => 6
  | 7 => 8
  | 8 => 10
  | 9 => 11
  | 10 => 12
  | 11 => 14
  | 12 => 15
  | 13 => 16
  | 14 => 18
  | 15 => 19
  | 16 => 20
  | 17 => 21
  | 18 => 30
  | 19 => 33
  | _ => 34
def ot_moff (j : Nat) : Nat := match j with
  | 0 => 1
  | 1 => 2
  | 2 => 3
  | 3 => 4
  | 4 => 13
  | 5 => 14
  | 6 => 15
  | 7 => 16
  | 8 => 17
  | 9 => 18
  | 10 => 19
  | 11 => 20
  | 12 => 21
  | 13 => 22
  | 14 => 23
  | 15 => 24
  | 16 => 25
  | 17 => 26
  | 18 => 27
  | 19 => 28
  | _ => 29
def ot_MG (G : jv_Gr) (m : Nat) : Prop := jv_k G m = (15, 0) ∧ (∀ j, j < 29 → jv_k G (m + (j + 1)) = ot_mkind j) ∧ (∀ j, j < 21 → jv_r G m (ot_mfld j) = m + ot_moff j) ∧ (∀ s, s < 8 → jv_r G (m + 4) s = m + (5 + s))
def ot_MR (I : jv_I) (m : Nat) (Y : ot_Y) : Prop :=
  (I m 9 = nI (Y 10 0) ∧ I m 13 = nI (Y 10 1) ∧ I m 17 = nI (Y 10 2) ∧ I m 22 = nI (Y 10 3)) ∧
  (∀ c, c < Y 10 0 → I (m + 17) c = nI (Y 0 c) ∧ I (m + 18) c = nI (Y 1 c) ∧ I (m + 19) c = nI (Y 2 c)) ∧
  (∀ k, k < Y 10 1 → I (m + 20) k = nI (Y 3 k) ∧ I (m + 21) k = nI (Y 4 k) ∧ I (m + 22) k = nI (Y 5 k)) ∧
  (∀ i, i < Y 10 2 → I (m + 23) i = nI (Y 6 i) ∧ I (m + 24) i = nI (Y 7 i) ∧ I (m + 25) i = nI (Y 8 i) ∧ I (m + 26) i = nI (Y 9 i))
section OTM
variable {G : jv_Gr} {I : jv_I} {m : Nat} {Y : ot_Y}
theorem mk (h : ot_MG G m) : jv_k G m = (5 + 10, 0) := h.1
theorem mr_row (h : ot_MG G m) {s : Nat} (hs : s < 8) : jv_r G (m + 4) s = m + (5 + s) := h.2.2.2 s hs
theorem mk_row (h : ot_MG G m) {s : Nat} (hs : s < 8) : jv_k G (m + (5 + s)) = (1, 40) := by
  have h1 := h.2.1 (4 + s) (by omega)
  rw [show 4 + s + 1 = 5 + s by omega] at h1
  rw [h1]
  match s, hs with
  | 0, _ => rfl
  | 1, _ => rfl
  | 2, _ => rfl
  | 3, _ => rfl
  | 4, _ => rfl
  | 5, _ => rfl
  | 6, _ => rfl
  | 7, _ => rfl
theorem mk_shelf (h : ot_MG G m) : jv_k G (m + 1) = (0, 8) := h.2.1 0 (by decide)
theorem mr_shelf (h : ot_MG G m) : jv_r G m 0 = m + 1 := h.2.2.1 0 (by decide)
theorem mk_rowSort (h : ot_MG G m) : jv_k G (m + 2) = (0, 8) := h.2.1 1 (by decide)
theorem mr_rowSort (h : ot_MG G m) : jv_r G m 1 = m + 2 := h.2.2.1 1 (by decide)
theorem mk_rowSize (h : ot_MG G m) : jv_k G (m + 3) = (0, 8) := h.2.1 2 (by decide)
theorem mr_rowSize (h : ot_MG G m) : jv_r G m 2 = m + 3 := h.2.2.1 2 (by decide)
theorem mk_rows (h : ot_MG G m) : jv_k G (m + 4) = (3, 8) := h.2.1 3 (by decide)
theorem mr_rows (h : ot_MG G m) : jv_r G m 3 = m + 4 := h.2.2.1 3 (by decide)
theorem mk_carried (h : ot_MG G m) : jv_k G (m + 13) = (1, 40) := h.2.1 12 (by decide)
theorem mr_carried (h : ot_MG G m) : jv_r G m 4 = m + 13 := h.2.2.1 4 (by decide)
theorem mk_shown (h : ot_MG G m) : jv_k G (m + 14) = (0, 8) := h.2.1 13 (by decide)
theorem mr_shown (h : ot_MG G m) : jv_r G m 5 = m + 14 := h.2.2.1 5 (by decide)
theorem mk_tape (h : ot_MG G m) : jv_k G (m + 15) = (0, 250) := h.2.1 14 (by decide)
theorem mr_tape (h : ot_MG G m) : jv_r G m 6 = m + 15 := h.2.2.1 6 (by decide)
theorem mk_refused (h : ot_MG G m) : jv_k G (m + 16) = (0, 8) := h.2.1 15 (by decide)
theorem mr_refused (h : ot_MG G m) : jv_r G m 8 = m + 16 := h.2.2.1 7 (by decide)
theorem mk_strong (h : ot_MG G m) : jv_k G (m + 17) = (0, 14) := h.2.1 16 (by decide)
theorem mr_strong (h : ot_MG G m) : jv_r G m 10 = m + 17 := h.2.2.1 8 (by decide)
theorem mk_step (h : ot_MG G m) : jv_k G (m + 18) = (0, 14) := h.2.1 17 (by decide)
theorem mr_step (h : ot_MG G m) : jv_r G m 11 = m + 18 := h.2.2.1 9 (by decide)
theorem mk_place (h : ot_MG G m) : jv_k G (m + 19) = (0, 14) := h.2.1 18 (by decide)
theorem mr_place (h : ot_MG G m) : jv_r G m 12 = m + 19 := h.2.2.1 10 (by decide)
theorem mk_kind (h : ot_MG G m) : jv_k G (m + 20) = (0, 6) := h.2.1 19 (by decide)
theorem mr_kind (h : ot_MG G m) : jv_r G m 14 = m + 20 := h.2.2.1 11 (by decide)
theorem mk_by (h : ot_MG G m) : jv_k G (m + 21) = (0, 6) := h.2.1 20 (by decide)
theorem mr_by (h : ot_MG G m) : jv_r G m 15 = m + 21 := h.2.2.1 12 (by decide)
theorem mk_slips (h : ot_MG G m) : jv_k G (m + 22) = (0, 6) := h.2.1 21 (by decide)
theorem mr_slips (h : ot_MG G m) : jv_r G m 16 = m + 22 := h.2.2.1 13 (by decide)
theorem mk_one (h : ot_MG G m) : jv_k G (m + 23) = (0, 20) := h.2.1 22 (by decide)
theorem mr_one (h : ot_MG G m) : jv_r G m 18 = m + 23 := h.2.2.1 14 (by decide)
theorem mk_other (h : ot_MG G m) : jv_k G (m + 24) = (0, 20) := h.2.1 23 (by decide)
theorem mr_other (h : ot_MG G m) : jv_r G m 19 = m + 24 := h.2.2.1 15 (by decide)
theorem mk_together (h : ot_MG G m) : jv_k G (m + 25) = (0, 20) := h.2.1 24 (by decide)
theorem mr_together (h : ot_MG G m) : jv_r G m 20 = m + 25 := h.2.2.1 16 (by decide)
theorem mk_worth (h : ot_MG G m) : jv_k G (m + 26) = (0, 20) := h.2.1 25 (by decide)
theorem mr_worth (h : ot_MG G m) : jv_r G m 21 = m + 26 := h.2.2.1 17 (by decide)
theorem mk_told (h : ot_MG G m) : jv_k G (m + 27) = (0, 3) := h.2.1 26 (by decide)
theorem mr_told (h : ot_MG G m) : jv_r G m 30 = m + 27 := h.2.2.1 18 (by decide)
theorem mk_ring (h : ot_MG G m) : jv_k G (m + 28) = (0, 14) := h.2.1 27 (by decide)
theorem mr_ring (h : ot_MG G m) : jv_r G m 33 = m + 28 := h.2.2.1 19 (by decide)
theorem mk_outs (h : ot_MG G m) : jv_k G (m + 29) = (0, 14) := h.2.1 28 (by decide)
theorem mr_outs (h : ot_MG G m) : jv_r G m 34 = m + 29 := h.2.2.1 20 (by decide)
theorem mi_children (h : ot_MR I m Y) : I m 9 = nI (Y 10 0) := h.1.1
theorem mi_counts (h : ot_MR I m Y) : I m 13 = nI (Y 10 1) := h.1.2.1
theorem mi_wishes (h : ot_MR I m Y) : I m 17 = nI (Y 10 2) := h.1.2.2.1
theorem mi_seed (h : ot_MR I m Y) : I m 22 = nI (Y 10 3) := h.1.2.2.2
theorem me_strong (h : ot_MR I m Y) {c : Nat} (hc : c < Y 10 0) : I (m + 17) c = nI (Y 0 c) := (h.2.1 c hc).1
theorem me_step (h : ot_MR I m Y) {c : Nat} (hc : c < Y 10 0) : I (m + 18) c = nI (Y 1 c) := (h.2.1 c hc).2.1
theorem me_place (h : ot_MR I m Y) {c : Nat} (hc : c < Y 10 0) : I (m + 19) c = nI (Y 2 c) := (h.2.1 c hc).2.2
theorem me_kind (h : ot_MR I m Y) {c : Nat} (hc : c < Y 10 1) : I (m + 20) c = nI (Y 3 c) := (h.2.2.1 c hc).1
theorem me_by (h : ot_MR I m Y) {c : Nat} (hc : c < Y 10 1) : I (m + 21) c = nI (Y 4 c) := (h.2.2.1 c hc).2.1
theorem me_slips (h : ot_MR I m Y) {c : Nat} (hc : c < Y 10 1) : I (m + 22) c = nI (Y 5 c) := (h.2.2.1 c hc).2.2
theorem me_one (h : ot_MR I m Y) {c : Nat} (hc : c < Y 10 2) : I (m + 23) c = nI (Y 6 c) := (h.2.2.2 c hc).1
theorem me_other (h : ot_MR I m Y) {c : Nat} (hc : c < Y 10 2) : I (m + 24) c = nI (Y 7 c) := (h.2.2.2 c hc).2.1
theorem me_together (h : ot_MR I m Y) {c : Nat} (hc : c < Y 10 2) : I (m + 25) c = nI (Y 8 c) := (h.2.2.2 c hc).2.2.1
theorem me_worth (h : ot_MR I m Y) {c : Nat} (hc : c < Y 10 2) : I (m + 26) c = nI (Y 9 c) := (h.2.2.2 c hc).2.2.2
end OTM
theorem ot_l0 (v : Int64) : lN 0 ≤ v ↔ 0 ≤ v.toInt := by rw [Int64.le_iff_toInt_le, lN_toInt (by decide)]; rfl
theorem ot_lpred (v : Int64) {n : Nat} (hn : n < 2 ^ 30) : v ≤ (nI n - nI 1).toInt64 ↔ v.toInt < n := by
  rw [Int64.le_iff_toInt_le, Int32.toInt_toInt64, pk_sub_toInt (by omega) (by omega)]
  omega
theorem ot_inI (x : Int32) (a b : Int64) : (a ≤ x.toInt64 ∧ x.toInt64 ≤ b) ↔ (a.toInt ≤ x.toInt ∧ x.toInt ≤ b.toInt) := by
  rw [Int64.le_iff_toInt_le, Int64.le_iff_toInt_le, Int32.toInt_toInt64]
theorem ot_beq1 {P : Prop} [Decidable P] : jv_b P = nI 1 ↔ P := by
  unfold jv_b
  split
  · rename_i h; exact ⟨fun _ => h, fun _ => rfl⟩
  · rename_i h; exact ⟨fun q => absurd q (by decide), fun q => absurd q h⟩
theorem ot_beq0 {P : Prop} [Decidable P] : jv_b P = nI 0 ↔ ¬ P := by
  unfold jv_b
  split
  · rename_i h; exact ⟨fun q => absurd q (by decide), fun q => absurd h q⟩
  · rename_i h; exact ⟨fun _ => h, fun _ => rfl⟩
set_option maxRecDepth 20000 in
theorem om_in {G : jv_Gr} {I : jv_I} {J : jv_J} (v lo hi : Int64) : jv_C 1 mX5_in [.long v, .long lo, .long hi] G I J (some (.int (jv_b (lo ≤ v ∧ v ≤ hi)))) G I J := by
  refine jv_enter okX5_in (L := [.long v, .null, .long lo, .null, .long hi, .null]) rfl (Nat.le_of_ble_eq_true rfl) ?_
  refine jv_lload0 dX5_in_0 ?_
  refine jv_lload2 dX5_in_1 ?_
  refine jv_lcmp dX5_in_2 ?_
  refine jv_if_lt dX5_in_3 (tgt := 17) (by decide) (fun h1 => ?_) (fun h1 => ?_)
  · refine jv_iconst dX5_in_17 jv_c_iconst_0 ?_
    exact jv_iret dX5_in_18 rfl (by decide) (ot_b0 (fun q => absurd ((lg_cmp_lt v lo).mp h1) (Int64.not_lt.mpr q.1))) rfl rfl
  · refine jv_lload0 dX5_in_6 ?_
    refine jv_lload4 dX5_in_7 ?_
    refine jv_lcmp dX5_in_9 ?_
    refine jv_if_gt dX5_in_10 (tgt := 17) (by decide) (fun h2 => ?_) (fun h2 => ?_)
    · refine jv_iconst dX5_in_17 jv_c_iconst_0 ?_
      exact jv_iret dX5_in_18 rfl (by decide) (ot_b0 (fun q => absurd ((lg_cmp_gt v hi).mp h2) (Int64.not_lt.mpr q.2))) rfl rfl
    · refine jv_iconst dX5_in_13 jv_c_iconst_1 ?_
      refine jv_goto dX5_in_14 (tgt := 18) (by decide) ?_
      exact jv_iret dX5_in_18 rfl (by decide) (ot_b1 ⟨Int64.not_lt.mp (fun q => h1 ((lg_cmp_lt v lo).mpr q)), Int64.not_lt.mp (fun q => h2 ((lg_cmp_gt v hi).mpr q))⟩) rfl rfl
set_option maxRecDepth 20000 in
theorem om_isChild {G : jv_Gr} {I : jv_I} {J : jv_J} {m : Nat} {Y : ot_Y} (hG : ot_MG G m) (hR : ot_MR I m Y) (hW : ot_YW Y) (v : Int64) : jv_C 2 mX5_isChild [.ref m, .long v] G I J (some (.int (jv_b (0 ≤ v.toInt ∧ v.toInt < Y 10 0)))) G I J := by
  refine jv_enter okX5_isChild (L := [.ref m, .long v, .null]) rfl (Nat.le_of_ble_eq_true rfl) ?_
  have bn := yw_n hW
  have bc := yw_c hW
  have bw := yw_w hW
  refine jv_lload1 dX5_isChild_0 ?_
  refine jv_lconst dX5_isChild_1 (v := lN 0) rfl ?_
  refine jv_aload0 dX5_isChild_2 ?_
  refine jv_getI dX5_isChild_3 flX5_80 rfl (mk hG) (mi_children hR) ?_
  refine jv_iconst dX5_isChild_6 jv_c_iconst_1 ?_
  refine jv_isub dX5_isChild_7 ?_
  refine jv_i2l dX5_isChild_8 rfl ?_
  refine jv_s31 dX5_isChild_9 okX5_in stX5_in mlX5_83 (om_in v (lN 0) (nI (Y 10 0) - nI 1).toInt64) (by decide) (Nat.le_of_ble_eq_true rfl) ?_
  exact jv_iret dX5_isChild_12 rfl jv_b_n (jv_b_iff (by rw [ot_l0, ot_lpred v (by omega)])) rfl rfl
set_option maxRecDepth 20000 in
theorem om_isCount {G : jv_Gr} {I : jv_I} {J : jv_J} {m : Nat} {Y : ot_Y} (hG : ot_MG G m) (hR : ot_MR I m Y) (hW : ot_YW Y) (v : Int32) : jv_C 2 mX5_isCount [.ref m, .int v] G I J (some (.int (jv_b (0 ≤ v.toInt ∧ v.toInt < Y 10 1)))) G I J := by
  refine jv_enter okX5_isCount (L := [.ref m, .int v]) rfl (Nat.le_of_ble_eq_true rfl) ?_
  have bn := yw_n hW
  have bc := yw_c hW
  have bw := yw_w hW
  refine jv_iload1 dX5_isCount_0 ?_
  refine jv_i2l dX5_isCount_1 rfl ?_
  refine jv_lconst dX5_isCount_2 (v := lN 0) rfl ?_
  refine jv_aload0 dX5_isCount_3 ?_
  refine jv_getI dX5_isCount_4 flX5_91 rfl (mk hG) (mi_counts hR) ?_
  refine jv_iconst dX5_isCount_7 jv_c_iconst_1 ?_
  refine jv_isub dX5_isCount_8 ?_
  refine jv_i2l dX5_isCount_9 rfl ?_
  refine jv_s31 dX5_isCount_10 okX5_in stX5_in mlX5_83 (om_in v.toInt64 (lN 0) (nI (Y 10 1) - nI 1).toInt64) (by decide) (Nat.le_of_ble_eq_true rfl) ?_
  exact jv_iret dX5_isCount_13 rfl jv_b_n (jv_b_iff (by rw [ot_l0, ot_lpred _ (by omega), Int32.toInt_toInt64])) rfl rfl
set_option maxRecDepth 20000 in
theorem om_areTwo {G : jv_Gr} {I : jv_I} {J : jv_J} {m : Nat} {Y : ot_Y} (hG : ot_MG G m) (hR : ot_MR I m Y) (hW : ot_YW Y) (a b : Int64) : jv_C 3 mX5_areTwo [.ref m, .long a, .long b] G I J (some (.int (jv_b ((0 ≤ a.toInt ∧ a.toInt < Y 10 0) ∧ (0 ≤ b.toInt ∧ b.toInt < Y 10 0) ∧ a ≠ b)))) G I J := by
  refine jv_enter okX5_areTwo (L := [.ref m, .long a, .null, .long b, .null]) rfl (Nat.le_of_ble_eq_true rfl) ?_
  have bn := yw_n hW
  have bc := yw_c hW
  have bw := yw_w hW
  refine jv_aload0 dX5_areTwo_0 ?_
  refine jv_lload1 dX5_areTwo_1 ?_
  refine jv_v11 dX5_areTwo_2 okX5_isChild inX5_isChild seX5_isChild mlX5_87 (ci := 5) (T := TX5) (N := 35) rfl (mk hG) (om_isChild hG hR hW a) (by decide) (Nat.le_of_ble_eq_true rfl) ?_
  refine jv_if_eqB dX5_areTwo_5 (tgt := 26) (by decide) (fun h5 => ?_) (fun h5 => ?_)
  · refine jv_iconst dX5_areTwo_26 jv_c_iconst_0 ?_
    exact jv_iret dX5_areTwo_27 rfl (by decide) (ot_b0 (by first | exact fun q => h5 q.1 | exact fun q => h13 q.2.1)) rfl rfl
  · refine jv_aload0 dX5_areTwo_8 ?_
    refine jv_lload3 dX5_areTwo_9 ?_
    refine jv_v11 dX5_areTwo_10 okX5_isChild inX5_isChild seX5_isChild mlX5_87 (ci := 5) (T := TX5) (N := 35) rfl (mk hG) (om_isChild hG hR hW b) (by decide) (Nat.le_of_ble_eq_true rfl) ?_
    refine jv_if_eqB dX5_areTwo_13 (tgt := 26) (by decide) (fun h13 => ?_) (fun h13 => ?_)
    · refine jv_iconst dX5_areTwo_26 jv_c_iconst_0 ?_
      exact jv_iret dX5_areTwo_27 rfl (by decide) (ot_b0 (by first | exact fun q => h5 q.1 | exact fun q => h13 q.2.1)) rfl rfl
    · refine jv_lload1 dX5_areTwo_16 ?_
      refine jv_lload3 dX5_areTwo_17 ?_
      refine jv_lcmp dX5_areTwo_18 ?_
      refine jv_if_eq dX5_areTwo_19 (tgt := 26) (by decide) (fun h19 => ?_) (fun h19 => ?_)
      · refine jv_iconst dX5_areTwo_26 jv_c_iconst_0 ?_
        exact jv_iret dX5_areTwo_27 rfl (by decide) (ot_b0 (fun q => q.2.2 ((lg_cmp_eq a b).mp h19))) rfl rfl
      · refine jv_iconst dX5_areTwo_22 jv_c_iconst_1 ?_
        refine jv_goto dX5_areTwo_23 (tgt := 27) (by decide) ?_
        exact jv_iret dX5_areTwo_27 rfl (by decide) (ot_b1 ⟨h5, h13, fun q => h19 ((lg_cmp_eq a b).mpr q)⟩) rfl rfl
set_option maxRecDepth 20000 in
theorem om_slipped {G : jv_Gr} {I : jv_I} {J : jv_J} {m : Nat} {Y : ot_Y} (hG : ot_MG G m) (hR : ot_MR I m Y) (hW : ot_YW Y) {k p : Nat} (hk : k < Y 10 1) (hp : p < 100) : jv_C 1 mX5_slipped [.ref m, .int (nI k), .int (nI p)] G I J (some (.int (nI (ot_slipped Y k p)))) G I J := by
  refine jv_enter okX5_slipped (L := [.ref m, .int (nI k), .int (nI p)]) rfl (Nat.le_of_ble_eq_true rfl) ?_
  have bn := yw_n hW
  have bc := yw_c hW
  have bw := yw_w hW
  have hq := yw_count hW hk
  refine jv_aload0 dX5_slipped_0 ?_
  refine jv_getR dX5_slipped_1 flX5_52 rfl (mk hG) (mr_slips hG) ?_
  refine jv_iload1 dX5_slipped_4 ?_
  refine jv_ialdN dX5_slipped_5 (mk_slips hG) (by omega) (by decide) (me_slips hR (by omega)) ?_
  refine jv_if_leN dX5_slipped_6 (tgt := 25) (by decide) (by omega) (fun h6 => ?_) (fun h6 => ?_)
  · refine jv_iload2 dX5_slipped_25 ?_
    exact jv_iret dX5_slipped_26 rfl rfl (by unfold ot_slipped; rw [if_neg (by omega)]) rfl rfl
  · refine jv_iload2 dX5_slipped_9 ?_
    refine jv_aload0 dX5_slipped_10 ?_
    refine jv_getR dX5_slipped_11 flX5_52 rfl (mk hG) (mr_slips hG) ?_
    refine jv_iload1 dX5_slipped_14 ?_
    refine jv_ialdN dX5_slipped_15 (mk_slips hG) (by omega) (by decide) (me_slips hR (by omega)) ?_
    refine jv_icmp_ltN dX5_slipped_16 (tgt := 25) (by decide) (by omega) (by omega) (fun h16 => ?_) (fun h16 => ?_)
    · refine jv_iload2 dX5_slipped_25 ?_
      exact jv_iret dX5_slipped_26 rfl rfl (by unfold ot_slipped; rw [if_neg (by omega)]) rfl rfl
    · refine jv_iload2 dX5_slipped_19 ?_
      refine jv_iconst dX5_slipped_20 jv_c_iconst_1 ?_
      refine jv_isubN dX5_slipped_21 (by omega) ?_
      refine jv_goto dX5_slipped_22 (tgt := 26) (by decide) ?_
      exact jv_iret dX5_slipped_26 rfl rfl (by unfold ot_slipped; rw [if_pos (by omega)]) rfl rfl
theorem ot_slipped_le (Y : ot_Y) (k p : Nat) : ot_slipped Y k p ≤ p := by unfold ot_slipped; split <;> omega
set_option maxRecDepth 20000 in
theorem om_teamAt {G : jv_Gr} {I : jv_I} {J : jv_J} {m : Nat} {Y : ot_Y} (hG : ot_MG G m) (hR : ot_MR I m Y) (hW : ot_YW Y) {k p : Nat} (hk : k < Y 10 1) (hp : p < Y 10 0) : jv_C 2 mX5_teamAt [.ref m, .int (nI k), .int (nI p)] G I J (some (.int (nI (ot_side Y k p)))) G I J := by
  refine jv_enter okX5_teamAt (L := [.ref m, .int (nI k), .int (nI p), .null]) rfl (Nat.le_of_ble_eq_true rfl) ?_
  have bn := yw_n hW
  have bc := yw_c hW
  have bw := yw_w hW
  have hq := yw_count hW hk
  have hsl := ot_slipped_le Y k p
  rcases (show Y 3 k = 0 ∨ Y 3 k = 1 ∨ Y 3 k = 2 ∨ Y 3 k = 3 ∨ Y 3 k = 4 ∨ Y 3 k = 5 by omega) with e3 | e3 | e3 | e3 | e3 | e3
  · refine jv_aload0 dX5_teamAt_0 ?_
    refine jv_getR dX5_teamAt_1 flX5_49 rfl (mk hG) (mr_by hG) ?_
    refine jv_iload1 dX5_teamAt_4 ?_
    refine jv_ialdN dX5_teamAt_5 (mk_by hG) (by omega) (by decide) (me_by hR (by omega)) ?_
    refine jv_istore3 dX5_teamAt_6 rfl ?_
    refine jv_aload0 dX5_teamAt_7 ?_
    refine jv_getR dX5_teamAt_8 flX5_46 rfl (mk hG) (mr_kind hG) ?_
    refine jv_iload1 dX5_teamAt_11 ?_
    refine jv_ialdN dX5_teamAt_12 (mk_kind hG) (by omega) (by decide) (me_kind hR (by omega)) ?_
    refine jv_tableOut dX5_teamAt_13 (tgt := 121) (by rw [nI_toInt (by omega)]; omega) (by decide) ?_
    refine jv_iload2 dX5_teamAt_121 ?_
    refine jv_iload3 dX5_teamAt_122 ?_
    refine jv_iremN dX5_teamAt_123 (by omega) (by omega) (by omega) ?_
    exact jv_iret dX5_teamAt_124 rfl rfl (by unfold ot_side; simp [e3]) rfl rfl
  · refine jv_aload0 dX5_teamAt_0 ?_
    refine jv_getR dX5_teamAt_1 flX5_49 rfl (mk hG) (mr_by hG) ?_
    refine jv_iload1 dX5_teamAt_4 ?_
    refine jv_ialdN dX5_teamAt_5 (mk_by hG) (by omega) (by decide) (me_by hR (by omega)) ?_
    refine jv_istore3 dX5_teamAt_6 rfl ?_
    refine jv_aload0 dX5_teamAt_7 ?_
    refine jv_getR dX5_teamAt_8 flX5_46 rfl (mk hG) (mr_kind hG) ?_
    refine jv_iload1 dX5_teamAt_11 ?_
    refine jv_ialdN dX5_teamAt_12 (mk_kind hG) (by omega) (by decide) (me_kind hR (by omega)) ?_
    refine jv_tableIn dX5_teamAt_13 (tgt := 48) (by rw [nI_toInt (by omega)]; omega) (by rw [nI_toInt (by omega)]; omega) (by rw [nI_toInt (by omega), e3]; rfl) (by decide) ?_
    refine jv_aload0 dX5_teamAt_48 ?_
    refine jv_getI dX5_teamAt_49 flX5_80 rfl (mk hG) (mi_children hR) ?_
    refine jv_iconst dX5_teamAt_52 jv_c_iconst_1 ?_
    refine jv_isubN dX5_teamAt_53 (by omega) ?_
    refine jv_iload2 dX5_teamAt_54 ?_
    refine jv_isubN dX5_teamAt_55 (by omega) ?_
    refine jv_iload3 dX5_teamAt_56 ?_
    refine jv_iremN dX5_teamAt_57 (by omega) (by omega) (by omega) ?_
    exact jv_iret dX5_teamAt_58 rfl rfl (by unfold ot_side; simp [e3]) rfl rfl
  · refine jv_aload0 dX5_teamAt_0 ?_
    refine jv_getR dX5_teamAt_1 flX5_49 rfl (mk hG) (mr_by hG) ?_
    refine jv_iload1 dX5_teamAt_4 ?_
    refine jv_ialdN dX5_teamAt_5 (mk_by hG) (by omega) (by decide) (me_by hR (by omega)) ?_
    refine jv_istore3 dX5_teamAt_6 rfl ?_
    refine jv_aload0 dX5_teamAt_7 ?_
    refine jv_getR dX5_teamAt_8 flX5_46 rfl (mk hG) (mr_kind hG) ?_
    refine jv_iload1 dX5_teamAt_11 ?_
    refine jv_ialdN dX5_teamAt_12 (mk_kind hG) (by omega) (by decide) (me_kind hR (by omega)) ?_
    refine jv_tableIn dX5_teamAt_13 (tgt := 59) (by rw [nI_toInt (by omega)]; omega) (by rw [nI_toInt (by omega)]; omega) (by rw [nI_toInt (by omega), e3]; rfl) (by decide) ?_
    refine jv_iload2 dX5_teamAt_59 ?_
    refine jv_iconst dX5_teamAt_60 jv_c_iconst_2 ?_
    refine jv_iremN dX5_teamAt_61 (by omega) (by omega) (by omega) ?_
    refine jv_if_neN dX5_teamAt_62 (tgt := 71) (by decide) (by omega) (fun h62 => ?_) (fun h62 => ?_)
    · refine jv_aload0 dX5_teamAt_71 ?_
      refine jv_getI dX5_teamAt_72 flX5_80 rfl (mk hG) (mi_children hR) ?_
      refine jv_iconst dX5_teamAt_75 jv_c_iconst_1 ?_
      refine jv_iaddN dX5_teamAt_76 ?_
      refine jv_iconst dX5_teamAt_77 jv_c_iconst_2 ?_
      refine jv_idivN dX5_teamAt_78 (by omega) (by omega) (by omega) ?_
      refine jv_iload2 dX5_teamAt_79 ?_
      refine jv_iconst dX5_teamAt_80 jv_c_iconst_2 ?_
      refine jv_idivN dX5_teamAt_81 (by omega) (by omega) (by omega) ?_
      refine jv_iaddN dX5_teamAt_82 ?_
      refine jv_iload3 dX5_teamAt_83 ?_
      refine jv_iremN dX5_teamAt_84 (by omega) (by omega) (by omega) ?_
      exact jv_iret dX5_teamAt_85 rfl rfl (by unfold ot_side; simp [e3, h62]) rfl rfl
    · refine jv_iload2 dX5_teamAt_65 ?_
      refine jv_iconst dX5_teamAt_66 jv_c_iconst_2 ?_
      refine jv_idivN dX5_teamAt_67 (by omega) (by omega) (by omega) ?_
      refine jv_goto dX5_teamAt_68 (tgt := 83) (by decide) ?_
      refine jv_iload3 dX5_teamAt_83 ?_
      refine jv_iremN dX5_teamAt_84 (by omega) (by omega) (by omega) ?_
      exact jv_iret dX5_teamAt_85 rfl rfl (by unfold ot_side; simp [e3, h62]) rfl rfl
  · refine jv_aload0 dX5_teamAt_0 ?_
    refine jv_getR dX5_teamAt_1 flX5_49 rfl (mk hG) (mr_by hG) ?_
    refine jv_iload1 dX5_teamAt_4 ?_
    refine jv_ialdN dX5_teamAt_5 (mk_by hG) (by omega) (by decide) (me_by hR (by omega)) ?_
    refine jv_istore3 dX5_teamAt_6 rfl ?_
    refine jv_aload0 dX5_teamAt_7 ?_
    refine jv_getR dX5_teamAt_8 flX5_46 rfl (mk hG) (mr_kind hG) ?_
    refine jv_iload1 dX5_teamAt_11 ?_
    refine jv_ialdN dX5_teamAt_12 (mk_kind hG) (by omega) (by decide) (me_kind hR (by omega)) ?_
    refine jv_tableIn dX5_teamAt_13 (tgt := 86) (by rw [nI_toInt (by omega)]; omega) (by rw [nI_toInt (by omega)]; omega) (by rw [nI_toInt (by omega), e3]; rfl) (by decide) ?_
    refine jv_aload0 dX5_teamAt_86 ?_
    refine jv_iload1 dX5_teamAt_87 ?_
    refine jv_iload2 dX5_teamAt_88 ?_
    refine jv_v21 dX5_teamAt_89 okX5_slipped inX5_slipped seX5_slipped mlX5_257 (ci := 5) (T := TX5) (N := 35) rfl (mk hG) (om_slipped hG hR hW hk (by omega)) (by decide) (Nat.le_of_ble_eq_true rfl) ?_
    refine jv_iload3 dX5_teamAt_92 ?_
    refine jv_iremN dX5_teamAt_93 (by omega) (by omega) (by omega) ?_
    exact jv_iret dX5_teamAt_94 rfl rfl (by unfold ot_side; simp [e3]) rfl rfl
  · refine jv_aload0 dX5_teamAt_0 ?_
    refine jv_getR dX5_teamAt_1 flX5_49 rfl (mk hG) (mr_by hG) ?_
    refine jv_iload1 dX5_teamAt_4 ?_
    refine jv_ialdN dX5_teamAt_5 (mk_by hG) (by omega) (by decide) (me_by hR (by omega)) ?_
    refine jv_istore3 dX5_teamAt_6 rfl ?_
    refine jv_aload0 dX5_teamAt_7 ?_
    refine jv_getR dX5_teamAt_8 flX5_46 rfl (mk hG) (mr_kind hG) ?_
    refine jv_iload1 dX5_teamAt_11 ?_
    refine jv_ialdN dX5_teamAt_12 (mk_kind hG) (by omega) (by decide) (me_kind hR (by omega)) ?_
    refine jv_tableIn dX5_teamAt_13 (tgt := 95) (by rw [nI_toInt (by omega)]; omega) (by rw [nI_toInt (by omega)]; omega) (by rw [nI_toInt (by omega), e3]; rfl) (by decide) ?_
    refine jv_iload3 dX5_teamAt_95 ?_
    refine jv_iconst dX5_teamAt_96 jv_c_iconst_1 ?_
    refine jv_isubN dX5_teamAt_97 (by omega) ?_
    refine jv_aload0 dX5_teamAt_98 ?_
    refine jv_getI dX5_teamAt_99 flX5_80 rfl (mk hG) (mi_children hR) ?_
    refine jv_iconst dX5_teamAt_102 jv_c_iconst_1 ?_
    refine jv_isubN dX5_teamAt_103 (by omega) ?_
    refine jv_iload2 dX5_teamAt_104 ?_
    refine jv_isubN dX5_teamAt_105 (by omega) ?_
    refine jv_iload3 dX5_teamAt_106 ?_
    refine jv_iremN dX5_teamAt_107 (by omega) (by omega) (by omega) ?_
    refine jv_isubN dX5_teamAt_108 (by have := Nat.mod_lt (Y 10 0 - 1 - p) (show Y 4 k > 0 by omega); omega) ?_
    exact jv_iret dX5_teamAt_109 rfl rfl (by unfold ot_side; simp [e3]) rfl rfl
  · refine jv_aload0 dX5_teamAt_0 ?_
    refine jv_getR dX5_teamAt_1 flX5_49 rfl (mk hG) (mr_by hG) ?_
    refine jv_iload1 dX5_teamAt_4 ?_
    refine jv_ialdN dX5_teamAt_5 (mk_by hG) (by omega) (by decide) (me_by hR (by omega)) ?_
    refine jv_istore3 dX5_teamAt_6 rfl ?_
    refine jv_aload0 dX5_teamAt_7 ?_
    refine jv_getR dX5_teamAt_8 flX5_46 rfl (mk hG) (mr_kind hG) ?_
    refine jv_iload1 dX5_teamAt_11 ?_
    refine jv_ialdN dX5_teamAt_12 (mk_kind hG) (by omega) (by decide) (me_kind hR (by omega)) ?_
    refine jv_tableIn dX5_teamAt_13 (tgt := 110) (by rw [nI_toInt (by omega)]; omega) (by rw [nI_toInt (by omega)]; omega) (by rw [nI_toInt (by omega), e3]; rfl) (by decide) ?_
    refine jv_aload0 dX5_teamAt_110 ?_
    refine jv_iload1 dX5_teamAt_111 ?_
    refine jv_iload2 dX5_teamAt_112 ?_
    refine jv_v21 dX5_teamAt_113 okX5_slipped inX5_slipped seX5_slipped mlX5_257 (ci := 5) (T := TX5) (N := 35) rfl (mk hG) (om_slipped hG hR hW hk (by omega)) (by decide) (Nat.le_of_ble_eq_true rfl) ?_
    refine jv_iconst dX5_teamAt_116 jv_c_iconst_1 ?_
    refine jv_iaddN dX5_teamAt_117 ?_
    refine jv_iload3 dX5_teamAt_118 ?_
    refine jv_iremN dX5_teamAt_119 (by omega) (by omega) (by omega) ?_
    exact jv_iret dX5_teamAt_120 rfl rfl (by unfold ot_side; simp [e3]) rfl rfl
set_option maxRecDepth 20000 in
theorem om_teamOf {G : jv_Gr} {I : jv_I} {J : jv_J} {m : Nat} {Y : ot_Y} (hG : ot_MG G m) (hR : ot_MR I m Y) (hW : ot_YW Y) {k c : Nat} (hk : k < Y 10 1) (hc : c < Y 10 0) : jv_C 3 mX5_teamOf [.ref m, .int (nI k), .int (nI c)] G I J (some (.int (nI (ot_sideOf Y k c)))) G I J := by
  refine jv_enter okX5_teamOf (L := [.ref m, .int (nI k), .int (nI c)]) rfl (Nat.le_of_ble_eq_true rfl) ?_
  have bn := yw_n hW
  have bc := yw_c hW
  have bw := yw_w hW
  refine jv_aload0 dX5_teamOf_0 ?_
  refine jv_iload1 dX5_teamOf_1 ?_
  refine jv_aload0 dX5_teamOf_2 ?_
  refine jv_getR dX5_teamOf_3 flX5_43 rfl (mk hG) (mr_place hG) ?_
  refine jv_iload2 dX5_teamOf_6 ?_
  refine jv_ialdN dX5_teamOf_7 (mk_place hG) (by omega) (by decide) (me_place hR (by omega)) ?_
  refine jv_v21 dX5_teamOf_8 okX5_teamAt inX5_teamAt seX5_teamAt mlX5_121 (ci := 5) (T := TX5) (N := 35) rfl (mk hG) (om_teamAt hG hR hW hk (yw_child hW hc).2.2.2) (by decide) (Nat.le_of_ble_eq_true rfl) ?_
  exact jv_iret dX5_teamOf_11 rfl rfl rfl rfl rfl
set_option maxRecDepth 20000 in
theorem om_areIn {G : jv_Gr} {I : jv_I} {J : jv_J} {m : Nat} {Y : ot_Y} (hG : ot_MG G m) (hR : ot_MR I m Y) (hW : ot_YW Y) {k a b : Nat} (hk : k < Y 10 1) (ha : a < Y 10 0) (hb : b < Y 10 0) : jv_C 4 mX5_areIn [.ref m, .int (nI k), .int (nI a), .int (nI b)] G I J (some (.int (jv_b (ot_sideOf Y k a = ot_sideOf Y k b)))) G I J := by
  refine jv_enter okX5_areIn (L := [.ref m, .int (nI k), .int (nI a), .int (nI b)]) rfl (Nat.le_of_ble_eq_true rfl) ?_
  have bn := yw_n hW
  have bc := yw_c hW
  have bw := yw_w hW
  refine jv_aload0 dX5_areIn_0 ?_
  refine jv_iload1 dX5_areIn_1 ?_
  refine jv_iload2 dX5_areIn_2 ?_
  refine jv_v21 dX5_areIn_3 okX5_teamOf inX5_teamOf seX5_teamOf mlX5_260 (ci := 5) (T := TX5) (N := 35) rfl (mk hG) (om_teamOf hG hR hW hk ha) (by decide) (Nat.le_of_ble_eq_true rfl) ?_
  refine jv_aload0 dX5_areIn_6 ?_
  refine jv_iload1 dX5_areIn_7 ?_
  refine jv_iload3 dX5_areIn_8 ?_
  refine jv_v21 dX5_areIn_9 okX5_teamOf inX5_teamOf seX5_teamOf mlX5_260 (ci := 5) (T := TX5) (N := 35) rfl (mk hG) (om_teamOf hG hR hW hk hb) (by decide) (Nat.le_of_ble_eq_true rfl) ?_
  refine jv_icmp_neN dX5_areIn_12 (tgt := 19) (by decide) (by have := ot_side_5 hW hk (Y 2 a); unfold ot_sideOf; omega) (by have := ot_side_5 hW hk (Y 2 b); unfold ot_sideOf; omega) (fun h12 => ?_) (fun h12 => ?_)
  · refine jv_iconst dX5_areIn_19 jv_c_iconst_0 ?_
    exact jv_iret dX5_areIn_20 rfl (by decide) (ot_b0 h12) rfl rfl
  · refine jv_iconst dX5_areIn_15 jv_c_iconst_1 ?_
    refine jv_goto dX5_areIn_16 (tgt := 20) (by decide) ?_
    exact jv_iret dX5_areIn_20 rfl (by decide) (ot_b1 h12) rfl rfl
set_option maxRecDepth 20000 in
theorem om_isMet {G : jv_Gr} {I : jv_I} {J : jv_J} {m : Nat} {Y : ot_Y} (hG : ot_MG G m) (hR : ot_MR I m Y) (hW : ot_YW Y) {k i : Nat} (hk : k < Y 10 1) (hi : i < Y 10 2) : jv_C 5 mX5_isMet [.ref m, .int (nI k), .int (nI i)] G I J (some (.int (jv_b (ot_met Y k i = true)))) G I J := by
  refine jv_enter okX5_isMet (L := [.ref m, .int (nI k), .int (nI i)]) rfl (Nat.le_of_ble_eq_true rfl) ?_
  have bn := yw_n hW
  have bc := yw_c hW
  have bw := yw_w hW
  have hq := yw_wish hW hi
  refine jv_aload0 dX5_isMet_0 ?_
  refine jv_iload1 dX5_isMet_1 ?_
  refine jv_aload0 dX5_isMet_2 ?_
  refine jv_getR dX5_isMet_3 flX5_55 rfl (mk hG) (mr_one hG) ?_
  refine jv_iload2 dX5_isMet_6 ?_
  refine jv_ialdN dX5_isMet_7 (mk_one hG) (by omega) (by decide) (me_one hR (by omega)) ?_
  refine jv_aload0 dX5_isMet_8 ?_
  refine jv_getR dX5_isMet_9 flX5_58 rfl (mk hG) (mr_other hG) ?_
  refine jv_iload2 dX5_isMet_12 ?_
  refine jv_ialdN dX5_isMet_13 (mk_other hG) (by omega) (by decide) (me_other hR (by omega)) ?_
  refine jv_v31 dX5_isMet_14 okX5_areIn inX5_areIn seX5_areIn mlX5_263 (ci := 5) (T := TX5) (N := 35) rfl (mk hG) (om_areIn hG hR hW hk hq.1 hq.2.1) (by decide) (Nat.le_of_ble_eq_true rfl) ?_
  refine jv_aload0 dX5_isMet_17 ?_
  refine jv_getR dX5_isMet_18 flX5_61 rfl (mk hG) (mr_together hG) ?_
  refine jv_iload2 dX5_isMet_21 ?_
  refine jv_ialdN dX5_isMet_22 (mk_together hG) (by omega) (by decide) (me_together hR (by omega)) ?_
  refine jv_iconst dX5_isMet_23 jv_c_iconst_1 ?_
  refine jv_icmp_neN dX5_isMet_24 (tgt := 31) (by decide) (by omega) (by omega) (fun h24 => ?_) (fun h24 => ?_)
  · refine jv_iconst dX5_isMet_31 jv_c_iconst_0 ?_
    refine jv_icmp_ne dX5_isMet_32 (tgt := 39) (by decide) (fun h32 => ?_) (fun h32 => ?_)
    · rw [ot_beq0] at h32
      refine jv_iconst dX5_isMet_39 jv_c_iconst_0 ?_
      exact jv_iret dX5_isMet_40 rfl (by decide) (ot_b0 (by unfold ot_met; simp_all)) rfl rfl
    · rw [ot_beq0] at h32
      refine jv_iconst dX5_isMet_35 jv_c_iconst_1 ?_
      refine jv_goto dX5_isMet_36 (tgt := 40) (by decide) ?_
      exact jv_iret dX5_isMet_40 rfl (by decide) (ot_b1 (by unfold ot_met; simp_all)) rfl rfl
  · refine jv_iconst dX5_isMet_27 jv_c_iconst_1 ?_
    refine jv_goto dX5_isMet_28 (tgt := 32) (by decide) ?_
    refine jv_icmp_ne dX5_isMet_32 (tgt := 39) (by decide) (fun h32 => ?_) (fun h32 => ?_)
    · rw [ot_beq1] at h32
      refine jv_iconst dX5_isMet_39 jv_c_iconst_0 ?_
      exact jv_iret dX5_isMet_40 rfl (by decide) (ot_b0 (by unfold ot_met; simp_all)) rfl rfl
    · rw [ot_beq1] at h32
      refine jv_iconst dX5_isMet_35 jv_c_iconst_1 ?_
      refine jv_goto dX5_isMet_36 (tgt := 40) (by decide) ?_
      exact jv_iret dX5_isMet_40 rfl (by decide) (ot_b1 (by unfold ot_met; simp_all)) rfl rfl
set_option maxRecDepth 20000 in
theorem om_valueOf {G : jv_Gr} {I : jv_I} {J : jv_J} {m : Nat} {Y : ot_Y} (hG : ot_MG G m) (hR : ot_MR I m Y) (hW : ot_YW Y) {k : Nat} (hk : k < Y 10 1) : jv_C 6 mX5_valueOf [.ref m, .int (nI k)] G I J (some (.int (nI (ot_value Y k)))) G I J := by
  refine jv_enter okX5_valueOf (L := [.ref m, .int (nI k), .null, .null]) rfl (Nat.le_of_ble_eq_true rfl) ?_
  have bn := yw_n hW
  have bc := yw_c hW
  have bw := yw_w hW
  have loop : ∀ (n i : Nat) (acc : Nat), Y 10 2 + 1 ≤ i + n → i ≤ Y 10 2 → acc = ot_sum (fun i => if ot_met Y k i = true then Y 9 i else 0) i → jv_V 6 mX5_valueOf 4 [.ref m, .int (nI k), .int (nI acc), .int (nI i)] [] G I J (some (.int (nI (ot_value Y k)))) G I J := by
    intro n
    induction n with
    | zero => intro i acc h1 h2; omega
    | succ n ih =>
      intro i acc h1 h2 ea
      refine jv_iload3 dX5_valueOf_4 ?_
      refine jv_aload0 dX5_valueOf_5 ?_
      refine jv_getI dX5_valueOf_6 flX5_141 rfl (mk hG) (mi_wishes hR) ?_
      refine jv_icmp_geN dX5_valueOf_9 (tgt := 40) (by decide) (by omega) (by omega) (fun hc9 => ?_) (fun hc9 => ?_)
      · refine jv_iload2 dX5_valueOf_40 ?_
        exact jv_iret dX5_valueOf_41 rfl rfl (by rw [ea, show i = Y 10 2 by omega]; rfl) rfl rfl
      · refine jv_iload2 dX5_valueOf_12 ?_
        refine jv_aload0 dX5_valueOf_13 ?_
        refine jv_iload1 dX5_valueOf_14 ?_
        refine jv_iload3 dX5_valueOf_15 ?_
        refine jv_v21 dX5_valueOf_16 okX5_isMet inX5_isMet seX5_isMet mlX5_266 (ci := 5) (T := TX5) (N := 35) rfl (mk hG) (om_isMet hG hR hW hk (by omega)) (by decide) (Nat.le_of_ble_eq_true rfl) ?_
        refine jv_if_eqB dX5_valueOf_19 (tgt := 31) (by decide) (fun h19 => ?_) (fun h19 => ?_)
        · refine jv_iconst dX5_valueOf_31 jv_c_iconst_0 ?_
          refine jv_iaddN dX5_valueOf_32 ?_
          refine jv_istore2 dX5_valueOf_33 rfl ?_
          refine jv_iinc3N dX5_valueOf_34 rfl ?_
          refine jv_goto dX5_valueOf_37 (tgt := 4) (by decide) ?_
          exact ih (i + 1) _ (by omega) (by omega) (by rw [ot_sum, if_neg h19, ea])
        · refine jv_aload0 dX5_valueOf_22 ?_
          refine jv_getR dX5_valueOf_23 flX5_64 rfl (mk hG) (mr_worth hG) ?_
          refine jv_iload3 dX5_valueOf_26 ?_
          refine jv_ialdN dX5_valueOf_27 (mk_worth hG) (by omega) (by decide) (me_worth hR (by omega)) ?_
          refine jv_goto dX5_valueOf_28 (tgt := 32) (by decide) ?_
          refine jv_iaddN dX5_valueOf_32 ?_
          refine jv_istore2 dX5_valueOf_33 rfl ?_
          refine jv_iinc3N dX5_valueOf_34 rfl ?_
          refine jv_goto dX5_valueOf_37 (tgt := 4) (by decide) ?_
          exact ih (i + 1) _ (by omega) (by omega) (by rw [ot_sum, if_pos h19, ea])
  refine jv_iconst dX5_valueOf_0 jv_c_iconst_0 ?_
  refine jv_istore2 dX5_valueOf_1 rfl ?_
  refine jv_iconst dX5_valueOf_2 jv_c_iconst_0 ?_
  refine jv_istore3 dX5_valueOf_3 rfl ?_
  exact loop (Y 10 2 + 1) 0 0 (by omega) (by omega) rfl
set_option maxRecDepth 20000 in
theorem om_strengthOf {G : jv_Gr} {I : jv_I} {J : jv_J} {m : Nat} {Y : ot_Y} (hG : ot_MG G m) (hR : ot_MR I m Y) (hW : ot_YW Y) {k t : Nat} (hk : k < Y 10 1) (ht : t < 5) : jv_C 4 mX5_strengthOf [.ref m, .int (nI k), .int (nI t)] G I J (some (.int (nI (ot_strongOf Y k t)))) G I J := by
  refine jv_enter okX5_strengthOf (L := [.ref m, .int (nI k), .int (nI t), .null, .null]) rfl (Nat.le_of_ble_eq_true rfl) ?_
  have bn := yw_n hW
  have bc := yw_c hW
  have bw := yw_w hW
  have loop : ∀ (n i : Nat) (acc : Nat), Y 10 0 + 1 ≤ i + n → i ≤ Y 10 0 → acc = ot_sum (fun c => if ot_sideOf Y k c = t then Y 0 c else 0) i → jv_V 4 mX5_strengthOf 5 [.ref m, .int (nI k), .int (nI t), .int (nI acc), .int (nI i)] [] G I J (some (.int (nI (ot_strongOf Y k t)))) G I J := by
    intro n
    induction n with
    | zero => intro i acc h1 h2; omega
    | succ n ih =>
      intro i acc h1 h2 ea
      refine jv_iload4 dX5_strengthOf_5 ?_
      refine jv_aload0 dX5_strengthOf_7 ?_
      refine jv_getI dX5_strengthOf_8 flX5_80 rfl (mk hG) (mi_children hR) ?_
      refine jv_icmp_geN dX5_strengthOf_11 (tgt := 45) (by decide) (by omega) (by omega) (fun hc11 => ?_) (fun hc11 => ?_)
      · refine jv_iload3 dX5_strengthOf_45 ?_
        exact jv_iret dX5_strengthOf_46 rfl rfl (by rw [ea, show i = Y 10 0 by omega]; rfl) rfl rfl
      · refine jv_iload3 dX5_strengthOf_14 ?_
        refine jv_aload0 dX5_strengthOf_15 ?_
        refine jv_iload1 dX5_strengthOf_16 ?_
        refine jv_iload4 dX5_strengthOf_17 ?_
        refine jv_v21 dX5_strengthOf_19 okX5_teamOf inX5_teamOf seX5_teamOf mlX5_260 (ci := 5) (T := TX5) (N := 35) rfl (mk hG) (om_teamOf hG hR hW hk (by omega)) (by decide) (Nat.le_of_ble_eq_true rfl) ?_
        refine jv_iload2 dX5_strengthOf_22 ?_
        refine jv_icmp_neN dX5_strengthOf_23 (tgt := 36) (by decide) (by have := ot_side_5 hW hk (Y 2 i); unfold ot_sideOf; omega) (by omega) (fun h23 => ?_) (fun h23 => ?_)
        · refine jv_iconst dX5_strengthOf_36 jv_c_iconst_0 ?_
          refine jv_iaddN dX5_strengthOf_37 ?_
          refine jv_istore3 dX5_strengthOf_38 rfl ?_
          refine jv_iinc4N dX5_strengthOf_39 rfl ?_
          refine jv_goto dX5_strengthOf_42 (tgt := 5) (by decide) ?_
          exact ih (i + 1) _ (by omega) (by omega) (by rw [ot_sum, if_neg h23, ea])
        · refine jv_aload0 dX5_strengthOf_26 ?_
          refine jv_getR dX5_strengthOf_27 flX5_37 rfl (mk hG) (mr_strong hG) ?_
          refine jv_iload4 dX5_strengthOf_30 ?_
          refine jv_ialdN dX5_strengthOf_32 (mk_strong hG) (by omega) (by decide) (me_strong hR (by omega)) ?_
          refine jv_goto dX5_strengthOf_33 (tgt := 37) (by decide) ?_
          refine jv_iaddN dX5_strengthOf_37 ?_
          refine jv_istore3 dX5_strengthOf_38 rfl ?_
          refine jv_iinc4N dX5_strengthOf_39 rfl ?_
          refine jv_goto dX5_strengthOf_42 (tgt := 5) (by decide) ?_
          exact ih (i + 1) _ (by omega) (by omega) (by rw [ot_sum, if_pos h23, ea])
  refine jv_iconst dX5_strengthOf_0 jv_c_iconst_0 ?_
  refine jv_istore3 dX5_strengthOf_1 rfl ?_
  refine jv_iconst dX5_strengthOf_2 jv_c_iconst_0 ?_
  refine jv_istore4 dX5_strengthOf_3 rfl ?_
  exact loop (Y 10 0 + 1) 0 0 (by omega) (by omega) rfl
set_option maxRecDepth 20000 in
theorem om_oftenOf {G : jv_Gr} {I : jv_I} {J : jv_J} {m : Nat} {Y : ot_Y} (hG : ot_MG G m) (hR : ot_MR I m Y) (hW : ot_YW Y) {a b : Nat} (ha : a < Y 10 0) (hb : b < Y 10 0) : jv_C 5 mX5_oftenOf [.ref m, .int (nI a), .int (nI b)] G I J (some (.int (nI (ot_times Y a b)))) G I J := by
  refine jv_enter okX5_oftenOf (L := [.ref m, .int (nI a), .int (nI b), .null, .null]) rfl (Nat.le_of_ble_eq_true rfl) ?_
  have bn := yw_n hW
  have bc := yw_c hW
  have bw := yw_w hW
  have loop : ∀ (n i : Nat) (acc : Nat), Y 10 1 + 1 ≤ i + n → i ≤ Y 10 1 → acc = ot_sum (fun k => if ot_sideOf Y k a = ot_sideOf Y k b then 1 else 0) i → jv_V 5 mX5_oftenOf 5 [.ref m, .int (nI a), .int (nI b), .int (nI acc), .int (nI i)] [] G I J (some (.int (nI (ot_times Y a b)))) G I J := by
    intro n
    induction n with
    | zero => intro i acc h1 h2; omega
    | succ n ih =>
      intro i acc h1 h2 ea
      refine jv_iload4 dX5_oftenOf_5 ?_
      refine jv_aload0 dX5_oftenOf_7 ?_
      refine jv_getI dX5_oftenOf_8 flX5_91 rfl (mk hG) (mi_counts hR) ?_
      refine jv_icmp_geN dX5_oftenOf_11 (tgt := 39) (by decide) (by omega) (by omega) (fun hc11 => ?_) (fun hc11 => ?_)
      · refine jv_iload3 dX5_oftenOf_39 ?_
        exact jv_iret dX5_oftenOf_40 rfl rfl (by rw [ea, show i = Y 10 1 by omega]; rfl) rfl rfl
      · refine jv_iload3 dX5_oftenOf_14 ?_
        refine jv_aload0 dX5_oftenOf_15 ?_
        refine jv_iload4 dX5_oftenOf_16 ?_
        refine jv_iload1 dX5_oftenOf_18 ?_
        refine jv_iload2 dX5_oftenOf_19 ?_
        refine jv_v31 dX5_oftenOf_20 okX5_areIn inX5_areIn seX5_areIn mlX5_263 (ci := 5) (T := TX5) (N := 35) rfl (mk hG) (om_areIn hG hR hW (by omega) ha hb) (by decide) (Nat.le_of_ble_eq_true rfl) ?_
        refine jv_if_eqB dX5_oftenOf_23 (tgt := 30) (by decide) (fun h23 => ?_) (fun h23 => ?_)
        · refine jv_iconst dX5_oftenOf_30 jv_c_iconst_0 ?_
          refine jv_iaddN dX5_oftenOf_31 ?_
          refine jv_istore3 dX5_oftenOf_32 rfl ?_
          refine jv_iinc4N dX5_oftenOf_33 rfl ?_
          refine jv_goto dX5_oftenOf_36 (tgt := 5) (by decide) ?_
          exact ih (i + 1) _ (by omega) (by omega) (by rw [ot_sum, if_neg h23, ea])
        · refine jv_iconst dX5_oftenOf_26 jv_c_iconst_1 ?_
          refine jv_goto dX5_oftenOf_27 (tgt := 31) (by decide) ?_
          refine jv_iaddN dX5_oftenOf_31 ?_
          refine jv_istore3 dX5_oftenOf_32 rfl ?_
          refine jv_iinc4N dX5_oftenOf_33 rfl ?_
          refine jv_goto dX5_oftenOf_36 (tgt := 5) (by decide) ?_
          exact ih (i + 1) _ (by omega) (by omega) (by rw [ot_sum, if_pos h23, ea])
  refine jv_iconst dX5_oftenOf_0 jv_c_iconst_0 ?_
  refine jv_istore3 dX5_oftenOf_1 rfl ?_
  refine jv_iconst dX5_oftenOf_2 jv_c_iconst_0 ?_
  refine jv_istore4 dX5_oftenOf_3 rfl ?_
  exact loop (Y 10 1 + 1) 0 0 (by omega) (by omega) rfl
set_option maxRecDepth 20000 in
theorem om_wrongTeams {G : jv_Gr} {I : jv_I} {J : jv_J} {m : Nat} {Y : ot_Y} (hG : ot_MG G m) (hR : ot_MR I m Y) (hW : ot_YW Y) {k q nq : Nat} (hk : k < Y 10 1) (hq : jv_k G q = (1, nq)) (hnq : Y 10 0 ≤ nq) (hb : nq < 100) : jv_C 4 mX5_wrongTeams [.ref m, .int (nI k), .ref q] G I J (some (.int (nI (ot_wrong Y k (J q))))) G I J := by
  refine jv_enter okX5_wrongTeams (L := [.ref m, .int (nI k), .ref q, .null, .null]) rfl (Nat.le_of_ble_eq_true rfl) ?_
  have bn := yw_n hW
  have bc := yw_c hW
  have bw := yw_w hW
  have loop : ∀ (n i : Nat) (acc : Nat), Y 10 0 + 1 ≤ i + n → i ≤ Y 10 0 → acc = ot_sum (fun c => if J q c = lN (ot_sideOf Y k c) then 0 else 1) i → jv_V 4 mX5_wrongTeams 5 [.ref m, .int (nI k), .ref q, .int (nI acc), .int (nI i)] [] G I J (some (.int (nI (ot_wrong Y k (J q))))) G I J := by
    intro n
    induction n with
    | zero => intro i acc h1 h2; omega
    | succ n ih =>
      intro i acc h1 h2 ea
      refine jv_iload4 dX5_wrongTeams_5 ?_
      refine jv_aload0 dX5_wrongTeams_7 ?_
      refine jv_getI dX5_wrongTeams_8 flX5_80 rfl (mk hG) (mi_children hR) ?_
      refine jv_icmp_geN dX5_wrongTeams_11 (tgt := 44) (by decide) (by omega) (by omega) (fun hc11 => ?_) (fun hc11 => ?_)
      · refine jv_iload3 dX5_wrongTeams_44 ?_
        exact jv_iret dX5_wrongTeams_45 rfl rfl (by rw [ea, show i = Y 10 0 by omega]; rfl) rfl rfl
      · refine jv_iload3 dX5_wrongTeams_14 ?_
        refine jv_aload2 dX5_wrongTeams_15 ?_
        refine jv_iload4 dX5_wrongTeams_16 ?_
        refine jv_laldN dX5_wrongTeams_18 hq (by omega) (by omega) rfl ?_
        refine jv_aload0 dX5_wrongTeams_19 ?_
        refine jv_iload1 dX5_wrongTeams_20 ?_
        refine jv_iload4 dX5_wrongTeams_21 ?_
        refine jv_v21 dX5_wrongTeams_23 okX5_teamOf inX5_teamOf seX5_teamOf mlX5_260 (ci := 5) (T := TX5) (N := 35) rfl (mk hG) (om_teamOf hG hR hW hk (by omega)) (by decide) (Nat.le_of_ble_eq_true rfl) ?_
        refine jv_i2lN dX5_wrongTeams_26 (by have := ot_side_5 hW hk (Y 2 i); unfold ot_sideOf; omega) ?_
        refine jv_lcmp dX5_wrongTeams_27 ?_
        refine jv_if_eq dX5_wrongTeams_28 (tgt := 35) (by decide) (fun h28 => ?_) (fun h28 => ?_)
        · refine jv_iconst dX5_wrongTeams_35 jv_c_iconst_0 ?_
          refine jv_iaddN dX5_wrongTeams_36 ?_
          refine jv_istore3 dX5_wrongTeams_37 rfl ?_
          refine jv_iinc4N dX5_wrongTeams_38 rfl ?_
          refine jv_goto dX5_wrongTeams_41 (tgt := 5) (by decide) ?_
          exact ih (i + 1) _ (by omega) (by omega) (by rw [ot_sum, if_pos ((lg_cmp_eq _ _).mp h28), ea])
        · refine jv_iconst dX5_wrongTeams_31 jv_c_iconst_1 ?_
          refine jv_goto dX5_wrongTeams_32 (tgt := 36) (by decide) ?_
          refine jv_iaddN dX5_wrongTeams_36 ?_
          refine jv_istore3 dX5_wrongTeams_37 rfl ?_
          refine jv_iinc4N dX5_wrongTeams_38 rfl ?_
          refine jv_goto dX5_wrongTeams_41 (tgt := 5) (by decide) ?_
          exact ih (i + 1) _ (by omega) (by omega) (by rw [ot_sum, if_neg (fun z => h28 ((lg_cmp_eq _ _).mpr z)), ea])
  refine jv_iconst dX5_wrongTeams_0 jv_c_iconst_0 ?_
  refine jv_istore3 dX5_wrongTeams_1 rfl ?_
  refine jv_iconst dX5_wrongTeams_2 jv_c_iconst_0 ?_
  refine jv_istore4 dX5_wrongTeams_3 rfl ?_
  exact loop (Y 10 0 + 1) 0 0 (by omega) (by omega) rfl
