/-! ===== the face: group 6 (leaves, the tape, status) ===== -/
set_option maxRecDepth 20000 in
theorem om_leavesC {G : jv_Gr} {I : jv_I} {J : jv_J} {Y Z : ot_Y} {E : ot_E} {K : Option ot_Y} (h : ot_M G I J Y Z E K) (h0 : 0 < Y 10 0) : ∃ I2, jv_C 3 mX5_leaves [.ref 64] G I J (some (.int (nI (Y 10 0 - 1)))) G I2 J ∧ ot_MR I2 64 (ot_leave Y) ∧ ot_mf I I2 64 := by
  have bn := yw_n h.w
  have bc := yw_c h.w
  have bw := yw_w h.w
  obtain ⟨Is, hCs, hRs, hFs⟩ := om_moves (J := J) h.g h.r h.w (c := Y 10 0 - 1) (p := Y 10 0 - 1) (by omega) (by omega)
  have loop : ∀ (n i : Nat) (A : jv_I), Y 10 2 + 1 ≤ i + n → i ≤ Y 10 2 → A 64 17 = nI (Y 10 2) → A 64 9 = nI (Y 10 0 - 1) → (∀ j, j < Y 10 2 → A (64 + 23) j = nI (ot_ff (ot_stay Y (Y 10 0 - 1)) (Y 6) i j) ∧ A (64 + 24) j = nI (ot_ff (ot_stay Y (Y 10 0 - 1)) (Y 7) i j) ∧ A (64 + 25) j = nI (ot_ff (ot_stay Y (Y 10 0 - 1)) (Y 8) i j) ∧ A (64 + 26) j = nI (ot_ff (ot_stay Y (Y 10 0 - 1)) (Y 9) i j)) → (∀ q, q ≠ 64 + 23 → q ≠ 64 + 24 → q ≠ 64 + 25 → q ≠ 64 + 26 → A q = jv_up Is 64 9 (nI (Y 10 0 - 1)) q) → ∃ I2, jv_V 3 mX5_leaves 44 [.ref 64, .int (nI (ot_fc (ot_stay Y (Y 10 0 - 1)) i)), .int (nI i)] [] G A J (some (.int (nI (Y 10 0 - 1)))) G I2 J ∧ ot_MR I2 64 (ot_leave Y) ∧ ot_mf I I2 64 := by
    intro n
    induction n with
    | zero => intro i A b1 b2; omega
    | succ n ih =>
      intro i A b1 b2 hw hc0 hv hF
      have fl := ot_fc_le (ot_stay Y (Y 10 0 - 1)) i
      by_cases hi : i < Y 10 2
      · by_cases hp : ¬ Y 6 i = Y 10 0 - 1 ∧ ¬ Y 7 i = Y 10 0 - 1
        · have hp2 : (ot_stay Y (Y 10 0 - 1)) i = true := by simpa [ot_stay] using hp
          have qi := yw_wish h.w hi
          obtain ⟨I2, hV, hR2, hF2⟩ := ih (i + 1) (jv_up (jv_up (jv_up (jv_up A (64 + 23) (ot_fc (ot_stay Y (Y 10 0 - 1)) i) (nI (Y 6 i))) (64 + 24) (ot_fc (ot_stay Y (Y 10 0 - 1)) i) (nI (Y 7 i))) (64 + 25) (ot_fc (ot_stay Y (Y 10 0 - 1)) i) (nI (Y 8 i))) (64 + 26) (ot_fc (ot_stay Y (Y 10 0 - 1)) i) (nI (Y 9 i))) (by omega) (by omega) (by rw [jv_up_ne _ _ _ (by omega), jv_up_ne _ _ _ (by omega), jv_up_ne _ _ _ (by omega), jv_up_ne _ _ _ (by omega)]; exact hw) (by rw [jv_up_ne _ _ _ (by omega), jv_up_ne _ _ _ (by omega), jv_up_ne _ _ _ (by omega), jv_up_ne _ _ _ (by omega)]; exact hc0) (fun j hj => by
            have := hv j hj
            rw [ot_ff, if_pos hp2, ot_ff, if_pos hp2, ot_ff, if_pos hp2, ot_ff, if_pos hp2]
            unfold ot_set
            by_cases hjf : j = ot_fc (ot_stay Y (Y 10 0 - 1)) i
            · simp [jv_up, hjf]
            · simpa [jv_up, hjf] using this) (fun q q1 q2 q3 q4 => by rw [jv_up_ne _ _ _ q4, jv_up_ne _ _ _ q3, jv_up_ne _ _ _ q2, jv_up_ne _ _ _ q1]; exact hF q q1 q2 q3 q4)
          refine ⟨I2, ?_, hR2, hF2⟩
          refine jv_iload2 dX5_leaves_44 ?_
          refine jv_aload0 dX5_leaves_45 ?_
          refine jv_getI dX5_leaves_46 flX5_141 rfl (mk h.g) hw ?_
          refine jv_icmp_geN dX5_leaves_49 (tgt := 135) (by decide) (by omega) (by omega) (fun h27 => by omega) (fun h27 => ?_)
          refine jv_aload0 dX5_leaves_52 ?_
          refine jv_getR dX5_leaves_53 flX5_55 rfl (mk h.g) (mr_one h.g) ?_
          refine jv_iload2 dX5_leaves_56 ?_
          refine jv_ialdN dX5_leaves_57 (mk_one h.g) (by omega) (by decide) (hv i (by omega)).1 ?_
          rw [ot_ff_ge _ _ _ _ fl]
          refine jv_aload0 dX5_leaves_58 ?_
          refine jv_getI dX5_leaves_59 flX5_80 rfl (mk h.g) hc0 ?_
          refine jv_icmp_eqN dX5_leaves_62 (tgt := 129) (by decide) (by omega) (by omega) (fun h37 => absurd h37 hp.1) (fun h37 => ?_)
          refine jv_aload0 dX5_leaves_65 ?_
          refine jv_getR dX5_leaves_66 flX5_58 rfl (mk h.g) (mr_other h.g) ?_
          refine jv_iload2 dX5_leaves_69 ?_
          refine jv_ialdN dX5_leaves_70 (mk_other h.g) (by omega) (by decide) (hv i (by omega)).2.1 ?_
          rw [ot_ff_ge _ _ _ _ fl]
          refine jv_aload0 dX5_leaves_71 ?_
          refine jv_getI dX5_leaves_72 flX5_80 rfl (mk h.g) hc0 ?_
          refine jv_icmp_eqN dX5_leaves_75 (tgt := 129) (by decide) (by omega) (by omega) (fun h47 => absurd h47 hp.2) (fun h47 => ?_)
          refine jv_aload0 dX5_leaves_78 ?_
          refine jv_getR dX5_leaves_79 flX5_55 rfl (mk h.g) (mr_one h.g) ?_
          refine jv_iload1 dX5_leaves_82 ?_
          refine jv_aload0 dX5_leaves_83 ?_
          refine jv_getR dX5_leaves_84 flX5_55 rfl (mk h.g) (mr_one h.g) ?_
          refine jv_iload2 dX5_leaves_87 ?_
          refine jv_ialdN dX5_leaves_88 (mk_one h.g) (by omega) (by decide) (hv i (by omega)).1 ?_
          rw [ot_ff_ge _ _ _ _ fl]
          refine jv_iastN dX5_leaves_89 (mk_one h.g) (by omega) (by decide) ?_
          refine jv_aload0 dX5_leaves_90 ?_
          refine jv_getR dX5_leaves_91 flX5_58 rfl (mk h.g) (mr_other h.g) ?_
          refine jv_iload1 dX5_leaves_94 ?_
          refine jv_aload0 dX5_leaves_95 ?_
          refine jv_getR dX5_leaves_96 flX5_58 rfl (mk h.g) (mr_other h.g) ?_
          refine jv_iload2 dX5_leaves_99 ?_
          refine jv_ialdN dX5_leaves_100 (mk_other h.g) (by omega) (by decide) ((congrFun (jv_up_ne _ _ _ (by omega)) i).trans (hv i (by omega)).2.1) ?_
          rw [ot_ff_ge _ _ _ _ fl]
          refine jv_iastN dX5_leaves_101 (mk_other h.g) (by omega) (by decide) ?_
          refine jv_aload0 dX5_leaves_102 ?_
          refine jv_getR dX5_leaves_103 flX5_61 rfl (mk h.g) (mr_together h.g) ?_
          refine jv_iload1 dX5_leaves_106 ?_
          refine jv_aload0 dX5_leaves_107 ?_
          refine jv_getR dX5_leaves_108 flX5_61 rfl (mk h.g) (mr_together h.g) ?_
          refine jv_iload2 dX5_leaves_111 ?_
          refine jv_ialdN dX5_leaves_112 (mk_together h.g) (by omega) (by decide) ((congrFun ((jv_up_ne _ _ _ (by omega)).trans (jv_up_ne _ _ _ (by omega))) i).trans (hv i (by omega)).2.2.1) ?_
          rw [ot_ff_ge _ _ _ _ fl]
          refine jv_iastN dX5_leaves_113 (mk_together h.g) (by omega) (by decide) ?_
          refine jv_aload0 dX5_leaves_114 ?_
          refine jv_getR dX5_leaves_115 flX5_64 rfl (mk h.g) (mr_worth h.g) ?_
          refine jv_iload1 dX5_leaves_118 ?_
          refine jv_aload0 dX5_leaves_119 ?_
          refine jv_getR dX5_leaves_120 flX5_64 rfl (mk h.g) (mr_worth h.g) ?_
          refine jv_iload2 dX5_leaves_123 ?_
          refine jv_ialdN dX5_leaves_124 (mk_worth h.g) (by omega) (by decide) ((congrFun (((jv_up_ne _ _ _ (by omega)).trans (jv_up_ne _ _ _ (by omega))).trans (jv_up_ne _ _ _ (by omega))) i).trans (hv i (by omega)).2.2.2) ?_
          rw [ot_ff_ge _ _ _ _ fl]
          refine jv_iastN dX5_leaves_125 (mk_worth h.g) (by omega) (by decide) ?_
          refine jv_iinc1N dX5_leaves_126 rfl ?_
          rw [show ot_fc (ot_stay Y (Y 10 0 - 1)) i + 1 = ot_fc (ot_stay Y (Y 10 0 - 1)) (i + 1) by rw [ot_fc, if_pos hp2]]
          refine jv_iinc2N dX5_leaves_129 rfl ?_
          refine jv_goto dX5_leaves_132 (tgt := 44) (by decide) ?_
          exact hV
        · have hp2 : ¬ (ot_stay Y (Y 10 0 - 1)) i = true := fun z => hp (by simpa [ot_stay] using z)
          have qi := yw_wish h.w hi
          obtain ⟨I2, hV, hR2, hF2⟩ := ih (i + 1) A (by omega) (by omega) hw hc0 (fun j hj => by
            have := hv j hj
            rw [ot_ff, if_neg hp2, ot_ff, if_neg hp2, ot_ff, if_neg hp2, ot_ff, if_neg hp2]
            exact this) hF
          refine ⟨I2, ?_, hR2, hF2⟩
          refine jv_iload2 dX5_leaves_44 ?_
          refine jv_aload0 dX5_leaves_45 ?_
          refine jv_getI dX5_leaves_46 flX5_141 rfl (mk h.g) hw ?_
          refine jv_icmp_geN dX5_leaves_49 (tgt := 135) (by decide) (by omega) (by omega) (fun h27 => by omega) (fun h27 => ?_)
          refine jv_aload0 dX5_leaves_52 ?_
          refine jv_getR dX5_leaves_53 flX5_55 rfl (mk h.g) (mr_one h.g) ?_
          refine jv_iload2 dX5_leaves_56 ?_
          refine jv_ialdN dX5_leaves_57 (mk_one h.g) (by omega) (by decide) (hv i (by omega)).1 ?_
          rw [ot_ff_ge _ _ _ _ fl]
          refine jv_aload0 dX5_leaves_58 ?_
          refine jv_getI dX5_leaves_59 flX5_80 rfl (mk h.g) hc0 ?_
          refine jv_icmp_eqN dX5_leaves_62 (tgt := 129) (by decide) (by omega) (by omega) (fun h37 => ?_) (fun h37 => ?_)
          · refine jv_iinc2N dX5_leaves_129 rfl ?_
            refine jv_goto dX5_leaves_132 (tgt := 44) (by decide) ?_
            rw [show ot_fc (ot_stay Y (Y 10 0 - 1)) i = ot_fc (ot_stay Y (Y 10 0 - 1)) (i + 1) by rw [ot_fc, if_neg hp2]; rfl]
            exact hV
          · refine jv_aload0 dX5_leaves_65 ?_
            refine jv_getR dX5_leaves_66 flX5_58 rfl (mk h.g) (mr_other h.g) ?_
            refine jv_iload2 dX5_leaves_69 ?_
            refine jv_ialdN dX5_leaves_70 (mk_other h.g) (by omega) (by decide) (hv i (by omega)).2.1 ?_
            rw [ot_ff_ge _ _ _ _ fl]
            refine jv_aload0 dX5_leaves_71 ?_
            refine jv_getI dX5_leaves_72 flX5_80 rfl (mk h.g) hc0 ?_
            refine jv_icmp_eqN dX5_leaves_75 (tgt := 129) (by decide) (by omega) (by omega) (fun h47 => ?_) (fun h47 => absurd ⟨h37, h47⟩ hp)
            refine jv_iinc2N dX5_leaves_129 rfl ?_
            refine jv_goto dX5_leaves_132 (tgt := 44) (by decide) ?_
            rw [show ot_fc (ot_stay Y (Y 10 0 - 1)) i = ot_fc (ot_stay Y (Y 10 0 - 1)) (i + 1) by rw [ot_fc, if_neg hp2]; rfl]
            exact hV
      · have ei : i = Y 10 2 := by omega
        subst ei
        refine ⟨jv_up A 64 17 (nI (ot_fc (ot_stay Y (Y 10 0 - 1)) (Y 10 2))), ?_, ?_, fun q hq hq2 => ?_, fun k k1 k2 k3 k4 => ?_⟩
        · refine jv_iload2 dX5_leaves_44 ?_
          refine jv_aload0 dX5_leaves_45 ?_
          refine jv_getI dX5_leaves_46 flX5_141 rfl (mk h.g) hw ?_
          refine jv_icmp_geN dX5_leaves_49 (tgt := 135) (by decide) (by omega) (by omega) (fun h27 => ?_) (fun h27 => by omega)
          refine jv_aload0 dX5_leaves_135 ?_
          refine jv_iload1 dX5_leaves_136 ?_
          refine jv_putI dX5_leaves_137 flX5_141 rfl (mk h.g) rfl rfl ?_
          refine jv_aload0 dX5_leaves_140 ?_
          refine jv_getI dX5_leaves_141 flX5_80 rfl (mk h.g) ((jv_up_at_ne _ _ _ (by decide)).trans hc0) ?_
          exact jv_iret dX5_leaves_144 rfl rfl rfl rfl rfl
        · have fl2 := ot_fc_le (ot_stay Y (Y 10 0 - 1)) (Y 10 2)
          have e : ∀ q, q ≠ 64 → q ≠ 64 + 23 → q ≠ 64 + 24 → q ≠ 64 + 25 → q ≠ 64 + 26 → jv_up A 64 17 (nI (ot_fc (ot_stay Y (Y 10 0 - 1)) (Y 10 2))) q = Is q := fun q q0 q1 q2 q3 q4 => by
            rw [jv_up_ne _ _ _ q0, hF q q1 q2 q3 q4, jv_up_ne _ _ _ q0]
          have e0 : ∀ k, k ≠ 17 → k ≠ 9 → jv_up A 64 17 (nI (ot_fc (ot_stay Y (Y 10 0 - 1)) (Y 10 2))) 64 k = Is 64 k := fun k k1 k2 => by
            rw [jv_up_at_ne _ _ _ k1, hF 64 (by omega) (by omega) (by omega) (by omega), jv_up_at_ne _ _ _ k2]
          obtain ⟨⟨r1, r2, r3, r4⟩, g1, g2, g3⟩ := hRs
          have n1 : ot_leave Y 10 0 = Y 10 0 - 1 := by simp [ot_leave]
          have n3 : ot_leave Y 10 2 = ot_fc (ot_stay Y (Y 10 0 - 1)) (Y 10 2) := by simp [ot_leave]
          refine ⟨⟨?_, ?_, ?_, ?_⟩, fun c hc => ?_, fun c hc => ?_, fun c hc => ?_⟩
          · rw [n1, jv_up_at_ne _ _ _ (by omega)]; exact hc0
          · rw [e0 13 (by omega) (by omega)]
            simpa [ot_leave, ot_move, ot_put] using r2
          · rw [n3, jv_up_at]
          · rw [e0 22 (by omega) (by omega)]
            simpa [ot_leave, ot_move, ot_put] using r4
          · rw [n1] at hc
            have := g1 c (show c < Y 10 0 by omega)
            rw [e (64 + 17) (by omega) (by omega) (by omega) (by omega) (by omega), e (64 + 18) (by omega) (by omega) (by omega) (by omega) (by omega), e (64 + 19) (by omega) (by omega) (by omega) (by omega) (by omega)]
            simpa [ot_leave, ot_move, ot_put] using this
          · have := g2 c (by simpa [ot_leave, ot_move, ot_put] using hc)
            rw [e (64 + 20) (by omega) (by omega) (by omega) (by omega) (by omega), e (64 + 21) (by omega) (by omega) (by omega) (by omega) (by omega), e (64 + 22) (by omega) (by omega) (by omega) (by omega) (by omega)]
            simpa [ot_leave, ot_move, ot_put] using this
          · rw [n3] at hc
            have := hv c (by omega)
            rw [jv_up_ne _ _ _ (by omega), jv_up_ne _ _ _ (by omega), jv_up_ne _ _ _ (by omega), jv_up_ne _ _ _ (by omega)]
            simpa [ot_leave] using this
        · rw [jv_up_ne _ _ _ hq, hF q (by omega) (by omega) (by omega) (by omega), jv_up_ne _ _ _ hq]
          exact hFs q (by omega)
        · rw [jv_up_at_ne _ _ _ k3, hF 64 (by omega) (by omega) (by omega) (by omega), jv_up_at_ne _ _ _ k1, hFs 64 (by omega)]
  obtain ⟨⟨r1, r2, r3, r4⟩, g1, g2, g3⟩ := id hRs
  obtain ⟨I2, hV, hR2, hF2⟩ := loop (Y 10 2 + 1) 0 (jv_up Is 64 9 (nI (Y 10 0 - 1))) (by omega) (by omega) (by rw [jv_up_at_ne _ _ _ (by omega)]; exact r3) (jv_up_at _ _ _ _) (fun j hj => by
    have := g3 j hj
    rw [jv_up_ne _ _ _ (by omega), jv_up_ne _ _ _ (by omega), jv_up_ne _ _ _ (by omega), jv_up_ne _ _ _ (by omega)]
    exact this) (fun _ _ _ _ _ => rfl)
  refine ⟨I2, ?_, hR2, hF2⟩
  refine jv_enter okX5_leaves (L := [.ref 64, .null, .null]) rfl (Nat.le_of_ble_eq_true rfl) ?_
  refine jv_aload0 dX5_leaves_0 ?_
  refine jv_getI dX5_leaves_1 flX5_80 rfl (mk h.g) (mi_children h.r) ?_
  refine jv_if_neN dX5_leaves_4 (tgt := 14) (by decide) (by omega) (fun h4 => ?_) (fun h4 => by omega)
  refine jv_aload0 dX5_leaves_14 ?_
  refine jv_aload0 dX5_leaves_15 ?_
  refine jv_getI dX5_leaves_16 flX5_80 rfl (mk h.g) (mi_children h.r) ?_
  refine jv_iconst dX5_leaves_19 jv_c_iconst_1 ?_
  refine jv_isubN dX5_leaves_20 (by omega) ?_
  refine jv_aload0 dX5_leaves_21 ?_
  refine jv_getI dX5_leaves_22 flX5_80 rfl (mk h.g) (mi_children h.r) ?_
  refine jv_iconst dX5_leaves_25 jv_c_iconst_1 ?_
  refine jv_isubN dX5_leaves_26 (by omega) ?_
  refine jv_v20 dX5_leaves_27 okX5_moves inX5_moves seX5_moves mlX5_227 (ci := 5) (T := TX5) (N := 35) rfl (mk h.g) hCs (by decide) (Nat.le_of_ble_eq_true rfl) ?_
  refine jv_aload0 dX5_leaves_30 ?_
  refine jv_dup dX5_leaves_31 rfl ?_
  refine jv_getI dX5_leaves_32 flX5_80 rfl (mk h.g) (show Is 64 9 = nI (Y 10 0) from r1) ?_
  refine jv_iconst dX5_leaves_35 jv_c_iconst_1 ?_
  refine jv_isubN dX5_leaves_36 (by omega) ?_
  refine jv_putI dX5_leaves_37 flX5_80 rfl (mk h.g) rfl rfl ?_
  refine jv_iconst dX5_leaves_40 jv_c_iconst_0 ?_
  refine jv_istore1 dX5_leaves_41 rfl ?_
  refine jv_iconst dX5_leaves_42 jv_c_iconst_0 ?_
  refine jv_istore2 dX5_leaves_43 rfl ?_
  exact hV
def ot_rc5 (P : Prop) [Decidable P] : Nat := if P then 0 else 5
theorem ot_rc5_split {P : Prop} [Decidable P] {motive : Nat → Prop} (h1 : P → motive 0) (h2 : ¬ P → motive 5) : motive (ot_rc5 P) := by
  unfold ot_rc5
  by_cases h : P
  · rw [if_pos h]; exact h1 h
  · rw [if_neg h]; exact h2 h
theorem ot_leave_c (Y : ot_Y) : Y 10 1 ≤ (ot_leave Y) 10 1 := by simp [ot_leave]
set_option maxRecDepth 20000 in
theorem pc_leaves {G : jv_Gr} {I : jv_I} {J : jv_J} {Y Z : ot_Y} {E : ot_E} {K : Option ot_Y} (h : ot_C G I J Y Z E K)  : ot_cc 8 mX4_leaves [.ref 1] G I J (ot_ans (ot_rc5 (0 < Y 10 0)) (nI (Y 10 0 - 1))) (ot_pk (ot_rc5 (0 < Y 10 0)) (ot_leave Y) Y) (ot_zr Z (ot_rc5 (0 < Y 10 0))) E K := by
  have bn := yw_n h.w
  have bc := yw_c h.w
  have bw := yw_w h.w
  refine ot_rc5_split (motive := fun rc => ot_cc 8 mX4_leaves [.ref 1] G I J (ot_ans rc (nI (Y 10 0 - 1))) (ot_pk rc (ot_leave Y) Y) (ot_zr Z rc) E K) (fun hv => ?_) (fun hv => ?_)
  · obtain ⟨I2, hA, hR2, hF⟩ := ot_dropLastM (J := J) (cg_now h.g) h.r h.w hv
    refine ⟨I2, J, ?_, ot_C_yard h hR2 (ot_YW_leave h.w hv) (ot_ZW_y h.z (ot_leave_c Y)) hF, ot_hi.fr hF (by decide)⟩
    refine jv_enter okX4_leaves (L := [.ref 1]) rfl (Nat.le_of_ble_eq_true rfl) ?_
    refine jv_aload0 dX4_leaves_0 ?_
    refine jv_getR dX4_leaves_1 flX4_10 rfl (ck h.g) (cr_now h.g) ?_
    refine jv_getI dX4_leaves_4 flX4_128 rfl (yk (cg_now h.g)) (yi_children h.r) ?_
    refine jv_if_neN dX4_leaves_7 (tgt := 17) (by decide) (by omega) (fun hc7 => ?_) (fun hc7 => by omega)
    refine jv_aload0 dX4_leaves_17 ?_
    refine jv_getR dX4_leaves_18 flX4_10 rfl (ck h.g) (cr_now h.g) ?_
    refine jv_v00 dX4_leaves_21 okX3_dropLast inX3_dropLast seX3_dropLast mlX4_292 (ci := 3) (T := TX3) (N := 15) rfl (yk (cg_now h.g)) hA (by decide) (Nat.le_of_ble_eq_true rfl) ?_
    refine jv_aload0 dX4_leaves_24 ?_
    refine jv_getR dX4_leaves_25 flX4_10 rfl (ck h.g) (cr_now h.g) ?_
    refine jv_getI dX4_leaves_28 flX4_128 rfl (yk (cg_now h.g)) (show I2 2 0 = nI (Y 10 0 - 1) from hR2.1.1) ?_
    exact jv_iret dX4_leaves_31 rfl rfl rfl rfl rfl
  · obtain ⟨I2, hC, h2, h3⟩ := oc_refuse5 h
    refine ⟨I2, J, ?_, h2, h3⟩
    refine jv_enter okX4_leaves (L := [.ref 1]) rfl (Nat.le_of_ble_eq_true rfl) ?_
    refine jv_aload0 dX4_leaves_0 ?_
    refine jv_getR dX4_leaves_1 flX4_10 rfl (ck h.g) (cr_now h.g) ?_
    refine jv_getI dX4_leaves_4 flX4_128 rfl (yk (cg_now h.g)) (yi_children h.r) ?_
    refine jv_if_neN dX4_leaves_7 (tgt := 17) (by decide) (by omega) (fun hc7 => by omega) (fun hc7 => ?_)
    refine jv_aload0 dX4_leaves_10 ?_
    refine jv_bipush dX4_leaves_11 jv_c_bipush_m5 ?_
    refine jv_v11 dX4_leaves_13 okX4_refuse inX4_refuse seX4_refuse mlX4_61 (ci := 4) (T := TX4) (N := 8) rfl (ck h.g) hC (by decide) (Nat.le_of_ble_eq_true rfl) ?_
    exact jv_iret dX4_leaves_16 rfl rfl rfl rfl rfl
set_option maxRecDepth 20000 in
theorem pm_leaves {G : jv_Gr} {I : jv_I} {J : jv_J} {Y Z : ot_Y} {E : ot_E} {K : Option ot_Y} (h : ot_M G I J Y Z E K)  : ot_mm 8 mX5_leaves [.ref 64] G I J (ot_ans (ot_rc5 (0 < Y 10 0)) (nI (Y 10 0 - 1))) (ot_pk (ot_rc5 (0 < Y 10 0)) (ot_leave Y) Y) (ot_zr Z (ot_rc5 (0 < Y 10 0))) E K := by
  have bn := yw_n h.w
  have bc := yw_c h.w
  have bw := yw_w h.w
  refine ot_rc5_split (motive := fun rc => ot_mm 8 mX5_leaves [.ref 64] G I J (ot_ans rc (nI (Y 10 0 - 1))) (ot_pk rc (ot_leave Y) Y) (ot_zr Z rc) E K) (fun hv => ?_) (fun hv => ?_)
  · obtain ⟨I2, hA, hR2, hF⟩ := om_leavesC h hv
    exact ⟨G, I2, J, hA.mono (by decide), ot_M_yard h hR2 (ot_YW_leave h.w hv) (ot_ZW_y h.z (ot_leave_c Y)) hF.mw, hF.mw.lo, ot_gx.rf⟩
  · obtain ⟨I2, hC, h2, h3⟩ := om_refuse5 h
    refine ⟨G, I2, J, ?_, h2, h3, ot_gx.rf⟩
    refine jv_enter okX5_leaves (L := [.ref 64, .null, .null]) rfl (Nat.le_of_ble_eq_true rfl) ?_
    refine jv_aload0 dX5_leaves_0 ?_
    refine jv_getI dX5_leaves_1 flX5_80 rfl (mk h.g) (mi_children h.r) ?_
    refine jv_if_neN dX5_leaves_4 (tgt := 14) (by decide) (by omega) (fun hc4 => by omega) (fun hc4 => ?_)
    refine jv_aload0 dX5_leaves_7 ?_
    refine jv_bipush dX5_leaves_8 jv_c_bipush_m5 ?_
    refine jv_v11 dX5_leaves_10 okX5_refuse inX5_refuse seX5_refuse mlX5_104 (ci := 5) (T := TX5) (N := 35) rfl (mk h.g) hC (by decide) (Nat.le_of_ble_eq_true rfl) ?_
    exact jv_iret dX5_leaves_13 rfl rfl rfl rfl rfl
