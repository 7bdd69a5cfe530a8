set_option maxRecDepth 20000 in
/-! ===== far: the reference ===== -/
theorem om_farL {G : jv_Gr} {I : jv_I} {J : jv_J} {Y Z : ot_Y} {E : ot_E} {K : Option ot_Y} (h : ot_M G I J Y Z E K) {k a b c o who : Nat} (hk : k < Y 10 1) (ha : a < Y 10 0) (hb : b < Y 10 0) (hc : c < Y 10 0) (hco : (c = a ∧ o = b) ∨ (c = b ∧ o = a)) (acc0 : Option Nat) : ∀ (m i : Nat) (G1 : jv_Gr) (A : jv_I) (J1 : jv_J) (acc : Option Nat) (s8 s9 : Value), Y 10 0 + 1 ≤ i + m → i ≤ Y 10 0 → ot_M G1 A J1 Y Z E K → ot_lo I A J J1 → ot_gx G G1 → (∀ r : Nat, s8 = .ref r → r ≤ jv_n G1 ∨ 1000000 ≤ r) → (∀ r : Nat, s9 = .ref r → r ≤ jv_n G1 ∨ 1000000 ≤ r) → acc = ot_fl (ot_fw Y k c o) i acc0 → (∀ e, acc = some e → e ≤ 14) → ∃ (G2 : jv_Gr) (I2 : jv_I) (J2 : jv_J) (t8 t9 : Value), ot_M G2 I2 J2 Y Z E K ∧ ot_lo I I2 J J2 ∧ ot_gx G G2 ∧ (∀ r : Nat, t8 = .ref r → r ≤ jv_n G2 ∨ 1000000 ≤ r) ∧ (∀ r : Nat, t9 = .ref r → r ≤ jv_n G2 ∨ 1000000 ≤ r) ∧ ∀ (r : Option Value) (G4 : jv_Gr) (I4 : jv_I) (J4 : jv_J), jv_V 9 mX5_far 153 [.ref 64, .int (nI k), .int (nI a), .int (nI b), .int (ot_o (ot_fl (ot_fw Y k c o) (Y 10 0) acc0)), .int (nI who), .int (nI c), .int (nI (Y 10 0)), t8, t9] [] G2 I2 J2 r G4 I4 J4 → jv_V 9 mX5_far 53 [.ref 64, .int (nI k), .int (nI a), .int (nI b), .int (ot_o acc), .int (nI who), .int (nI c), .int (nI i), s8, s9] [] G1 A J1 r G4 I4 J4 := by
  have bn := yw_n h.w
  have bc := yw_c h.w
  have bw := yw_w h.w
  intro m
  induction m with
  | zero => intro i G1 A J1 acc s8 s9 b1 b2; omega
  | succ m ih =>
    intro i G1 A J1 acc s8 s9 b1 b2 hM1 hl hx s8o s9o ea h14
    by_cases hi : i < Y 10 0
    · obtain ⟨G3, I3, J3, q, hFr, hM, hq, hqq, hqG, hqR, hql, hqx⟩ := om_fresh hM1
      have hFn : jv_n G3 < 1000000 := by have := hM.n; unfold ot_NM at this; omega
      have hGn := ot_M_n hM1
      obtain ⟨I4b, hB, hR4, hF4⟩ := om_moves (J := J3) hqG hqR h.w hc hi
      have hf : ot_fr I3 I4b q (q + 29) := fun u hu => hF4 u (by omega)
      have hT := ot_M_try hM hq (by omega) hf (fun _ _ => rfl)
      have hl3 := (hl.tr hql).tr (ot_lo.fr (J := J3) hf (by omega))
      have hx3 := hx.tr hqx
      have hqn := (jv_k_in (mk hqG) (by decide)).2
      have hW4 := ot_YW_move h.w hc hi
      have hpl := (yw_child h.w hc).2.2.2
      have hd14 := ot_dist_le (show i ≤ 14 by omega) (show Y 2 c ≤ 14 by omega)
      have c2 := om_areIn (J := J3) hqG hR4 hW4 (k := k) (a := a) (b := b) hk ha hb
      have hsym : ot_sideOf (ot_move Y c i) k a = ot_sideOf (ot_move Y c i) k b ↔ ot_sideOf (ot_move Y c i) k c = ot_sideOf (ot_move Y c i) k o := by
        rcases hco with ⟨r1, r2⟩ | ⟨r1, r2⟩
        · rw [r1, r2]
        · rw [r1, r2]; exact ⟨fun z => z.symm, fun z => z.symm⟩
      by_cases hs : ot_sideOf (ot_move Y c i) k c = ot_sideOf (ot_move Y c i) k o
      · have ew : ot_fw Y k c o i = some (ot_dist i (Y 2 c)) := by unfold ot_fw; rw [if_pos hs]
        cases acc with
        | none =>
          obtain ⟨G2, I2, J2, t8, t9, p1, p2, p3, p4, p5, hN⟩ := ih (i + 1) G3 I4b J3 (some (ot_dist i (Y 2 c))) (.ref q) (.int (nI (ot_dist i (Y 2 c)))) (by omega) (by omega) hT hl3 hx3 (fun r e => by cases e; exact .inl hqn) (fun r e => by cases e) (by rw [ot_fl, ew, ← ea]) (fun e he => by cases he; exact hd14)
          refine ⟨G2, I2, J2, t8, t9, p1, p2, p3, p4, p5, fun r G4 I4 J4 hV => ?_⟩
          have hj : ∀ sv, jv_V 9 mX5_far 112 [.ref 64, .int (nI k), .int (nI a), .int (nI b), .int (ot_o none), .int (nI who), .int (nI c), .int (nI i), .ref q, sv] [.int (nI (ot_dist i (Y 2 c)))] G3 I4b J3 r G4 I4 J4 := by
            intro sv
            refine jv_istore9 dX5_far_112 rfl ?_
            refine jv_aload8 dX5_far_114 ?_
            refine jv_iload1 dX5_far_116 ?_
            refine jv_iload2 dX5_far_117 ?_
            refine jv_iload3 dX5_far_118 ?_
            refine jv_v31 dX5_far_119 okX5_areIn inX5_areIn seX5_areIn mlX5_263 (ci := 5) (T := TX5) (N := 35) rfl (mk hqG) c2 (by decide) (Nat.le_of_ble_eq_true rfl) ?_
            refine jv_if_eqB dX5_far_122 (tgt := 143) (by decide) (fun h122 => absurd (hsym.mpr hs) h122) (fun h122 => ?_)
            refine jv_iload4 dX5_far_125 ?_
            refine jv_iconst dX5_far_127 jv_c_iconst_m1 ?_
            refine jv_icmp_eq dX5_far_128 (tgt := 138) (by decide) (fun h128 => ?_) (fun h128 => absurd rfl h128)
            refine jv_iload9 dX5_far_138 ?_
            refine jv_goto dX5_far_140 (tgt := 145) (by decide) ?_
            refine jv_istore4 dX5_far_145 rfl ?_
            refine jv_iinc7N dX5_far_147 rfl ?_
            refine jv_goto dX5_far_150 (tgt := 53) (by decide) ?_
            exact hN r G4 I4 J4 hV
          by_cases hle : i ≤ Y 2 c
          · refine jv_iload7 dX5_far_53 ?_
            refine jv_aload0 dX5_far_55 ?_
            refine jv_getI dX5_far_56 flX5_80 rfl (mk hM1.g) (mi_children hM1.r) ?_
            refine jv_icmp_geN dX5_far_59 (tgt := 153) (by decide) (by omega) (by omega) (fun hc59 => by omega) (fun hc59 => ?_)
            refine jv_aload0 dX5_far_62 ?_
            refine jv_callV (a := 64) (As := []) (rest := []) dX5_far_63 okX5_fresh inX5_fresh seX5_fresh mlX5_245 (ci := 5) (T := TX5) (N := 35) rfl (mk hM1.g) hFr (by decide) rfl rfl (Nat.le_of_ble_eq_true rfl) (.inr ⟨(ot_ow_r (by omega) (ot_ow_i (ot_ow_i (ot_ow_i (ot_ow_i (ot_ow_i (ot_ow_i (ot_ow_i (ot_ow_cons s8o (ot_ow_cons s9o ot_ow_nil)))))))))), ot_ow_nil, hFn⟩) ?_
            refine jv_astore8 dX5_far_66 rfl ?_
            refine jv_aload8 dX5_far_68 ?_
            refine jv_iload6 dX5_far_70 ?_
            refine jv_iload7 dX5_far_72 ?_
            refine jv_v20 dX5_far_74 okX5_moves inX5_moves seX5_moves mlX5_227 (ci := 5) (T := TX5) (N := 35) rfl (mk hqG) hB (by decide) (Nat.le_of_ble_eq_true rfl) ?_
            refine jv_iload7 dX5_far_77 ?_
            refine jv_aload0 dX5_far_79 ?_
            refine jv_getR dX5_far_80 flX5_43 rfl (mk hT.g) (mr_place hT.g) ?_
            refine jv_iload6 dX5_far_83 ?_
            refine jv_ialdN dX5_far_85 (mk_place hT.g) (by omega) (by decide) (me_place hT.r hc) ?_
            refine jv_icmp_leN dX5_far_86 (tgt := 102) (by decide) (by omega) (by omega) (fun h86 => ?_) (fun h86 => by omega)
            refine jv_aload0 dX5_far_102 ?_
            refine jv_getR dX5_far_103 flX5_43 rfl (mk hT.g) (mr_place hT.g) ?_
            refine jv_iload6 dX5_far_106 ?_
            refine jv_ialdN dX5_far_108 (mk_place hT.g) (by omega) (by decide) (me_place hT.r hc) ?_
            refine jv_iload7 dX5_far_109 ?_
            refine jv_isubN dX5_far_111 (by omega) ?_
            rw [show Y 2 c - i = ot_dist i (Y 2 c) from (by unfold ot_dist; rw [if_pos hle])]
            exact hj _
          · refine jv_iload7 dX5_far_53 ?_
            refine jv_aload0 dX5_far_55 ?_
            refine jv_getI dX5_far_56 flX5_80 rfl (mk hM1.g) (mi_children hM1.r) ?_
            refine jv_icmp_geN dX5_far_59 (tgt := 153) (by decide) (by omega) (by omega) (fun hc59 => by omega) (fun hc59 => ?_)
            refine jv_aload0 dX5_far_62 ?_
            refine jv_callV (a := 64) (As := []) (rest := []) dX5_far_63 okX5_fresh inX5_fresh seX5_fresh mlX5_245 (ci := 5) (T := TX5) (N := 35) rfl (mk hM1.g) hFr (by decide) rfl rfl (Nat.le_of_ble_eq_true rfl) (.inr ⟨(ot_ow_r (by omega) (ot_ow_i (ot_ow_i (ot_ow_i (ot_ow_i (ot_ow_i (ot_ow_i (ot_ow_i (ot_ow_cons s8o (ot_ow_cons s9o ot_ow_nil)))))))))), ot_ow_nil, hFn⟩) ?_
            refine jv_astore8 dX5_far_66 rfl ?_
            refine jv_aload8 dX5_far_68 ?_
            refine jv_iload6 dX5_far_70 ?_
            refine jv_iload7 dX5_far_72 ?_
            refine jv_v20 dX5_far_74 okX5_moves inX5_moves seX5_moves mlX5_227 (ci := 5) (T := TX5) (N := 35) rfl (mk hqG) hB (by decide) (Nat.le_of_ble_eq_true rfl) ?_
            refine jv_iload7 dX5_far_77 ?_
            refine jv_aload0 dX5_far_79 ?_
            refine jv_getR dX5_far_80 flX5_43 rfl (mk hT.g) (mr_place hT.g) ?_
            refine jv_iload6 dX5_far_83 ?_
            refine jv_ialdN dX5_far_85 (mk_place hT.g) (by omega) (by decide) (me_place hT.r hc) ?_
            refine jv_icmp_leN dX5_far_86 (tgt := 102) (by decide) (by omega) (by omega) (fun h86 => by omega) (fun h86 => ?_)
            refine jv_iload7 dX5_far_89 ?_
            refine jv_aload0 dX5_far_91 ?_
            refine jv_getR dX5_far_92 flX5_43 rfl (mk hT.g) (mr_place hT.g) ?_
            refine jv_iload6 dX5_far_95 ?_
            refine jv_ialdN dX5_far_97 (mk_place hT.g) (by omega) (by decide) (me_place hT.r hc) ?_
            refine jv_isubN dX5_far_98 (by omega) ?_
            refine jv_goto dX5_far_99 (tgt := 112) (by decide) ?_
            rw [show i - Y 2 c = ot_dist i (Y 2 c) from (by unfold ot_dist; rw [if_neg hle])]
            exact hj _
        | some e =>
          have he := h14 e rfl
          by_cases hlt : ot_dist i (Y 2 c) < e
          · obtain ⟨G2, I2, J2, t8, t9, p1, p2, p3, p4, p5, hN⟩ := ih (i + 1) G3 I4b J3 (some (ot_dist i (Y 2 c))) (.ref q) (.int (nI (ot_dist i (Y 2 c)))) (by omega) (by omega) hT hl3 hx3 (fun r e => by cases e; exact .inl hqn) (fun r e => by cases e) (by rw [ot_fl, ew, ← ea]; dsimp only; rw [if_pos hlt]) (fun e he => by cases he; exact hd14)
            refine ⟨G2, I2, J2, t8, t9, p1, p2, p3, p4, p5, fun r G4 I4 J4 hV => ?_⟩
            have hj : ∀ sv, jv_V 9 mX5_far 112 [.ref 64, .int (nI k), .int (nI a), .int (nI b), .int (ot_o (some e)), .int (nI who), .int (nI c), .int (nI i), .ref q, sv] [.int (nI (ot_dist i (Y 2 c)))] G3 I4b J3 r G4 I4 J4 := by
              intro sv
              refine jv_istore9 dX5_far_112 rfl ?_
              refine jv_aload8 dX5_far_114 ?_
              refine jv_iload1 dX5_far_116 ?_
              refine jv_iload2 dX5_far_117 ?_
              refine jv_iload3 dX5_far_118 ?_
              refine jv_v31 dX5_far_119 okX5_areIn inX5_areIn seX5_areIn mlX5_263 (ci := 5) (T := TX5) (N := 35) rfl (mk hqG) c2 (by decide) (Nat.le_of_ble_eq_true rfl) ?_
              refine jv_if_eqB dX5_far_122 (tgt := 143) (by decide) (fun h122 => absurd (hsym.mpr hs) h122) (fun h122 => ?_)
              refine jv_iload4 dX5_far_125 ?_
              refine jv_iconst dX5_far_127 jv_c_iconst_m1 ?_
              refine jv_icmp_eq dX5_far_128 (tgt := 138) (by decide) (fun h128 => absurd h128 (ot_nI_n1 (by omega))) (fun h128 => ?_)
              refine jv_iload9 dX5_far_131 ?_
              refine jv_iload4 dX5_far_133 ?_
              refine jv_icmp_geN dX5_far_135 (tgt := 143) (by decide) (by omega) (by omega) (fun h135 => by omega) (fun h135 => ?_)
              refine jv_iload9 dX5_far_138 ?_
              refine jv_goto dX5_far_140 (tgt := 145) (by decide) ?_
              refine jv_istore4 dX5_far_145 rfl ?_
              refine jv_iinc7N dX5_far_147 rfl ?_
              refine jv_goto dX5_far_150 (tgt := 53) (by decide) ?_
              exact hN r G4 I4 J4 hV
            by_cases hle : i ≤ Y 2 c
            · refine jv_iload7 dX5_far_53 ?_
              refine jv_aload0 dX5_far_55 ?_
              refine jv_getI dX5_far_56 flX5_80 rfl (mk hM1.g) (mi_children hM1.r) ?_
              refine jv_icmp_geN dX5_far_59 (tgt := 153) (by decide) (by omega) (by omega) (fun hc59 => by omega) (fun hc59 => ?_)
              refine jv_aload0 dX5_far_62 ?_
              refine jv_callV (a := 64) (As := []) (rest := []) dX5_far_63 okX5_fresh inX5_fresh seX5_fresh mlX5_245 (ci := 5) (T := TX5) (N := 35) rfl (mk hM1.g) hFr (by decide) rfl rfl (Nat.le_of_ble_eq_true rfl) (.inr ⟨(ot_ow_r (by omega) (ot_ow_i (ot_ow_i (ot_ow_i (ot_ow_i (ot_ow_i (ot_ow_i (ot_ow_i (ot_ow_cons s8o (ot_ow_cons s9o ot_ow_nil)))))))))), ot_ow_nil, hFn⟩) ?_
              refine jv_astore8 dX5_far_66 rfl ?_
              refine jv_aload8 dX5_far_68 ?_
              refine jv_iload6 dX5_far_70 ?_
              refine jv_iload7 dX5_far_72 ?_
              refine jv_v20 dX5_far_74 okX5_moves inX5_moves seX5_moves mlX5_227 (ci := 5) (T := TX5) (N := 35) rfl (mk hqG) hB (by decide) (Nat.le_of_ble_eq_true rfl) ?_
              refine jv_iload7 dX5_far_77 ?_
              refine jv_aload0 dX5_far_79 ?_
              refine jv_getR dX5_far_80 flX5_43 rfl (mk hT.g) (mr_place hT.g) ?_
              refine jv_iload6 dX5_far_83 ?_
              refine jv_ialdN dX5_far_85 (mk_place hT.g) (by omega) (by decide) (me_place hT.r hc) ?_
              refine jv_icmp_leN dX5_far_86 (tgt := 102) (by decide) (by omega) (by omega) (fun h86 => ?_) (fun h86 => by omega)
              refine jv_aload0 dX5_far_102 ?_
              refine jv_getR dX5_far_103 flX5_43 rfl (mk hT.g) (mr_place hT.g) ?_
              refine jv_iload6 dX5_far_106 ?_
              refine jv_ialdN dX5_far_108 (mk_place hT.g) (by omega) (by decide) (me_place hT.r hc) ?_
              refine jv_iload7 dX5_far_109 ?_
              refine jv_isubN dX5_far_111 (by omega) ?_
              rw [show Y 2 c - i = ot_dist i (Y 2 c) from (by unfold ot_dist; rw [if_pos hle])]
              exact hj _
            · refine jv_iload7 dX5_far_53 ?_
              refine jv_aload0 dX5_far_55 ?_
              refine jv_getI dX5_far_56 flX5_80 rfl (mk hM1.g) (mi_children hM1.r) ?_
              refine jv_icmp_geN dX5_far_59 (tgt := 153) (by decide) (by omega) (by omega) (fun hc59 => by omega) (fun hc59 => ?_)
              refine jv_aload0 dX5_far_62 ?_
              refine jv_callV (a := 64) (As := []) (rest := []) dX5_far_63 okX5_fresh inX5_fresh seX5_fresh mlX5_245 (ci := 5) (T := TX5) (N := 35) rfl (mk hM1.g) hFr (by decide) rfl rfl (Nat.le_of_ble_eq_true rfl) (.inr ⟨(ot_ow_r (by omega) (ot_ow_i (ot_ow_i (ot_ow_i (ot_ow_i (ot_ow_i (ot_ow_i (ot_ow_i (ot_ow_cons s8o (ot_ow_cons s9o ot_ow_nil)))))))))), ot_ow_nil, hFn⟩) ?_
              refine jv_astore8 dX5_far_66 rfl ?_
              refine jv_aload8 dX5_far_68 ?_
              refine jv_iload6 dX5_far_70 ?_
              refine jv_iload7 dX5_far_72 ?_
              refine jv_v20 dX5_far_74 okX5_moves inX5_moves seX5_moves mlX5_227 (ci := 5) (T := TX5) (N := 35) rfl (mk hqG) hB (by decide) (Nat.le_of_ble_eq_true rfl) ?_
              refine jv_iload7 dX5_far_77 ?_
              refine jv_aload0 dX5_far_79 ?_
              refine jv_getR dX5_far_80 flX5_43 rfl (mk hT.g) (mr_place hT.g) ?_
              refine jv_iload6 dX5_far_83 ?_
              refine jv_ialdN dX5_far_85 (mk_place hT.g) (by omega) (by decide) (me_place hT.r hc) ?_
              refine jv_icmp_leN dX5_far_86 (tgt := 102) (by decide) (by omega) (by omega) (fun h86 => by omega) (fun h86 => ?_)
              refine jv_iload7 dX5_far_89 ?_
              refine jv_aload0 dX5_far_91 ?_
              refine jv_getR dX5_far_92 flX5_43 rfl (mk hT.g) (mr_place hT.g) ?_
              refine jv_iload6 dX5_far_95 ?_
              refine jv_ialdN dX5_far_97 (mk_place hT.g) (by omega) (by decide) (me_place hT.r hc) ?_
              refine jv_isubN dX5_far_98 (by omega) ?_
              refine jv_goto dX5_far_99 (tgt := 112) (by decide) ?_
              rw [show i - Y 2 c = ot_dist i (Y 2 c) from (by unfold ot_dist; rw [if_neg hle])]
              exact hj _
          · obtain ⟨G2, I2, J2, t8, t9, p1, p2, p3, p4, p5, hN⟩ := ih (i + 1) G3 I4b J3 (some e) (.ref q) (.int (nI (ot_dist i (Y 2 c)))) (by omega) (by omega) hT hl3 hx3 (fun r e => by cases e; exact .inl hqn) (fun r e => by cases e) (by rw [ot_fl, ew, ← ea]; dsimp only; rw [if_neg hlt]) h14
            refine ⟨G2, I2, J2, t8, t9, p1, p2, p3, p4, p5, fun r G4 I4 J4 hV => ?_⟩
            have hj : ∀ sv, jv_V 9 mX5_far 112 [.ref 64, .int (nI k), .int (nI a), .int (nI b), .int (ot_o (some e)), .int (nI who), .int (nI c), .int (nI i), .ref q, sv] [.int (nI (ot_dist i (Y 2 c)))] G3 I4b J3 r G4 I4 J4 := by
              intro sv
              refine jv_istore9 dX5_far_112 rfl ?_
              refine jv_aload8 dX5_far_114 ?_
              refine jv_iload1 dX5_far_116 ?_
              refine jv_iload2 dX5_far_117 ?_
              refine jv_iload3 dX5_far_118 ?_
              refine jv_v31 dX5_far_119 okX5_areIn inX5_areIn seX5_areIn mlX5_263 (ci := 5) (T := TX5) (N := 35) rfl (mk hqG) c2 (by decide) (Nat.le_of_ble_eq_true rfl) ?_
              refine jv_if_eqB dX5_far_122 (tgt := 143) (by decide) (fun h122 => absurd (hsym.mpr hs) h122) (fun h122 => ?_)
              refine jv_iload4 dX5_far_125 ?_
              refine jv_iconst dX5_far_127 jv_c_iconst_m1 ?_
              refine jv_icmp_eq dX5_far_128 (tgt := 138) (by decide) (fun h128 => absurd h128 (ot_nI_n1 (by omega))) (fun h128 => ?_)
              refine jv_iload9 dX5_far_131 ?_
              refine jv_iload4 dX5_far_133 ?_
              refine jv_icmp_geN dX5_far_135 (tgt := 143) (by decide) (by omega) (by omega) (fun h135 => ?_) (fun h135 => by omega)
              refine jv_iload4 dX5_far_143 ?_
              refine jv_istore4 dX5_far_145 rfl ?_
              refine jv_iinc7N dX5_far_147 rfl ?_
              refine jv_goto dX5_far_150 (tgt := 53) (by decide) ?_
              exact hN r G4 I4 J4 hV
            by_cases hle : i ≤ Y 2 c
            · refine jv_iload7 dX5_far_53 ?_
              refine jv_aload0 dX5_far_55 ?_
              refine jv_getI dX5_far_56 flX5_80 rfl (mk hM1.g) (mi_children hM1.r) ?_
              refine jv_icmp_geN dX5_far_59 (tgt := 153) (by decide) (by omega) (by omega) (fun hc59 => by omega) (fun hc59 => ?_)
              refine jv_aload0 dX5_far_62 ?_
              refine jv_callV (a := 64) (As := []) (rest := []) dX5_far_63 okX5_fresh inX5_fresh seX5_fresh mlX5_245 (ci := 5) (T := TX5) (N := 35) rfl (mk hM1.g) hFr (by decide) rfl rfl (Nat.le_of_ble_eq_true rfl) (.inr ⟨(ot_ow_r (by omega) (ot_ow_i (ot_ow_i (ot_ow_i (ot_ow_i (ot_ow_i (ot_ow_i (ot_ow_i (ot_ow_cons s8o (ot_ow_cons s9o ot_ow_nil)))))))))), ot_ow_nil, hFn⟩) ?_
              refine jv_astore8 dX5_far_66 rfl ?_
              refine jv_aload8 dX5_far_68 ?_
              refine jv_iload6 dX5_far_70 ?_
              refine jv_iload7 dX5_far_72 ?_
              refine jv_v20 dX5_far_74 okX5_moves inX5_moves seX5_moves mlX5_227 (ci := 5) (T := TX5) (N := 35) rfl (mk hqG) hB (by decide) (Nat.le_of_ble_eq_true rfl) ?_
              refine jv_iload7 dX5_far_77 ?_
              refine jv_aload0 dX5_far_79 ?_
              refine jv_getR dX5_far_80 flX5_43 rfl (mk hT.g) (mr_place hT.g) ?_
              refine jv_iload6 dX5_far_83 ?_
              refine jv_ialdN dX5_far_85 (mk_place hT.g) (by omega) (by decide) (me_place hT.r hc) ?_
              refine jv_icmp_leN dX5_far_86 (tgt := 102) (by decide) (by omega) (by omega) (fun h86 => ?_) (fun h86 => by omega)
              refine jv_aload0 dX5_far_102 ?_
              refine jv_getR dX5_far_103 flX5_43 rfl (mk hT.g) (mr_place hT.g) ?_
              refine jv_iload6 dX5_far_106 ?_
              refine jv_ialdN dX5_far_108 (mk_place hT.g) (by omega) (by decide) (me_place hT.r hc) ?_
              refine jv_iload7 dX5_far_109 ?_
              refine jv_isubN dX5_far_111 (by omega) ?_
              rw [show Y 2 c - i = ot_dist i (Y 2 c) from (by unfold ot_dist; rw [if_pos hle])]
              exact hj _
            · refine jv_iload7 dX5_far_53 ?_
              refine jv_aload0 dX5_far_55 ?_
              refine jv_getI dX5_far_56 flX5_80 rfl (mk hM1.g) (mi_children hM1.r) ?_
              refine jv_icmp_geN dX5_far_59 (tgt := 153) (by decide) (by omega) (by omega) (fun hc59 => by omega) (fun hc59 => ?_)
              refine jv_aload0 dX5_far_62 ?_
              refine jv_callV (a := 64) (As := []) (rest := []) dX5_far_63 okX5_fresh inX5_fresh seX5_fresh mlX5_245 (ci := 5) (T := TX5) (N := 35) rfl (mk hM1.g) hFr (by decide) rfl rfl (Nat.le_of_ble_eq_true rfl) (.inr ⟨(ot_ow_r (by omega) (ot_ow_i (ot_ow_i (ot_ow_i (ot_ow_i (ot_ow_i (ot_ow_i (ot_ow_i (ot_ow_cons s8o (ot_ow_cons s9o ot_ow_nil)))))))))), ot_ow_nil, hFn⟩) ?_
              refine jv_astore8 dX5_far_66 rfl ?_
              refine jv_aload8 dX5_far_68 ?_
              refine jv_iload6 dX5_far_70 ?_
              refine jv_iload7 dX5_far_72 ?_
              refine jv_v20 dX5_far_74 okX5_moves inX5_moves seX5_moves mlX5_227 (ci := 5) (T := TX5) (N := 35) rfl (mk hqG) hB (by decide) (Nat.le_of_ble_eq_true rfl) ?_
              refine jv_iload7 dX5_far_77 ?_
              refine jv_aload0 dX5_far_79 ?_
              refine jv_getR dX5_far_80 flX5_43 rfl (mk hT.g) (mr_place hT.g) ?_
              refine jv_iload6 dX5_far_83 ?_
              refine jv_ialdN dX5_far_85 (mk_place hT.g) (by omega) (by decide) (me_place hT.r hc) ?_
              refine jv_icmp_leN dX5_far_86 (tgt := 102) (by decide) (by omega) (by omega) (fun h86 => by omega) (fun h86 => ?_)
              refine jv_iload7 dX5_far_89 ?_
              refine jv_aload0 dX5_far_91 ?_
              refine jv_getR dX5_far_92 flX5_43 rfl (mk hT.g) (mr_place hT.g) ?_
              refine jv_iload6 dX5_far_95 ?_
              refine jv_ialdN dX5_far_97 (mk_place hT.g) (by omega) (by decide) (me_place hT.r hc) ?_
              refine jv_isubN dX5_far_98 (by omega) ?_
              refine jv_goto dX5_far_99 (tgt := 112) (by decide) ?_
              rw [show i - Y 2 c = ot_dist i (Y 2 c) from (by unfold ot_dist; rw [if_neg hle])]
              exact hj _
      · have ew : ot_fw Y k c o i = none := by unfold ot_fw; rw [if_neg hs]
        obtain ⟨G2, I2, J2, t8, t9, p1, p2, p3, p4, p5, hN⟩ := ih (i + 1) G3 I4b J3 acc (.ref q) (.int (nI (ot_dist i (Y 2 c)))) (by omega) (by omega) hT hl3 hx3 (fun r e => by cases e; exact .inl hqn) (fun r e => by cases e) (by rw [ot_fl, ew]; exact ea) h14
        refine ⟨G2, I2, J2, t8, t9, p1, p2, p3, p4, p5, fun r G4 I4 J4 hV => ?_⟩
        have hj : ∀ sv, jv_V 9 mX5_far 112 [.ref 64, .int (nI k), .int (nI a), .int (nI b), .int (ot_o acc), .int (nI who), .int (nI c), .int (nI i), .ref q, sv] [.int (nI (ot_dist i (Y 2 c)))] G3 I4b J3 r G4 I4 J4 := by
          intro sv
          refine jv_istore9 dX5_far_112 rfl ?_
          refine jv_aload8 dX5_far_114 ?_
          refine jv_iload1 dX5_far_116 ?_
          refine jv_iload2 dX5_far_117 ?_
          refine jv_iload3 dX5_far_118 ?_
          refine jv_v31 dX5_far_119 okX5_areIn inX5_areIn seX5_areIn mlX5_263 (ci := 5) (T := TX5) (N := 35) rfl (mk hqG) c2 (by decide) (Nat.le_of_ble_eq_true rfl) ?_
          refine jv_if_eqB dX5_far_122 (tgt := 143) (by decide) (fun h122 => ?_) (fun h122 => absurd (hsym.mp h122) hs)
          refine jv_iload4 dX5_far_143 ?_
          refine jv_istore4 dX5_far_145 rfl ?_
          refine jv_iinc7N dX5_far_147 rfl ?_
          refine jv_goto dX5_far_150 (tgt := 53) (by decide) ?_
          exact hN r G4 I4 J4 hV
        by_cases hle : i ≤ Y 2 c
        · refine jv_iload7 dX5_far_53 ?_
          refine jv_aload0 dX5_far_55 ?_
          refine jv_getI dX5_far_56 flX5_80 rfl (mk hM1.g) (mi_children hM1.r) ?_
          refine jv_icmp_geN dX5_far_59 (tgt := 153) (by decide) (by omega) (by omega) (fun hc59 => by omega) (fun hc59 => ?_)
          refine jv_aload0 dX5_far_62 ?_
          refine jv_callV (a := 64) (As := []) (rest := []) dX5_far_63 okX5_fresh inX5_fresh seX5_fresh mlX5_245 (ci := 5) (T := TX5) (N := 35) rfl (mk hM1.g) hFr (by decide) rfl rfl (Nat.le_of_ble_eq_true rfl) (.inr ⟨(ot_ow_r (by omega) (ot_ow_i (ot_ow_i (ot_ow_i (ot_ow_i (ot_ow_i (ot_ow_i (ot_ow_i (ot_ow_cons s8o (ot_ow_cons s9o ot_ow_nil)))))))))), ot_ow_nil, hFn⟩) ?_
          refine jv_astore8 dX5_far_66 rfl ?_
          refine jv_aload8 dX5_far_68 ?_
          refine jv_iload6 dX5_far_70 ?_
          refine jv_iload7 dX5_far_72 ?_
          refine jv_v20 dX5_far_74 okX5_moves inX5_moves seX5_moves mlX5_227 (ci := 5) (T := TX5) (N := 35) rfl (mk hqG) hB (by decide) (Nat.le_of_ble_eq_true rfl) ?_
          refine jv_iload7 dX5_far_77 ?_
          refine jv_aload0 dX5_far_79 ?_
          refine jv_getR dX5_far_80 flX5_43 rfl (mk hT.g) (mr_place hT.g) ?_
          refine jv_iload6 dX5_far_83 ?_
          refine jv_ialdN dX5_far_85 (mk_place hT.g) (by omega) (by decide) (me_place hT.r hc) ?_
          refine jv_icmp_leN dX5_far_86 (tgt := 102) (by decide) (by omega) (by omega) (fun h86 => ?_) (fun h86 => by omega)
          refine jv_aload0 dX5_far_102 ?_
          refine jv_getR dX5_far_103 flX5_43 rfl (mk hT.g) (mr_place hT.g) ?_
          refine jv_iload6 dX5_far_106 ?_
          refine jv_ialdN dX5_far_108 (mk_place hT.g) (by omega) (by decide) (me_place hT.r hc) ?_
          refine jv_iload7 dX5_far_109 ?_
          refine jv_isubN dX5_far_111 (by omega) ?_
          rw [show Y 2 c - i = ot_dist i (Y 2 c) from (by unfold ot_dist; rw [if_pos hle])]
          exact hj _
        · refine jv_iload7 dX5_far_53 ?_
          refine jv_aload0 dX5_far_55 ?_
          refine jv_getI dX5_far_56 flX5_80 rfl (mk hM1.g) (mi_children hM1.r) ?_
          refine jv_icmp_geN dX5_far_59 (tgt := 153) (by decide) (by omega) (by omega) (fun hc59 => by omega) (fun hc59 => ?_)
          refine jv_aload0 dX5_far_62 ?_
          refine jv_callV (a := 64) (As := []) (rest := []) dX5_far_63 okX5_fresh inX5_fresh seX5_fresh mlX5_245 (ci := 5) (T := TX5) (N := 35) rfl (mk hM1.g) hFr (by decide) rfl rfl (Nat.le_of_ble_eq_true rfl) (.inr ⟨(ot_ow_r (by omega) (ot_ow_i (ot_ow_i (ot_ow_i (ot_ow_i (ot_ow_i (ot_ow_i (ot_ow_i (ot_ow_cons s8o (ot_ow_cons s9o ot_ow_nil)))))))))), ot_ow_nil, hFn⟩) ?_
          refine jv_astore8 dX5_far_66 rfl ?_
          refine jv_aload8 dX5_far_68 ?_
          refine jv_iload6 dX5_far_70 ?_
          refine jv_iload7 dX5_far_72 ?_
          refine jv_v20 dX5_far_74 okX5_moves inX5_moves seX5_moves mlX5_227 (ci := 5) (T := TX5) (N := 35) rfl (mk hqG) hB (by decide) (Nat.le_of_ble_eq_true rfl) ?_
          refine jv_iload7 dX5_far_77 ?_
          refine jv_aload0 dX5_far_79 ?_
          refine jv_getR dX5_far_80 flX5_43 rfl (mk hT.g) (mr_place hT.g) ?_
          refine jv_iload6 dX5_far_83 ?_
          refine jv_ialdN dX5_far_85 (mk_place hT.g) (by omega) (by decide) (me_place hT.r hc) ?_
          refine jv_icmp_leN dX5_far_86 (tgt := 102) (by decide) (by omega) (by omega) (fun h86 => by omega) (fun h86 => ?_)
          refine jv_iload7 dX5_far_89 ?_
          refine jv_aload0 dX5_far_91 ?_
          refine jv_getR dX5_far_92 flX5_43 rfl (mk hT.g) (mr_place hT.g) ?_
          refine jv_iload6 dX5_far_95 ?_
          refine jv_ialdN dX5_far_97 (mk_place hT.g) (by omega) (by decide) (me_place hT.r hc) ?_
          refine jv_isubN dX5_far_98 (by omega) ?_
          refine jv_goto dX5_far_99 (tgt := 112) (by decide) ?_
          rw [show i - Y 2 c = ot_dist i (Y 2 c) from (by unfold ot_dist; rw [if_neg hle])]
          exact hj _
    · refine ⟨G1, A, J1, s8, s9, hM1, hl, hx, s8o, s9o, fun r G4 I4 J4 hV => ?_⟩
      refine jv_iload7 dX5_far_53 ?_
      refine jv_aload0 dX5_far_55 ?_
      refine jv_getI dX5_far_56 flX5_80 rfl (mk hM1.g) (mi_children hM1.r) ?_
      refine jv_icmp_geN dX5_far_59 (tgt := 153) (by decide) (by omega) (by omega) (fun hc59 => ?_) (fun hc59 => by omega)
      rw [show i = Y 10 0 by omega] at ea ⊢
      rw [ea]
      exact hV
