set_option maxRecDepth 20000 in
/-! ===== far: the reference ===== -/
theorem om_farL {G : jv_Gr} {I : jv_I} {J : jv_J} {Y Z : ot_Y} {E : ot_E} {K : Option ot_Y} (h : ot_M G I J Y Z E K) {k a b c o who : Nat} (hk : k < Y 10 1) (ha : a < Y 10 0) (hb : b < Y 10 0) (hc : c < Y 10 0) (hco : (c = a ∧ o = b) ∨ (c = b ∧ o = a)) (acc0 : Option Nat) : ∀ (m i : Nat) (G1 : jv_Gr) (A : jv_I) (J1 : jv_J) (acc : Option Nat) (s8 s9 : Value), Y 10 0 + 1 ≤ i + m → i ≤ Y 10 0 → ot_M G1 A J1 Y Z E K → ot_lo I A J J1 → ot_gx G G1 → (∀ r : Nat, s8 = .ref r → r ≤ jv_n G1 ∨ 1000000 ≤ r) → (∀ r : Nat, s9 = .ref r → r ≤ jv_n G1 ∨ 1000000 ≤ r) → acc = ot_fl (ot_fw Y k c o) i acc0 → (∀ e, acc = some e → e ≤ 14) → ∃ (G2 : jv_Gr) (I2 : jv_I) (J2 : jv_J) (t8 t9 : Value), ot_M G2 I2 J2 Y Z E K ∧ ot_lo I I2 J J2 ∧ ot_gx G G2 ∧ (∀ r : Nat, t8 = .ref r → r ≤ jv_n G2 ∨ 1000000 ≤ r) ∧ (∀ r : Nat, t9 = .ref r → r ≤ jv_n G2 ∨ 1000000 ≤ r) ∧ ∀ (r : Option Value) (G4 : jv_Gr) (I4 : jv_I) (J4 : jv_J), jv_V 9 mX5_far 153 [.ref 64, .int (nI k), .int (nI a), .int (nI b), .int (ot_o (ot_fl (ot_fw Y k c o) (Y 10 0) acc0)), .int (nI who), .int (nI c), .int (nI (Y 10 0)), t8, t9] [] G2 I2 J2 r G4 I4 J4 → jv_V 9 mX5_far 53 [.ref 64, .int (nI k), .int (nI a), .int (nI b), .int (ot_o acc), .int (nI who), .int (nI c), .int (nI i), s8, s9] [] G1 A J1 r G4 I4 J4 := by
  have bn := yw_n h.w
  have bc := yw_c h.w
  have bw := yw_w h.w
  intro m
  induction m with
  | zero => intro i G1 A J1 acc s8 s9 b1 b2; omega
  | succ m ih =>
    intro i G1 A J1 acc s8 s9 b1 b2 hM1 hl hx s8o s9o ea h14
    by_cases hi : i < Y 10 0
    · obtain ⟨G3, I3, J3, q, hFr, hM, hq, hqq, hqG, hqR, hql, hqx⟩ := om_fresh hM1
      have hFn : jv_n G3 < 1000000 := by have := hM.n; unfold ot_NM at this; omega
      have hGn := ot_M_n hM1
      obtain ⟨I4b, hB, hR4, hF4⟩ := om_moves (J := J3) hqG hqR h.w hc hi
      have hf : ot_fr I3 I4b q (q + 29) := fun u hu => hF4 u (by omega)
      have hT := ot_M_try hM hq (by omega) hf (fun _ _ => rfl)
      have hl3 := (hl.tr hql).tr (ot_lo.fr (J := J3) hf (by omega))
      have hx3 := hx.tr hqx
      have hqn := (jv_k_in (mk hqG) (by decide)).2
      have hW4 := ot_YW_move h.w hc hi
      have hpl := (yw_child h.w hc).2.2.2
      have hd14 := ot_dist_le (show i ≤ 14 by omega) (show Y 2 c ≤ 14 by omega)
      have c2 := om_areIn (J := J3) hqG hR4 hW4 (k := k) (a := a) (b := b) hk ha hb
      have hsym : ot_sideOf (ot_move Y c i) k a = ot_sideOf (ot_move Y c i) k b ↔ ot_sideOf (ot_move Y c i) k c = ot_sideOf (ot_move Y c i) k o := by
        rcases hco with ⟨r1, r2⟩ | ⟨r1, r2⟩
        · rw [r1, r2]
        · rw [r1, r2]; exact ⟨fun z => z.symm, fun z => z.symm⟩
      by_cases hs : ot_sideOf (ot_move Y c i) k c = ot_sideOf (ot_move Y c i) k o
      · have ew : ot_fw Y k c o i = some (ot_dist i (Y 2 c)) := by unfold ot_fw; rw [if_pos hs]
        cases acc with
        | none =>
          obtain ⟨G2, I2, J2, t8, t9, p1, p2, p3, p4, p5, hN⟩ := ih (i + 1) G3 I4b J3 (some (ot_dist i (Y 2 c))) (.ref q) (.int (nI (ot_dist i (Y 2 c)))) (by omega) (by omega) hT hl3 hx3 (fun r e => by cases e; exact .inl hqn) (fun r e => by cases e) (by rw [ot_fl, ew, ← ea]) (fun e he => by cases he; exact hd14)
          refine ⟨G2, I2, J2, t8, t9, p1, p2, p3, p4, p5, fun r G4 I4 J4 hV => ?_⟩
          have hj : ∀ sv, jv_V 9 mX5_far 112 [.ref 64, .int (nI k), .int (nI a), .int (nI b), .int (ot_o none), .int (nI who), .int (nI c), .int (nI i), .ref q, sv] [.int (nI (ot_dist i (Y 2 c)))] G3 I4b J3 r G4 I4 J4 := by
            intro sv
            refine jv_istore9 dX5_far_112 rfl ?_
            refine jv_aload8 dX5_far_114 ?_
            refine jv_iload1 dX5_far_116 ?_
            refine jv_iload2 dX5_far_117 ?_
            refine jv_iload3 dX5_far_118 ?_
            refine jv_v31 dX5_far_119 okX5_areIn inX5_areIn seX5_areIn mlX5_263 (ci := 5) (T := TX5) (N := 35) rfl (mk hqG) c2 (by decide) (Nat.le_of_ble_eq_true rfl) ?_
            refine jv_if_eqB dX5_far_122 (tgt := 143) (by decide) (fun h122 => absurd (hsym.mpr hs) h122) (fun h122 => ?_)
            refine jv_iload4 dX5_far_125 ?_
            refine jv_iconst dX5_far_127 jv_c_iconst_m1 ?_
            refine jv_icmp_eq dX5_far_128 (tgt := 138) (by decide) (fun h128 => ?_) (fun h128 => absurd rfl h128)
            refine jv_iload9 dX5_far_138 ?_
            refine jv_goto dX5_far_140 (tgt := 145) (by decide) ?_
            refine jv_istore4 dX5_far_145 rfl ?_
            refine jv_iinc7N dX5_far_147 rfl ?_
            refine jv_goto dX5_far_150 (tgt := 53) (by decide) ?_
            exact hN r G4 I4 J4 hV
          by_cases hle : i ≤ Y 2 c
          · refine jv_iload7 dX5_far_53 ?_
            refine jv_aload0 dX5_far_55 ?_
            refine jv_getI dX5_far_56 flX5_80 rfl (mk hM1.g) (mi_children hM1.r) ?_
            refine jv_icmp_geN dX5_far_59 (tgt := 153) (by decide) (by omega) (by omega) (fun hc59 => by omega) (fun hc59 => ?_)
            refine jv_aload0 dX5_far_62 ?_
            refine jv_callV (a := 64) (As := []) (rest := []) dX5_far_63 okX5_fresh inX5_fresh seX5_fresh mlX5_245 (ci := 5) (T := TX5) (N := 35) rfl (mk hM1.g) hFr (by decide) rfl rfl (Nat.le_of_ble_eq_true rfl) (.inr ⟨(ot_ow_r (by omega) (ot_ow_i (ot_ow_i (ot_ow_i (ot_ow_i (ot_ow_i (ot_ow_i (ot_ow_i (ot_ow_cons s8o (ot_ow_cons s9o ot_ow_nil)))))))))), ot_ow_nil, hFn⟩) ?_
            refine jv_astore8 dX5_far_66 rfl ?_
            refine jv_aload8 dX5_far_68 ?_
            refine jv_iload6 dX5_far_70 ?_
            refine jv_iload7 dX5_far_72 ?_
            refine jv_v20 dX5_far_74 okX5_moves inX5_moves seX5_moves mlX5_227 (ci := 5) (T := TX5) (N := 35) rfl (mk hqG) hB (by decide) (Nat.le_of_ble_eq_true rfl) ?_
            refine jv_iload7 dX5_far_77 ?_
            refine jv_aload0 dX5_far_79 ?_
            refine jv_getR dX5_far_80 flX5_43 rfl (mk hT.g) (mr_place hT.g) ?_
            refine jv_iload6 dX5_far_83 ?_
            refine jv_ialdN dX5_far_85 (mk_place hT.g) (by omega) (by decide) (me_place hT.r hc) ?_
            refine jv_icmp_leN dX5_far_86 (tgt := 102) (by decide) (by omega) (by omega) (fun h86 => ?_) (fun h86 => by omega)
            refine jv_aload0 dX5_far_102 ?_
            refine jv_getR dX5_far_103 flX5_43 rfl (mk hT.g) (mr_place hT.g) ?_
            refine jv_iload6 dX5_far_106 ?_
            refine jv_ialdN dX5_far_108 (mk_place hT.g) (by omega) (by decide) (me_place hT.r hc) ?_
            refine jv_iload7 dX5_far_109 ?_
            refine jv_isubN dX5_far_111 (by omega) ?_
            rw [show Y 2 c - i = ot_dist i (Y 2 c) from (by unfold ot_dist; rw [if_pos hle])]
            exact hj _
          · refine jv_iload7 dX5_far_53 ?_
            refine jv_aload0 dX5_far_55 ?_
            refine jv_getI dX5_far_56 flX5_80 rfl (mk hM1.g) (mi_children hM1.r) ?_
            refine jv_icmp_geN dX5_far_59 (tgt := 153) (by decide) (by omega) (by omega) (fun hc59 => by omega) (fun hc59 => ?_)
            refine jv_aload0 dX5_far_62 ?_
            refine jv_callV (a := 64) (As := []) (rest := []) dX5_far_63 okX5_fresh inX5_fresh seX5_fresh mlX5_245 (ci := 5) (T := TX5) (N := 35) rfl (mk hM1.g) hFr (by decide) rfl rfl (Nat.le_of_ble_eq_true rfl) (.inr ⟨(ot_ow_r (by omega) (ot_ow_i (ot_ow_i (ot_ow_i (ot_ow_i (ot_ow_i (ot_ow_i (ot_ow_i (ot_ow_cons s8o (ot_ow_cons s9o ot_ow_nil)))))))))), ot_ow_nil, hFn⟩) ?_
            refine jv_astore8 dX5_far_66 rfl ?_
            refine jv_aload8 dX5_far_68 ?_
            refine jv_iload6 dX5_far_70 ?_
            refine jv_iload7 dX5_far_72 ?_
            refine jv_v20 dX5_far_74 okX5_moves inX5_moves seX5_moves mlX5_227 (ci := 5) (T := TX5) (N := 35) rfl (mk hqG) hB (by decide) (Nat.le_of_ble_eq_true rfl) ?_
            refine jv_iload7 dX5_far_77 ?_
            refine jv_aload0 dX5_far_79 ?_
            refine jv_getR dX5_far_80 flX5_43 rfl (mk hT.g) (mr_place hT.g) ?_
            refine jv_iload6 dX5_far_83 ?_
            refine jv_ialdN dX5_far_85 (mk_place hT.g) (by omega) (by decide) (me_place hT.r hc) ?_
            refine jv_icmp_leN dX5_far_86 (tgt := 102) (by decide) (by omega) (by omega) (fun h86 => by omega) (fun h86 => ?_)
            refine jv_iload7 dX5_far_89 ?_
            refine jv_aload0 dX5_far_91 ?_
            refine jv_getR dX5_far_92 flX5_43 rfl (mk hT.g) (mr_place hT.g) ?_
            refine jv_iload6 dX5_far_95 ?_
            refine jv_ialdN dX5_far_97 (mk_place hT.g) (by omega) (by decide) (me_place hT.r hc) ?_
            refine jv_isubN dX5_far_98 (by omega) ?_
            refine jv_goto dX5_far_99 (tgt := 112) (by decide) ?_
            rw [show i - Y 2 c = ot_dist i (Y 2 c) from (by unfold ot_dist; rw [if_neg hle])]
            exact hj _
        | some e =>
          have he := h14 e rfl
          by_cases hlt : ot_dist i (Y 2 c) < e
          · obtain ⟨G2, I2, J2, t8, t9, p1, p2, p3, p4, p5, hN⟩ := ih (i + 1) G3 I4b J3 (some (ot_dist i (Y 2 c))) (.ref q) (.int (nI (ot_dist i (Y 2 c)))) (by omega) (by omega) hT hl3 hx3 (fun r e => by cases e; exact .inl hqn) (fun r e => by cases e) (by rw [ot_fl, ew, ← ea]; dsimp only; rw [if_pos hlt]) (fun e he => by cases he; exact hd14)
            refine ⟨G2, I2, J2, t8, t9, p1, p2, p3, p4, p5, fun r G4 I4 J4 hV => ?_⟩
            have hj : ∀ sv, jv_V 9 mX5_far 112 [.ref 64, .int (nI k), .int (nI a), .int (nI b), .int (ot_o (some e)), .int (nI who), .int (nI c), .int (nI i), .ref q, sv] [.int (nI (ot_dist i (Y 2 c)))] G3 I4b J3 r G4 I4 J4 := by
              intro sv
              refine jv_istore9 dX5_far_112 rfl ?_
              refine jv_aload8 dX5_far_114 ?_
              refine jv_iload1 dX5_far_116 ?_
              refine jv_iload2 dX5_far_117 ?_
              refine jv_iload3 dX5_far_118 ?_
              refine jv_v31 dX5_far_119 okX5_areIn inX5_areIn seX5_areIn mlX5_263 (ci := 5) (T := TX5) (N := 35) rfl (mk hqG) c2 (by decide) (Nat.le_of_ble_eq_true rfl) ?_
              refine jv_if_eqB dX5_far_122 (tgt := 143) (by decide) (fun h122 => absurd (hsym.mpr hs) h122) (fun h122 => ?_)
              refine jv_iload4 dX5_far_125 ?_
              refine jv_iconst dX5_far_127 jv_c_iconst_m1 ?_
              refine jv_icmp_eq dX5_far_128 (tgt := 138) (by decide) (fun h128 => absurd h128 (ot_nI_n1 (by omega))) (fun h128 => ?_)
              refine jv_iload9 dX5_far_131 ?_
              refine jv_iload4 dX5_far_133 ?_
              refine jv_icmp_geN dX5_far_135 (tgt := 143) (by decide) (by omega) (by omega) (fun h135 => by omega) (fun h135 => ?_)
              refine jv_iload9 dX5_far_138 ?_
              refine jv_goto dX5_far_140 (tgt := 145) (by decide) ?_
              refine jv_istore4 dX5_far_145 rfl ?_
              refine jv_iinc7N dX5_far_147 rfl ?_
              refine jv_goto dX5_far_150 (tgt := 53) (by decide) ?_
              exact hN r G4 I4 J4 hV
            by_cases hle : i ≤ Y 2 c
            · refine jv_iload7 dX5_far_53 ?_
              refine jv_aload0 dX5_far_55 ?_
              refine jv_getI dX5_far_56 flX5_80 rfl (mk hM1.g) (mi_children hM1.r) ?_
              refine jv_icmp_geN dX5_far_59 (tgt := 153) (by decide) (by omega) (by omega) (fun hc59 => by omega) (fun hc59 => ?_)
              refine jv_aload0 dX5_far_62 ?_
              refine jv_callV (a := 64) (As := []) (rest := []) dX5_far_63 okX5_fresh inX5_fresh seX5_fresh mlX5_245 (ci := 5) (T := TX5) (N := 35) rfl (mk hM1.g) hFr (by decide) rfl rfl (Nat.le_of_ble_eq_true rfl) (.inr ⟨(ot_ow_r (by omega) (ot_ow_i (ot_ow_i (ot_ow_i (ot_ow_i (ot_ow_i (ot_ow_i (ot_ow_i (ot_ow_cons s8o (ot_ow_cons s9o ot_ow_nil)))))))))), ot_ow_nil, hFn⟩) ?_
              refine jv_astore8 dX5_far_66 rfl ?_
              refine jv_aload8 dX5_far_68 ?_
              refine jv_iload6 dX5_far_70 ?_
              refine jv_iload7 dX5_far_72 ?_
              refine jv_v20 dX5_far_74 okX5_moves inX5_moves seX5_moves mlX5_227 (ci := 5) (T := TX5) (N := 35) rfl (mk hqG) hB (by decide) (Nat.le_of_ble_eq_true rfl) ?_
              refine jv_iload7 dX5_far_77 ?_
              refine jv_aload0 dX5_far_79 ?_
              refine jv_getR dX5_far_80 flX5_43 rfl (mk hT.g) (mr_place hT.g) ?_
              refine jv_iload6 dX5_far_83 ?_
              refine jv_ialdN dX5_far_85 (mk_place hT.g) (by omega) (by decide) (me_place hT.r hc) ?_
              refine jv_icmp_leN dX5_far_86 (tgt := 102) (by decide) (by omega) (by omega) (fun h86 => ?_) (fun h86 => by omega)
              refine jv_aload0 dX5_far_102 ?_
              refine jv_getR dX5_far_103 flX5_43 rfl (mk hT.g) (mr_place hT.g) ?_
              refine jv_iload6 dX5_far_106 ?_
              refine jv_ialdN dX5_far_108 (mk_place hT.g) (by omega) (by decide) (me_place hT.r hc) ?_
              refine jv_iload7 dX5_far_109 ?_
              refine jv_isubN dX5_far_111 (by omega) ?_
              rw [show Y 2 c - i = ot_dist i (Y 2 c) from (by unfold ot_dist; rw [if_pos hle])]
              exact hj _
            · refine jv_iload7 dX5_far_53 ?_
              refine jv_aload0 dX5_far_55 ?_
              refine jv_getI dX5_far_56 flX5_80 rfl (mk hM1.g) (mi_children hM1.r) ?_
              refine jv_icmp_geN dX5_far_59 (tgt := 153) (by decide) (by omega) (by omega) (fun hc59 => by omega) (fun hc59 => ?_)
              refine jv_aload0 dX5_far_62 ?_
              refine jv_callV (a := 64) (As := []) (rest := []) dX5_far_63 okX5_fresh inX5_fresh seX5_fresh mlX5_245 (ci := 5) (T := TX5) (N := 35) rfl (mk hM1.g) hFr (by decide) rfl rfl (Nat.le_of_ble_eq_true rfl) (.inr ⟨(ot_ow_r (by omega) (ot_ow_i (ot_ow_i (ot_ow_i (ot_ow_i (ot_ow_i (ot_ow_i (ot_ow_i (ot_ow_cons s8o (ot_ow_cons s9o ot_ow_nil)))))))))), ot_ow_nil, hFn⟩) ?_
              refine jv_astore8 dX5_far_66 rfl ?_
              refine jv_aload8 dX5_far_68 ?_
              refine jv_iload6 dX5_far_70 ?_
              refine jv_iload7 dX5_far_72 ?_
              refine jv_v20 dX5_far_74 okX5_moves inX5_moves seX5_moves mlX5_227 (ci := 5) (T := TX5) (N := 35) rfl (mk hqG) hB (by decide) (Nat.le_of_ble_eq_true rfl) ?_
              refine jv_iload7 dX5_far_77 ?_
              refine jv_aload0 dX5_far_79 ?_
              refine jv_getR dX5_far_80 flX5_43 rfl (mk hT.g) (mr_place hT.g) ?_
              refine jv_iload6 dX5_far_83 ?_
              refine jv_ialdN dX5_far_85 (mk_place hT.g) (by omega) (by decide) (me_place hT.r hc) ?_
              refine jv_icmp_leN dX5_far_86 (tgt := 102) (by decide) (by omega) (by omega) (fun h86 => by omega) (fun h86 => ?_)
              refine jv_iload7 dX5_far_89 ?_
              refine jv_aload0 dX5_far_91 ?_
              refine jv_getR dX5_far_92 flX5_43 rfl (mk hT.g) (mr_place hT.g) ?_
              refine jv_iload6 dX5_far_95 ?_
              refine jv_ialdN dX5_far_97 (mk_place hT.g) (by omega) (by decide) (me_place hT.r hc) ?_
              refine jv_isubN dX5_far_98 (by omega) ?_
              refine jv_goto dX5_far_99 (tgt := 112) (by decide) ?_
              rw [show i - Y 2 c = ot_dist i (Y 2 c) from (by unfold ot_dist; rw [if_neg hle])]
              exact hj _
          · obtain ⟨G2, I2, J2, t8, t9, p1, p2, p3, p4, p5, hN⟩ := ih (i + 1) G3 I4b J3 (some e) (.ref q) (.int (nI (ot_dist i (Y 2 c)))) (by omega) (by omega) hT hl3 hx3 (fun r e => by cases e; exact .inl hqn) (fun r e => by cases e) (by rw [ot_fl, ew, ← ea]; dsimp only; rw [if_neg hlt]) h14
            refine ⟨G2, I2, J2, t8, t9, p1, p2, p3, p4, p5, fun r G4 I4 J4 hV => ?_⟩
            have hj : ∀ sv, jv_V 9 mX5_far 112 [.ref 64, .int (nI k), .int (nI a), .int (nI b), .int (ot_o (some e)), .int (nI who), .int (nI c), .int (nI i), .ref q, sv] [.int (nI (ot_dist i (Y 2 c)))] G3 I4b J3 r G4 I4 J4 := by
              intro sv
              refine jv_istore9 dX5_far_112 rfl ?_
              refine jv_aload8 dX5_far_114 ?_
              refine jv_iload1 dX5_far_116 ?_
              refine jv_iload2 dX5_far_117 ?_
              refine jv_iload3 dX5_far_118 ?_
              refine jv_v31 dX5_far_119 okX5_areIn inX5_areIn seX5_areIn mlX5_263 (ci := 5) (T := TX5) (N := 35) rfl (mk hqG) c2 (by decide) (Nat.le_of_ble_eq_true rfl) ?_
              refine jv_if_eqB dX5_far_122 (tgt := 143) (by decide) (fun h122 => absurd (hsym.mpr hs) h122) (fun h122 => ?_)
              refine jv_iload4 dX5_far_125 ?_
              refine jv_iconst dX5_far_127 jv_c_iconst_m1 ?_
              refine jv_icmp_eq dX5_far_128 (tgt := 138) (by decide) (fun h128 => absurd h128 (ot_nI_n1 (by omega))) (fun h128 => ?_)
              refine jv_iload9 dX5_far_131 ?_
              refine jv_iload4 dX5_far_133 ?_
              refine jv_icmp_geN dX5_far_135 (tgt := 143) (by decide) (by omega) (by omega) (fun h135 => ?_) (fun h135 => by omega)
              refine jv_iload4 dX5_far_143 ?_
              refine jv_istore4 dX5_far_145 rfl ?_
              refine jv_iinc7N dX5_far_147 rfl ?_
              refine jv_goto dX5_far_150 (tgt := 53) (by decide) ?_
              exact hN r G4 I4 J4 hV
            by_cases hle : i ≤ Y 2 c
            · refine jv_iload7 dX5_far_53 ?_
              refine jv_aload0 dX5_far_55 ?_
              refine jv_getI dX5_far_56 flX5_80 rfl (mk hM1.g) (mi_children hM1.r) ?_
              refine jv_icmp_geN dX5_far_59 (tgt := 153) (by decide) (by omega) (by omega) (fun hc59 => by omega) (fun hc59 => ?_)
              refine jv_aload0 dX5_far_62 ?_
              refine jv_callV (a := 64) (As := []) (rest := []) dX5_far_63 okX5_fresh inX5_fresh seX5_fresh mlX5_245 (ci := 5) (T := TX5) (N := 35) rfl (mk hM1.g) hFr (by decide) rfl rfl (Nat.le_of_ble_eq_true rfl) (.inr ⟨(ot_ow_r (by omega) (ot_ow_i (ot_ow_i (ot_ow_i (ot_ow_i (ot_ow_i (ot_ow_i (ot_ow_i (ot_ow_cons s8o (ot_ow_cons s9o ot_ow_nil)))))))))), ot_ow_nil, hFn⟩) ?_
              refine jv_astore8 dX5_far_66 rfl ?_
              refine jv_aload8 dX5_far_68 ?_
              refine jv_iload6 dX5_far_70 ?_
              refine jv_iload7 dX5_far_72 ?_
              refine jv_v20 dX5_far_74 okX5_moves inX5_moves seX5_moves mlX5_227 (ci := 5) (T := TX5) (N := 35) rfl (mk hqG) hB (by decide) (Nat.le_of_ble_eq_true rfl) ?_
              refine jv_iload7 dX5_far_77 ?_
              refine jv_aload0 dX5_far_79 ?_
              refine jv_getR dX5_far_80 flX5_43 rfl (mk hT.g) (mr_place hT.g) ?_
              refine jv_iload6 dX5_far_83 ?_
              refine jv_ialdN dX5_far_85 (mk_place hT.g) (by omega) (by decide) (me_place hT.r hc) ?_
              refine jv_icmp_leN dX5_far_86 (tgt := 102) (by decide) (by omega) (by omega) (fun h86 => ?_) (fun h86 => by omega)
              refine jv_aload0 dX5_far_102 ?_
              refine jv_getR dX5_far_103 flX5_43 rfl (mk hT.g) (mr_place hT.g) ?_
              refine jv_iload6 dX5_far_106 ?_
              refine jv_ialdN dX5_far_108 (mk_place hT.g) (by omega) (by decide) (me_place hT.r hc) ?_
              refine jv_iload7 dX5_far_109 ?_
              refine jv_isubN dX5_far_111 (by omega) ?_
              rw [show Y 2 c - i = ot_dist i (Y 2 c) from (by unfold ot_dist; rw [if_pos hle])]
              exact hj _
            · refine jv_iload7 dX5_far_53 ?_
              refine jv_aload0 dX5_far_55 ?_
              refine jv_getI dX5_far_56 flX5_80 rfl (mk hM1.g) (mi_children hM1.r) ?_
              refine jv_icmp_geN dX5_far_59 (tgt := 153) (by decide) (by omega) (by omega) (fun hc59 => by omega) (fun hc59 => ?_)
              refine jv_aload0 dX5_far_62 ?_
              refine jv_callV (a := 64) (As := []) (rest := []) dX5_far_63 okX5_fresh inX5_fresh seX5_fresh mlX5_245 (ci := 5) (T := TX5) (N := 35) rfl (mk hM1.g) hFr (by decide) rfl rfl (Nat.le_of_ble_eq_true rfl) (.inr ⟨(ot_ow_r (by omega) (ot_ow_i (ot_ow_i (ot_ow_i (ot_ow_i (ot_ow_i (ot_ow_i (ot_ow_i (ot_ow_cons s8o (ot_ow_cons s9o ot_ow_nil)))))))))), ot_ow_nil, hFn⟩) ?_
              refine jv_astore8 dX5_far_66 rfl ?_
              refine jv_aload8 dX5_far_68 ?_
              refine jv_iload6 dX5_far_70 ?_
              refine jv_iload7 dX5_far_72 ?_
              refine jv_v20 dX5_far_74 okX5_moves inX5_moves seX5_moves mlX5_227 (ci := 5) (T := TX5) (N := 35) rfl (mk hqG) hB (by decide) (Nat.le_of_ble_eq_true rfl) ?_
              refine jv_iload7 dX5_far_77 ?_
              refine jv_aload0 dX5_far_79 ?_
              refine jv_getR dX5_far_80 flX5_43 rfl (mk hT.g) (mr_place hT.g) ?_
              refine jv_iload6 dX5_far_83 ?_
              refine jv_ialdN dX5_far_85 (mk_place hT.g) (by omega) (by decide) (me_place hT.r hc) ?_
              refine jv_icmp_leN dX5_far_86 (tgt := 102) (by decide) (by omega) (by omega) (fun h86 => by omega) (fun h86 => ?_)
              refine jv_iload7 dX5_far_89 ?_
              refine jv_aload0 dX5_far_91 ?_
              refine jv_getR dX5_far_92 flX5_43 rfl (mk hT.g) (mr_place hT.g) ?_
              refine jv_iload6 dX5_far_95 ?_
              refine jv_ialdN dX5_far_97 (mk_place hT.g) (by omega) (by decide) (me_place hT.r hc) ?_
              refine jv_isubN dX5_far_98 (by omega) ?_
              refine jv_goto dX5_far_99 (tgt := 112) (by decide) ?_
              rw [show i - Y 2 c = ot_dist i (Y 2 c) from (by unfold ot_dist; rw [if_neg hle])]
              exact hj _
      · have ew : ot_fw Y k c o i = none := by unfold ot_fw; rw [if_neg hs]
        obtain ⟨G2, I2, J2, t8, t9, p1, p2, p3, p4, p5, hN⟩ := ih (i + 1) G3 I4b J3 acc (.ref q) (.int (nI (ot_dist i (Y 2 c)))) (by omega) (by omega) hT hl3 hx3 (fun r e => by cases e; exact .inl hqn) (fun r e => by cases e) (by rw [ot_fl, ew]; exact ea) h14
        refine ⟨G2, I2, J2, t8, t9, p1, p2, p3, p4, p5, fun r G4 I4 J4 hV => ?_⟩
        have hj : ∀ sv, jv_V 9 mX5_far 112 [.ref 64, .int (nI k), .int (nI a), .int (nI b), .int (ot_o acc), .int (nI who), .int (nI c), .int (nI i), .ref q, sv] [.int (nI (ot_dist i (Y 2 c)))] G3 I4b J3 r G4 I4 J4 := by
          intro sv
          refine jv_istore9 dX5_far_112 rfl ?_
          refine jv_aload8 dX5_far_114 ?_
          refine jv_iload1 dX5_far_116 ?_
          refine jv_iload2 dX5_far_117 ?_
          refine jv_iload3 dX5_far_118 ?_
          refine jv_v31 dX5_far_119 okX5_areIn inX5_areIn seX5_areIn mlX5_263 (ci := 5) (T := TX5) (N := 35) rfl (mk hqG) c2 (by decide) (Nat.le_of_ble_eq_true rfl) ?_
          refine jv_if_eqB dX5_far_122 (tgt := 143) (by decide) (fun h122 => ?_) (fun h122 => absurd (hsym.mp h122) hs)
          refine jv_iload4 dX5_far_143 ?_
          refine jv_istore4 dX5_far_145 rfl ?_
          refine jv_iinc7N dX5_far_147 rfl ?_
          refine jv_goto dX5_far_150 (tgt := 53) (by decide) ?_
          exact hN r G4 I4 J4 hV
        by_cases hle : i ≤ Y 2 c
        · refine jv_iload7 dX5_far_53 ?_
          refine jv_aload0 dX5_far_55 ?_
          refine jv_getI dX5_far_56 flX5_80 rfl (mk hM1.g) (mi_children hM1.r) ?_
          refine jv_icmp_geN dX5_far_59 (tgt := 153) (by decide) (by omega) (by omega) (fun hc59 => by omega) (fun hc59 => ?_)
          refine jv_aload0 dX5_far_62 ?_
          refine jv_callV (a := 64) (As := []) (rest := []) dX5_far_63 okX5_fresh inX5_fresh seX5_fresh mlX5_245 (ci := 5) (T := TX5) (N := 35) rfl (mk hM1.g) hFr (by decide) rfl rfl (Nat.le_of_ble_eq_true rfl) (.inr ⟨(ot_ow_r (by omega) (ot_ow_i (ot_ow_i (ot_ow_i (ot_ow_i (ot_ow_i (ot_ow_i (ot_ow_i (ot_ow_cons s8o (ot_ow_cons s9o ot_ow_nil)))))))))), ot_ow_nil, hFn⟩) ?_
          refine jv_astore8 dX5_far_66 rfl ?_
          refine jv_aload8 dX5_far_68 ?_
          refine jv_iload6 dX5_far_70 ?_
          refine jv_iload7 dX5_far_72 ?_
          refine jv_v20 dX5_far_74 okX5_moves inX5_moves seX5_moves mlX5_227 (ci := 5) (T := TX5) (N := 35) rfl (mk hqG) hB (by decide) (Nat.le_of_ble_eq_true rfl) ?_
          refine jv_iload7 dX5_far_77 ?_
          refine jv_aload0 dX5_far_79 ?_
          refine jv_getR dX5_far_80 flX5_43 rfl (mk hT.g) (mr_place hT.g) ?_
          refine jv_iload6 dX5_far_83 ?_
          refine jv_ialdN dX5_far_85 (mk_place hT.g) (by omega) (by decide) (me_place hT.r hc) ?_
          refine jv_icmp_leN dX5_far_86 (tgt := 102) (by decide) (by omega) (by omega) (fun h86 => ?_) (fun h86 => by omega)
          refine jv_aload0 dX5_far_102 ?_
          refine jv_getR dX5_far_103 flX5_43 rfl (mk hT.g) (mr_place hT.g) ?_
          refine jv_iload6 dX5_far_106 ?_
          refine jv_ialdN dX5_far_108 (mk_place hT.g) (by omega) (by decide) (me_place hT.r hc) ?_
          refine jv_iload7 dX5_far_109 ?_
          refine jv_isubN dX5_far_111 (by omega) ?_
          rw [show Y 2 c - i = ot_dist i (Y 2 c) from (by unfold ot_dist; rw [if_pos hle])]
          exact hj _
        · refine jv_iload7 dX5_far_53 ?_
          refine jv_aload0 dX5_far_55 ?_
          refine jv_getI dX5_far_56 flX5_80 rfl (mk hM1.g) (mi_children hM1.r) ?_
          refine jv_icmp_geN dX5_far_59 (tgt := 153) (by decide) (by omega) (by omega) (fun hc59 => by omega) (fun hc59 => ?_)
          refine jv_aload0 dX5_far_62 ?_
          refine jv_callV (a := 64) (As := []) (rest := []) dX5_far_63 okX5_fresh inX5_fresh seX5_fresh mlX5_245 (ci := 5) (T := TX5) (N := 35) rfl (mk hM1.g) hFr (by decide) rfl rfl (Nat.le_of_ble_eq_true rfl) (.inr ⟨(ot_ow_r (by omega) (ot_ow_i (ot_ow_i (ot_ow_i (ot_ow_i (ot_ow_i (ot_ow_i (ot_ow_i (ot_ow_cons s8o (ot_ow_cons s9o ot_ow_nil)))))))))), ot_ow_nil, hFn⟩) ?_
          refine jv_astore8 dX5_far_66 rfl ?_
          refine jv_aload8 dX5_far_68 ?_
          refine jv_iload6 dX5_far_70 ?_
          refine jv_iload7 dX5_far_72 ?_
          refine jv_v20 dX5_far_74 okX5_moves inX5_moves seX5_moves mlX5_227 (ci := 5) (T := TX5) (N := 35) rfl (mk hqG) hB (by decide) (Nat.le_of_ble_eq_true rfl) ?_
          refine jv_iload7 dX5_far_77 ?_
          refine jv_aload0 dX5_far_79 ?_
          refine jv_getR dX5_far_80 flX5_43 rfl (mk hT.g) (mr_place hT.g) ?_
          refine jv_iload6 dX5_far_83 ?_
          refine jv_ialdN dX5_far_85 (mk_place hT.g) (by omega) (by decide) (me_place hT.r hc) ?_
          refine jv_icmp_leN dX5_far_86 (tgt := 102) (by decide) (by omega) (by omega) (fun h86 => by omega) (fun h86 => ?_)
          refine jv_iload7 dX5_far_89 ?_
          refine jv_aload0 dX5_far_91 ?_
          refine jv_getR dX5_far_92 flX5_43 rfl (mk hT.g) (mr_place hT.g) ?_
          refine jv_iload6 dX5_far_95 ?_
          refine jv_ialdN dX5_far_97 (mk_place hT.g) (by omega) (by decide) (me_place hT.r hc) ?_
          refine jv_isubN dX5_far_98 (by omega) ?_
          refine jv_goto dX5_far_99 (tgt := 112) (by decide) ?_
          rw [show i - Y 2 c = ot_dist i (Y 2 c) from (by unfold ot_dist; rw [if_neg hle])]
          exact hj _
    · refine ⟨G1, A, J1, s8, s9, hM1, hl, hx, s8o, s9o, fun r G4 I4 J4 hV => ?_⟩
      refine jv_iload7 dX5_far_53 ?_
      refine jv_aload0 dX5_far_55 ?_
      refine jv_getI dX5_far_56 flX5_80 rfl (mk hM1.g) (mi_children hM1.r) ?_
      refine jv_icmp_geN dX5_far_59 (tgt := 153) (by decide) (by omega) (by omega) (fun hc59 => ?_) (fun hc59 => by omega)
      rw [show i = Y 10 0 by omega] at ea ⊢
      rw [ea]
      exact hV
set_option maxRecDepth 20000 in
theorem pm_far {G : jv_Gr} {I : jv_I} {J : jv_J} {Y Z : ot_Y} {E : ot_E} {K : Option ot_Y} (h : ot_M G I J Y Z E K) (k : Int32) (a : Int32) (b : Int32) : ot_mm 9 mX5_far [.ref 64, .int k, .int a, .int b] G I J (ot_ans (ot_rc ((0 ≤ k.toInt ∧ k.toInt < Y 10 1) ∧ (0 ≤ a.toInt ∧ a.toInt < Y 10 0) ∧ (0 ≤ b.toInt ∧ b.toInt < Y 10 0) ∧ a ≠ b)) (ot_o (ot_far Y (ot_n k) (ot_n a) (ot_n b)))) Y (ot_zr Z (ot_rc ((0 ≤ k.toInt ∧ k.toInt < Y 10 1) ∧ (0 ≤ a.toInt ∧ a.toInt < Y 10 0) ∧ (0 ≤ b.toInt ∧ b.toInt < Y 10 0) ∧ a ≠ b))) E K := by
  have bn := yw_n h.w
  have bc := yw_c h.w
  have bw := yw_w h.w
  refine ot_rc_split (motive := fun rc => ot_mm 9 mX5_far [.ref 64, .int k, .int a, .int b] G I J (ot_ans rc (ot_o (ot_far Y (ot_n k) (ot_n a) (ot_n b)))) Y (ot_zr Z rc) E K) (fun hv => ?_) (fun hv => ?_)
  · obtain ⟨j, hj, rfl⟩ := ot_of hv.1 (by omega)
    rw [ot_n_nI (show j < 2 ^ 30 by omega)]
    obtain ⟨x, hx, rfl⟩ := ot_of hv.2.1 (by omega)
    rw [ot_n_nI (show x < 2 ^ 30 by omega)]
    obtain ⟨z, hz, rfl⟩ := ot_of hv.2.2.1 (by omega)
    rw [ot_n_nI (show z < 2 ^ 30 by omega)]
    rw [ot_ans_0]
    obtain ⟨G2, I2, J2, t8, t9, p1, p2, p3, p4, p5, hN1⟩ := om_farL (who := 0) h hj hx hz hx (.inl ⟨rfl, rfl⟩) none (Y 10 0 + 1) 0 G I J none .null .null (by omega) (by omega) h ot_lo.rf ot_gx.rf (fun r e => by cases e) (fun r e => by cases e) rfl (fun e he => by cases he)
    obtain ⟨G3, I3, J3, u8, u9, q1, q2, q3, q4, q5, hN2⟩ := om_farL (who := 1) p1 hj hx hz hz (.inr ⟨rfl, rfl⟩) (ot_fl (ot_fw Y j x z) (Y 10 0) none) (Y 10 0 + 1) 0 G2 I2 J2 _ t8 t9 (by omega) (by omega) p1 ot_lo.rf ot_gx.rf p4 p5 rfl (fun e he => ot_fl_14 h.w hx he)
    refine ⟨G3, I3, J3, ?_, q1, p2.tr q2, p3.tr q3⟩
    refine jv_enter okX5_far (L := [.ref 64, .int (nI j), .int (nI x), .int (nI z), .null, .null, .null, .null, .null, .null]) rfl (Nat.le_of_ble_eq_true rfl) ?_
    refine jv_aload0 dX5_far_0 ?_
    refine jv_iload1 dX5_far_1 ?_
    refine jv_v11 dX5_far_2 okX5_isCount inX5_isCount seX5_isCount mlX5_94 (ci := 5) (T := TX5) (N := 35) rfl (mk h.g) (om_isCount h.g h.r h.w _) (by decide) (Nat.le_of_ble_eq_true rfl) ?_
    refine jv_if_eqB dX5_far_5 (tgt := 19) (by decide) (fun hq8 => absurd hv.1 hq8) (fun hq8 => ?_)
    refine jv_aload0 dX5_far_8 ?_
    refine jv_iload2 dX5_far_9 ?_
    refine jv_i2l dX5_far_10 rfl ?_
    refine jv_iload3 dX5_far_11 ?_
    refine jv_i2l dX5_far_12 rfl ?_
    refine jv_v21 dX5_far_13 okX5_areTwo inX5_areTwo seX5_areTwo mlX5_144 (ci := 5) (T := TX5) (N := 35) rfl (mk h.g) (om_areTwoI h.g h.r h.w _ _) (by decide) (Nat.le_of_ble_eq_true rfl) ?_
    refine jv_if_neB dX5_far_16 (tgt := 26) (by decide) (fun hq17 => ?_) (fun hq17 => absurd hv.2 hq17)
    refine jv_iconst dX5_far_26 jv_c_iconst_m1 ?_
    refine jv_istore4 dX5_far_27 rfl ?_
    refine jv_iconst dX5_far_29 jv_c_iconst_0 ?_
    refine jv_istore5 dX5_far_30 rfl ?_
    refine jv_iload5 dX5_far_32 ?_
    refine jv_iconst dX5_far_34 jv_c_iconst_2 ?_
    refine jv_icmp_geN dX5_far_35 (tgt := 159) (by decide) (by omega) (by omega) (fun hc35 => by omega) (fun hc35 => ?_)
    refine jv_iload5 dX5_far_38 ?_
    refine jv_if_neN dX5_far_40 (tgt := 47) (by decide) (by omega) (fun hc40 => by omega) (fun hc40 => ?_)
    refine jv_iload2 dX5_far_43 ?_
    refine jv_goto dX5_far_44 (tgt := 48) (by decide) ?_
    refine jv_istore6 dX5_far_48 rfl ?_
    refine jv_iconst dX5_far_50 jv_c_iconst_0 ?_
    refine jv_istore7 dX5_far_51 rfl ?_
    refine hN1 _ _ _ _ ?_
    refine jv_iinc5N dX5_far_153 rfl ?_
    refine jv_goto dX5_far_156 (tgt := 32) (by decide) ?_
    refine jv_iload5 dX5_far_32 ?_
    refine jv_iconst dX5_far_34 jv_c_iconst_2 ?_
    refine jv_icmp_geN dX5_far_35 (tgt := 159) (by decide) (by omega) (by omega) (fun hc35 => by omega) (fun hc35 => ?_)
    refine jv_iload5 dX5_far_38 ?_
    refine jv_if_neN dX5_far_40 (tgt := 47) (by decide) (by omega) (fun hc40 => ?_) (fun hc40 => by omega)
    refine jv_iload3 dX5_far_47 ?_
    refine jv_istore6 dX5_far_48 rfl ?_
    refine jv_iconst dX5_far_50 jv_c_iconst_0 ?_
    refine jv_istore7 dX5_far_51 rfl ?_
    refine hN2 _ _ _ _ ?_
    refine jv_iinc5N dX5_far_153 rfl ?_
    refine jv_goto dX5_far_156 (tgt := 32) (by decide) ?_
    refine jv_iload5 dX5_far_32 ?_
    refine jv_iconst dX5_far_34 jv_c_iconst_2 ?_
    refine jv_icmp_geN dX5_far_35 (tgt := 159) (by decide) (by omega) (by omega) (fun hc35 => ?_) (fun hc35 => by omega)
    refine jv_iload4 dX5_far_159 ?_
    exact jv_iret dX5_far_161 rfl rfl rfl rfl rfl
  · obtain ⟨I2, hC, h2, h3⟩ := om_refuse2 h
    refine ⟨G, I2, J, ?_, h2, h3, ot_gx.rf⟩
    refine jv_enter okX5_far (L := [.ref 64, .int k, .int a, .int b, .null, .null, .null, .null, .null, .null]) rfl (Nat.le_of_ble_eq_true rfl) ?_
    refine jv_aload0 dX5_far_0 ?_
    refine jv_iload1 dX5_far_1 ?_
    refine jv_v11 dX5_far_2 okX5_isCount inX5_isCount seX5_isCount mlX5_94 (ci := 5) (T := TX5) (N := 35) rfl (mk h.g) (om_isCount h.g h.r h.w _) (by decide) (Nat.le_of_ble_eq_true rfl) ?_
    refine jv_if_eqB dX5_far_5 (tgt := 19) (by decide) (fun g8 => ?_) (fun g8 => ?_)
    · refine jv_aload0 dX5_far_19 ?_
      refine jv_bipush dX5_far_20 jv_c_bipush_m2 ?_
      refine jv_v11 dX5_far_22 okX5_refuse inX5_refuse seX5_refuse mlX5_104 (ci := 5) (T := TX5) (N := 35) rfl (mk h.g) hC (by decide) (Nat.le_of_ble_eq_true rfl) ?_
      exact jv_iret dX5_far_25 rfl rfl rfl rfl rfl
    · refine jv_aload0 dX5_far_8 ?_
      refine jv_iload2 dX5_far_9 ?_
      refine jv_i2l dX5_far_10 rfl ?_
      refine jv_iload3 dX5_far_11 ?_
      refine jv_i2l dX5_far_12 rfl ?_
      refine jv_v21 dX5_far_13 okX5_areTwo inX5_areTwo seX5_areTwo mlX5_144 (ci := 5) (T := TX5) (N := 35) rfl (mk h.g) (om_areTwoI h.g h.r h.w _ _) (by decide) (Nat.le_of_ble_eq_true rfl) ?_
      refine jv_if_neB dX5_far_16 (tgt := 26) (by decide) (fun g17 => ?_) (fun g17 => ?_)
      · exact absurd ⟨g8, g17⟩ hv
      · refine jv_aload0 dX5_far_19 ?_
        refine jv_bipush dX5_far_20 jv_c_bipush_m2 ?_
        refine jv_v11 dX5_far_22 okX5_refuse inX5_refuse seX5_refuse mlX5_104 (ci := 5) (T := TX5) (N := 35) rfl (mk h.g) hC (by decide) (Nat.le_of_ble_eq_true rfl) ?_
        exact jv_iret dX5_far_25 rfl rfl rfl rfl rfl
