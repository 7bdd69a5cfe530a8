set_option maxRecDepth 20000 in
theorem om_canBe0 {G : jv_Gr} {I : jv_I} {J : jv_J} {Y : ot_Y} (hG : ot_MG G 64) (hR : ot_MR I 64 Y) (hW : ot_YW Y) {k v : Nat} (hk : k < Y 10 1) (hv : v ≤ 9999) [Decidable (ot_RY v k 0 Y)] : ∃ I2, jv_C 7 mX5_canBeBy [.ref 64, .int (nI k), .int (nI v), .int (nI 0)] G I J (some (.int (jv_b (ot_RY v k 0 Y)))) G I2 J ∧ ot_MR I2 64 Y ∧ ∀ q, q ≠ 64 + 19 → I2 q = I q := by
  have bn := yw_n hW
  have bc := yw_c hW
  have bw := yw_w hW
  have hvl := ot_value_le hW k
  by_cases q0 : v ≤ ot_value Y k
  · have hP : ot_RY v k 0 Y := q0
    refine ⟨I, ?_, hR, fun _ _ => rfl⟩
    refine jv_enter okX5_canBeBy (L := [.ref 64, .int (nI k), .int (nI v), .int (nI 0), .null, .null, .null]) rfl (Nat.le_of_ble_eq_true rfl) ?_
    refine jv_aload0 dX5_canBeBy_0 ?_
    refine jv_iload1 dX5_canBeBy_1 ?_
    refine jv_v11 dX5_canBeBy_2 okX5_valueOf inX5_valueOf seX5_valueOf mlX5_278 (ci := 5) (T := TX5) (N := 35) rfl (mk hG) (om_valueOf hG hR hW hk) (by decide) (Nat.le_of_ble_eq_true rfl) ?_
    refine jv_iload2 dX5_canBeBy_5 ?_
    refine jv_icmp_ltN dX5_canBeBy_6 (tgt := 11) (by decide) (by omega) (by omega) (fun hc6 => by omega) (fun hc6 => ?_)
    refine jv_iconst dX5_canBeBy_9 jv_c_iconst_1 ?_
    exact jv_iret dX5_canBeBy_10 rfl (by decide) (ot_b1 hP) rfl rfl
  · refine ⟨I, ?_, hR, fun _ _ => rfl⟩
    refine jv_enter okX5_canBeBy (L := [.ref 64, .int (nI k), .int (nI v), .int (nI 0), .null, .null, .null]) rfl (Nat.le_of_ble_eq_true rfl) ?_
    refine jv_aload0 dX5_canBeBy_0 ?_
    refine jv_iload1 dX5_canBeBy_1 ?_
    refine jv_v11 dX5_canBeBy_2 okX5_valueOf inX5_valueOf seX5_valueOf mlX5_278 (ci := 5) (T := TX5) (N := 35) rfl (mk hG) (om_valueOf hG hR hW hk) (by decide) (Nat.le_of_ble_eq_true rfl) ?_
    refine jv_iload2 dX5_canBeBy_5 ?_
    refine jv_icmp_ltN dX5_canBeBy_6 (tgt := 11) (by decide) (by omega) (by omega) (fun hc6 => ?_) (fun hc6 => by omega)
    refine jv_iload3 dX5_canBeBy_11 ?_
    refine jv_if_neN dX5_canBeBy_12 (tgt := 17) (by decide) (by omega) (fun hc12 => by omega) (fun hc12 => ?_)
    refine jv_iconst dX5_canBeBy_15 jv_c_iconst_0 ?_
    exact jv_iret dX5_canBeBy_16 rfl (by decide) (ot_b0 q0) rfl rfl
set_option maxRecDepth 20000 in
theorem om_canBe1 {G : jv_Gr} {I : jv_I} {J : jv_J} {Y : ot_Y} (hG : ot_MG G 64) (hR : ot_MR I 64 Y) (hW : ot_YW Y) {k v : Nat} (hk : k < Y 10 1) (hv : v ≤ 9999) [Decidable (ot_RY v k 1 Y)] : ∃ I2, jv_C 8 mX5_canBeBy [.ref 64, .int (nI k), .int (nI v), .int (nI 1)] G I J (some (.int (jv_b (ot_RY v k 1 Y)))) G I2 J ∧ ot_MR I2 64 Y ∧ ∀ q, q ≠ 64 + 19 → I2 q = I q := by
  have bn := yw_n hW
  have bc := yw_c hW
  have bw := yw_w hW
  have hvl := ot_value_le hW k
  by_cases q0 : v ≤ ot_value Y k
  · have hP : ot_RY v k 1 Y := .inl q0
    refine ⟨I, ?_, hR, fun _ _ => rfl⟩
    refine jv_enter okX5_canBeBy (L := [.ref 64, .int (nI k), .int (nI v), .int (nI 1), .null, .null, .null]) rfl (Nat.le_of_ble_eq_true rfl) ?_
    refine jv_aload0 dX5_canBeBy_0 ?_
    refine jv_iload1 dX5_canBeBy_1 ?_
    refine jv_v11 dX5_canBeBy_2 okX5_valueOf inX5_valueOf seX5_valueOf mlX5_278 (ci := 5) (T := TX5) (N := 35) rfl (mk hG) (om_valueOf hG hR hW hk) (by decide) (Nat.le_of_ble_eq_true rfl) ?_
    refine jv_iload2 dX5_canBeBy_5 ?_
    refine jv_icmp_ltN dX5_canBeBy_6 (tgt := 11) (by decide) (by omega) (by omega) (fun hc6 => by omega) (fun hc6 => ?_)
    refine jv_iconst dX5_canBeBy_9 jv_c_iconst_1 ?_
    exact jv_iret dX5_canBeBy_10 rfl (by decide) (ot_b1 hP) rfl rfl
  · have outer : ∀ (m i : Nat) (A : jv_I) (s5 s6 : Value), Y 10 0 + 1 ≤ i + m → i ≤ Y 10 0 → (∀ a c, a < c → c < Y 10 0 → (a < i ∨ (a = i ∧ c < 0)) → ¬ ot_RY v k 0 (ot_swap Y a c)) → ot_MR A 64 Y → (∀ q, q ≠ 64 + 19 → A q = I q) → ∃ I2, jv_V 8 mX5_canBeBy 20 [.ref 64, .int (nI k), .int (nI v), .int (nI 1), .int (nI i), s5, s6] [] G A J (some (.int (jv_b (ot_RY v k 1 Y)))) G I2 J ∧ ot_MR I2 64 Y ∧ ∀ q, q ≠ 64 + 19 → I2 q = I q := by
      intro m
      induction m with
      | zero => intro i A s5 s6 b1 b2; omega
      | succ m ih =>
        intro i A s5 s6 b1 b2 hn hR hF
        by_cases hi : i < Y 10 0
        · have inner : ∀ (m2 b : Nat) (A : jv_I) (s6 : Value), Y 10 0 + 1 ≤ b + m2 → b ≤ Y 10 0 → i < b → (∀ a c, a < c → c < Y 10 0 → (a < i ∨ (a = i ∧ c < b)) → ¬ ot_RY v k 0 (ot_swap Y a c)) → ot_MR A 64 Y → (∀ q, q ≠ 64 + 19 → A q = I q) → ∃ I2, jv_V 8 mX5_canBeBy 35 [.ref 64, .int (nI k), .int (nI v), .int (nI 1), .int (nI i), .int (nI b), s6] [] G A J (some (.int (jv_b (ot_RY v k 1 Y)))) G I2 J ∧ ot_MR I2 64 Y ∧ ∀ q, q ≠ 64 + 19 → I2 q = I q := by
            intro m2
            induction m2 with
            | zero => intro b A s6 q1 q2; omega
            | succ m2 ih2 =>
              intro b A s6 q1 q2 hib hn hR hF
              by_cases hbn : b < Y 10 0
              · have step : ¬ ot_RY v k 0 (ot_swap Y i b) → (∀ a c, a < c → c < Y 10 0 → (a < i ∨ (a = i ∧ c < (b + 1))) → ¬ ot_RY v k 0 (ot_swap Y a c)) := fun hq a c r hc hl => by
                  by_cases ee : a = i ∧ c = b
                  · rw [ee.1, ee.2]; exact hq
                  · exact hn a c r hc (by omega)
                have hW2 := ot_YW_swap hW hi hbn
                obtain ⟨A1, c1, hR1, hF1⟩ := om_swaps (J := J) hG hR hW hi hbn
                haveI : Decidable (ot_RY v k 0 (ot_swap Y i b)) := Classical.propDecidable _
                obtain ⟨A2, c2, hR2, hF2⟩ := om_canBe0 (J := J) hG hR1 hW2 (k := k) (v := v) hk hv
                obtain ⟨A3, c3, hR3, hF3⟩ := om_swaps (J := J) hG hR2 hW2 (a := i) (b := b) hi hbn
                rw [ot_swap_self] at hR3
                have hF4 : ∀ q, q ≠ 64 + 19 → A3 q = I q := fun q hq => (hF3 q hq).trans ((hF2 q hq).trans ((hF1 q hq).trans (hF q hq)))
                by_cases hh : ot_RY v k 0 (ot_swap Y i b)
                · have hP : ot_RY v k 1 Y := .inr ⟨i, b, hib, hbn, hh⟩
                  refine ⟨A3, ?_, hR3, hF4⟩
                  refine jv_iload5 dX5_canBeBy_35 ?_
                  refine jv_aload0 dX5_canBeBy_37 ?_
                  refine jv_getI dX5_canBeBy_38 flX5_80 rfl (mk hG) (mi_children hR) ?_
                  refine jv_icmp_geN dX5_canBeBy_41 (tgt := 84) (by decide) (by omega) (by omega) (fun hc41 => by omega) (fun hc41 => ?_)
                  refine jv_aload0 dX5_canBeBy_44 ?_
                  refine jv_iload4 dX5_canBeBy_45 ?_
                  refine jv_iload5 dX5_canBeBy_47 ?_
                  refine jv_v20 dX5_canBeBy_49 okX5_swaps inX5_swaps seX5_swaps mlX5_222 (ci := 5) (T := TX5) (N := 35) rfl (mk hG) c1 (by decide) (Nat.le_of_ble_eq_true rfl) ?_
                  refine jv_aload0 dX5_canBeBy_52 ?_
                  refine jv_iload1 dX5_canBeBy_53 ?_
                  refine jv_iload2 dX5_canBeBy_54 ?_
                  refine jv_iload3 dX5_canBeBy_55 ?_
                  refine jv_iconst dX5_canBeBy_56 jv_c_iconst_1 ?_
                  refine jv_isubN dX5_canBeBy_57 (by omega) ?_
                  refine jv_v31 dX5_canBeBy_58 okX5_canBeBy inX5_canBeBy seX5_canBeBy mlX5_293 (ci := 5) (T := TX5) (N := 35) rfl (mk hG) c2 (by decide) (Nat.le_of_ble_eq_true rfl) ?_
                  refine jv_istore6 dX5_canBeBy_61 rfl ?_
                  refine jv_aload0 dX5_canBeBy_63 ?_
                  refine jv_iload4 dX5_canBeBy_64 ?_
                  refine jv_iload5 dX5_canBeBy_66 ?_
                  refine jv_v20 dX5_canBeBy_68 okX5_swaps inX5_swaps seX5_swaps mlX5_222 (ci := 5) (T := TX5) (N := 35) rfl (mk hG) c3 (by decide) (Nat.le_of_ble_eq_true rfl) ?_
                  refine jv_iload6 dX5_canBeBy_71 ?_
                  refine jv_if_eqB dX5_canBeBy_73 (tgt := 78) (by decide) (fun h73 => absurd hh h73) (fun h73 => ?_)
                  refine jv_iconst dX5_canBeBy_76 jv_c_iconst_1 ?_
                  exact jv_iret dX5_canBeBy_77 rfl (by decide) (ot_b1 hP) rfl rfl
                · obtain ⟨I2, hV, hP⟩ := ih2 (b + 1) A3 (.int (jv_b (ot_RY v k 0 (ot_swap Y i b)))) (by omega) (by omega) (by omega) (step hh) hR3 hF4
                  refine ⟨I2, ?_, hP⟩
                  refine jv_iload5 dX5_canBeBy_35 ?_
                  refine jv_aload0 dX5_canBeBy_37 ?_
                  refine jv_getI dX5_canBeBy_38 flX5_80 rfl (mk hG) (mi_children hR) ?_
                  refine jv_icmp_geN dX5_canBeBy_41 (tgt := 84) (by decide) (by omega) (by omega) (fun hc41 => by omega) (fun hc41 => ?_)
                  refine jv_aload0 dX5_canBeBy_44 ?_
                  refine jv_iload4 dX5_canBeBy_45 ?_
                  refine jv_iload5 dX5_canBeBy_47 ?_
                  refine jv_v20 dX5_canBeBy_49 okX5_swaps inX5_swaps seX5_swaps mlX5_222 (ci := 5) (T := TX5) (N := 35) rfl (mk hG) c1 (by decide) (Nat.le_of_ble_eq_true rfl) ?_
                  refine jv_aload0 dX5_canBeBy_52 ?_
                  refine jv_iload1 dX5_canBeBy_53 ?_
                  refine jv_iload2 dX5_canBeBy_54 ?_
                  refine jv_iload3 dX5_canBeBy_55 ?_
                  refine jv_iconst dX5_canBeBy_56 jv_c_iconst_1 ?_
                  refine jv_isubN dX5_canBeBy_57 (by omega) ?_
                  refine jv_v31 dX5_canBeBy_58 okX5_canBeBy inX5_canBeBy seX5_canBeBy mlX5_293 (ci := 5) (T := TX5) (N := 35) rfl (mk hG) c2 (by decide) (Nat.le_of_ble_eq_true rfl) ?_
                  refine jv_istore6 dX5_canBeBy_61 rfl ?_
                  refine jv_aload0 dX5_canBeBy_63 ?_
                  refine jv_iload4 dX5_canBeBy_64 ?_
                  refine jv_iload5 dX5_canBeBy_66 ?_
                  refine jv_v20 dX5_canBeBy_68 okX5_swaps inX5_swaps seX5_swaps mlX5_222 (ci := 5) (T := TX5) (N := 35) rfl (mk hG) c3 (by decide) (Nat.le_of_ble_eq_true rfl) ?_
                  refine jv_iload6 dX5_canBeBy_71 ?_
                  refine jv_if_eqB dX5_canBeBy_73 (tgt := 78) (by decide) (fun h73 => ?_) (fun h73 => absurd h73 hh)
                  refine jv_iinc5N dX5_canBeBy_78 rfl ?_
                  refine jv_goto dX5_canBeBy_81 (tgt := 35) (by decide) ?_
                  exact hV
              · obtain ⟨I2, hV, hP⟩ := ih (i + 1) A (.int (nI b)) s6 (by omega) (by omega) (fun a c r hc hl => hn a c r hc (by omega)) hR hF
                refine ⟨I2, ?_, hP⟩
                refine jv_iload5 dX5_canBeBy_35 ?_
                refine jv_aload0 dX5_canBeBy_37 ?_
                refine jv_getI dX5_canBeBy_38 flX5_80 rfl (mk hG) (mi_children hR) ?_
                refine jv_icmp_geN dX5_canBeBy_41 (tgt := 84) (by decide) (by omega) (by omega) (fun hc41 => ?_) (fun hc41 => by omega)
                refine jv_iinc4N dX5_canBeBy_84 rfl ?_
                refine jv_goto dX5_canBeBy_87 (tgt := 20) (by decide) ?_
                exact hV
          obtain ⟨I2, hV, hP⟩ := inner (Y 10 0 + 1) (i + 1) A s6 (by omega) (by omega) (by omega) (fun a c r hc hl => hn a c r hc (by omega)) hR hF
          refine ⟨I2, ?_, hP⟩
          refine jv_iload4 dX5_canBeBy_20 ?_
          refine jv_aload0 dX5_canBeBy_22 ?_
          refine jv_getI dX5_canBeBy_23 flX5_80 rfl (mk hG) (mi_children hR) ?_
          refine jv_icmp_geN dX5_canBeBy_26 (tgt := 90) (by decide) (by omega) (by omega) (fun hc26 => by omega) (fun hc26 => ?_)
          refine jv_iload4 dX5_canBeBy_29 ?_
          refine jv_iconst dX5_canBeBy_31 jv_c_iconst_1 ?_
          refine jv_iaddN dX5_canBeBy_32 ?_
          refine jv_istore5 dX5_canBeBy_33 rfl ?_
          exact hV
        · have hP : ¬ ot_RY v k 1 Y := fun z => by
            cases z with
            | inl z => exact q0 z
            | inr z => obtain ⟨a, c, r, hc, hvv⟩ := z; exact hn a c r hc (by omega) hvv
          refine ⟨A, ?_, hR, hF⟩
          refine jv_iload4 dX5_canBeBy_20 ?_
          refine jv_aload0 dX5_canBeBy_22 ?_
          refine jv_getI dX5_canBeBy_23 flX5_80 rfl (mk hG) (mi_children hR) ?_
          refine jv_icmp_geN dX5_canBeBy_26 (tgt := 90) (by decide) (by omega) (by omega) (fun hc26 => ?_) (fun hc26 => by omega)
          refine jv_iconst dX5_canBeBy_90 jv_c_iconst_0 ?_
          exact jv_iret dX5_canBeBy_91 rfl (by decide) (ot_b0 hP) rfl rfl
    obtain ⟨I2, hV, hP⟩ := outer (Y 10 0 + 1) 0 I .null .null (by omega) (by omega) (fun a c r hc hl => by omega) hR (fun _ _ => rfl)
    refine ⟨I2, ?_, hP⟩
    refine jv_enter okX5_canBeBy (L := [.ref 64, .int (nI k), .int (nI v), .int (nI 1), .null, .null, .null]) rfl (Nat.le_of_ble_eq_true rfl) ?_
    refine jv_aload0 dX5_canBeBy_0 ?_
    refine jv_iload1 dX5_canBeBy_1 ?_
    refine jv_v11 dX5_canBeBy_2 okX5_valueOf inX5_valueOf seX5_valueOf mlX5_278 (ci := 5) (T := TX5) (N := 35) rfl (mk hG) (om_valueOf hG hR hW hk) (by decide) (Nat.le_of_ble_eq_true rfl) ?_
    refine jv_iload2 dX5_canBeBy_5 ?_
    refine jv_icmp_ltN dX5_canBeBy_6 (tgt := 11) (by decide) (by omega) (by omega) (fun hc6 => ?_) (fun hc6 => by omega)
    refine jv_iload3 dX5_canBeBy_11 ?_
    refine jv_if_neN dX5_canBeBy_12 (tgt := 17) (by decide) (by omega) (fun hc12 => ?_) (fun hc12 => by omega)
    refine jv_iconst dX5_canBeBy_17 jv_c_iconst_0 ?_
    refine jv_istore4 dX5_canBeBy_18 rfl ?_
    exact hV
set_option maxRecDepth 20000 in
theorem om_canBe2 {G : jv_Gr} {I : jv_I} {J : jv_J} {Y : ot_Y} (hG : ot_MG G 64) (hR : ot_MR I 64 Y) (hW : ot_YW Y) {k v : Nat} (hk : k < Y 10 1) (hv : v ≤ 9999) [Decidable (ot_RY v k 2 Y)] : ∃ I2, jv_C 9 mX5_canBeBy [.ref 64, .int (nI k), .int (nI v), .int (nI 2)] G I J (some (.int (jv_b (ot_RY v k 2 Y)))) G I2 J ∧ ot_MR I2 64 Y ∧ ∀ q, q ≠ 64 + 19 → I2 q = I q := by
  have bn := yw_n hW
  have bc := yw_c hW
  have bw := yw_w hW
  have hvl := ot_value_le hW k
  by_cases q0 : v ≤ ot_value Y k
  · have hP : ot_RY v k 2 Y := .inl q0
    refine ⟨I, ?_, hR, fun _ _ => rfl⟩
    refine jv_enter okX5_canBeBy (L := [.ref 64, .int (nI k), .int (nI v), .int (nI 2), .null, .null, .null]) rfl (Nat.le_of_ble_eq_true rfl) ?_
    refine jv_aload0 dX5_canBeBy_0 ?_
    refine jv_iload1 dX5_canBeBy_1 ?_
    refine jv_v11 dX5_canBeBy_2 okX5_valueOf inX5_valueOf seX5_valueOf mlX5_278 (ci := 5) (T := TX5) (N := 35) rfl (mk hG) (om_valueOf hG hR hW hk) (by decide) (Nat.le_of_ble_eq_true rfl) ?_
    refine jv_iload2 dX5_canBeBy_5 ?_
    refine jv_icmp_ltN dX5_canBeBy_6 (tgt := 11) (by decide) (by omega) (by omega) (fun hc6 => by omega) (fun hc6 => ?_)
    refine jv_iconst dX5_canBeBy_9 jv_c_iconst_1 ?_
    exact jv_iret dX5_canBeBy_10 rfl (by decide) (ot_b1 hP) rfl rfl
  · have outer : ∀ (m i : Nat) (A : jv_I) (s5 s6 : Value), Y 10 0 + 1 ≤ i + m → i ≤ Y 10 0 → (∀ a c, a < c → c < Y 10 0 → (a < i ∨ (a = i ∧ c < 0)) → ¬ ot_RY v k 1 (ot_swap Y a c)) → ot_MR A 64 Y → (∀ q, q ≠ 64 + 19 → A q = I q) → ∃ I2, jv_V 9 mX5_canBeBy 20 [.ref 64, .int (nI k), .int (nI v), .int (nI 2), .int (nI i), s5, s6] [] G A J (some (.int (jv_b (ot_RY v k 2 Y)))) G I2 J ∧ ot_MR I2 64 Y ∧ ∀ q, q ≠ 64 + 19 → I2 q = I q := by
      intro m
      induction m with
      | zero => intro i A s5 s6 b1 b2; omega
      | succ m ih =>
        intro i A s5 s6 b1 b2 hn hR hF
        by_cases hi : i < Y 10 0
        · have inner : ∀ (m2 b : Nat) (A : jv_I) (s6 : Value), Y 10 0 + 1 ≤ b + m2 → b ≤ Y 10 0 → i < b → (∀ a c, a < c → c < Y 10 0 → (a < i ∨ (a = i ∧ c < b)) → ¬ ot_RY v k 1 (ot_swap Y a c)) → ot_MR A 64 Y → (∀ q, q ≠ 64 + 19 → A q = I q) → ∃ I2, jv_V 9 mX5_canBeBy 35 [.ref 64, .int (nI k), .int (nI v), .int (nI 2), .int (nI i), .int (nI b), s6] [] G A J (some (.int (jv_b (ot_RY v k 2 Y)))) G I2 J ∧ ot_MR I2 64 Y ∧ ∀ q, q ≠ 64 + 19 → I2 q = I q := by
            intro m2
            induction m2 with
            | zero => intro b A s6 q1 q2; omega
            | succ m2 ih2 =>
              intro b A s6 q1 q2 hib hn hR hF
              by_cases hbn : b < Y 10 0
              · have step : ¬ ot_RY v k 1 (ot_swap Y i b) → (∀ a c, a < c → c < Y 10 0 → (a < i ∨ (a = i ∧ c < (b + 1))) → ¬ ot_RY v k 1 (ot_swap Y a c)) := fun hq a c r hc hl => by
                  by_cases ee : a = i ∧ c = b
                  · rw [ee.1, ee.2]; exact hq
                  · exact hn a c r hc (by omega)
                have hW2 := ot_YW_swap hW hi hbn
                obtain ⟨A1, c1, hR1, hF1⟩ := om_swaps (J := J) hG hR hW hi hbn
                haveI : Decidable (ot_RY v k 1 (ot_swap Y i b)) := Classical.propDecidable _
                obtain ⟨A2, c2, hR2, hF2⟩ := om_canBe1 (J := J) hG hR1 hW2 (k := k) (v := v) hk hv
                obtain ⟨A3, c3, hR3, hF3⟩ := om_swaps (J := J) hG hR2 hW2 (a := i) (b := b) hi hbn
                rw [ot_swap_self] at hR3
                have hF4 : ∀ q, q ≠ 64 + 19 → A3 q = I q := fun q hq => (hF3 q hq).trans ((hF2 q hq).trans ((hF1 q hq).trans (hF q hq)))
                by_cases hh : ot_RY v k 1 (ot_swap Y i b)
                · have hP : ot_RY v k 2 Y := .inr ⟨i, b, hib, hbn, hh⟩
                  refine ⟨A3, ?_, hR3, hF4⟩
                  refine jv_iload5 dX5_canBeBy_35 ?_
                  refine jv_aload0 dX5_canBeBy_37 ?_
                  refine jv_getI dX5_canBeBy_38 flX5_80 rfl (mk hG) (mi_children hR) ?_
                  refine jv_icmp_geN dX5_canBeBy_41 (tgt := 84) (by decide) (by omega) (by omega) (fun hc41 => by omega) (fun hc41 => ?_)
                  refine jv_aload0 dX5_canBeBy_44 ?_
                  refine jv_iload4 dX5_canBeBy_45 ?_
                  refine jv_iload5 dX5_canBeBy_47 ?_
                  refine jv_v20 dX5_canBeBy_49 okX5_swaps inX5_swaps seX5_swaps mlX5_222 (ci := 5) (T := TX5) (N := 35) rfl (mk hG) c1 (by decide) (Nat.le_of_ble_eq_true rfl) ?_
                  refine jv_aload0 dX5_canBeBy_52 ?_
                  refine jv_iload1 dX5_canBeBy_53 ?_
                  refine jv_iload2 dX5_canBeBy_54 ?_
                  refine jv_iload3 dX5_canBeBy_55 ?_
                  refine jv_iconst dX5_canBeBy_56 jv_c_iconst_1 ?_
                  refine jv_isubN dX5_canBeBy_57 (by omega) ?_
                  refine jv_v31 dX5_canBeBy_58 okX5_canBeBy inX5_canBeBy seX5_canBeBy mlX5_293 (ci := 5) (T := TX5) (N := 35) rfl (mk hG) c2 (by decide) (Nat.le_of_ble_eq_true rfl) ?_
                  refine jv_istore6 dX5_canBeBy_61 rfl ?_
                  refine jv_aload0 dX5_canBeBy_63 ?_
                  refine jv_iload4 dX5_canBeBy_64 ?_
                  refine jv_iload5 dX5_canBeBy_66 ?_
                  refine jv_v20 dX5_canBeBy_68 okX5_swaps inX5_swaps seX5_swaps mlX5_222 (ci := 5) (T := TX5) (N := 35) rfl (mk hG) c3 (by decide) (Nat.le_of_ble_eq_true rfl) ?_
                  refine jv_iload6 dX5_canBeBy_71 ?_
                  refine jv_if_eqB dX5_canBeBy_73 (tgt := 78) (by decide) (fun h73 => absurd hh h73) (fun h73 => ?_)
                  refine jv_iconst dX5_canBeBy_76 jv_c_iconst_1 ?_
                  exact jv_iret dX5_canBeBy_77 rfl (by decide) (ot_b1 hP) rfl rfl
                · obtain ⟨I2, hV, hP⟩ := ih2 (b + 1) A3 (.int (jv_b (ot_RY v k 1 (ot_swap Y i b)))) (by omega) (by omega) (by omega) (step hh) hR3 hF4
                  refine ⟨I2, ?_, hP⟩
                  refine jv_iload5 dX5_canBeBy_35 ?_
                  refine jv_aload0 dX5_canBeBy_37 ?_
                  refine jv_getI dX5_canBeBy_38 flX5_80 rfl (mk hG) (mi_children hR) ?_
                  refine jv_icmp_geN dX5_canBeBy_41 (tgt := 84) (by decide) (by omega) (by omega) (fun hc41 => by omega) (fun hc41 => ?_)
                  refine jv_aload0 dX5_canBeBy_44 ?_
                  refine jv_iload4 dX5_canBeBy_45 ?_
                  refine jv_iload5 dX5_canBeBy_47 ?_
                  refine jv_v20 dX5_canBeBy_49 okX5_swaps inX5_swaps seX5_swaps mlX5_222 (ci := 5) (T := TX5) (N := 35) rfl (mk hG) c1 (by decide) (Nat.le_of_ble_eq_true rfl) ?_
                  refine jv_aload0 dX5_canBeBy_52 ?_
                  refine jv_iload1 dX5_canBeBy_53 ?_
                  refine jv_iload2 dX5_canBeBy_54 ?_
                  refine jv_iload3 dX5_canBeBy_55 ?_
                  refine jv_iconst dX5_canBeBy_56 jv_c_iconst_1 ?_
                  refine jv_isubN dX5_canBeBy_57 (by omega) ?_
                  refine jv_v31 dX5_canBeBy_58 okX5_canBeBy inX5_canBeBy seX5_canBeBy mlX5_293 (ci := 5) (T := TX5) (N := 35) rfl (mk hG) c2 (by decide) (Nat.le_of_ble_eq_true rfl) ?_
                  refine jv_istore6 dX5_canBeBy_61 rfl ?_
                  refine jv_aload0 dX5_canBeBy_63 ?_
                  refine jv_iload4 dX5_canBeBy_64 ?_
                  refine jv_iload5 dX5_canBeBy_66 ?_
                  refine jv_v20 dX5_canBeBy_68 okX5_swaps inX5_swaps seX5_swaps mlX5_222 (ci := 5) (T := TX5) (N := 35) rfl (mk hG) c3 (by decide) (Nat.le_of_ble_eq_true rfl) ?_
                  refine jv_iload6 dX5_canBeBy_71 ?_
                  refine jv_if_eqB dX5_canBeBy_73 (tgt := 78) (by decide) (fun h73 => ?_) (fun h73 => absurd h73 hh)
                  refine jv_iinc5N dX5_canBeBy_78 rfl ?_
                  refine jv_goto dX5_canBeBy_81 (tgt := 35) (by decide) ?_
                  exact hV
              · obtain ⟨I2, hV, hP⟩ := ih (i + 1) A (.int (nI b)) s6 (by omega) (by omega) (fun a c r hc hl => hn a c r hc (by omega)) hR hF
                refine ⟨I2, ?_, hP⟩
                refine jv_iload5 dX5_canBeBy_35 ?_
                refine jv_aload0 dX5_canBeBy_37 ?_
                refine jv_getI dX5_canBeBy_38 flX5_80 rfl (mk hG) (mi_children hR) ?_
                refine jv_icmp_geN dX5_canBeBy_41 (tgt := 84) (by decide) (by omega) (by omega) (fun hc41 => ?_) (fun hc41 => by omega)
                refine jv_iinc4N dX5_canBeBy_84 rfl ?_
                refine jv_goto dX5_canBeBy_87 (tgt := 20) (by decide) ?_
                exact hV
          obtain ⟨I2, hV, hP⟩ := inner (Y 10 0 + 1) (i + 1) A s6 (by omega) (by omega) (by omega) (fun a c r hc hl => hn a c r hc (by omega)) hR hF
          refine ⟨I2, ?_, hP⟩
          refine jv_iload4 dX5_canBeBy_20 ?_
          refine jv_aload0 dX5_canBeBy_22 ?_
          refine jv_getI dX5_canBeBy_23 flX5_80 rfl (mk hG) (mi_children hR) ?_
          refine jv_icmp_geN dX5_canBeBy_26 (tgt := 90) (by decide) (by omega) (by omega) (fun hc26 => by omega) (fun hc26 => ?_)
          refine jv_iload4 dX5_canBeBy_29 ?_
          refine jv_iconst dX5_canBeBy_31 jv_c_iconst_1 ?_
          refine jv_iaddN dX5_canBeBy_32 ?_
          refine jv_istore5 dX5_canBeBy_33 rfl ?_
          exact hV
        · have hP : ¬ ot_RY v k 2 Y := fun z => by
            cases z with
            | inl z => exact q0 z
            | inr z => obtain ⟨a, c, r, hc, hvv⟩ := z; exact hn a c r hc (by omega) hvv
          refine ⟨A, ?_, hR, hF⟩
          refine jv_iload4 dX5_canBeBy_20 ?_
          refine jv_aload0 dX5_canBeBy_22 ?_
          refine jv_getI dX5_canBeBy_23 flX5_80 rfl (mk hG) (mi_children hR) ?_
          refine jv_icmp_geN dX5_canBeBy_26 (tgt := 90) (by decide) (by omega) (by omega) (fun hc26 => ?_) (fun hc26 => by omega)
          refine jv_iconst dX5_canBeBy_90 jv_c_iconst_0 ?_
          exact jv_iret dX5_canBeBy_91 rfl (by decide) (ot_b0 hP) rfl rfl
    obtain ⟨I2, hV, hP⟩ := outer (Y 10 0 + 1) 0 I .null .null (by omega) (by omega) (fun a c r hc hl => by omega) hR (fun _ _ => rfl)
    refine ⟨I2, ?_, hP⟩
    refine jv_enter okX5_canBeBy (L := [.ref 64, .int (nI k), .int (nI v), .int (nI 2), .null, .null, .null]) rfl (Nat.le_of_ble_eq_true rfl) ?_
    refine jv_aload0 dX5_canBeBy_0 ?_
    refine jv_iload1 dX5_canBeBy_1 ?_
    refine jv_v11 dX5_canBeBy_2 okX5_valueOf inX5_valueOf seX5_valueOf mlX5_278 (ci := 5) (T := TX5) (N := 35) rfl (mk hG) (om_valueOf hG hR hW hk) (by decide) (Nat.le_of_ble_eq_true rfl) ?_
    refine jv_iload2 dX5_canBeBy_5 ?_
    refine jv_icmp_ltN dX5_canBeBy_6 (tgt := 11) (by decide) (by omega) (by omega) (fun hc6 => ?_) (fun hc6 => by omega)
    refine jv_iload3 dX5_canBeBy_11 ?_
    refine jv_if_neN dX5_canBeBy_12 (tgt := 17) (by decide) (by omega) (fun hc12 => ?_) (fun hc12 => by omega)
    refine jv_iconst dX5_canBeBy_17 jv_c_iconst_0 ?_
    refine jv_istore4 dX5_canBeBy_18 rfl ?_
    exact hV
set_option maxRecDepth 20000 in
theorem pc_changes {G : jv_Gr} {I : jv_I} {J : jv_J} {Y Z : ot_Y} {E : ot_E} {K : Option ot_Y} (h : ot_C G I J Y Z E K) (k : Int32) (v : Int32) : ot_cc 10 mX4_changes [.ref 1, .int k, .int v] G I J (ot_ans (ot_rc ((0 ≤ k.toInt ∧ k.toInt < Y 10 1) ∧ (0 ≤ v.toInt ∧ v.toInt ≤ 9999))) (ot_changes Y (ot_n v) (ot_sideOf Y (ot_n k)))) Y (ot_zr Z (ot_rc ((0 ≤ k.toInt ∧ k.toInt < Y 10 1) ∧ (0 ≤ v.toInt ∧ v.toInt ≤ 9999)))) E K := by
  have bn := yw_n h.w
  have bc := yw_c h.w
  have bw := yw_w h.w
  refine ot_rc_split (motive := fun rc => ot_cc 10 mX4_changes [.ref 1, .int k, .int v] G I J (ot_ans rc (ot_changes Y (ot_n v) (ot_sideOf Y (ot_n k)))) Y (ot_zr Z rc) E K) (fun hv => ?_) (fun hv => ?_)
  · obtain ⟨j, hj, rfl⟩ := ot_of hv.1 (by omega)
    rw [ot_n_nI (show j < 2 ^ 30 by omega)]
    obtain ⟨u, hu, rfl⟩ := ot_of (n := 10000) (v := v) (by omega) (by omega)
    rw [ot_n_nI (show u < 2 ^ 30 by omega)]
    obtain ⟨I2, hA, hF⟩ := oc_fewest h hj (show u ≤ 9999 by omega)
    rw [ot_ans_0]
    refine ⟨I2, J, ?_, ot_C_39 h hF, fun q hq => ⟨hF q (by omega), rfl⟩⟩
    refine jv_enter okX4_changes (L := [.ref 1, .int (nI j), .int (nI u)]) rfl (Nat.le_of_ble_eq_true rfl) ?_
    refine jv_aload0 dX4_changes_0 ?_
    refine jv_getR dX4_changes_1 flX4_10 rfl (ck h.g) (cr_now h.g) ?_
    refine jv_iload1 dX4_changes_4 ?_
    refine jv_v11 dX4_changes_5 okX3_hasCount inX3_hasCount seX3_hasCount mlX4_101 (ci := 3) (T := TX3) (N := 15) rfl (yk (cg_now h.g)) (ot_hasCount (cg_now h.g) h.r h.w _) (by decide) (Nat.le_of_ble_eq_true rfl) ?_
    refine jv_if_eqB dX4_changes_8 (tgt := 22) (by decide) (fun hq8 => absurd hv.1 hq8) (fun hq8 => ?_)
    refine jv_iload2 dX4_changes_11 ?_
    refine jv_iconst dX4_changes_12 jv_c_iconst_0 ?_
    refine jv_sipush dX4_changes_13 jv_c_sipush_9999 ?_
    refine jv_s31 dX4_changes_16 okX4_within stX4_within mlX4_57 (oc_inC _ (a := 0) (b := 9999) (by decide) (by decide)) (by decide) (Nat.le_of_ble_eq_true rfl) ?_
    refine jv_if_neB dX4_changes_19 (tgt := 29) (by decide) (fun hq19 => ?_) (fun hq19 => absurd hv.2 hq19)
    refine jv_aload0 dX4_changes_29 ?_
    refine jv_getR dX4_changes_30 flX4_27 rfl (ck h.g) (cr_finder h.g) ?_
    refine jv_iload1 dX4_changes_33 ?_
    refine jv_iload2 dX4_changes_34 ?_
    refine jv_v21 dX4_changes_35 okX0_fewestChanges inX0_fewestChanges seX0_fewestChanges mlX4_232 (ci := 0) (T := TX0) (N := 6) rfl (fk h.g) hA (by decide) (Nat.le_of_ble_eq_true rfl) ?_
    exact jv_iret dX4_changes_38 rfl rfl rfl rfl rfl
  · obtain ⟨I2, hC, h2, h3⟩ := oc_refuse2 h
    refine ⟨I2, J, ?_, h2, h3⟩
    refine jv_enter okX4_changes (L := [.ref 1, .int k, .int v]) rfl (Nat.le_of_ble_eq_true rfl) ?_
    refine jv_aload0 dX4_changes_0 ?_
    refine jv_getR dX4_changes_1 flX4_10 rfl (ck h.g) (cr_now h.g) ?_
    refine jv_iload1 dX4_changes_4 ?_
    refine jv_v11 dX4_changes_5 okX3_hasCount inX3_hasCount seX3_hasCount mlX4_101 (ci := 3) (T := TX3) (N := 15) rfl (yk (cg_now h.g)) (ot_hasCount (cg_now h.g) h.r h.w _) (by decide) (Nat.le_of_ble_eq_true rfl) ?_
    refine jv_if_eqB dX4_changes_8 (tgt := 22) (by decide) (fun hq8 => ?_) (fun hq8 => ?_)
    · refine jv_aload0 dX4_changes_22 ?_
      refine jv_bipush dX4_changes_23 jv_c_bipush_m2 ?_
      refine jv_v11 dX4_changes_25 okX4_refuse inX4_refuse seX4_refuse mlX4_61 (ci := 4) (T := TX4) (N := 8) rfl (ck h.g) hC (by decide) (Nat.le_of_ble_eq_true rfl) ?_
      exact jv_iret dX4_changes_28 rfl rfl rfl rfl rfl
    · refine jv_iload2 dX4_changes_11 ?_
      refine jv_iconst dX4_changes_12 jv_c_iconst_0 ?_
      refine jv_sipush dX4_changes_13 jv_c_sipush_9999 ?_
      refine jv_s31 dX4_changes_16 okX4_within stX4_within mlX4_57 (oc_inC _ (a := 0) (b := 9999) (by decide) (by decide)) (by decide) (Nat.le_of_ble_eq_true rfl) ?_
      refine jv_if_neB dX4_changes_19 (tgt := 29) (by decide) (fun hq19 => absurd ⟨hq8, hq19⟩ hv) (fun hq19 => ?_)
      refine jv_aload0 dX4_changes_22 ?_
      refine jv_bipush dX4_changes_23 jv_c_bipush_m2 ?_
      refine jv_v11 dX4_changes_25 okX4_refuse inX4_refuse seX4_refuse mlX4_61 (ci := 4) (T := TX4) (N := 8) rfl (ck h.g) hC (by decide) (Nat.le_of_ble_eq_true rfl) ?_
      exact jv_iret dX4_changes_28 rfl rfl rfl rfl rfl
set_option maxRecDepth 20000 in
theorem pm_changes {G : jv_Gr} {I : jv_I} {J : jv_J} {Y Z : ot_Y} {E : ot_E} {K : Option ot_Y} (h : ot_M G I J Y Z E K) (k : Int32) (v : Int32) : ot_mm 10 mX5_changes [.ref 64, .int k, .int v] G I J (ot_ans (ot_rc ((0 ≤ k.toInt ∧ k.toInt < Y 10 1) ∧ (0 ≤ v.toInt ∧ v.toInt ≤ 9999))) (ot_changes Y (ot_n v) (ot_sideOf Y (ot_n k)))) Y (ot_zr Z (ot_rc ((0 ≤ k.toInt ∧ k.toInt < Y 10 1) ∧ (0 ≤ v.toInt ∧ v.toInt ≤ 9999)))) E K := by
  have bn := yw_n h.w
  have bc := yw_c h.w
  have bw := yw_w h.w
  refine ot_rc_split (motive := fun rc => ot_mm 10 mX5_changes [.ref 64, .int k, .int v] G I J (ot_ans rc (ot_changes Y (ot_n v) (ot_sideOf Y (ot_n k)))) Y (ot_zr Z rc) E K) (fun hv => ?_) (fun hv => ?_)
  · obtain ⟨j, hj, rfl⟩ := ot_of hv.1 (by omega)
    rw [ot_n_nI (show j < 2 ^ 30 by omega)]
    obtain ⟨u, hu, rfl⟩ := ot_of (n := 10000) (v := v) (by omega) (by omega)
    rw [ot_n_nI (show u < 2 ^ 30 by omega)]
    haveI d0 : Decidable (ot_RY u j 0 Y) := Classical.propDecidable _
    haveI d1 : Decidable (ot_RY u j 1 Y) := Classical.propDecidable _
    haveI d2 : Decidable (ot_RY u j 2 Y) := Classical.propDecidable _
    have i0 := (ot_RY_iff u j 0 Y).trans (ot_Rb_iff _ _ _ _).symm
    have i1 := (ot_RY_iff u j 1 Y).trans (ot_Rb_iff _ _ _ _).symm
    have i2 := (ot_RY_iff u j 2 Y).trans (ot_Rb_iff _ _ _ _).symm
    obtain ⟨A0, c0, hR0, hF0⟩ := om_canBe0 (J := J) h.g h.r h.w hj (show u ≤ 9999 by omega)
    obtain ⟨A1, c1, hR1, hF1⟩ := om_canBe1 (J := J) h.g hR0 h.w hj (show u ≤ 9999 by omega)
    obtain ⟨A2, c2, hR2, hF2⟩ := om_canBe2 (J := J) h.g hR1 h.w hj (show u ≤ 9999 by omega)
    have g0 : ∀ q, q ≠ 64 + 19 → A0 q = I q := hF0
    have g1 : ∀ q, q ≠ 64 + 19 → A1 q = I q := fun q hq => (hF1 q hq).trans (hF0 q hq)
    have g2 : ∀ q, q ≠ 64 + 19 → A2 q = I q := fun q hq => (hF2 q hq).trans (g1 q hq)
    rw [ot_ans_0]
    by_cases r0 : ot_RY u j 0 Y
    · refine ⟨G, A0, J, ?_, ot_M_yard h hR0 h.w h.z (ot_mf.pl g0).mw, (ot_mf.pl g0).mw.lo, ot_gx.rf⟩
      refine jv_enter okX5_changes (L := [.ref 64, .int (nI j), .int (nI u), .null]) rfl (Nat.le_of_ble_eq_true rfl) ?_
      refine jv_aload0 dX5_changes_0 ?_
      refine jv_iload1 dX5_changes_1 ?_
      refine jv_v11 dX5_changes_2 okX5_isCount inX5_isCount seX5_isCount mlX5_94 (ci := 5) (T := TX5) (N := 35) rfl (mk h.g) (om_isCount h.g h.r h.w _) (by decide) (Nat.le_of_ble_eq_true rfl) ?_
      refine jv_if_eqB dX5_changes_5 (tgt := 20) (by decide) (fun hq8 => absurd hv.1 hq8) (fun hq8 => ?_)
      refine jv_iload2 dX5_changes_8 ?_
      refine jv_i2l dX5_changes_9 rfl ?_
      refine jv_lconst dX5_changes_10 (v := lN 0) rfl ?_
      refine jv_ldc2 dX5_changes_11 cnX5_296 ?_
      refine jv_s31 dX5_changes_14 okX5_in stX5_in mlX5_83 (om_inC _ (a := 0) (b := 9999) (by decide) (by decide)) (by decide) (Nat.le_of_ble_eq_true rfl) ?_
      refine jv_if_neB dX5_changes_17 (tgt := 27) (by decide) (fun hq19 => ?_) (fun hq19 => absurd hv.2 hq19)
      refine jv_iconst dX5_changes_27 jv_c_iconst_0 ?_
      refine jv_istore3 dX5_changes_28 rfl ?_
      refine jv_iload3 dX5_changes_29 ?_
      refine jv_iconst dX5_changes_30 jv_c_iconst_2 ?_
      refine jv_icmp_gtN dX5_changes_31 (tgt := 52) (by decide) (by omega) (by omega) (fun hc31 => by omega) (fun hc31 => ?_)
      refine jv_aload0 dX5_changes_34 ?_
      refine jv_iload1 dX5_changes_35 ?_
      refine jv_iload2 dX5_changes_36 ?_
      refine jv_iload3 dX5_changes_37 ?_
      refine jv_v31 dX5_changes_38 okX5_canBeBy inX5_canBeBy seX5_canBeBy mlX5_293 (ci := 5) (T := TX5) (N := 35) rfl (mk h.g) c0 (by decide) (Nat.le_of_ble_eq_true rfl) ?_
      refine jv_if_eqB dX5_changes_41 (tgt := 46) (by decide) (fun hq => absurd r0 hq) (fun hq => ?_)
      refine jv_iload3 dX5_changes_44 ?_
      exact jv_iret dX5_changes_45 rfl rfl (by unfold ot_changes; rw [if_pos (i0.mp r0)]; rfl) rfl rfl
    · by_cases r1 : ot_RY u j 1 Y
      · refine ⟨G, A1, J, ?_, ot_M_yard h hR1 h.w h.z (ot_mf.pl g1).mw, (ot_mf.pl g1).mw.lo, ot_gx.rf⟩
        refine jv_enter okX5_changes (L := [.ref 64, .int (nI j), .int (nI u), .null]) rfl (Nat.le_of_ble_eq_true rfl) ?_
        refine jv_aload0 dX5_changes_0 ?_
        refine jv_iload1 dX5_changes_1 ?_
        refine jv_v11 dX5_changes_2 okX5_isCount inX5_isCount seX5_isCount mlX5_94 (ci := 5) (T := TX5) (N := 35) rfl (mk h.g) (om_isCount h.g h.r h.w _) (by decide) (Nat.le_of_ble_eq_true rfl) ?_
        refine jv_if_eqB dX5_changes_5 (tgt := 20) (by decide) (fun hq8 => absurd hv.1 hq8) (fun hq8 => ?_)
        refine jv_iload2 dX5_changes_8 ?_
        refine jv_i2l dX5_changes_9 rfl ?_
        refine jv_lconst dX5_changes_10 (v := lN 0) rfl ?_
        refine jv_ldc2 dX5_changes_11 cnX5_296 ?_
        refine jv_s31 dX5_changes_14 okX5_in stX5_in mlX5_83 (om_inC _ (a := 0) (b := 9999) (by decide) (by decide)) (by decide) (Nat.le_of_ble_eq_true rfl) ?_
        refine jv_if_neB dX5_changes_17 (tgt := 27) (by decide) (fun hq19 => ?_) (fun hq19 => absurd hv.2 hq19)
        refine jv_iconst dX5_changes_27 jv_c_iconst_0 ?_
        refine jv_istore3 dX5_changes_28 rfl ?_
        refine jv_iload3 dX5_changes_29 ?_
        refine jv_iconst dX5_changes_30 jv_c_iconst_2 ?_
        refine jv_icmp_gtN dX5_changes_31 (tgt := 52) (by decide) (by omega) (by omega) (fun hc31 => by omega) (fun hc31 => ?_)
        refine jv_aload0 dX5_changes_34 ?_
        refine jv_iload1 dX5_changes_35 ?_
        refine jv_iload2 dX5_changes_36 ?_
        refine jv_iload3 dX5_changes_37 ?_
        refine jv_v31 dX5_changes_38 okX5_canBeBy inX5_canBeBy seX5_canBeBy mlX5_293 (ci := 5) (T := TX5) (N := 35) rfl (mk h.g) c0 (by decide) (Nat.le_of_ble_eq_true rfl) ?_
        refine jv_if_eqB dX5_changes_41 (tgt := 46) (by decide) (fun hq => ?_) (fun hq => absurd hq r0)
        refine jv_iinc3N dX5_changes_46 rfl ?_
        refine jv_goto dX5_changes_49 (tgt := 29) (by decide) ?_
        refine jv_iload3 dX5_changes_29 ?_
        refine jv_iconst dX5_changes_30 jv_c_iconst_2 ?_
        refine jv_icmp_gtN dX5_changes_31 (tgt := 52) (by decide) (by omega) (by omega) (fun hc31 => by omega) (fun hc31 => ?_)
        refine jv_aload0 dX5_changes_34 ?_
        refine jv_iload1 dX5_changes_35 ?_
        refine jv_iload2 dX5_changes_36 ?_
        refine jv_iload3 dX5_changes_37 ?_
        refine jv_v31 dX5_changes_38 okX5_canBeBy inX5_canBeBy seX5_canBeBy mlX5_293 (ci := 5) (T := TX5) (N := 35) rfl (mk h.g) c1 (by decide) (Nat.le_of_ble_eq_true rfl) ?_
        refine jv_if_eqB dX5_changes_41 (tgt := 46) (by decide) (fun hq => absurd r1 hq) (fun hq => ?_)
        refine jv_iload3 dX5_changes_44 ?_
        exact jv_iret dX5_changes_45 rfl rfl (by unfold ot_changes; rw [if_neg (fun z => r0 (i0.mpr z))]; rw [if_pos (i1.mp r1)]; rfl) rfl rfl
      · by_cases r2 : ot_RY u j 2 Y
        · refine ⟨G, A2, J, ?_, ot_M_yard h hR2 h.w h.z (ot_mf.pl g2).mw, (ot_mf.pl g2).mw.lo, ot_gx.rf⟩
          refine jv_enter okX5_changes (L := [.ref 64, .int (nI j), .int (nI u), .null]) rfl (Nat.le_of_ble_eq_true rfl) ?_
          refine jv_aload0 dX5_changes_0 ?_
          refine jv_iload1 dX5_changes_1 ?_
          refine jv_v11 dX5_changes_2 okX5_isCount inX5_isCount seX5_isCount mlX5_94 (ci := 5) (T := TX5) (N := 35) rfl (mk h.g) (om_isCount h.g h.r h.w _) (by decide) (Nat.le_of_ble_eq_true rfl) ?_
          refine jv_if_eqB dX5_changes_5 (tgt := 20) (by decide) (fun hq8 => absurd hv.1 hq8) (fun hq8 => ?_)
          refine jv_iload2 dX5_changes_8 ?_
          refine jv_i2l dX5_changes_9 rfl ?_
          refine jv_lconst dX5_changes_10 (v := lN 0) rfl ?_
          refine jv_ldc2 dX5_changes_11 cnX5_296 ?_
          refine jv_s31 dX5_changes_14 okX5_in stX5_in mlX5_83 (om_inC _ (a := 0) (b := 9999) (by decide) (by decide)) (by decide) (Nat.le_of_ble_eq_true rfl) ?_
          refine jv_if_neB dX5_changes_17 (tgt := 27) (by decide) (fun hq19 => ?_) (fun hq19 => absurd hv.2 hq19)
          refine jv_iconst dX5_changes_27 jv_c_iconst_0 ?_
          refine jv_istore3 dX5_changes_28 rfl ?_
          refine jv_iload3 dX5_changes_29 ?_
          refine jv_iconst dX5_changes_30 jv_c_iconst_2 ?_
          refine jv_icmp_gtN dX5_changes_31 (tgt := 52) (by decide) (by omega) (by omega) (fun hc31 => by omega) (fun hc31 => ?_)
          refine jv_aload0 dX5_changes_34 ?_
          refine jv_iload1 dX5_changes_35 ?_
          refine jv_iload2 dX5_changes_36 ?_
          refine jv_iload3 dX5_changes_37 ?_
          refine jv_v31 dX5_changes_38 okX5_canBeBy inX5_canBeBy seX5_canBeBy mlX5_293 (ci := 5) (T := TX5) (N := 35) rfl (mk h.g) c0 (by decide) (Nat.le_of_ble_eq_true rfl) ?_
          refine jv_if_eqB dX5_changes_41 (tgt := 46) (by decide) (fun hq => ?_) (fun hq => absurd hq r0)
          refine jv_iinc3N dX5_changes_46 rfl ?_
          refine jv_goto dX5_changes_49 (tgt := 29) (by decide) ?_
          refine jv_iload3 dX5_changes_29 ?_
          refine jv_iconst dX5_changes_30 jv_c_iconst_2 ?_
          refine jv_icmp_gtN dX5_changes_31 (tgt := 52) (by decide) (by omega) (by omega) (fun hc31 => by omega) (fun hc31 => ?_)
          refine jv_aload0 dX5_changes_34 ?_
          refine jv_iload1 dX5_changes_35 ?_
          refine jv_iload2 dX5_changes_36 ?_
          refine jv_iload3 dX5_changes_37 ?_
          refine jv_v31 dX5_changes_38 okX5_canBeBy inX5_canBeBy seX5_canBeBy mlX5_293 (ci := 5) (T := TX5) (N := 35) rfl (mk h.g) c1 (by decide) (Nat.le_of_ble_eq_true rfl) ?_
          refine jv_if_eqB dX5_changes_41 (tgt := 46) (by decide) (fun hq => ?_) (fun hq => absurd hq r1)
          refine jv_iinc3N dX5_changes_46 rfl ?_
          refine jv_goto dX5_changes_49 (tgt := 29) (by decide) ?_
          refine jv_iload3 dX5_changes_29 ?_
          refine jv_iconst dX5_changes_30 jv_c_iconst_2 ?_
          refine jv_icmp_gtN dX5_changes_31 (tgt := 52) (by decide) (by omega) (by omega) (fun hc31 => by omega) (fun hc31 => ?_)
          refine jv_aload0 dX5_changes_34 ?_
          refine jv_iload1 dX5_changes_35 ?_
          refine jv_iload2 dX5_changes_36 ?_
          refine jv_iload3 dX5_changes_37 ?_
          refine jv_v31 dX5_changes_38 okX5_canBeBy inX5_canBeBy seX5_canBeBy mlX5_293 (ci := 5) (T := TX5) (N := 35) rfl (mk h.g) c2 (by decide) (Nat.le_of_ble_eq_true rfl) ?_
          refine jv_if_eqB dX5_changes_41 (tgt := 46) (by decide) (fun hq => absurd r2 hq) (fun hq => ?_)
          refine jv_iload3 dX5_changes_44 ?_
          exact jv_iret dX5_changes_45 rfl rfl (by unfold ot_changes; rw [if_neg (fun z => r0 (i0.mpr z))]; rw [if_neg (fun z => r1 (i1.mpr z))]; rw [if_pos (i2.mp r2)]; rfl) rfl rfl
        · refine ⟨G, A2, J, ?_, ot_M_yard h hR2 h.w h.z (ot_mf.pl g2).mw, (ot_mf.pl g2).mw.lo, ot_gx.rf⟩
          refine jv_enter okX5_changes (L := [.ref 64, .int (nI j), .int (nI u), .null]) rfl (Nat.le_of_ble_eq_true rfl) ?_
          refine jv_aload0 dX5_changes_0 ?_
          refine jv_iload1 dX5_changes_1 ?_
          refine jv_v11 dX5_changes_2 okX5_isCount inX5_isCount seX5_isCount mlX5_94 (ci := 5) (T := TX5) (N := 35) rfl (mk h.g) (om_isCount h.g h.r h.w _) (by decide) (Nat.le_of_ble_eq_true rfl) ?_
          refine jv_if_eqB dX5_changes_5 (tgt := 20) (by decide) (fun hq8 => absurd hv.1 hq8) (fun hq8 => ?_)
          refine jv_iload2 dX5_changes_8 ?_
          refine jv_i2l dX5_changes_9 rfl ?_
          refine jv_lconst dX5_changes_10 (v := lN 0) rfl ?_
          refine jv_ldc2 dX5_changes_11 cnX5_296 ?_
          refine jv_s31 dX5_changes_14 okX5_in stX5_in mlX5_83 (om_inC _ (a := 0) (b := 9999) (by decide) (by decide)) (by decide) (Nat.le_of_ble_eq_true rfl) ?_
          refine jv_if_neB dX5_changes_17 (tgt := 27) (by decide) (fun hq19 => ?_) (fun hq19 => absurd hv.2 hq19)
          refine jv_iconst dX5_changes_27 jv_c_iconst_0 ?_
          refine jv_istore3 dX5_changes_28 rfl ?_
          refine jv_iload3 dX5_changes_29 ?_
          refine jv_iconst dX5_changes_30 jv_c_iconst_2 ?_
          refine jv_icmp_gtN dX5_changes_31 (tgt := 52) (by decide) (by omega) (by omega) (fun hc31 => by omega) (fun hc31 => ?_)
          refine jv_aload0 dX5_changes_34 ?_
          refine jv_iload1 dX5_changes_35 ?_
          refine jv_iload2 dX5_changes_36 ?_
          refine jv_iload3 dX5_changes_37 ?_
          refine jv_v31 dX5_changes_38 okX5_canBeBy inX5_canBeBy seX5_canBeBy mlX5_293 (ci := 5) (T := TX5) (N := 35) rfl (mk h.g) c0 (by decide) (Nat.le_of_ble_eq_true rfl) ?_
          refine jv_if_eqB dX5_changes_41 (tgt := 46) (by decide) (fun hq => ?_) (fun hq => absurd hq r0)
          refine jv_iinc3N dX5_changes_46 rfl ?_
          refine jv_goto dX5_changes_49 (tgt := 29) (by decide) ?_
          refine jv_iload3 dX5_changes_29 ?_
          refine jv_iconst dX5_changes_30 jv_c_iconst_2 ?_
          refine jv_icmp_gtN dX5_changes_31 (tgt := 52) (by decide) (by omega) (by omega) (fun hc31 => by omega) (fun hc31 => ?_)
          refine jv_aload0 dX5_changes_34 ?_
          refine jv_iload1 dX5_changes_35 ?_
          refine jv_iload2 dX5_changes_36 ?_
          refine jv_iload3 dX5_changes_37 ?_
          refine jv_v31 dX5_changes_38 okX5_canBeBy inX5_canBeBy seX5_canBeBy mlX5_293 (ci := 5) (T := TX5) (N := 35) rfl (mk h.g) c1 (by decide) (Nat.le_of_ble_eq_true rfl) ?_
          refine jv_if_eqB dX5_changes_41 (tgt := 46) (by decide) (fun hq => ?_) (fun hq => absurd hq r1)
          refine jv_iinc3N dX5_changes_46 rfl ?_
          refine jv_goto dX5_changes_49 (tgt := 29) (by decide) ?_
          refine jv_iload3 dX5_changes_29 ?_
          refine jv_iconst dX5_changes_30 jv_c_iconst_2 ?_
          refine jv_icmp_gtN dX5_changes_31 (tgt := 52) (by decide) (by omega) (by omega) (fun hc31 => by omega) (fun hc31 => ?_)
          refine jv_aload0 dX5_changes_34 ?_
          refine jv_iload1 dX5_changes_35 ?_
          refine jv_iload2 dX5_changes_36 ?_
          refine jv_iload3 dX5_changes_37 ?_
          refine jv_v31 dX5_changes_38 okX5_canBeBy inX5_canBeBy seX5_canBeBy mlX5_293 (ci := 5) (T := TX5) (N := 35) rfl (mk h.g) c2 (by decide) (Nat.le_of_ble_eq_true rfl) ?_
          refine jv_if_eqB dX5_changes_41 (tgt := 46) (by decide) (fun hq => ?_) (fun hq => absurd hq r2)
          refine jv_iinc3N dX5_changes_46 rfl ?_
          refine jv_goto dX5_changes_49 (tgt := 29) (by decide) ?_
          refine jv_iload3 dX5_changes_29 ?_
          refine jv_iconst dX5_changes_30 jv_c_iconst_2 ?_
          refine jv_icmp_gtN dX5_changes_31 (tgt := 52) (by decide) (by omega) (by omega) (fun hc31 => ?_) (fun hc31 => by omega)
          refine jv_iconst dX5_changes_52 jv_c_iconst_m1 ?_
          exact jv_iret dX5_changes_53 rfl rfl (by unfold ot_changes; rw [if_neg (fun z => r0 (i0.mpr z)), if_neg (fun z => r1 (i1.mpr z)), if_neg (fun z => r2 (i2.mpr z))]) rfl rfl
  · obtain ⟨I2, hC, h2, h3⟩ := om_refuse2 h
    refine ⟨G, I2, J, ?_, h2, h3, ot_gx.rf⟩
    refine jv_enter okX5_changes (L := [.ref 64, .int k, .int v, .null]) rfl (Nat.le_of_ble_eq_true rfl) ?_
    refine jv_aload0 dX5_changes_0 ?_
    refine jv_iload1 dX5_changes_1 ?_
    refine jv_v11 dX5_changes_2 okX5_isCount inX5_isCount seX5_isCount mlX5_94 (ci := 5) (T := TX5) (N := 35) rfl (mk h.g) (om_isCount h.g h.r h.w _) (by decide) (Nat.le_of_ble_eq_true rfl) ?_
    refine jv_if_eqB dX5_changes_5 (tgt := 20) (by decide) (fun hq8 => ?_) (fun hq8 => ?_)
    · refine jv_aload0 dX5_changes_20 ?_
      refine jv_bipush dX5_changes_21 jv_c_bipush_m2 ?_
      refine jv_v11 dX5_changes_23 okX5_refuse inX5_refuse seX5_refuse mlX5_104 (ci := 5) (T := TX5) (N := 35) rfl (mk h.g) hC (by decide) (Nat.le_of_ble_eq_true rfl) ?_
      exact jv_iret dX5_changes_26 rfl rfl rfl rfl rfl
    · refine jv_iload2 dX5_changes_8 ?_
      refine jv_i2l dX5_changes_9 rfl ?_
      refine jv_lconst dX5_changes_10 (v := lN 0) rfl ?_
      refine jv_ldc2 dX5_changes_11 cnX5_296 ?_
      refine jv_s31 dX5_changes_14 okX5_in stX5_in mlX5_83 (om_inC _ (a := 0) (b := 9999) (by decide) (by decide)) (by decide) (Nat.le_of_ble_eq_true rfl) ?_
      refine jv_if_neB dX5_changes_17 (tgt := 27) (by decide) (fun hq19 => absurd ⟨hq8, hq19⟩ hv) (fun hq19 => ?_)
      refine jv_aload0 dX5_changes_20 ?_
      refine jv_bipush dX5_changes_21 jv_c_bipush_m2 ?_
      refine jv_v11 dX5_changes_23 okX5_refuse inX5_refuse seX5_refuse mlX5_104 (ci := 5) (T := TX5) (N := 35) rfl (mk h.g) hC (by decide) (Nat.le_of_ble_eq_true rfl) ?_
      exact jv_iret dX5_changes_26 rfl rfl rfl rfl rfl
