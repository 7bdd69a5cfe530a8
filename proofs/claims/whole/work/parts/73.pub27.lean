/-! ===== the face: changes ===== -/
theorem ot_allWorths_le {Y : ot_Y} (hW : ot_YW Y) : ot_allWorths Y ≤ 1980 := by
  have h1 := ot_sum_le (f := fun i => Y 9 i) (b := 99) (Y 10 2) (fun i hi => (by have := yw_wish hW hi; omega : Y 9 i ≤ 99))
  have := yw_w hW
  unfold ot_allWorths
  omega
set_option maxRecDepth 20000 in
theorem oc_oneChange {G : jv_Gr} {I : jv_I} {J : jv_J} {Y Z : ot_Y} {E : ot_E} {K : Option ot_Y} (h : ot_C G I J Y Z E K) {s : Nat → Nat} (hS : ∀ c, c < Y 10 0 → I 39 c = nI (s c)) (hb : ∀ c, c < Y 10 0 → s c < 5) {v f w : Nat} (hv : v ≤ 9999) (hfw : f < w) (hf : f ≤ Y 10 0) (hw : w ≤ Y 10 0 + 1) [Decidable (ot_one Y v f w s)] : ∃ I2, jv_C 3 mX0_oneChangeReaches [.ref 38, .int (nI v), .int (nI f), .int (nI w)] G I J (some (.int (jv_b (ot_one Y v f w s)))) G I2 J ∧ (∀ x, x < Y 10 0 → I2 39 x = nI (s x)) ∧ ∀ q, q ≠ 39 → I2 q = I q := by
  have bn := yw_n h.w
  have bc := yw_c h.w
  have bw := yw_w h.w
  have outer : ∀ (m i : Nat) (A : jv_I) (s5 : Value), Y 10 0 + 1 ≤ i + m → i ≤ Y 10 0 → f ≤ i → (∀ a c, ((a = f ∧ w ≤ c) ∨ (f < a ∧ a < c)) → c < Y 10 0 → (a < i ∨ (a = i ∧ c < 0)) → s a ≠ s c → ¬ v ≤ ot_valS Y (ot_swapF s a c)) → (∀ x, x < Y 10 0 → A 39 x = nI (s x)) → (∀ q, q ≠ 39 → A q = I q) → ∃ I2, jv_V 3 mX0_oneChangeReaches 3 [.ref 38, .int (nI v), .int (nI f), .int (nI w), .int (nI i), s5] [] G A J (some (.int (jv_b (ot_one Y v f w s)))) G I2 J ∧ (∀ x, x < Y 10 0 → I2 39 x = nI (s x)) ∧ ∀ q, q ≠ 39 → I2 q = I q := by
    intro m
    induction m with
    | zero => intro i A s5 b1 b2; omega
    | succ m ih =>
      intro i A s5 b1 b2 hfi hn hS hF
      have hA := ot_C_39 h hF
      by_cases hi : i < Y 10 0
      · have inner : ∀ (m2 b : Nat) (A : jv_I), Y 10 0 + 1 ≤ b + m2 → b ≤ Y 10 0 + 1 → ((i = f ∧ w ≤ b) ∨ (f < i ∧ i < b)) → (∀ a c, ((a = f ∧ w ≤ c) ∨ (f < a ∧ a < c)) → c < Y 10 0 → (a < i ∨ (a = i ∧ c < b)) → s a ≠ s c → ¬ v ≤ ot_valS Y (ot_swapF s a c)) → (∀ x, x < Y 10 0 → A 39 x = nI (s x)) → (∀ q, q ≠ 39 → A q = I q) → ∃ I2, jv_V 3 mX0_oneChangeReaches 31 [.ref 38, .int (nI v), .int (nI f), .int (nI w), .int (nI i), .int (nI b)] [] G A J (some (.int (jv_b (ot_one Y v f w s)))) G I2 J ∧ (∀ x, x < Y 10 0 → I2 39 x = nI (s x)) ∧ ∀ q, q ≠ 39 → I2 q = I q := by
          intro m2
          induction m2 with
          | zero =>
            intro b A q1 q2 hr hn hS hF
            have hA := ot_C_39 h hF
            obtain ⟨I2, hV, hP⟩ := ih (i + 1) A (.int (nI b)) (by omega) (by omega) (by omega) (fun a c r hc hl => hn a c r hc (by omega)) hS hF
            refine ⟨I2, ?_, hP⟩
            refine jv_iload5 dX0_oneChangeReaches_31 ?_
            refine jv_aload0 dX0_oneChangeReaches_33 ?_
            refine jv_getR dX0_oneChangeReaches_34 flX0_27 rfl (fk h.g) (fr_yard h.g) ?_
            refine jv_getI dX0_oneChangeReaches_37 flX0_31 rfl (yk (cg_now h.g)) (yi_children hA.r) ?_
            refine jv_icmp_geN dX0_oneChangeReaches_40 (tgt := 80) (by decide) (by omega) (by omega) (fun hc40 => ?_) (fun hc40 => by omega)
            refine jv_iinc4N dX0_oneChangeReaches_80 rfl ?_
            refine jv_goto dX0_oneChangeReaches_83 (tgt := 3) (by decide) ?_
            exact hV
          | succ m2 ih2 =>
            intro b A q1 q2 hr hn hS hF
            have hA := ot_C_39 h hF
            by_cases hbn : b < Y 10 0
            · have hb1 := hb i hi
              have hb2 := hb b hbn
              have step : (s i ≠ s b → ¬ v ≤ ot_valS Y (ot_swapF s i b)) → (∀ a c, ((a = f ∧ w ≤ c) ∨ (f < a ∧ a < c)) → c < Y 10 0 → (a < i ∨ (a = i ∧ c < (b + 1))) → s a ≠ s c → ¬ v ≤ ot_valS Y (ot_swapF s a c)) := fun hq a c r hc hl => by
                by_cases ee : a = i ∧ c = b
                · rw [ee.1, ee.2]; exact hq
                · exact hn a c r hc (by omega)
              by_cases e : s i = s b
              · obtain ⟨I2, hV, hP⟩ := ih2 (b + 1) A (by omega) (by omega) (by omega) (step (fun z => absurd e z)) hS hF
                refine ⟨I2, ?_, hP⟩
                refine jv_iload5 dX0_oneChangeReaches_31 ?_
                refine jv_aload0 dX0_oneChangeReaches_33 ?_
                refine jv_getR dX0_oneChangeReaches_34 flX0_27 rfl (fk h.g) (fr_yard h.g) ?_
                refine jv_getI dX0_oneChangeReaches_37 flX0_31 rfl (yk (cg_now h.g)) (yi_children hA.r) ?_
                refine jv_icmp_geN dX0_oneChangeReaches_40 (tgt := 80) (by decide) (by omega) (by omega) (fun hc40 => by omega) (fun hc40 => ?_)
                refine jv_aload0 dX0_oneChangeReaches_43 ?_
                refine jv_getR dX0_oneChangeReaches_44 flX0_9 rfl (fk h.g) (fr_sides h.g) ?_
                refine jv_iload4 dX0_oneChangeReaches_47 ?_
                refine jv_ialdN dX0_oneChangeReaches_49 (fk_sides h.g) (by omega) (by decide) (hS _ (by omega)) ?_
                refine jv_aload0 dX0_oneChangeReaches_50 ?_
                refine jv_getR dX0_oneChangeReaches_51 flX0_9 rfl (fk h.g) (fr_sides h.g) ?_
                refine jv_iload5 dX0_oneChangeReaches_54 ?_
                refine jv_ialdN dX0_oneChangeReaches_56 (fk_sides h.g) (by omega) (by decide) (hS _ (by omega)) ?_
                refine jv_icmp_eqN dX0_oneChangeReaches_57 (tgt := 74) (by decide) (by omega) (by omega) (fun h57 => ?_) (fun h57 => absurd e h57)
                refine jv_iinc5N dX0_oneChangeReaches_74 rfl ?_
                refine jv_goto dX0_oneChangeReaches_77 (tgt := 31) (by decide) ?_
                exact hV
              · obtain ⟨A2, cW, hS2, hFw⟩ := oc_withChange hA hS hb hi hbn
                have hF2 : ∀ q, q ≠ 39 → A2 q = I q := fun q hq => (hFw q hq).trans (hF q hq)
                have hvl := ot_valS_le h.w (ot_swapF s i b)
                by_cases hh : v ≤ ot_valS Y (ot_swapF s i b)
                · have hP : ot_one Y v f w s := ⟨i, b, hr, hbn, e, hh⟩
                  refine ⟨A2, ?_, hS2, hF2⟩
                  refine jv_iload5 dX0_oneChangeReaches_31 ?_
                  refine jv_aload0 dX0_oneChangeReaches_33 ?_
                  refine jv_getR dX0_oneChangeReaches_34 flX0_27 rfl (fk h.g) (fr_yard h.g) ?_
                  refine jv_getI dX0_oneChangeReaches_37 flX0_31 rfl (yk (cg_now h.g)) (yi_children hA.r) ?_
                  refine jv_icmp_geN dX0_oneChangeReaches_40 (tgt := 80) (by decide) (by omega) (by omega) (fun hc40 => by omega) (fun hc40 => ?_)
                  refine jv_aload0 dX0_oneChangeReaches_43 ?_
                  refine jv_getR dX0_oneChangeReaches_44 flX0_9 rfl (fk h.g) (fr_sides h.g) ?_
                  refine jv_iload4 dX0_oneChangeReaches_47 ?_
                  refine jv_ialdN dX0_oneChangeReaches_49 (fk_sides h.g) (by omega) (by decide) (hS _ (by omega)) ?_
                  refine jv_aload0 dX0_oneChangeReaches_50 ?_
                  refine jv_getR dX0_oneChangeReaches_51 flX0_9 rfl (fk h.g) (fr_sides h.g) ?_
                  refine jv_iload5 dX0_oneChangeReaches_54 ?_
                  refine jv_ialdN dX0_oneChangeReaches_56 (fk_sides h.g) (by omega) (by decide) (hS _ (by omega)) ?_
                  refine jv_icmp_eqN dX0_oneChangeReaches_57 (tgt := 74) (by decide) (by omega) (by omega) (fun h57 => absurd h57 e) (fun h57 => ?_)
                  refine jv_aload0 dX0_oneChangeReaches_60 ?_
                  refine jv_iload4 dX0_oneChangeReaches_61 ?_
                  refine jv_iload5 dX0_oneChangeReaches_63 ?_
                  refine jv_v21 dX0_oneChangeReaches_65 okX0_valueWithChange inX0_valueWithChange seX0_valueWithChange mlX0_72 (ci := 0) (T := TX0) (N := 6) rfl (fk h.g) cW (by decide) (Nat.le_of_ble_eq_true rfl) ?_
                  refine jv_iload1 dX0_oneChangeReaches_68 ?_
                  refine jv_icmp_ltN dX0_oneChangeReaches_69 (tgt := 74) (by decide) (by omega) (by omega) (fun hc69 => by omega) (fun hc69 => ?_)
                  refine jv_iconst dX0_oneChangeReaches_72 jv_c_iconst_1 ?_
                  exact jv_iret dX0_oneChangeReaches_73 rfl (by decide) (ot_b1 hP) rfl rfl
                · obtain ⟨I2, hV, hP⟩ := ih2 (b + 1) A2 (by omega) (by omega) (by omega) (step (fun _ => hh)) hS2 hF2
                  refine ⟨I2, ?_, hP⟩
                  refine jv_iload5 dX0_oneChangeReaches_31 ?_
                  refine jv_aload0 dX0_oneChangeReaches_33 ?_
                  refine jv_getR dX0_oneChangeReaches_34 flX0_27 rfl (fk h.g) (fr_yard h.g) ?_
                  refine jv_getI dX0_oneChangeReaches_37 flX0_31 rfl (yk (cg_now h.g)) (yi_children hA.r) ?_
                  refine jv_icmp_geN dX0_oneChangeReaches_40 (tgt := 80) (by decide) (by omega) (by omega) (fun hc40 => by omega) (fun hc40 => ?_)
                  refine jv_aload0 dX0_oneChangeReaches_43 ?_
                  refine jv_getR dX0_oneChangeReaches_44 flX0_9 rfl (fk h.g) (fr_sides h.g) ?_
                  refine jv_iload4 dX0_oneChangeReaches_47 ?_
                  refine jv_ialdN dX0_oneChangeReaches_49 (fk_sides h.g) (by omega) (by decide) (hS _ (by omega)) ?_
                  refine jv_aload0 dX0_oneChangeReaches_50 ?_
                  refine jv_getR dX0_oneChangeReaches_51 flX0_9 rfl (fk h.g) (fr_sides h.g) ?_
                  refine jv_iload5 dX0_oneChangeReaches_54 ?_
                  refine jv_ialdN dX0_oneChangeReaches_56 (fk_sides h.g) (by omega) (by decide) (hS _ (by omega)) ?_
                  refine jv_icmp_eqN dX0_oneChangeReaches_57 (tgt := 74) (by decide) (by omega) (by omega) (fun h57 => absurd h57 e) (fun h57 => ?_)
                  refine jv_aload0 dX0_oneChangeReaches_60 ?_
                  refine jv_iload4 dX0_oneChangeReaches_61 ?_
                  refine jv_iload5 dX0_oneChangeReaches_63 ?_
                  refine jv_v21 dX0_oneChangeReaches_65 okX0_valueWithChange inX0_valueWithChange seX0_valueWithChange mlX0_72 (ci := 0) (T := TX0) (N := 6) rfl (fk h.g) cW (by decide) (Nat.le_of_ble_eq_true rfl) ?_
                  refine jv_iload1 dX0_oneChangeReaches_68 ?_
                  refine jv_icmp_ltN dX0_oneChangeReaches_69 (tgt := 74) (by decide) (by omega) (by omega) (fun hc69 => ?_) (fun hc69 => by omega)
                  refine jv_iinc5N dX0_oneChangeReaches_74 rfl ?_
                  refine jv_goto dX0_oneChangeReaches_77 (tgt := 31) (by decide) ?_
                  exact hV
            · obtain ⟨I2, hV, hP⟩ := ih (i + 1) A (.int (nI b)) (by omega) (by omega) (by omega) (fun a c r hc hl => hn a c r hc (by omega)) hS hF
              refine ⟨I2, ?_, hP⟩
              refine jv_iload5 dX0_oneChangeReaches_31 ?_
              refine jv_aload0 dX0_oneChangeReaches_33 ?_
              refine jv_getR dX0_oneChangeReaches_34 flX0_27 rfl (fk h.g) (fr_yard h.g) ?_
              refine jv_getI dX0_oneChangeReaches_37 flX0_31 rfl (yk (cg_now h.g)) (yi_children hA.r) ?_
              refine jv_icmp_geN dX0_oneChangeReaches_40 (tgt := 80) (by decide) (by omega) (by omega) (fun hc40 => ?_) (fun hc40 => by omega)
              refine jv_iinc4N dX0_oneChangeReaches_80 rfl ?_
              refine jv_goto dX0_oneChangeReaches_83 (tgt := 3) (by decide) ?_
              exact hV
        by_cases e : i = f
        · obtain ⟨I2, hV, hP⟩ := inner (Y 10 0 + 1) w A (by omega) (by omega) (by omega) (fun a c r hc hl => hn a c r hc (by omega)) hS hF
          refine ⟨I2, ?_, hP⟩
          refine jv_iload4 dX0_oneChangeReaches_3 ?_
          refine jv_aload0 dX0_oneChangeReaches_5 ?_
          refine jv_getR dX0_oneChangeReaches_6 flX0_27 rfl (fk h.g) (fr_yard h.g) ?_
          refine jv_getI dX0_oneChangeReaches_9 flX0_31 rfl (yk (cg_now h.g)) (yi_children hA.r) ?_
          refine jv_icmp_geN dX0_oneChangeReaches_12 (tgt := 86) (by decide) (by omega) (by omega) (fun hc12 => by omega) (fun hc12 => ?_)
          refine jv_iload4 dX0_oneChangeReaches_15 ?_
          refine jv_iload2 dX0_oneChangeReaches_17 ?_
          refine jv_icmp_neN dX0_oneChangeReaches_18 (tgt := 25) (by decide) (by omega) (by omega) (fun hc18 => by omega) (fun hc18 => ?_)
          refine jv_iload3 dX0_oneChangeReaches_21 ?_
          refine jv_goto dX0_oneChangeReaches_22 (tgt := 29) (by decide) ?_
          refine jv_istore5 dX0_oneChangeReaches_29 rfl ?_
          exact hV
        · obtain ⟨I2, hV, hP⟩ := inner (Y 10 0 + 1) (i + 1) A (by omega) (by omega) (by omega) (fun a c r hc hl => hn a c r hc (by omega)) hS hF
          refine ⟨I2, ?_, hP⟩
          refine jv_iload4 dX0_oneChangeReaches_3 ?_
          refine jv_aload0 dX0_oneChangeReaches_5 ?_
          refine jv_getR dX0_oneChangeReaches_6 flX0_27 rfl (fk h.g) (fr_yard h.g) ?_
          refine jv_getI dX0_oneChangeReaches_9 flX0_31 rfl (yk (cg_now h.g)) (yi_children hA.r) ?_
          refine jv_icmp_geN dX0_oneChangeReaches_12 (tgt := 86) (by decide) (by omega) (by omega) (fun hc12 => by omega) (fun hc12 => ?_)
          refine jv_iload4 dX0_oneChangeReaches_15 ?_
          refine jv_iload2 dX0_oneChangeReaches_17 ?_
          refine jv_icmp_neN dX0_oneChangeReaches_18 (tgt := 25) (by decide) (by omega) (by omega) (fun hc18 => ?_) (fun hc18 => by omega)
          refine jv_iload4 dX0_oneChangeReaches_25 ?_
          refine jv_iconst dX0_oneChangeReaches_27 jv_c_iconst_1 ?_
          refine jv_iaddN dX0_oneChangeReaches_28 ?_
          refine jv_istore5 dX0_oneChangeReaches_29 rfl ?_
          exact hV
      · have hP : ¬ ot_one Y v f w s := fun ⟨a, c, r, hc, hd, hvv⟩ => hn a c r hc (by omega) hd hvv
        refine ⟨A, ?_, hS, hF⟩
        refine jv_iload4 dX0_oneChangeReaches_3 ?_
        refine jv_aload0 dX0_oneChangeReaches_5 ?_
        refine jv_getR dX0_oneChangeReaches_6 flX0_27 rfl (fk h.g) (fr_yard h.g) ?_
        refine jv_getI dX0_oneChangeReaches_9 flX0_31 rfl (yk (cg_now h.g)) (yi_children hA.r) ?_
        refine jv_icmp_geN dX0_oneChangeReaches_12 (tgt := 86) (by decide) (by omega) (by omega) (fun hc12 => ?_) (fun hc12 => by omega)
        refine jv_iconst dX0_oneChangeReaches_86 jv_c_iconst_0 ?_
        exact jv_iret dX0_oneChangeReaches_87 rfl (by decide) (ot_b0 hP) rfl rfl
  obtain ⟨I2, hV, hP⟩ := outer (Y 10 0 + 1) f I .null (by omega) (by omega) (by omega) (fun a c r hc hl => by omega) hS (fun _ _ => rfl)
  refine ⟨I2, ?_, hP⟩
  refine jv_enter okX0_oneChangeReaches (L := [.ref 38, .int (nI v), .int (nI f), .int (nI w), .null, .null]) rfl (Nat.le_of_ble_eq_true rfl) ?_
  refine jv_iload2 dX0_oneChangeReaches_0 ?_
  refine jv_istore4 dX0_oneChangeReaches_1 rfl ?_
  exact hV
set_option maxRecDepth 20000 in
theorem oc_twoChange {G : jv_Gr} {I : jv_I} {J : jv_J} {Y Z : ot_Y} {E : ot_E} {K : Option ot_Y} (h : ot_C G I J Y Z E K) {s : Nat → Nat} (hS : ∀ c, c < Y 10 0 → I 39 c = nI (s c)) (hb : ∀ c, c < Y 10 0 → s c < 5) {v : Nat} (hv : v ≤ 9999) [Decidable (ot_two Y v s)] : ∃ I2, jv_C 4 mX0_twoChangesReach [.ref 38, .int (nI v)] G I J (some (.int (jv_b (ot_two Y v s)))) G I2 J ∧ (∀ x, x < Y 10 0 → I2 39 x = nI (s x)) ∧ ∀ q, q ≠ 39 → I2 q = I q := by
  have bn := yw_n h.w
  have bc := yw_c h.w
  have bw := yw_w h.w
  have outer : ∀ (m i : Nat) (A : jv_I) (s3 s4 : Value), Y 10 0 + 1 ≤ i + m → i ≤ Y 10 0 → (∀ a c, a < c → c < Y 10 0 → (a < i ∨ (a = i ∧ c < 0)) → s a ≠ s c → ¬ ot_one Y v a (c + 1) (ot_swapF s a c)) → (∀ x, x < Y 10 0 → A 39 x = nI (s x)) → (∀ q, q ≠ 39 → A q = I q) → ∃ I2, jv_V 4 mX0_twoChangesReach 2 [.ref 38, .int (nI v), .int (nI i), s3, s4] [] G A J (some (.int (jv_b (ot_two Y v s)))) G I2 J ∧ (∀ x, x < Y 10 0 → I2 39 x = nI (s x)) ∧ ∀ q, q ≠ 39 → I2 q = I q := by
    intro m
    induction m with
    | zero => intro i A s3 s4 b1 b2; omega
    | succ m ih =>
      intro i A s3 s4 b1 b2 hn hS hF
      have hA := ot_C_39 h hF
      by_cases hi : i < Y 10 0
      · have inner : ∀ (m2 b : Nat) (A : jv_I) (s4 : Value), Y 10 0 + 1 ≤ b + m2 → b ≤ Y 10 0 → i < b → (∀ a c, a < c → c < Y 10 0 → (a < i ∨ (a = i ∧ c < b)) → s a ≠ s c → ¬ ot_one Y v a (c + 1) (ot_swapF s a c)) → (∀ x, x < Y 10 0 → A 39 x = nI (s x)) → (∀ q, q ≠ 39 → A q = I q) → ∃ I2, jv_V 4 mX0_twoChangesReach 17 [.ref 38, .int (nI v), .int (nI i), .int (nI b), s4] [] G A J (some (.int (jv_b (ot_two Y v s)))) G I2 J ∧ (∀ x, x < Y 10 0 → I2 39 x = nI (s x)) ∧ ∀ q, q ≠ 39 → I2 q = I q := by
          intro m2
          induction m2 with
          | zero => intro b A s4 q1 q2; omega
          | succ m2 ih2 =>
            intro b A s4 q1 q2 hib hn hS hF
            have hA := ot_C_39 h hF
            by_cases hbn : b < Y 10 0
            · have hb1 := hb i hi
              have hb2 := hb b hbn
              have step : (s i ≠ s b → ¬ ot_one Y v i (b + 1) (ot_swapF s i b)) → (∀ a c, a < c → c < Y 10 0 → (a < i ∨ (a = i ∧ c < (b + 1))) → s a ≠ s c → ¬ ot_one Y v a (c + 1) (ot_swapF s a c)) := fun hq a c r hc hl => by
                by_cases ee : a = i ∧ c = b
                · rw [ee.1, ee.2]; exact hq
                · exact hn a c r hc (by omega)
              by_cases e : s i = s b
              · obtain ⟨I2, hV, hP⟩ := ih2 (b + 1) A s4 (by omega) (by omega) (by omega) (step (fun z => absurd e z)) hS hF
                refine ⟨I2, ?_, hP⟩
                refine jv_iload3 dX0_twoChangesReach_17 ?_
                refine jv_aload0 dX0_twoChangesReach_18 ?_
                refine jv_getR dX0_twoChangesReach_19 flX0_27 rfl (fk h.g) (fr_yard h.g) ?_
                refine jv_getI dX0_twoChangesReach_22 flX0_31 rfl (yk (cg_now h.g)) (yi_children hA.r) ?_
                refine jv_icmp_geN dX0_twoChangesReach_25 (tgt := 79) (by decide) (by omega) (by omega) (fun hc25 => by omega) (fun hc25 => ?_)
                refine jv_aload0 dX0_twoChangesReach_28 ?_
                refine jv_getR dX0_twoChangesReach_29 flX0_9 rfl (fk h.g) (fr_sides h.g) ?_
                refine jv_iload2 dX0_twoChangesReach_32 ?_
                refine jv_ialdN dX0_twoChangesReach_33 (fk_sides h.g) (by omega) (by decide) (hS _ (by omega)) ?_
                refine jv_aload0 dX0_twoChangesReach_34 ?_
                refine jv_getR dX0_twoChangesReach_35 flX0_9 rfl (fk h.g) (fr_sides h.g) ?_
                refine jv_iload3 dX0_twoChangesReach_38 ?_
                refine jv_ialdN dX0_twoChangesReach_39 (fk_sides h.g) (by omega) (by decide) (hS _ (by omega)) ?_
                refine jv_icmp_eqN dX0_twoChangesReach_40 (tgt := 73) (by decide) (by omega) (by omega) (fun h57 => ?_) (fun h57 => absurd e h57)
                refine jv_iinc3N dX0_twoChangesReach_73 rfl ?_
                refine jv_goto dX0_twoChangesReach_76 (tgt := 17) (by decide) ?_
                exact hV
              · have c1 := oc_exSides hA hS hb hi hbn
                obtain ⟨A1, e1⟩ : ∃ A1, A1 = jv_up (jv_up A 39 i (nI (s b))) 39 b (nI (s i)) := ⟨_, rfl⟩
                have hF1 : ∀ q, q ≠ 39 → A1 q = I q := fun q hq => by rw [e1, jv_up_ne _ _ _ hq, jv_up_ne _ _ _ hq]; exact hF q hq
                have hS1 : ∀ x, x < Y 10 0 → A1 39 x = nI (ot_swapF s i b x) := by rw [e1]; exact ot_exS hS
                rw [← e1] at c1
                have hA1 := ot_C_39 h hF1
                have hbs := ot_swapF_b hb hi hbn
                haveI : Decidable (ot_one Y v i (b + 1) (ot_swapF s i b)) := Classical.propDecidable _
                obtain ⟨A2, c2, hS2, hFw⟩ := oc_oneChange hA1 hS1 hbs hv (show i < b + 1 by omega) (by omega) (by omega)
                have hF2 : ∀ q, q ≠ 39 → A2 q = I q := fun q hq => (hFw q hq).trans (hF1 q hq)
                have hA2 := ot_C_39 h hF2
                have c3 := oc_exSides hA2 hS2 hbs hi hbn
                have hS3 := ot_exS (a := i) (c := b) hS2
                rw [ot_swapF_swapF] at hS3
                obtain ⟨A3, e3⟩ : ∃ A3, A3 = jv_up (jv_up A2 39 i (nI (ot_swapF s i b b))) 39 b (nI (ot_swapF s i b i)) := ⟨_, rfl⟩
                have hF3 : ∀ q, q ≠ 39 → A3 q = I q := fun q hq => by rw [e3, jv_up_ne _ _ _ hq, jv_up_ne _ _ _ hq]; exact hF2 q hq
                rw [← e3] at c3 hS3
                by_cases hh : ot_one Y v i (b + 1) (ot_swapF s i b)
                · have hP : ot_two Y v s := ⟨i, b, hib, hbn, e, hh⟩
                  refine ⟨A3, ?_, hS3, hF3⟩
                  refine jv_iload3 dX0_twoChangesReach_17 ?_
                  refine jv_aload0 dX0_twoChangesReach_18 ?_
                  refine jv_getR dX0_twoChangesReach_19 flX0_27 rfl (fk h.g) (fr_yard h.g) ?_
                  refine jv_getI dX0_twoChangesReach_22 flX0_31 rfl (yk (cg_now h.g)) (yi_children hA.r) ?_
                  refine jv_icmp_geN dX0_twoChangesReach_25 (tgt := 79) (by decide) (by omega) (by omega) (fun hc25 => by omega) (fun hc25 => ?_)
                  refine jv_aload0 dX0_twoChangesReach_28 ?_
                  refine jv_getR dX0_twoChangesReach_29 flX0_9 rfl (fk h.g) (fr_sides h.g) ?_
                  refine jv_iload2 dX0_twoChangesReach_32 ?_
                  refine jv_ialdN dX0_twoChangesReach_33 (fk_sides h.g) (by omega) (by decide) (hS _ (by omega)) ?_
                  refine jv_aload0 dX0_twoChangesReach_34 ?_
                  refine jv_getR dX0_twoChangesReach_35 flX0_9 rfl (fk h.g) (fr_sides h.g) ?_
                  refine jv_iload3 dX0_twoChangesReach_38 ?_
                  refine jv_ialdN dX0_twoChangesReach_39 (fk_sides h.g) (by omega) (by decide) (hS _ (by omega)) ?_
                  refine jv_icmp_eqN dX0_twoChangesReach_40 (tgt := 73) (by decide) (by omega) (by omega) (fun h57 => absurd h57 e) (fun h57 => ?_)
                  refine jv_aload0 dX0_twoChangesReach_43 ?_
                  refine jv_iload2 dX0_twoChangesReach_44 ?_
                  refine jv_iload3 dX0_twoChangesReach_45 ?_
                  refine jv_v20 dX0_twoChangesReach_46 okX0_exchangeSides inX0_exchangeSides seX0_exchangeSides mlX0_56 (ci := 0) (T := TX0) (N := 6) rfl (fk h.g) c1 (by decide) (Nat.le_of_ble_eq_true rfl) ?_
                  refine jv_aload0 dX0_twoChangesReach_49 ?_
                  refine jv_iload1 dX0_twoChangesReach_50 ?_
                  refine jv_iload2 dX0_twoChangesReach_51 ?_
                  refine jv_iload3 dX0_twoChangesReach_52 ?_
                  refine jv_iconst dX0_twoChangesReach_53 jv_c_iconst_1 ?_
                  refine jv_iaddN dX0_twoChangesReach_54 ?_
                  refine jv_v31 dX0_twoChangesReach_55 okX0_oneChangeReaches inX0_oneChangeReaches seX0_oneChangeReaches mlX0_78 (ci := 0) (T := TX0) (N := 6) rfl (fk h.g) c2 (by decide) (Nat.le_of_ble_eq_true rfl) ?_
                  refine jv_istore4 dX0_twoChangesReach_58 rfl ?_
                  refine jv_aload0 dX0_twoChangesReach_60 ?_
                  refine jv_iload2 dX0_twoChangesReach_61 ?_
                  refine jv_iload3 dX0_twoChangesReach_62 ?_
                  refine jv_v20 dX0_twoChangesReach_63 okX0_exchangeSides inX0_exchangeSides seX0_exchangeSides mlX0_56 (ci := 0) (T := TX0) (N := 6) rfl (fk h.g) c3 (by decide) (Nat.le_of_ble_eq_true rfl) ?_
                  refine jv_iload4 dX0_twoChangesReach_66 ?_
                  refine jv_if_eqB dX0_twoChangesReach_68 (tgt := 73) (by decide) (fun h68 => absurd hh h68) (fun h68 => ?_)
                  refine jv_iconst dX0_twoChangesReach_71 jv_c_iconst_1 ?_
                  exact jv_iret dX0_twoChangesReach_72 rfl (by decide) (ot_b1 hP) rfl rfl
                · obtain ⟨I2, hV, hP⟩ := ih2 (b + 1) A3 (.int (jv_b (ot_one Y v i (b + 1) (ot_swapF s i b)))) (by omega) (by omega) (by omega) (step (fun _ => hh)) hS3 hF3
                  refine ⟨I2, ?_, hP⟩
                  refine jv_iload3 dX0_twoChangesReach_17 ?_
                  refine jv_aload0 dX0_twoChangesReach_18 ?_
                  refine jv_getR dX0_twoChangesReach_19 flX0_27 rfl (fk h.g) (fr_yard h.g) ?_
                  refine jv_getI dX0_twoChangesReach_22 flX0_31 rfl (yk (cg_now h.g)) (yi_children hA.r) ?_
                  refine jv_icmp_geN dX0_twoChangesReach_25 (tgt := 79) (by decide) (by omega) (by omega) (fun hc25 => by omega) (fun hc25 => ?_)
                  refine jv_aload0 dX0_twoChangesReach_28 ?_
                  refine jv_getR dX0_twoChangesReach_29 flX0_9 rfl (fk h.g) (fr_sides h.g) ?_
                  refine jv_iload2 dX0_twoChangesReach_32 ?_
                  refine jv_ialdN dX0_twoChangesReach_33 (fk_sides h.g) (by omega) (by decide) (hS _ (by omega)) ?_
                  refine jv_aload0 dX0_twoChangesReach_34 ?_
                  refine jv_getR dX0_twoChangesReach_35 flX0_9 rfl (fk h.g) (fr_sides h.g) ?_
                  refine jv_iload3 dX0_twoChangesReach_38 ?_
                  refine jv_ialdN dX0_twoChangesReach_39 (fk_sides h.g) (by omega) (by decide) (hS _ (by omega)) ?_
                  refine jv_icmp_eqN dX0_twoChangesReach_40 (tgt := 73) (by decide) (by omega) (by omega) (fun h57 => absurd h57 e) (fun h57 => ?_)
                  refine jv_aload0 dX0_twoChangesReach_43 ?_
                  refine jv_iload2 dX0_twoChangesReach_44 ?_
                  refine jv_iload3 dX0_twoChangesReach_45 ?_
                  refine jv_v20 dX0_twoChangesReach_46 okX0_exchangeSides inX0_exchangeSides seX0_exchangeSides mlX0_56 (ci := 0) (T := TX0) (N := 6) rfl (fk h.g) c1 (by decide) (Nat.le_of_ble_eq_true rfl) ?_
                  refine jv_aload0 dX0_twoChangesReach_49 ?_
                  refine jv_iload1 dX0_twoChangesReach_50 ?_
                  refine jv_iload2 dX0_twoChangesReach_51 ?_
                  refine jv_iload3 dX0_twoChangesReach_52 ?_
                  refine jv_iconst dX0_twoChangesReach_53 jv_c_iconst_1 ?_
                  refine jv_iaddN dX0_twoChangesReach_54 ?_
                  refine jv_v31 dX0_twoChangesReach_55 okX0_oneChangeReaches inX0_oneChangeReaches seX0_oneChangeReaches mlX0_78 (ci := 0) (T := TX0) (N := 6) rfl (fk h.g) c2 (by decide) (Nat.le_of_ble_eq_true rfl) ?_
                  refine jv_istore4 dX0_twoChangesReach_58 rfl ?_
                  refine jv_aload0 dX0_twoChangesReach_60 ?_
                  refine jv_iload2 dX0_twoChangesReach_61 ?_
                  refine jv_iload3 dX0_twoChangesReach_62 ?_
                  refine jv_v20 dX0_twoChangesReach_63 okX0_exchangeSides inX0_exchangeSides seX0_exchangeSides mlX0_56 (ci := 0) (T := TX0) (N := 6) rfl (fk h.g) c3 (by decide) (Nat.le_of_ble_eq_true rfl) ?_
                  refine jv_iload4 dX0_twoChangesReach_66 ?_
                  refine jv_if_eqB dX0_twoChangesReach_68 (tgt := 73) (by decide) (fun h68 => ?_) (fun h68 => absurd h68 hh)
                  refine jv_iinc3N dX0_twoChangesReach_73 rfl ?_
                  refine jv_goto dX0_twoChangesReach_76 (tgt := 17) (by decide) ?_
                  exact hV
            · obtain ⟨I2, hV, hP⟩ := ih (i + 1) A (.int (nI b)) s4 (by omega) (by omega) (fun a c r hc hl => hn a c r hc (by omega)) hS hF
              refine ⟨I2, ?_, hP⟩
              refine jv_iload3 dX0_twoChangesReach_17 ?_
              refine jv_aload0 dX0_twoChangesReach_18 ?_
              refine jv_getR dX0_twoChangesReach_19 flX0_27 rfl (fk h.g) (fr_yard h.g) ?_
              refine jv_getI dX0_twoChangesReach_22 flX0_31 rfl (yk (cg_now h.g)) (yi_children hA.r) ?_
              refine jv_icmp_geN dX0_twoChangesReach_25 (tgt := 79) (by decide) (by omega) (by omega) (fun hc25 => ?_) (fun hc25 => by omega)
              refine jv_iinc2N dX0_twoChangesReach_79 rfl ?_
              refine jv_goto dX0_twoChangesReach_82 (tgt := 2) (by decide) ?_
              exact hV
        obtain ⟨I2, hV, hP⟩ := inner (Y 10 0 + 1) (i + 1) A s4 (by omega) (by omega) (by omega) (fun a c r hc hl => hn a c r hc (by omega)) hS hF
        refine ⟨I2, ?_, hP⟩
        refine jv_iload2 dX0_twoChangesReach_2 ?_
        refine jv_aload0 dX0_twoChangesReach_3 ?_
        refine jv_getR dX0_twoChangesReach_4 flX0_27 rfl (fk h.g) (fr_yard h.g) ?_
        refine jv_getI dX0_twoChangesReach_7 flX0_31 rfl (yk (cg_now h.g)) (yi_children hA.r) ?_
        refine jv_icmp_geN dX0_twoChangesReach_10 (tgt := 85) (by decide) (by omega) (by omega) (fun hc10 => by omega) (fun hc10 => ?_)
        refine jv_iload2 dX0_twoChangesReach_13 ?_
        refine jv_iconst dX0_twoChangesReach_14 jv_c_iconst_1 ?_
        refine jv_iaddN dX0_twoChangesReach_15 ?_
        refine jv_istore3 dX0_twoChangesReach_16 rfl ?_
        exact hV
      · have hP : ¬ ot_two Y v s := fun ⟨a, c, r, hc, hd, hvv⟩ => hn a c r hc (by omega) hd hvv
        refine ⟨A, ?_, hS, hF⟩
        refine jv_iload2 dX0_twoChangesReach_2 ?_
        refine jv_aload0 dX0_twoChangesReach_3 ?_
        refine jv_getR dX0_twoChangesReach_4 flX0_27 rfl (fk h.g) (fr_yard h.g) ?_
        refine jv_getI dX0_twoChangesReach_7 flX0_31 rfl (yk (cg_now h.g)) (yi_children hA.r) ?_
        refine jv_icmp_geN dX0_twoChangesReach_10 (tgt := 85) (by decide) (by omega) (by omega) (fun hc10 => ?_) (fun hc10 => by omega)
        refine jv_iconst dX0_twoChangesReach_85 jv_c_iconst_0 ?_
        exact jv_iret dX0_twoChangesReach_86 rfl (by decide) (ot_b0 hP) rfl rfl
  obtain ⟨I2, hV, hP⟩ := outer (Y 10 0 + 1) 0 I .null .null (by omega) (by omega) (fun a c r hc hl => by omega) hS (fun _ _ => rfl)
  refine ⟨I2, ?_, hP⟩
  refine jv_enter okX0_twoChangesReach (L := [.ref 38, .int (nI v), .null, .null, .null]) rfl (Nat.le_of_ble_eq_true rfl) ?_
  refine jv_iconst dX0_twoChangesReach_0 jv_c_iconst_0 ?_
  refine jv_istore2 dX0_twoChangesReach_1 rfl ?_
  exact hV
set_option maxRecDepth 20000 in
theorem oc_fewest {G : jv_Gr} {I : jv_I} {J : jv_J} {Y Z : ot_Y} {E : ot_E} {K : Option ot_Y} (h : ot_C G I J Y Z E K) {k v : Nat} (hk : k < Y 10 1) (hv : v ≤ 9999) : ∃ I2, jv_C 5 mX0_fewestChanges [.ref 38, .int (nI k), .int (nI v)] G I J (some (.int (ot_changes Y v (ot_sideOf Y k)))) G I2 J ∧ ∀ q, q ≠ 39 → I2 q = I q := by
  obtain ⟨A, c1, hS, hF⟩ := oc_takeSides h hk
  have hA := ot_C_39 h hF
  have hb : ∀ x, x < Y 10 0 → ot_sideOf Y k x < 5 := fun x _ => ot_side_5 h.w hk _
  have c2 := oc_valueOfSides hA hS hb
  have hvl := ot_valS_le h.w (ot_sideOf Y k)
  have haw : ot_allWorths Y < 2 ^ 31 := by
    have := ot_allWorths_le h.w
    omega
  by_cases r0 : ot_Rb Y v 0 (ot_sideOf Y k) = true
  · have q0 : v ≤ ot_valS Y (ot_sideOf Y k) := (ot_Rb_iff _ _ _ _).mp r0
    refine ⟨A, ?_, hF⟩
    refine jv_enter okX0_fewestChanges (L := [.ref 38, .int (nI k), .int (nI v)]) rfl (Nat.le_of_ble_eq_true rfl) ?_
    refine jv_aload0 dX0_fewestChanges_0 ?_
    refine jv_iload1 dX0_fewestChanges_1 ?_
    refine jv_v10 dX0_fewestChanges_2 okX0_takeSides inX0_takeSides seX0_takeSides mlX0_64 (ci := 0) (T := TX0) (N := 6) rfl (fk h.g) c1 (by decide) (Nat.le_of_ble_eq_true rfl) ?_
    refine jv_aload0 dX0_fewestChanges_5 ?_
    refine jv_v01 dX0_fewestChanges_6 okX0_valueOfSides inX0_valueOfSides seX0_valueOfSides mlX0_60 (ci := 0) (T := TX0) (N := 6) rfl (fk h.g) c2 (by decide) (Nat.le_of_ble_eq_true rfl) ?_
    refine jv_iload2 dX0_fewestChanges_9 ?_
    refine jv_icmp_ltN dX0_fewestChanges_10 (tgt := 15) (by decide) (by omega) (by omega) (fun hc10 => by omega) (fun hc10 => ?_)
    refine jv_iconst dX0_fewestChanges_13 jv_c_iconst_0 ?_
    exact jv_iret dX0_fewestChanges_14 rfl rfl (by unfold ot_changes; rw [if_pos r0]; rfl) rfl rfl
  · have q0 : ¬ v ≤ ot_valS Y (ot_sideOf Y k) := fun z => r0 ((ot_Rb_iff Y v 0 _).mpr z)
    by_cases ha : ot_allWorths Y < v
    · have r1 : ¬ ot_Rb Y v 1 (ot_sideOf Y k) = true := fun z => by
        have := ot_R_all _ _ _ _ ((ot_Rb_iff _ _ _ _).mp z)
        omega
      have r2 : ¬ ot_Rb Y v 2 (ot_sideOf Y k) = true := fun z => by
        have := ot_R_all _ _ _ _ ((ot_Rb_iff _ _ _ _).mp z)
        omega
      refine ⟨A, ?_, hF⟩
      refine jv_enter okX0_fewestChanges (L := [.ref 38, .int (nI k), .int (nI v)]) rfl (Nat.le_of_ble_eq_true rfl) ?_
      refine jv_aload0 dX0_fewestChanges_0 ?_
      refine jv_iload1 dX0_fewestChanges_1 ?_
      refine jv_v10 dX0_fewestChanges_2 okX0_takeSides inX0_takeSides seX0_takeSides mlX0_64 (ci := 0) (T := TX0) (N := 6) rfl (fk h.g) c1 (by decide) (Nat.le_of_ble_eq_true rfl) ?_
      refine jv_aload0 dX0_fewestChanges_5 ?_
      refine jv_v01 dX0_fewestChanges_6 okX0_valueOfSides inX0_valueOfSides seX0_valueOfSides mlX0_60 (ci := 0) (T := TX0) (N := 6) rfl (fk h.g) c2 (by decide) (Nat.le_of_ble_eq_true rfl) ?_
      refine jv_iload2 dX0_fewestChanges_9 ?_
      refine jv_icmp_ltN dX0_fewestChanges_10 (tgt := 15) (by decide) (by omega) (by omega) (fun hc10 => ?_) (fun hc10 => by omega)
      refine jv_aload0 dX0_fewestChanges_15 ?_
      refine jv_getR dX0_fewestChanges_16 flX0_27 rfl (fk h.g) (fr_yard h.g) ?_
      refine jv_v01 dX0_fewestChanges_19 okX3_allWorths inX3_allWorths seX3_allWorths mlX0_75 (ci := 3) (T := TX3) (N := 15) rfl (yk (cg_now h.g)) (ot_allWorthsM (cg_now h.g) hA.r h.w) (by decide) (Nat.le_of_ble_eq_true rfl) ?_
      refine jv_iload2 dX0_fewestChanges_22 ?_
      refine jv_icmp_geN dX0_fewestChanges_23 (tgt := 28) (by decide) (by omega) (by omega) (fun hc23 => by omega) (fun hc23 => ?_)
      refine jv_iconst dX0_fewestChanges_26 jv_c_iconst_m1 ?_
      exact jv_iret dX0_fewestChanges_27 rfl rfl (by unfold ot_changes; rw [if_neg r0, if_neg r1, if_neg r2]) rfl rfl
    · haveI : Decidable (ot_one Y v 0 1 (ot_sideOf Y k)) := Classical.propDecidable _
      haveI : Decidable (ot_two Y v (ot_sideOf Y k)) := Classical.propDecidable _
      obtain ⟨A2, c3, hS2, hF2⟩ := oc_oneChange hA hS hb hv (show 0 < 1 by decide) (by omega) (by omega)
      have hF3 : ∀ q, q ≠ 39 → A2 q = I q := fun q hq => (hF2 q hq).trans (hF q hq)
      have i1 := ot_one_R (Y := Y) (v := v) (s := (ot_sideOf Y k)) (by simpa using r0)
      by_cases r1 : ot_Rb Y v 1 (ot_sideOf Y k) = true
      · have o1 := i1.mpr r1
        refine ⟨A2, ?_, hF3⟩
        refine jv_enter okX0_fewestChanges (L := [.ref 38, .int (nI k), .int (nI v)]) rfl (Nat.le_of_ble_eq_true rfl) ?_
        refine jv_aload0 dX0_fewestChanges_0 ?_
        refine jv_iload1 dX0_fewestChanges_1 ?_
        refine jv_v10 dX0_fewestChanges_2 okX0_takeSides inX0_takeSides seX0_takeSides mlX0_64 (ci := 0) (T := TX0) (N := 6) rfl (fk h.g) c1 (by decide) (Nat.le_of_ble_eq_true rfl) ?_
        refine jv_aload0 dX0_fewestChanges_5 ?_
        refine jv_v01 dX0_fewestChanges_6 okX0_valueOfSides inX0_valueOfSides seX0_valueOfSides mlX0_60 (ci := 0) (T := TX0) (N := 6) rfl (fk h.g) c2 (by decide) (Nat.le_of_ble_eq_true rfl) ?_
        refine jv_iload2 dX0_fewestChanges_9 ?_
        refine jv_icmp_ltN dX0_fewestChanges_10 (tgt := 15) (by decide) (by omega) (by omega) (fun hc10 => ?_) (fun hc10 => by omega)
        refine jv_aload0 dX0_fewestChanges_15 ?_
        refine jv_getR dX0_fewestChanges_16 flX0_27 rfl (fk h.g) (fr_yard h.g) ?_
        refine jv_v01 dX0_fewestChanges_19 okX3_allWorths inX3_allWorths seX3_allWorths mlX0_75 (ci := 3) (T := TX3) (N := 15) rfl (yk (cg_now h.g)) (ot_allWorthsM (cg_now h.g) hA.r h.w) (by decide) (Nat.le_of_ble_eq_true rfl) ?_
        refine jv_iload2 dX0_fewestChanges_22 ?_
        refine jv_icmp_geN dX0_fewestChanges_23 (tgt := 28) (by decide) (by omega) (by omega) (fun hc23 => ?_) (fun hc23 => by omega)
        refine jv_aload0 dX0_fewestChanges_28 ?_
        refine jv_iload2 dX0_fewestChanges_29 ?_
        refine jv_iconst dX0_fewestChanges_30 jv_c_iconst_0 ?_
        refine jv_iconst dX0_fewestChanges_31 jv_c_iconst_1 ?_
        refine jv_v31 dX0_fewestChanges_32 okX0_oneChangeReaches inX0_oneChangeReaches seX0_oneChangeReaches mlX0_78 (ci := 0) (T := TX0) (N := 6) rfl (fk h.g) c3 (by decide) (Nat.le_of_ble_eq_true rfl) ?_
        refine jv_if_eqB dX0_fewestChanges_35 (tgt := 40) (by decide) (fun hq => absurd o1 hq) (fun hq => ?_)
        refine jv_iconst dX0_fewestChanges_38 jv_c_iconst_1 ?_
        exact jv_iret dX0_fewestChanges_39 rfl rfl (by unfold ot_changes; rw [if_neg r0, if_pos r1]; rfl) rfl rfl
      · have o1 : ¬ ot_one Y v 0 1 (ot_sideOf Y k) := fun z => r1 (i1.mp z)
        have hA2 := ot_C_39 h hF3
        obtain ⟨A3, c4, hS3, hF4⟩ := oc_twoChange hA2 hS2 hb hv
        have hF5 : ∀ q, q ≠ 39 → A3 q = I q := fun q hq => (hF4 q hq).trans (hF3 q hq)
        have i2 := ot_two_R (Y := Y) (v := v) (s := (ot_sideOf Y k)) (by simpa using r1)
        by_cases r2 : ot_Rb Y v 2 (ot_sideOf Y k) = true
        · have o2 := i2.mpr r2
          refine ⟨A3, ?_, hF5⟩
          refine jv_enter okX0_fewestChanges (L := [.ref 38, .int (nI k), .int (nI v)]) rfl (Nat.le_of_ble_eq_true rfl) ?_
          refine jv_aload0 dX0_fewestChanges_0 ?_
          refine jv_iload1 dX0_fewestChanges_1 ?_
          refine jv_v10 dX0_fewestChanges_2 okX0_takeSides inX0_takeSides seX0_takeSides mlX0_64 (ci := 0) (T := TX0) (N := 6) rfl (fk h.g) c1 (by decide) (Nat.le_of_ble_eq_true rfl) ?_
          refine jv_aload0 dX0_fewestChanges_5 ?_
          refine jv_v01 dX0_fewestChanges_6 okX0_valueOfSides inX0_valueOfSides seX0_valueOfSides mlX0_60 (ci := 0) (T := TX0) (N := 6) rfl (fk h.g) c2 (by decide) (Nat.le_of_ble_eq_true rfl) ?_
          refine jv_iload2 dX0_fewestChanges_9 ?_
          refine jv_icmp_ltN dX0_fewestChanges_10 (tgt := 15) (by decide) (by omega) (by omega) (fun hc10 => ?_) (fun hc10 => by omega)
          refine jv_aload0 dX0_fewestChanges_15 ?_
          refine jv_getR dX0_fewestChanges_16 flX0_27 rfl (fk h.g) (fr_yard h.g) ?_
          refine jv_v01 dX0_fewestChanges_19 okX3_allWorths inX3_allWorths seX3_allWorths mlX0_75 (ci := 3) (T := TX3) (N := 15) rfl (yk (cg_now h.g)) (ot_allWorthsM (cg_now h.g) hA.r h.w) (by decide) (Nat.le_of_ble_eq_true rfl) ?_
          refine jv_iload2 dX0_fewestChanges_22 ?_
          refine jv_icmp_geN dX0_fewestChanges_23 (tgt := 28) (by decide) (by omega) (by omega) (fun hc23 => ?_) (fun hc23 => by omega)
          refine jv_aload0 dX0_fewestChanges_28 ?_
          refine jv_iload2 dX0_fewestChanges_29 ?_
          refine jv_iconst dX0_fewestChanges_30 jv_c_iconst_0 ?_
          refine jv_iconst dX0_fewestChanges_31 jv_c_iconst_1 ?_
          refine jv_v31 dX0_fewestChanges_32 okX0_oneChangeReaches inX0_oneChangeReaches seX0_oneChangeReaches mlX0_78 (ci := 0) (T := TX0) (N := 6) rfl (fk h.g) c3 (by decide) (Nat.le_of_ble_eq_true rfl) ?_
          refine jv_if_eqB dX0_fewestChanges_35 (tgt := 40) (by decide) (fun hq => ?_) (fun hq => absurd hq o1)
          refine jv_aload0 dX0_fewestChanges_40 ?_
          refine jv_iload2 dX0_fewestChanges_41 ?_
          refine jv_v11 dX0_fewestChanges_42 okX0_twoChangesReach inX0_twoChangesReach seX0_twoChangesReach mlX0_82 (ci := 0) (T := TX0) (N := 6) rfl (fk h.g) c4 (by decide) (Nat.le_of_ble_eq_true rfl) ?_
          refine jv_if_eqB dX0_fewestChanges_45 (tgt := 52) (by decide) (fun hq => absurd o2 hq) (fun hq => ?_)
          refine jv_iconst dX0_fewestChanges_48 jv_c_iconst_2 ?_
          refine jv_goto dX0_fewestChanges_49 (tgt := 53) (by decide) ?_
          exact jv_iret dX0_fewestChanges_53 rfl rfl (by unfold ot_changes; rw [if_neg r0, if_neg r1, if_pos r2]; rfl) rfl rfl
        · have o2 : ¬ ot_two Y v (ot_sideOf Y k) := fun z => r2 (i2.mp z)
          refine ⟨A3, ?_, hF5⟩
          refine jv_enter okX0_fewestChanges (L := [.ref 38, .int (nI k), .int (nI v)]) rfl (Nat.le_of_ble_eq_true rfl) ?_
          refine jv_aload0 dX0_fewestChanges_0 ?_
          refine jv_iload1 dX0_fewestChanges_1 ?_
          refine jv_v10 dX0_fewestChanges_2 okX0_takeSides inX0_takeSides seX0_takeSides mlX0_64 (ci := 0) (T := TX0) (N := 6) rfl (fk h.g) c1 (by decide) (Nat.le_of_ble_eq_true rfl) ?_
          refine jv_aload0 dX0_fewestChanges_5 ?_
          refine jv_v01 dX0_fewestChanges_6 okX0_valueOfSides inX0_valueOfSides seX0_valueOfSides mlX0_60 (ci := 0) (T := TX0) (N := 6) rfl (fk h.g) c2 (by decide) (Nat.le_of_ble_eq_true rfl) ?_
          refine jv_iload2 dX0_fewestChanges_9 ?_
          refine jv_icmp_ltN dX0_fewestChanges_10 (tgt := 15) (by decide) (by omega) (by omega) (fun hc10 => ?_) (fun hc10 => by omega)
          refine jv_aload0 dX0_fewestChanges_15 ?_
          refine jv_getR dX0_fewestChanges_16 flX0_27 rfl (fk h.g) (fr_yard h.g) ?_
          refine jv_v01 dX0_fewestChanges_19 okX3_allWorths inX3_allWorths seX3_allWorths mlX0_75 (ci := 3) (T := TX3) (N := 15) rfl (yk (cg_now h.g)) (ot_allWorthsM (cg_now h.g) hA.r h.w) (by decide) (Nat.le_of_ble_eq_true rfl) ?_
          refine jv_iload2 dX0_fewestChanges_22 ?_
          refine jv_icmp_geN dX0_fewestChanges_23 (tgt := 28) (by decide) (by omega) (by omega) (fun hc23 => ?_) (fun hc23 => by omega)
          refine jv_aload0 dX0_fewestChanges_28 ?_
          refine jv_iload2 dX0_fewestChanges_29 ?_
          refine jv_iconst dX0_fewestChanges_30 jv_c_iconst_0 ?_
          refine jv_iconst dX0_fewestChanges_31 jv_c_iconst_1 ?_
          refine jv_v31 dX0_fewestChanges_32 okX0_oneChangeReaches inX0_oneChangeReaches seX0_oneChangeReaches mlX0_78 (ci := 0) (T := TX0) (N := 6) rfl (fk h.g) c3 (by decide) (Nat.le_of_ble_eq_true rfl) ?_
          refine jv_if_eqB dX0_fewestChanges_35 (tgt := 40) (by decide) (fun hq => ?_) (fun hq => absurd hq o1)
          refine jv_aload0 dX0_fewestChanges_40 ?_
          refine jv_iload2 dX0_fewestChanges_41 ?_
          refine jv_v11 dX0_fewestChanges_42 okX0_twoChangesReach inX0_twoChangesReach seX0_twoChangesReach mlX0_82 (ci := 0) (T := TX0) (N := 6) rfl (fk h.g) c4 (by decide) (Nat.le_of_ble_eq_true rfl) ?_
          refine jv_if_eqB dX0_fewestChanges_45 (tgt := 52) (by decide) (fun hq => ?_) (fun hq => absurd hq o2)
          refine jv_iconst dX0_fewestChanges_52 jv_c_iconst_m1 ?_
          exact jv_iret dX0_fewestChanges_53 rfl rfl (by unfold ot_changes; rw [if_neg r0, if_neg r1, if_neg r2]) rfl rfl
