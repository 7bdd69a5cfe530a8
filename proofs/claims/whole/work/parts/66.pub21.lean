/-! ===== the face: change ===== -/
def ot_bw (Y : ot_Y) (k a b : Nat) : Nat := if ot_reachB Y a b = true then ot_value (ot_swap Y a b) k else 0
def ot_bi (w : Nat → Nat → Nat) (a : Nat) : Nat → Nat × Int32 → Nat × Int32
  | 0, s => s
  | b + 1, s => if a < b ∧ (ot_bi w a b s).1 < w a b then (w a b, nI (100 * a + b)) else ot_bi w a b s
def ot_bo (w : Nat → Nat → Nat) (n : Nat) : Nat → Nat × Int32 → Nat × Int32
  | 0, s => s
  | a + 1, s => ot_bi w a n (ot_bo w n a s)
theorem ot_bi_low (w : Nat → Nat → Nat) (a : Nat) (s : Nat × Int32) : ∀ b, b ≤ a + 1 → ot_bi w a b s = s
  | 0, _ => rfl
  | b + 1, h => by rw [ot_bi, if_neg (by omega)]; exact ot_bi_low w a s b (by omega)
theorem ot_bi_b {w : Nat → Nat → Nat} {m a : Nat} (hw : ∀ x y, w x y ≤ m) {s : Nat × Int32} (hs : s.1 ≤ m) : ∀ b, (ot_bi w a b s).1 ≤ m
  | 0 => hs
  | b + 1 => by
    rw [ot_bi]
    split
    · exact hw a b
    · exact ot_bi_b hw hs b
theorem ot_bo_b {w : Nat → Nat → Nat} {m n : Nat} (hw : ∀ x y, w x y ≤ m) {s : Nat × Int32} (hs : s.1 ≤ m) : ∀ a, (ot_bo w n a s).1 ≤ m
  | 0 => hs
  | a + 1 => ot_bi_b hw (ot_bo_b hw hs a) n
def ot_change (Y : ot_Y) (k : Nat) : Int32 := (ot_bo (ot_bw Y k) (Y 10 0) (Y 10 0) (ot_value Y k, -1)).2
theorem ot_bw_le {Y : ot_Y} (hW : ot_YW Y) (k a b : Nat) : ot_bw Y k a b ≤ 1980 := by
  unfold ot_bw
  split
  · rw [← ot_valS_swap]; exact ot_valS_le hW _
  · omega
set_option maxRecDepth 20000 in
theorem oc_changeLoop {G : jv_Gr} {I : jv_I} {J : jv_J} {Y Z : ot_Y} {E : ot_E} {K : Option ot_Y} (h : ot_C G I J Y Z E K) {k : Nat} (hk : k < Y 10 1) : ∀ (m i : Nat) (A : jv_I) (s5 s6 : Value), Y 10 0 + 1 ≤ i + m → i ≤ Y 10 0 → (∀ x, x < Y 10 0 → A 39 x = nI (ot_sideOf Y k x)) → (∀ q, q ≠ 39 → A q = I q) → ∃ I2, jv_V 6 mX0_bestChange 15 [.ref 38, .int (nI k), .int (nI (ot_bo (ot_bw Y k) (Y 10 0) i (ot_value Y k, (-1 : Int32))).1), .int (ot_bo (ot_bw Y k) (Y 10 0) i (ot_value Y k, (-1 : Int32))).2, .int (nI i), s5, s6] [] G A J (some (.int (ot_change Y k))) G I2 J ∧ ∀ q, q ≠ 39 → I2 q = I q := by
  have bn := yw_n h.w
  have bc := yw_c h.w
  have bw := yw_w h.w
  have hbd : ∀ x, x < Y 10 0 → ot_sideOf Y k x < 5 := fun x _ => ot_side_5 h.w hk _
  have hvk := ot_value_le h.w k
  have hbo : ∀ a, (ot_bo (ot_bw Y k) (Y 10 0) a (ot_value Y k, (-1 : Int32))).1 ≤ 1980 := ot_bo_b (fun x y => ot_bw_le h.w k x y) hvk
  intro m
  induction m with
  | zero => intro i A s5 s6 b1 b2; omega
  | succ m ih =>
    intro i A s5 s6 b1 b2 hS hF
    have hA := ot_C_39 h hF
    by_cases hi : i < Y 10 0
    · have inner : ∀ (m2 b : Nat) (A : jv_I) (s6 : Value), Y 10 0 + 1 ≤ b + m2 → b ≤ Y 10 0 → i < b → (∀ x, x < Y 10 0 → A 39 x = nI (ot_sideOf Y k x)) → (∀ q, q ≠ 39 → A q = I q) → ∃ I2, jv_V 6 mX0_bestChange 33 [.ref 38, .int (nI k), .int (nI (ot_bi (ot_bw Y k) i b (ot_bo (ot_bw Y k) (Y 10 0) i (ot_value Y k, (-1 : Int32)))).1), .int (ot_bi (ot_bw Y k) i b (ot_bo (ot_bw Y k) (Y 10 0) i (ot_value Y k, (-1 : Int32)))).2, .int (nI i), .int (nI b), s6] [] G A J (some (.int (ot_change Y k))) G I2 J ∧ ∀ q, q ≠ 39 → I2 q = I q := by
        intro m2
        induction m2 with
        | zero => intro b A s6 q1 q2; omega
        | succ m2 ih2 =>
          intro b A s6 q1 q2 hib hS hF
          have hA := ot_C_39 h hF
          have hbi := ot_bi_b (w := (ot_bw Y k)) (a := i) (fun x y => ot_bw_le h.w k x y) (hbo i) b
          have hbw := ot_bw_le h.w k i b
          by_cases hb : b < Y 10 0
          · by_cases hr : ot_dist (Y 2 i) (Y 2 b) ≤ Y 1 i ∧ ot_dist (Y 2 i) (Y 2 b) ≤ Y 1 b
            · obtain ⟨A2, cW, hS2, hFw⟩ := oc_withChange hA hS hbd hi hb
              have hval : ot_valS Y (ot_swapF (ot_sideOf Y k) i b) = ot_bw Y k i b := by rw [ot_valS_swap]; unfold ot_bw; rw [if_pos (ot_reachB_iff.mpr hr)]
              have hF2 : ∀ q, q ≠ 39 → A2 q = I q := fun q hq => (hFw q hq).trans (hF q hq)
              by_cases hlt : (ot_bi (ot_bw Y k) i b (ot_bo (ot_bw Y k) (Y 10 0) i (ot_value Y k, (-1 : Int32)))).1 < ot_bw Y k i b
              · obtain ⟨I2, hV, hP⟩ := ih2 (b + 1) A2 (.int (nI (ot_bw Y k i b))) (by omega) (by omega) (by omega) hS2 hF2
                rw [ot_bi, if_pos ⟨hib, hlt⟩] at hV
                refine ⟨I2, ?_, hP⟩
                refine jv_iload5 dX0_bestChange_33 ?_
                refine jv_aload0 dX0_bestChange_35 ?_
                refine jv_getR dX0_bestChange_36 flX0_27 rfl (fk h.g) (fr_yard h.g) ?_
                refine jv_getI dX0_bestChange_39 flX0_31 rfl (yk (cg_now h.g)) (yi_children hA.r) ?_
                refine jv_icmp_geN dX0_bestChange_42 (tgt := 97) (by decide) (by omega) (by omega) (fun hc42 => by omega) (fun hc42 => ?_)
                refine jv_aload0 dX0_bestChange_45 ?_
                refine jv_getR dX0_bestChange_46 flX0_27 rfl (fk h.g) (fr_yard h.g) ?_
                refine jv_iload4 dX0_bestChange_49 ?_
                refine jv_iload5 dX0_bestChange_51 ?_
                refine jv_v21 dX0_bestChange_53 okX3_inReach inX3_inReach seX3_inReach mlX0_68 (ci := 3) (T := TX3) (N := 15) rfl (yk (cg_now h.g)) (ot_inReachM (cg_now h.g) hA.r h.w hi hb) (by decide) (Nat.le_of_ble_eq_true rfl) ?_
                refine jv_if_eqB dX0_bestChange_56 (tgt := 70) (by decide) (fun h56 => absurd hr h56) (fun h56 => ?_)
                refine jv_aload0 dX0_bestChange_59 ?_
                refine jv_iload4 dX0_bestChange_60 ?_
                refine jv_iload5 dX0_bestChange_62 ?_
                refine jv_v21 dX0_bestChange_64 okX0_valueWithChange inX0_valueWithChange seX0_valueWithChange mlX0_72 (ci := 0) (T := TX0) (N := 6) rfl (fk h.g) cW (by decide) (Nat.le_of_ble_eq_true rfl) ?_
                refine jv_goto dX0_bestChange_67 (tgt := 71) (by decide) ?_
                refine jv_istore6 dX0_bestChange_71 rfl ?_
                rw [hval]
                refine jv_iload6 dX0_bestChange_73 ?_
                refine jv_iload2 dX0_bestChange_75 ?_
                refine jv_icmp_leN dX0_bestChange_76 (tgt := 91) (by decide) (by omega) (by omega) (fun h76 => by omega) (fun h76 => ?_)
                refine jv_iload6 dX0_bestChange_79 ?_
                refine jv_istore2 dX0_bestChange_81 rfl ?_
                refine jv_bipush dX0_bestChange_82 jv_c_bipush_100 ?_
                refine jv_iload4 dX0_bestChange_84 ?_
                refine jv_imulN dX0_bestChange_86 ?_
                refine jv_iload5 dX0_bestChange_87 ?_
                refine jv_iaddN dX0_bestChange_89 ?_
                refine jv_istore3 dX0_bestChange_90 rfl ?_
                refine jv_iinc5N dX0_bestChange_91 rfl ?_
                refine jv_goto dX0_bestChange_94 (tgt := 33) (by decide) ?_
                exact hV
              · obtain ⟨I2, hV, hP⟩ := ih2 (b + 1) A2 (.int (nI (ot_bw Y k i b))) (by omega) (by omega) (by omega) hS2 hF2
                rw [ot_bi, if_neg (fun z => hlt z.2)] at hV
                refine ⟨I2, ?_, hP⟩
                refine jv_iload5 dX0_bestChange_33 ?_
                refine jv_aload0 dX0_bestChange_35 ?_
                refine jv_getR dX0_bestChange_36 flX0_27 rfl (fk h.g) (fr_yard h.g) ?_
                refine jv_getI dX0_bestChange_39 flX0_31 rfl (yk (cg_now h.g)) (yi_children hA.r) ?_
                refine jv_icmp_geN dX0_bestChange_42 (tgt := 97) (by decide) (by omega) (by omega) (fun hc42 => by omega) (fun hc42 => ?_)
                refine jv_aload0 dX0_bestChange_45 ?_
                refine jv_getR dX0_bestChange_46 flX0_27 rfl (fk h.g) (fr_yard h.g) ?_
                refine jv_iload4 dX0_bestChange_49 ?_
                refine jv_iload5 dX0_bestChange_51 ?_
                refine jv_v21 dX0_bestChange_53 okX3_inReach inX3_inReach seX3_inReach mlX0_68 (ci := 3) (T := TX3) (N := 15) rfl (yk (cg_now h.g)) (ot_inReachM (cg_now h.g) hA.r h.w hi hb) (by decide) (Nat.le_of_ble_eq_true rfl) ?_
                refine jv_if_eqB dX0_bestChange_56 (tgt := 70) (by decide) (fun h56 => absurd hr h56) (fun h56 => ?_)
                refine jv_aload0 dX0_bestChange_59 ?_
                refine jv_iload4 dX0_bestChange_60 ?_
                refine jv_iload5 dX0_bestChange_62 ?_
                refine jv_v21 dX0_bestChange_64 okX0_valueWithChange inX0_valueWithChange seX0_valueWithChange mlX0_72 (ci := 0) (T := TX0) (N := 6) rfl (fk h.g) cW (by decide) (Nat.le_of_ble_eq_true rfl) ?_
                refine jv_goto dX0_bestChange_67 (tgt := 71) (by decide) ?_
                refine jv_istore6 dX0_bestChange_71 rfl ?_
                rw [hval]
                refine jv_iload6 dX0_bestChange_73 ?_
                refine jv_iload2 dX0_bestChange_75 ?_
                refine jv_icmp_leN dX0_bestChange_76 (tgt := 91) (by decide) (by omega) (by omega) (fun h76 => ?_) (fun h76 => by omega)
                refine jv_iinc5N dX0_bestChange_91 rfl ?_
                refine jv_goto dX0_bestChange_94 (tgt := 33) (by decide) ?_
                exact hV
            · have h0 : ot_bw Y k i b = 0 := by unfold ot_bw; rw [if_neg (fun z => hr (ot_reachB_iff.mp z))]
              obtain ⟨I2, hV, hP⟩ := ih2 (b + 1) A (.int (nI 0)) (by omega) (by omega) (by omega) hS hF
              rw [ot_bi, if_neg (by omega)] at hV
              refine ⟨I2, ?_, hP⟩
              refine jv_iload5 dX0_bestChange_33 ?_
              refine jv_aload0 dX0_bestChange_35 ?_
              refine jv_getR dX0_bestChange_36 flX0_27 rfl (fk h.g) (fr_yard h.g) ?_
              refine jv_getI dX0_bestChange_39 flX0_31 rfl (yk (cg_now h.g)) (yi_children hA.r) ?_
              refine jv_icmp_geN dX0_bestChange_42 (tgt := 97) (by decide) (by omega) (by omega) (fun hc42 => by omega) (fun hc42 => ?_)
              refine jv_aload0 dX0_bestChange_45 ?_
              refine jv_getR dX0_bestChange_46 flX0_27 rfl (fk h.g) (fr_yard h.g) ?_
              refine jv_iload4 dX0_bestChange_49 ?_
              refine jv_iload5 dX0_bestChange_51 ?_
              refine jv_v21 dX0_bestChange_53 okX3_inReach inX3_inReach seX3_inReach mlX0_68 (ci := 3) (T := TX3) (N := 15) rfl (yk (cg_now h.g)) (ot_inReachM (cg_now h.g) hA.r h.w hi hb) (by decide) (Nat.le_of_ble_eq_true rfl) ?_
              refine jv_if_eqB dX0_bestChange_56 (tgt := 70) (by decide) (fun h56 => ?_) (fun h56 => absurd h56 hr)
              refine jv_iconst dX0_bestChange_70 jv_c_iconst_0 ?_
              refine jv_istore6 dX0_bestChange_71 rfl ?_
              refine jv_iload6 dX0_bestChange_73 ?_
              refine jv_iload2 dX0_bestChange_75 ?_
              refine jv_icmp_leN dX0_bestChange_76 (tgt := 91) (by decide) (by omega) (by omega) (fun h76 => ?_) (fun h76 => by omega)
              refine jv_iinc5N dX0_bestChange_91 rfl ?_
              refine jv_goto dX0_bestChange_94 (tgt := 33) (by decide) ?_
              exact hV
          · have eb : b = Y 10 0 := by omega
            obtain ⟨I2, hV, hP⟩ := ih (i + 1) A (.int (nI b)) s6 (by omega) (by omega) hS hF
            have e2 : (ot_bo (ot_bw Y k) (Y 10 0) (i + 1) (ot_value Y k, (-1 : Int32))) = (ot_bi (ot_bw Y k) i b (ot_bo (ot_bw Y k) (Y 10 0) i (ot_value Y k, (-1 : Int32)))) := by rw [eb]; rfl
            rw [e2] at hV
            refine ⟨I2, ?_, hP⟩
            refine jv_iload5 dX0_bestChange_33 ?_
            refine jv_aload0 dX0_bestChange_35 ?_
            refine jv_getR dX0_bestChange_36 flX0_27 rfl (fk h.g) (fr_yard h.g) ?_
            refine jv_getI dX0_bestChange_39 flX0_31 rfl (yk (cg_now h.g)) (yi_children hA.r) ?_
            refine jv_icmp_geN dX0_bestChange_42 (tgt := 97) (by decide) (by omega) (by omega) (fun hc42 => ?_) (fun hc42 => by omega)
            refine jv_iinc4N dX0_bestChange_97 rfl ?_
            refine jv_goto dX0_bestChange_100 (tgt := 15) (by decide) ?_
            exact hV
      obtain ⟨I2, hV, hP⟩ := inner (Y 10 0) (i + 1) A s6 (by omega) (by omega) (by omega) hS hF
      rw [ot_bi_low _ _ _ (i + 1) (Nat.le_refl _)] at hV
      refine ⟨I2, ?_, hP⟩
      refine jv_iload4 dX0_bestChange_15 ?_
      refine jv_aload0 dX0_bestChange_17 ?_
      refine jv_getR dX0_bestChange_18 flX0_27 rfl (fk h.g) (fr_yard h.g) ?_
      refine jv_getI dX0_bestChange_21 flX0_31 rfl (yk (cg_now h.g)) (yi_children hA.r) ?_
      refine jv_icmp_geN dX0_bestChange_24 (tgt := 103) (by decide) (by omega) (by omega) (fun hc24 => by omega) (fun hc24 => ?_)
      refine jv_iload4 dX0_bestChange_27 ?_
      refine jv_iconst dX0_bestChange_29 jv_c_iconst_1 ?_
      refine jv_iaddN dX0_bestChange_30 ?_
      refine jv_istore5 dX0_bestChange_31 rfl ?_
      exact hV
    · refine ⟨A, ?_, hF⟩
      refine jv_iload4 dX0_bestChange_15 ?_
      refine jv_aload0 dX0_bestChange_17 ?_
      refine jv_getR dX0_bestChange_18 flX0_27 rfl (fk h.g) (fr_yard h.g) ?_
      refine jv_getI dX0_bestChange_21 flX0_31 rfl (yk (cg_now h.g)) (yi_children hA.r) ?_
      refine jv_icmp_geN dX0_bestChange_24 (tgt := 103) (by decide) (by omega) (by omega) (fun hc24 => ?_) (fun hc24 => by omega)
      refine jv_iload3 dX0_bestChange_103 ?_
      exact jv_iret dX0_bestChange_104 rfl rfl (by unfold ot_change; rw [show i = Y 10 0 by omega]) rfl rfl
set_option maxRecDepth 20000 in
theorem om_changeLoop {G : jv_Gr} {I : jv_I} {J : jv_J} {Y Z : ot_Y} {E : ot_E} {K : Option ot_Y} (h : ot_M G I J Y Z E K) {k : Nat} (hk : k < Y 10 1) : ∀ (m i : Nat) (A : jv_I) (s5 s6 : Value), Y 10 0 + 1 ≤ i + m → i ≤ Y 10 0 → ot_MR A 64 Y → (∀ q, q ≠ 64 + 19 → A q = I q) → ∃ I2, jv_V 8 mX5_change 26 [.ref 64, .int (nI k), .int (ot_bo (ot_bw Y k) (Y 10 0) i (ot_value Y k, (-1 : Int32))).2, .int (nI (ot_bo (ot_bw Y k) (Y 10 0) i (ot_value Y k, (-1 : Int32))).1), .int (nI i), s5, s6] [] G A J (some (.int (ot_change Y k))) G I2 J ∧ ot_MR I2 64 Y ∧ ∀ q, q ≠ 64 + 19 → I2 q = I q := by
  have bn := yw_n h.w
  have bc := yw_c h.w
  have bw := yw_w h.w
  have hbd : ∀ x, x < Y 10 0 → ot_sideOf Y k x < 5 := fun x _ => ot_side_5 h.w hk _
  have hvk := ot_value_le h.w k
  have hbo : ∀ a, (ot_bo (ot_bw Y k) (Y 10 0) a (ot_value Y k, (-1 : Int32))).1 ≤ 1980 := ot_bo_b (fun x y => ot_bw_le h.w k x y) hvk
  intro m
  induction m with
  | zero => intro i A s5 s6 b1 b2; omega
  | succ m ih =>
    intro i A s5 s6 b1 b2 hR hF
    have _ := hF
    by_cases hi : i < Y 10 0
    · have inner : ∀ (m2 b : Nat) (A : jv_I) (s6 : Value), Y 10 0 + 1 ≤ b + m2 → b ≤ Y 10 0 → i < b → ot_MR A 64 Y → (∀ q, q ≠ 64 + 19 → A q = I q) → ∃ I2, jv_V 8 mX5_change 41 [.ref 64, .int (nI k), .int (ot_bi (ot_bw Y k) i b (ot_bo (ot_bw Y k) (Y 10 0) i (ot_value Y k, (-1 : Int32)))).2, .int (nI (ot_bi (ot_bw Y k) i b (ot_bo (ot_bw Y k) (Y 10 0) i (ot_value Y k, (-1 : Int32)))).1), .int (nI i), .int (nI b), s6] [] G A J (some (.int (ot_change Y k))) G I2 J ∧ ot_MR I2 64 Y ∧ ∀ q, q ≠ 64 + 19 → I2 q = I q := by
        intro m2
        induction m2 with
        | zero => intro b A s6 q1 q2; omega
        | succ m2 ih2 =>
          intro b A s6 q1 q2 hib hR hF
          have _ := hF
          have hbi := ot_bi_b (w := (ot_bw Y k)) (a := i) (fun x y => ot_bw_le h.w k x y) (hbo i) b
          have hbw := ot_bw_le h.w k i b
          by_cases hb : b < Y 10 0
          · by_cases hr : ot_dist (Y 2 i) (Y 2 b) ≤ Y 1 i ∧ ot_dist (Y 2 i) (Y 2 b) ≤ Y 1 b
            · have hW2 := ot_YW_swap h.w hi hb
              obtain ⟨A1, c1, hR1, hF1⟩ := om_swaps (J := J) h.g hR h.w hi hb
              have c2 := om_valueOf (J := J) h.g hR1 hW2 (k := k) hk
              obtain ⟨A2, c3, hR2, hF3⟩ := om_swaps (J := J) h.g hR1 hW2 (a := i) (b := b) hi hb
              rw [ot_swap_self] at hR2
              have hval : ot_value (ot_swap Y i b) k = ot_bw Y k i b := by unfold ot_bw; rw [if_pos (ot_reachB_iff.mpr hr)]
              have hF2 : ∀ q, q ≠ 64 + 19 → A2 q = I q := fun q hq => (hF3 q hq).trans ((hF1 q hq).trans (hF q hq))
              by_cases hlt : (ot_bi (ot_bw Y k) i b (ot_bo (ot_bw Y k) (Y 10 0) i (ot_value Y k, (-1 : Int32)))).1 < ot_bw Y k i b
              · obtain ⟨I2, hV, hP⟩ := ih2 (b + 1) A2 (.int (nI (ot_bw Y k i b))) (by omega) (by omega) (by omega) hR2 hF2
                rw [ot_bi, if_pos ⟨hib, hlt⟩] at hV
                refine ⟨I2, ?_, hP⟩
                refine jv_iload5 dX5_change_41 ?_
                refine jv_aload0 dX5_change_43 ?_
                refine jv_getI dX5_change_44 flX5_80 rfl (mk h.g) (mi_children hR) ?_
                refine jv_icmp_geN dX5_change_47 (tgt := 108) (by decide) (by omega) (by omega) (fun hc47 => by omega) (fun hc47 => ?_)
                refine jv_aload0 dX5_change_50 ?_
                refine jv_iload4 dX5_change_51 ?_
                refine jv_iload5 dX5_change_53 ?_
                refine jv_v21 dX5_change_55 okX5_mayChange inX5_mayChange seX5_mayChange mlX5_290 (ci := 5) (T := TX5) (N := 35) rfl (mk h.g) (om_mayChange h.g hR h.w hi hb) (by decide) (Nat.le_of_ble_eq_true rfl) ?_
                refine jv_if_eqB dX5_change_58 (tgt := 102) (by decide) (fun h56 => absurd hr h56) (fun h56 => ?_)
                refine jv_aload0 dX5_change_61 ?_
                refine jv_iload4 dX5_change_62 ?_
                refine jv_iload5 dX5_change_64 ?_
                refine jv_v20 dX5_change_66 okX5_swaps inX5_swaps seX5_swaps mlX5_222 (ci := 5) (T := TX5) (N := 35) rfl (mk h.g) c1 (by decide) (Nat.le_of_ble_eq_true rfl) ?_
                refine jv_aload0 dX5_change_69 ?_
                refine jv_iload1 dX5_change_70 ?_
                refine jv_v11 dX5_change_71 okX5_valueOf inX5_valueOf seX5_valueOf mlX5_278 (ci := 5) (T := TX5) (N := 35) rfl (mk h.g) c2 (by decide) (Nat.le_of_ble_eq_true rfl) ?_
                rw [hval]
                refine jv_istore6 dX5_change_74 rfl ?_
                refine jv_aload0 dX5_change_76 ?_
                refine jv_iload4 dX5_change_77 ?_
                refine jv_iload5 dX5_change_79 ?_
                refine jv_v20 dX5_change_81 okX5_swaps inX5_swaps seX5_swaps mlX5_222 (ci := 5) (T := TX5) (N := 35) rfl (mk h.g) c3 (by decide) (Nat.le_of_ble_eq_true rfl) ?_
                refine jv_iload6 dX5_change_84 ?_
                refine jv_iload3 dX5_change_86 ?_
                refine jv_icmp_leN dX5_change_87 (tgt := 102) (by decide) (by omega) (by omega) (fun h76 => by omega) (fun h76 => ?_)
                refine jv_bipush dX5_change_90 jv_c_bipush_100 ?_
                refine jv_iload4 dX5_change_92 ?_
                refine jv_imulN dX5_change_94 ?_
                refine jv_iload5 dX5_change_95 ?_
                refine jv_iaddN dX5_change_97 ?_
                refine jv_istore2 dX5_change_98 rfl ?_
                refine jv_iload6 dX5_change_99 ?_
                refine jv_istore3 dX5_change_101 rfl ?_
                refine jv_iinc5N dX5_change_102 rfl ?_
                refine jv_goto dX5_change_105 (tgt := 41) (by decide) ?_
                exact hV
              · obtain ⟨I2, hV, hP⟩ := ih2 (b + 1) A2 (.int (nI (ot_bw Y k i b))) (by omega) (by omega) (by omega) hR2 hF2
                rw [ot_bi, if_neg (fun z => hlt z.2)] at hV
                refine ⟨I2, ?_, hP⟩
                refine jv_iload5 dX5_change_41 ?_
                refine jv_aload0 dX5_change_43 ?_
                refine jv_getI dX5_change_44 flX5_80 rfl (mk h.g) (mi_children hR) ?_
                refine jv_icmp_geN dX5_change_47 (tgt := 108) (by decide) (by omega) (by omega) (fun hc47 => by omega) (fun hc47 => ?_)
                refine jv_aload0 dX5_change_50 ?_
                refine jv_iload4 dX5_change_51 ?_
                refine jv_iload5 dX5_change_53 ?_
                refine jv_v21 dX5_change_55 okX5_mayChange inX5_mayChange seX5_mayChange mlX5_290 (ci := 5) (T := TX5) (N := 35) rfl (mk h.g) (om_mayChange h.g hR h.w hi hb) (by decide) (Nat.le_of_ble_eq_true rfl) ?_
                refine jv_if_eqB dX5_change_58 (tgt := 102) (by decide) (fun h56 => absurd hr h56) (fun h56 => ?_)
                refine jv_aload0 dX5_change_61 ?_
                refine jv_iload4 dX5_change_62 ?_
                refine jv_iload5 dX5_change_64 ?_
                refine jv_v20 dX5_change_66 okX5_swaps inX5_swaps seX5_swaps mlX5_222 (ci := 5) (T := TX5) (N := 35) rfl (mk h.g) c1 (by decide) (Nat.le_of_ble_eq_true rfl) ?_
                refine jv_aload0 dX5_change_69 ?_
                refine jv_iload1 dX5_change_70 ?_
                refine jv_v11 dX5_change_71 okX5_valueOf inX5_valueOf seX5_valueOf mlX5_278 (ci := 5) (T := TX5) (N := 35) rfl (mk h.g) c2 (by decide) (Nat.le_of_ble_eq_true rfl) ?_
                rw [hval]
                refine jv_istore6 dX5_change_74 rfl ?_
                refine jv_aload0 dX5_change_76 ?_
                refine jv_iload4 dX5_change_77 ?_
                refine jv_iload5 dX5_change_79 ?_
                refine jv_v20 dX5_change_81 okX5_swaps inX5_swaps seX5_swaps mlX5_222 (ci := 5) (T := TX5) (N := 35) rfl (mk h.g) c3 (by decide) (Nat.le_of_ble_eq_true rfl) ?_
                refine jv_iload6 dX5_change_84 ?_
                refine jv_iload3 dX5_change_86 ?_
                refine jv_icmp_leN dX5_change_87 (tgt := 102) (by decide) (by omega) (by omega) (fun h76 => ?_) (fun h76 => by omega)
                refine jv_iinc5N dX5_change_102 rfl ?_
                refine jv_goto dX5_change_105 (tgt := 41) (by decide) ?_
                exact hV
            · have h0 : ot_bw Y k i b = 0 := by unfold ot_bw; rw [if_neg (fun z => hr (ot_reachB_iff.mp z))]
              obtain ⟨I2, hV, hP⟩ := ih2 (b + 1) A s6 (by omega) (by omega) (by omega) hR hF
              rw [ot_bi, if_neg (by omega)] at hV
              refine ⟨I2, ?_, hP⟩
              refine jv_iload5 dX5_change_41 ?_
              refine jv_aload0 dX5_change_43 ?_
              refine jv_getI dX5_change_44 flX5_80 rfl (mk h.g) (mi_children hR) ?_
              refine jv_icmp_geN dX5_change_47 (tgt := 108) (by decide) (by omega) (by omega) (fun hc47 => by omega) (fun hc47 => ?_)
              refine jv_aload0 dX5_change_50 ?_
              refine jv_iload4 dX5_change_51 ?_
              refine jv_iload5 dX5_change_53 ?_
              refine jv_v21 dX5_change_55 okX5_mayChange inX5_mayChange seX5_mayChange mlX5_290 (ci := 5) (T := TX5) (N := 35) rfl (mk h.g) (om_mayChange h.g hR h.w hi hb) (by decide) (Nat.le_of_ble_eq_true rfl) ?_
              refine jv_if_eqB dX5_change_58 (tgt := 102) (by decide) (fun h56 => ?_) (fun h56 => absurd h56 hr)
              refine jv_iinc5N dX5_change_102 rfl ?_
              refine jv_goto dX5_change_105 (tgt := 41) (by decide) ?_
              exact hV
          · have eb : b = Y 10 0 := by omega
            obtain ⟨I2, hV, hP⟩ := ih (i + 1) A (.int (nI b)) s6 (by omega) (by omega) hR hF
            have e2 : (ot_bo (ot_bw Y k) (Y 10 0) (i + 1) (ot_value Y k, (-1 : Int32))) = (ot_bi (ot_bw Y k) i b (ot_bo (ot_bw Y k) (Y 10 0) i (ot_value Y k, (-1 : Int32)))) := by rw [eb]; rfl
            rw [e2] at hV
            refine ⟨I2, ?_, hP⟩
            refine jv_iload5 dX5_change_41 ?_
            refine jv_aload0 dX5_change_43 ?_
            refine jv_getI dX5_change_44 flX5_80 rfl (mk h.g) (mi_children hR) ?_
            refine jv_icmp_geN dX5_change_47 (tgt := 108) (by decide) (by omega) (by omega) (fun hc47 => ?_) (fun hc47 => by omega)
            refine jv_iinc4N dX5_change_108 rfl ?_
            refine jv_goto dX5_change_111 (tgt := 26) (by decide) ?_
            exact hV
      obtain ⟨I2, hV, hP⟩ := inner (Y 10 0) (i + 1) A s6 (by omega) (by omega) (by omega) hR hF
      rw [ot_bi_low _ _ _ (i + 1) (Nat.le_refl _)] at hV
      refine ⟨I2, ?_, hP⟩
      refine jv_iload4 dX5_change_26 ?_
      refine jv_aload0 dX5_change_28 ?_
      refine jv_getI dX5_change_29 flX5_80 rfl (mk h.g) (mi_children hR) ?_
      refine jv_icmp_geN dX5_change_32 (tgt := 114) (by decide) (by omega) (by omega) (fun hc32 => by omega) (fun hc32 => ?_)
      refine jv_iload4 dX5_change_35 ?_
      refine jv_iconst dX5_change_37 jv_c_iconst_1 ?_
      refine jv_iaddN dX5_change_38 ?_
      refine jv_istore5 dX5_change_39 rfl ?_
      exact hV
    · refine ⟨A, ?_, hR, hF⟩
      refine jv_iload4 dX5_change_26 ?_
      refine jv_aload0 dX5_change_28 ?_
      refine jv_getI dX5_change_29 flX5_80 rfl (mk h.g) (mi_children hR) ?_
      refine jv_icmp_geN dX5_change_32 (tgt := 114) (by decide) (by omega) (by omega) (fun hc32 => ?_) (fun hc32 => by omega)
      refine jv_iload2 dX5_change_114 ?_
      exact jv_iret dX5_change_115 rfl rfl (by unfold ot_change; rw [show i = Y 10 0 by omega]) rfl rfl
set_option maxRecDepth 20000 in
theorem oc_bestChange {G : jv_Gr} {I : jv_I} {J : jv_J} {Y Z : ot_Y} {E : ot_E} {K : Option ot_Y} (h : ot_C G I J Y Z E K) {k : Nat} (hk : k < Y 10 1) : ∃ I2, jv_C 6 mX0_bestChange [.ref 38, .int (nI k)] G I J (some (.int (ot_change Y k))) G I2 J ∧ ∀ q, q ≠ 39 → I2 q = I q := by
  obtain ⟨A, c1, hS, hF⟩ := oc_takeSides h hk
  have hA := ot_C_39 h hF
  have c2 := oc_valueOfSides hA hS (fun x _ => ot_side_5 h.w hk _)
  rw [ot_valS_value] at c2
  obtain ⟨I2, hV, hP⟩ := oc_changeLoop h hk (Y 10 0 + 1) 0 A .null .null (by omega) (by omega) hS hF
  refine ⟨I2, ?_, hP⟩
  refine jv_enter okX0_bestChange (L := [.ref 38, .int (nI k), .null, .null, .null, .null, .null]) rfl (Nat.le_of_ble_eq_true rfl) ?_
  refine jv_aload0 dX0_bestChange_0 ?_
  refine jv_iload1 dX0_bestChange_1 ?_
  refine jv_v10 dX0_bestChange_2 okX0_takeSides inX0_takeSides seX0_takeSides mlX0_64 (ci := 0) (T := TX0) (N := 6) rfl (fk h.g) c1 (by decide) (Nat.le_of_ble_eq_true rfl) ?_
  refine jv_aload0 dX0_bestChange_5 ?_
  refine jv_v01 dX0_bestChange_6 okX0_valueOfSides inX0_valueOfSides seX0_valueOfSides mlX0_60 (ci := 0) (T := TX0) (N := 6) rfl (fk h.g) c2 (by decide) (Nat.le_of_ble_eq_true rfl) ?_
  refine jv_istore2 dX0_bestChange_9 rfl ?_
  refine jv_iconst dX0_bestChange_10 jv_c_iconst_m1 ?_
  refine jv_istore3 dX0_bestChange_11 rfl ?_
  refine jv_iconst dX0_bestChange_12 jv_c_iconst_0 ?_
  refine jv_istore4 dX0_bestChange_13 rfl ?_
  exact hV
set_option maxRecDepth 20000 in
theorem pc_change {G : jv_Gr} {I : jv_I} {J : jv_J} {Y Z : ot_Y} {E : ot_E} {K : Option ot_Y} (h : ot_C G I J Y Z E K) (k : Int32) : ot_cc 8 mX4_change [.ref 1, .int k] G I J (ot_ans (ot_rc (0 ≤ k.toInt ∧ k.toInt < Y 10 1)) (ot_change Y (ot_n k))) Y (ot_zr Z (ot_rc (0 ≤ k.toInt ∧ k.toInt < Y 10 1))) E K := by
  have bn := yw_n h.w
  have bc := yw_c h.w
  have bw := yw_w h.w
  refine ot_rc_split (motive := fun rc => ot_cc 8 mX4_change [.ref 1, .int k] G I J (ot_ans rc (ot_change Y (ot_n k))) Y (ot_zr Z rc) E K) (fun hv => ?_) (fun hv => ?_)
  · obtain ⟨j, hj, rfl⟩ := ot_of hv (by omega)
    rw [ot_n_nI (show j < 2 ^ 30 by omega)]
    obtain ⟨I2, hA, hF⟩ := oc_bestChange h hj
    rw [ot_ans_0]
    refine ⟨I2, J, ?_, ot_C_39 h hF, fun q hq => ⟨hF q (by omega), rfl⟩⟩
    refine jv_enter okX4_change (L := [.ref 1, .int (nI j)]) rfl (Nat.le_of_ble_eq_true rfl) ?_
    refine jv_aload0 dX4_change_0 ?_
    refine jv_getR dX4_change_1 flX4_10 rfl (ck h.g) (cr_now h.g) ?_
    refine jv_iload1 dX4_change_4 ?_
    refine jv_v11 dX4_change_5 okX3_hasCount inX3_hasCount seX3_hasCount mlX4_101 (ci := 3) (T := TX3) (N := 15) rfl (yk (cg_now h.g)) (ot_hasCount (cg_now h.g) h.r h.w _) (by decide) (Nat.le_of_ble_eq_true rfl) ?_
    refine jv_if_eqB dX4_change_8 (tgt := 22) (by decide) (fun hq8 => absurd hv hq8) (fun hq8 => ?_)
    refine jv_aload0 dX4_change_11 ?_
    refine jv_getR dX4_change_12 flX4_27 rfl (ck h.g) (cr_finder h.g) ?_
    refine jv_iload1 dX4_change_15 ?_
    refine jv_v11 dX4_change_16 okX0_bestChange inX0_bestChange seX0_bestChange mlX4_244 (ci := 0) (T := TX0) (N := 6) rfl (fk h.g) hA (by decide) (Nat.le_of_ble_eq_true rfl) ?_
    refine jv_goto dX4_change_19 (tgt := 28) (by decide) ?_
    exact jv_iret dX4_change_28 rfl rfl rfl rfl rfl
  · obtain ⟨I2, hC, h2, h3⟩ := oc_refuse2 h
    refine ⟨I2, J, ?_, h2, h3⟩
    refine jv_enter okX4_change (L := [.ref 1, .int k]) rfl (Nat.le_of_ble_eq_true rfl) ?_
    refine jv_aload0 dX4_change_0 ?_
    refine jv_getR dX4_change_1 flX4_10 rfl (ck h.g) (cr_now h.g) ?_
    refine jv_iload1 dX4_change_4 ?_
    refine jv_v11 dX4_change_5 okX3_hasCount inX3_hasCount seX3_hasCount mlX4_101 (ci := 3) (T := TX3) (N := 15) rfl (yk (cg_now h.g)) (ot_hasCount (cg_now h.g) h.r h.w _) (by decide) (Nat.le_of_ble_eq_true rfl) ?_
    refine jv_if_eqB dX4_change_8 (tgt := 22) (by decide) (fun hq8 => ?_) (fun hq8 => absurd hq8 hv)
    refine jv_aload0 dX4_change_22 ?_
    refine jv_bipush dX4_change_23 jv_c_bipush_m2 ?_
    refine jv_v11 dX4_change_25 okX4_refuse inX4_refuse seX4_refuse mlX4_61 (ci := 4) (T := TX4) (N := 8) rfl (ck h.g) hC (by decide) (Nat.le_of_ble_eq_true rfl) ?_
    exact jv_iret dX4_change_28 rfl rfl rfl rfl rfl
set_option maxRecDepth 20000 in
theorem pm_change {G : jv_Gr} {I : jv_I} {J : jv_J} {Y Z : ot_Y} {E : ot_E} {K : Option ot_Y} (h : ot_M G I J Y Z E K) (k : Int32) : ot_mm 8 mX5_change [.ref 64, .int k] G I J (ot_ans (ot_rc (0 ≤ k.toInt ∧ k.toInt < Y 10 1)) (ot_change Y (ot_n k))) Y (ot_zr Z (ot_rc (0 ≤ k.toInt ∧ k.toInt < Y 10 1))) E K := by
  have bn := yw_n h.w
  have bc := yw_c h.w
  have bw := yw_w h.w
  refine ot_rc_split (motive := fun rc => ot_mm 8 mX5_change [.ref 64, .int k] G I J (ot_ans rc (ot_change Y (ot_n k))) Y (ot_zr Z rc) E K) (fun hv => ?_) (fun hv => ?_)
  · obtain ⟨j, hj, rfl⟩ := ot_of hv (by omega)
    rw [ot_n_nI (show j < 2 ^ 30 by omega)]
    obtain ⟨I2, hV, hR2, hF⟩ := om_changeLoop h hj (Y 10 0 + 1) 0 I .null .null (by omega) (by omega) h.r (fun _ _ => rfl)
    rw [ot_ans_0]
    have hmf := ot_mf.pl hF
    refine ⟨G, I2, J, ?_, ot_M_yard h hR2 h.w h.z hmf.mw, hmf.mw.lo, ot_gx.rf⟩
    refine jv_enter okX5_change (L := [.ref 64, .int (nI j), .null, .null, .null, .null, .null]) rfl (Nat.le_of_ble_eq_true rfl) ?_
    refine jv_aload0 dX5_change_0 ?_
    refine jv_iload1 dX5_change_1 ?_
    refine jv_v11 dX5_change_2 okX5_isCount inX5_isCount seX5_isCount mlX5_94 (ci := 5) (T := TX5) (N := 35) rfl (mk h.g) (om_isCount h.g h.r h.w _) (by decide) (Nat.le_of_ble_eq_true rfl) ?_
    refine jv_if_neB dX5_change_5 (tgt := 15) (by decide) (fun hq8 => ?_) (fun hq8 => absurd hv hq8)
    refine jv_iconst dX5_change_15 jv_c_iconst_m1 ?_
    refine jv_istore2 dX5_change_16 rfl ?_
    refine jv_aload0 dX5_change_17 ?_
    refine jv_iload1 dX5_change_18 ?_
    refine jv_v11 dX5_change_19 okX5_valueOf inX5_valueOf seX5_valueOf mlX5_278 (ci := 5) (T := TX5) (N := 35) rfl (mk h.g) (om_valueOf h.g h.r h.w hj) (by decide) (Nat.le_of_ble_eq_true rfl) ?_
    refine jv_istore3 dX5_change_22 rfl ?_
    refine jv_iconst dX5_change_23 jv_c_iconst_0 ?_
    refine jv_istore4 dX5_change_24 rfl ?_
    exact hV
  · obtain ⟨I2, hC, h2, h3⟩ := om_refuse2 h
    refine ⟨G, I2, J, ?_, h2, h3, ot_gx.rf⟩
    refine jv_enter okX5_change (L := [.ref 64, .int k, .null, .null, .null, .null, .null]) rfl (Nat.le_of_ble_eq_true rfl) ?_
    refine jv_aload0 dX5_change_0 ?_
    refine jv_iload1 dX5_change_1 ?_
    refine jv_v11 dX5_change_2 okX5_isCount inX5_isCount seX5_isCount mlX5_94 (ci := 5) (T := TX5) (N := 35) rfl (mk h.g) (om_isCount h.g h.r h.w _) (by decide) (Nat.le_of_ble_eq_true rfl) ?_
    refine jv_if_neB dX5_change_5 (tgt := 15) (by decide) (fun hq8 => absurd hq8 hv) (fun hq8 => ?_)
    refine jv_aload0 dX5_change_8 ?_
    refine jv_bipush dX5_change_9 jv_c_bipush_m2 ?_
    refine jv_v11 dX5_change_11 okX5_refuse inX5_refuse seX5_refuse mlX5_104 (ci := 5) (T := TX5) (N := 35) rfl (mk h.g) hC (by decide) (Nat.le_of_ble_eq_true rfl) ?_
    exact jv_iret dX5_change_14 rfl rfl rfl rfl rfl
