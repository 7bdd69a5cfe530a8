/-! ===== the face: group 15 (moved) ===== -/
def ot_pairN (p : Nat → Nat → Bool) (n a : Nat) : Nat := ot_fst (fun b => decide (a < b) && p a b) n
def ot_pairF (p : Nat → Nat → Bool) (n : Nat) : Nat := ot_fst (fun a => decide (ot_pairN p n a < n)) n
def ot_pairA (p : Nat → Nat → Bool) (n : Nat) : Int32 := if ot_pairF p n = n then -1 else nI (100 * ot_pairF p n + ot_pairN p n (ot_pairF p n))
theorem ot_pairN_none {p : Nat → Nat → Bool} {n a : Nat} (h : ∀ b, a < b → b < n → p a b = false) : ot_pairN p n a = n := ot_fst_none n (fun b hb => by
  by_cases e : a < b
  · rw [h b e hb, Bool.and_false]
  · rw [decide_eq_false e, Bool.false_and])
theorem ot_pairN_some {p : Nat → Nat → Bool} {n a b : Nat} (hab : a < b) (hb : b < n) (h1 : p a b = true) (h2 : ∀ e, a < e → e < b → p a e = false) : ot_pairN p n a = b := ot_fst_some n hb (by rw [decide_eq_true hab, h1]; rfl) (fun e he => by
  by_cases q : a < e
  · rw [h2 e q he, Bool.and_false]
  · rw [decide_eq_false q, Bool.false_and])
theorem ot_pair_none {p : Nat → Nat → Bool} {n : Nat} (h : ∀ a b, a < b → b < n → p a b = false) : ot_pairA p n = -1 := by
  unfold ot_pairA
  rw [if_pos]
  exact ot_fst_none n (fun a ha => by rw [ot_pairN_none (fun b h1 h2 => h a b h1 h2)]; exact decide_eq_false (by omega))
theorem ot_pair_hit {p : Nat → Nat → Bool} {n a b : Nat} (hab : a < b) (hb : b < n) (h1 : p a b = true) (h2 : ∀ e, a < e → e < b → p a e = false) (h3 : ∀ x y, x < a → x < y → y < n → p x y = false) : ot_pairA p n = nI (100 * a + b) := by
  have eN := ot_pairN_some hab hb h1 h2
  have eF : ot_pairF p n = a := ot_fst_some n (by omega) (by rw [eN]; exact decide_eq_true hb) (fun x hx => by rw [ot_pairN_none (fun y h1 h2 => h3 x y hx h1 h2)]; exact decide_eq_false (by omega))
  unfold ot_pairA
  rw [eF, if_neg (by omega), eN]
def ot_mvp (Y : ot_Y) (k : Nat) (f : Nat → Int64) (a b : Nat) : Bool := decide (ot_wrong (ot_swap Y a b) k f = 0)
set_option maxRecDepth 20000 in
theorem oc_fitChange {G : jv_Gr} {I : jv_I} {J : jv_J} {Y Z : ot_Y} {E : ot_E} {K : Option ot_Y} (h : ot_C G I J Y Z E K) {k r : Nat} {f : Nat → Int64} (hk : k < Y 10 1) (hrk : jv_k G r = (1, 40)) (he : ∀ i, i < 40 → J r i = f i) : ∃ I2, jv_C 6 mX0_firstChangeToFit [.ref 38, .int (nI k), .ref r] G I J (some (.int (ot_pairA (ot_mvp Y k f) (Y 10 0)))) G I2 J ∧ ot_YR I2 2 Y ∧ (∀ q, q ≠ 2 + 3 → q ≠ 2 + 4 → I2 q = I q) := by
  have bn := yw_n h.w
  have bc := yw_c h.w
  have bw := yw_w h.w
  have outer : ∀ (m i : Nat) (A : jv_I) (s4 s5 : Value), Y 10 0 + 1 ≤ i + m → i ≤ Y 10 0 → ot_YR A 2 Y → (∀ q, q ≠ 2 + 3 → q ≠ 2 + 4 → A q = I q) → (∀ x y, x < i → x < y → y < Y 10 0 → ot_mvp Y k f x y = false) → ∃ I2, jv_V 6 mX0_firstChangeToFit 2 [.ref 38, .int (nI k), .ref r, .int (nI i), s4, s5] [] G A J (some (.int (ot_pairA (ot_mvp Y k f) (Y 10 0)))) G I2 J ∧ ot_YR I2 2 Y ∧ (∀ q, q ≠ 2 + 3 → q ≠ 2 + 4 → I2 q = I q) := by
    intro m
    induction m with
    | zero => intro i A s4 s5 b1 b2; omega
    | succ m ih =>
      intro i A s4 s5 b1 b2 hR hF haa
      by_cases hi : i < Y 10 0
      · have inner : ∀ (m2 b : Nat) (A : jv_I) (s5 : Value), Y 10 0 + 1 ≤ b + m2 → b ≤ Y 10 0 → i < b → ot_YR A 2 Y → (∀ q, q ≠ 2 + 3 → q ≠ 2 + 4 → A q = I q) → (∀ e, i < e → e < b → ot_mvp Y k f i e = false) → ∃ I2, jv_V 6 mX0_firstChangeToFit 18 [.ref 38, .int (nI k), .ref r, .int (nI i), .int (nI b), s5] [] G A J (some (.int (ot_pairA (ot_mvp Y k f) (Y 10 0)))) G I2 J ∧ ot_YR I2 2 Y ∧ (∀ q, q ≠ 2 + 3 → q ≠ 2 + 4 → I2 q = I q) := by
          intro m2
          induction m2 with
          | zero => intro b A s5 b1 b2; omega
          | succ m2 ih2 =>
            intro b A s5 q1 q2 hib hR hF hbb
            by_cases hb : b < Y 10 0
            · have hW2 := ot_YW_swap h.w hi hb
              obtain ⟨A1, c1, hR1, hF1⟩ := ot_exchangeM (J := J) (cg_now h.g) hR h.w hi hb
              have c2 := ot_wrongM (J := J) (cg_now h.g) hR1 hW2 (k := k) hk hrk (show Y 10 0 ≤ 40 by omega) (by decide)
              have hwr : ot_wrong (ot_swap Y i b) k (J r) = ot_wrong (ot_swap Y i b) k f := ot_wrong_cong (fun c hc => he c (by have : c < Y 10 0 := hc; omega))
              have hwn := ot_wrong_n (ot_swap Y i b) k f
              have hwn : ot_wrong (ot_swap Y i b) k f ≤ Y 10 0 := hwn
              obtain ⟨A2, c3, hR2, hF2⟩ := ot_exchangeM (J := J) (cg_now h.g) hR1 hW2 (a := i) (b := b) hi hb
              rw [ot_swap_self] at hR2
              have hF3 : ∀ q, q ≠ 2 + 3 → q ≠ 2 + 4 → A2 q = I q := fun q x1 x2 => (hF2 q x1 x2).trans ((hF1 q x1 x2).trans (hF q x1 x2))
              by_cases hz : ot_wrong (ot_swap Y i b) k f = 0
              · refine ⟨A2, ?_, hR2, hF3⟩
                refine jv_iload4 dX0_firstChangeToFit_18 ?_
                refine jv_aload0 dX0_firstChangeToFit_20 ?_
                refine jv_getR dX0_firstChangeToFit_21 flX0_27 rfl (fk h.g) (fr_yard h.g) ?_
                refine jv_getI dX0_firstChangeToFit_24 flX0_31 rfl (yk (cg_now h.g)) (show A 2 0 = nI (Y 10 0) from hR.1.1) ?_
                refine jv_icmp_geN dX0_firstChangeToFit_27 (tgt := 88) (by decide) (by omega) (by omega) (fun hc27 => by omega) (fun hc27 => ?_)
                refine jv_aload0 dX0_firstChangeToFit_30 ?_
                refine jv_getR dX0_firstChangeToFit_31 flX0_27 rfl (fk h.g) (fr_yard h.g) ?_
                refine jv_iload3 dX0_firstChangeToFit_34 ?_
                refine jv_iload4 dX0_firstChangeToFit_35 ?_
                refine jv_v20 dX0_firstChangeToFit_37 okX3_exchange inX3_exchange seX3_exchange mlX0_86 (ci := 3) (T := TX3) (N := 15) rfl (yk (cg_now h.g)) c1 (by decide) (Nat.le_of_ble_eq_true rfl) ?_
                refine jv_aload0 dX0_firstChangeToFit_40 ?_
                refine jv_getR dX0_firstChangeToFit_41 flX0_27 rfl (fk h.g) (fr_yard h.g) ?_
                refine jv_iload1 dX0_firstChangeToFit_44 ?_
                refine jv_aload2 dX0_firstChangeToFit_45 ?_
                refine jv_v21 dX0_firstChangeToFit_46 okX3_unlikeTold inX3_unlikeTold seX3_unlikeTold mlX0_89 (ci := 3) (T := TX3) (N := 15) rfl (yk (cg_now h.g)) c2 (by decide) (Nat.le_of_ble_eq_true rfl) ?_
                rw [hwr]
                refine jv_if_neN dX0_firstChangeToFit_49 (tgt := 56) (by decide) (by omega) (fun h49 => absurd hz h49) (fun h49 => ?_)
                refine jv_iconst dX0_firstChangeToFit_52 jv_c_iconst_1 ?_
                refine jv_goto dX0_firstChangeToFit_53 (tgt := 57) (by decide) ?_
                refine jv_istore5 dX0_firstChangeToFit_57 rfl ?_
                refine jv_aload0 dX0_firstChangeToFit_59 ?_
                refine jv_getR dX0_firstChangeToFit_60 flX0_27 rfl (fk h.g) (fr_yard h.g) ?_
                refine jv_iload3 dX0_firstChangeToFit_63 ?_
                refine jv_iload4 dX0_firstChangeToFit_64 ?_
                refine jv_v20 dX0_firstChangeToFit_66 okX3_exchange inX3_exchange seX3_exchange mlX0_86 (ci := 3) (T := TX3) (N := 15) rfl (yk (cg_now h.g)) c3 (by decide) (Nat.le_of_ble_eq_true rfl) ?_
                refine jv_iload5 dX0_firstChangeToFit_69 ?_
                refine jv_if_eqN dX0_firstChangeToFit_71 (tgt := 82) (by decide) (by omega) (fun hc71 => by omega) (fun hc71 => ?_)
                refine jv_bipush dX0_firstChangeToFit_74 jv_c_bipush_100 ?_
                refine jv_iload3 dX0_firstChangeToFit_76 ?_
                refine jv_imulN dX0_firstChangeToFit_77 ?_
                refine jv_iload4 dX0_firstChangeToFit_78 ?_
                refine jv_iaddN dX0_firstChangeToFit_80 ?_
                exact jv_iret dX0_firstChangeToFit_81 rfl rfl (by rw [ot_pair_hit (by omega) (by omega) (decide_eq_true hz) hbb haa]) rfl rfl
              · obtain ⟨I2, hV, p1, p2⟩ := ih2 (b + 1) A2 (.int (nI 0)) (by omega) (by omega) (by omega) hR2 hF3 (fun e e1 e2 => by
                  by_cases q : e = b
                  · rw [q]; exact decide_eq_false hz
                  · exact hbb e e1 (by omega))
                refine ⟨I2, ?_, p1, p2⟩
                refine jv_iload4 dX0_firstChangeToFit_18 ?_
                refine jv_aload0 dX0_firstChangeToFit_20 ?_
                refine jv_getR dX0_firstChangeToFit_21 flX0_27 rfl (fk h.g) (fr_yard h.g) ?_
                refine jv_getI dX0_firstChangeToFit_24 flX0_31 rfl (yk (cg_now h.g)) (show A 2 0 = nI (Y 10 0) from hR.1.1) ?_
                refine jv_icmp_geN dX0_firstChangeToFit_27 (tgt := 88) (by decide) (by omega) (by omega) (fun hc27 => by omega) (fun hc27 => ?_)
                refine jv_aload0 dX0_firstChangeToFit_30 ?_
                refine jv_getR dX0_firstChangeToFit_31 flX0_27 rfl (fk h.g) (fr_yard h.g) ?_
                refine jv_iload3 dX0_firstChangeToFit_34 ?_
                refine jv_iload4 dX0_firstChangeToFit_35 ?_
                refine jv_v20 dX0_firstChangeToFit_37 okX3_exchange inX3_exchange seX3_exchange mlX0_86 (ci := 3) (T := TX3) (N := 15) rfl (yk (cg_now h.g)) c1 (by decide) (Nat.le_of_ble_eq_true rfl) ?_
                refine jv_aload0 dX0_firstChangeToFit_40 ?_
                refine jv_getR dX0_firstChangeToFit_41 flX0_27 rfl (fk h.g) (fr_yard h.g) ?_
                refine jv_iload1 dX0_firstChangeToFit_44 ?_
                refine jv_aload2 dX0_firstChangeToFit_45 ?_
                refine jv_v21 dX0_firstChangeToFit_46 okX3_unlikeTold inX3_unlikeTold seX3_unlikeTold mlX0_89 (ci := 3) (T := TX3) (N := 15) rfl (yk (cg_now h.g)) c2 (by decide) (Nat.le_of_ble_eq_true rfl) ?_
                rw [hwr]
                refine jv_if_neN dX0_firstChangeToFit_49 (tgt := 56) (by decide) (by omega) (fun h49 => ?_) (fun h49 => absurd h49 hz)
                refine jv_iconst dX0_firstChangeToFit_56 jv_c_iconst_0 ?_
                refine jv_istore5 dX0_firstChangeToFit_57 rfl ?_
                refine jv_aload0 dX0_firstChangeToFit_59 ?_
                refine jv_getR dX0_firstChangeToFit_60 flX0_27 rfl (fk h.g) (fr_yard h.g) ?_
                refine jv_iload3 dX0_firstChangeToFit_63 ?_
                refine jv_iload4 dX0_firstChangeToFit_64 ?_
                refine jv_v20 dX0_firstChangeToFit_66 okX3_exchange inX3_exchange seX3_exchange mlX0_86 (ci := 3) (T := TX3) (N := 15) rfl (yk (cg_now h.g)) c3 (by decide) (Nat.le_of_ble_eq_true rfl) ?_
                refine jv_iload5 dX0_firstChangeToFit_69 ?_
                refine jv_if_eqN dX0_firstChangeToFit_71 (tgt := 82) (by decide) (by omega) (fun hc71 => ?_) (fun hc71 => by omega)
                refine jv_iinc4N dX0_firstChangeToFit_82 rfl ?_
                refine jv_goto dX0_firstChangeToFit_85 (tgt := 18) (by decide) ?_
                exact hV
            · have eb : b = Y 10 0 := by omega
              obtain ⟨I2, hV, p1, p2⟩ := ih (i + 1) A (.int (nI b)) s5 (by omega) (by omega) hR hF (fun x y h1 h2 h3 => by
                by_cases q : x = i
                · rw [q]; exact hbb y (by omega) (by omega)
                · exact haa x y (by omega) h2 h3)
              refine ⟨I2, ?_, p1, p2⟩
              refine jv_iload4 dX0_firstChangeToFit_18 ?_
              refine jv_aload0 dX0_firstChangeToFit_20 ?_
              refine jv_getR dX0_firstChangeToFit_21 flX0_27 rfl (fk h.g) (fr_yard h.g) ?_
              refine jv_getI dX0_firstChangeToFit_24 flX0_31 rfl (yk (cg_now h.g)) (show A 2 0 = nI (Y 10 0) from hR.1.1) ?_
              refine jv_icmp_geN dX0_firstChangeToFit_27 (tgt := 88) (by decide) (by omega) (by omega) (fun hc27 => ?_) (fun hc27 => by omega)
              refine jv_iinc3N dX0_firstChangeToFit_88 rfl ?_
              refine jv_goto dX0_firstChangeToFit_91 (tgt := 2) (by decide) ?_
              exact hV
        obtain ⟨I2, hV, p1, p2⟩ := inner (Y 10 0) (i + 1) A s5 (by omega) (by omega) (by omega) hR hF (fun e e1 e2 => by omega)
        refine ⟨I2, ?_, p1, p2⟩
        refine jv_iload3 dX0_firstChangeToFit_2 ?_
        refine jv_aload0 dX0_firstChangeToFit_3 ?_
        refine jv_getR dX0_firstChangeToFit_4 flX0_27 rfl (fk h.g) (fr_yard h.g) ?_
        refine jv_getI dX0_firstChangeToFit_7 flX0_31 rfl (yk (cg_now h.g)) (show A 2 0 = nI (Y 10 0) from hR.1.1) ?_
        refine jv_icmp_geN dX0_firstChangeToFit_10 (tgt := 94) (by decide) (by omega) (by omega) (fun hc10 => by omega) (fun hc10 => ?_)
        refine jv_iload3 dX0_firstChangeToFit_13 ?_
        refine jv_iconst dX0_firstChangeToFit_14 jv_c_iconst_1 ?_
        refine jv_iaddN dX0_firstChangeToFit_15 ?_
        refine jv_istore4 dX0_firstChangeToFit_16 rfl ?_
        exact hV
      · have ei : i = Y 10 0 := by omega
        refine ⟨A, ?_, hR, hF⟩
        refine jv_iload3 dX0_firstChangeToFit_2 ?_
        refine jv_aload0 dX0_firstChangeToFit_3 ?_
        refine jv_getR dX0_firstChangeToFit_4 flX0_27 rfl (fk h.g) (fr_yard h.g) ?_
        refine jv_getI dX0_firstChangeToFit_7 flX0_31 rfl (yk (cg_now h.g)) (show A 2 0 = nI (Y 10 0) from hR.1.1) ?_
        refine jv_icmp_geN dX0_firstChangeToFit_10 (tgt := 94) (by decide) (by omega) (by omega) (fun hc10 => ?_) (fun hc10 => by omega)
        refine jv_iconst dX0_firstChangeToFit_94 jv_c_iconst_m1 ?_
        exact jv_iret dX0_firstChangeToFit_95 rfl rfl (ot_pair_none (fun a b h1 h2 => haa a b (by omega) h1 h2)).symm rfl rfl
  obtain ⟨I2, hV, p1, p2⟩ := outer (Y 10 0 + 1) 0 I .null .null (by omega) (by omega) h.r (fun _ _ _ => rfl) (fun x y h1 => by omega)
  refine ⟨I2, ?_, p1, p2⟩
  refine jv_enter okX0_firstChangeToFit (L := [.ref 38, .int (nI k), .ref r, .null, .null, .null]) rfl (Nat.le_of_ble_eq_true rfl) ?_
  refine jv_iconst dX0_firstChangeToFit_0 jv_c_iconst_0 ?_
  refine jv_istore3 dX0_firstChangeToFit_1 rfl ?_
  exact hV
set_option maxRecDepth 20000 in
theorem om_fitChange {G : jv_Gr} {I : jv_I} {J : jv_J} {Y Z : ot_Y} {E : ot_E} {K : Option ot_Y} (h : ot_M G I J Y Z E K) {k t : Nat} (hk : k < Y 10 1) (ht : t < 8) (h1s : Z 0 t = 1) (s5 s6 : Value) : ∃ I2, jv_V 8 mX5_moved 30 [.ref 64, .int (nI k), .int (nI t), .int (nI 0), .int (nI 0), s5, s6] [] G I J (some (.int (ot_pairA (ot_mvp Y k (E t)) (Y 10 0)))) G I2 J ∧ ot_MR I2 64 Y ∧ (∀ q, q ≠ 64 + 19 → I2 q = I q) := by
  have bn := yw_n h.w
  have bc := yw_c h.w
  have bw := yw_w h.w
  have outer : ∀ (m i : Nat) (A : jv_I) (s5 s6 : Value), Y 10 0 + 1 ≤ i + m → i ≤ Y 10 0 → ot_MR A 64 Y → (∀ q, q ≠ 64 + 19 → A q = I q) → (∀ x y, x < i → x < y → y < Y 10 0 → ot_mvp Y k (E t) x y = false) → ∃ I2, jv_V 8 mX5_moved 30 [.ref 64, .int (nI k), .int (nI t), .int (nI 0), .int (nI i), s5, s6] [] G A J (some (.int (ot_pairA (ot_mvp Y k (E t)) (Y 10 0)))) G I2 J ∧ ot_MR I2 64 Y ∧ (∀ q, q ≠ 64 + 19 → I2 q = I q) := by
    intro m
    induction m with
    | zero => intro i A s5 s6 b1 b2; omega
    | succ m ih =>
      intro i A s5 s6 b1 b2 hR hF haa
      by_cases hi : i < Y 10 0
      · have inner : ∀ (m2 b : Nat) (A : jv_I) (s6 : Value), Y 10 0 + 1 ≤ b + m2 → b ≤ Y 10 0 → i < b → ot_MR A 64 Y → (∀ q, q ≠ 64 + 19 → A q = I q) → (∀ e, i < e → e < b → ot_mvp Y k (E t) i e = false) → ∃ I2, jv_V 8 mX5_moved 45 [.ref 64, .int (nI k), .int (nI t), .int (nI 0), .int (nI i), .int (nI b), s6] [] G A J (some (.int (ot_pairA (ot_mvp Y k (E t)) (Y 10 0)))) G I2 J ∧ ot_MR I2 64 Y ∧ (∀ q, q ≠ 64 + 19 → I2 q = I q) := by
          intro m2
          induction m2 with
          | zero => intro b A s6 b1 b2; omega
          | succ m2 ih2 =>
            intro b A s6 q1 q2 hib hR hF hbb
            by_cases hb : b < Y 10 0
            · have hW2 := ot_YW_swap h.w hi hb
              obtain ⟨A1, c1, hR1, hF1⟩ := om_swaps (J := J) h.g hR h.w hi hb
              have c2 := om_wrongTeams (J := J) h.g hR1 hW2 (k := k) hk (mk_row h.g ht) (show Y 10 0 ≤ 40 by omega) (by decide)
              have hwr : ot_wrong (ot_swap Y i b) k (J (64 + (5 + t))) = ot_wrong (ot_swap Y i b) k (E t) := ot_wrong_cong (fun c hc => nr_el h.s ht h1s (by have : c < Y 10 0 := hc; omega))
              have hwn := ot_wrong_n (ot_swap Y i b) k (E t)
              have hwn : ot_wrong (ot_swap Y i b) k (E t) ≤ Y 10 0 := hwn
              obtain ⟨A2, c3, hR2, hF2⟩ := om_swaps (J := J) h.g hR1 hW2 (a := i) (b := b) hi hb
              rw [ot_swap_self] at hR2
              have hF3 : ∀ q, q ≠ 64 + 19 → A2 q = I q := fun q x1 => (hF2 q x1).trans ((hF1 q x1).trans (hF q x1))
              by_cases hz : ot_wrong (ot_swap Y i b) k (E t) = 0
              · refine ⟨A2, ?_, hR2, hF3⟩
                refine jv_iload5 dX5_moved_45 ?_
                refine jv_aload0 dX5_moved_47 ?_
                refine jv_getI dX5_moved_48 flX5_80 rfl (mk h.g) (show A 64 9 = nI (Y 10 0) from hR.1.1) ?_
                refine jv_icmp_geN dX5_moved_51 (tgt := 103) (by decide) (by omega) (by omega) (fun hc51 => by omega) (fun hc51 => ?_)
                refine jv_aload0 dX5_moved_54 ?_
                refine jv_iload4 dX5_moved_55 ?_
                refine jv_iload5 dX5_moved_57 ?_
                refine jv_v20 dX5_moved_59 okX5_swaps inX5_swaps seX5_swaps mlX5_222 (ci := 5) (T := TX5) (N := 35) rfl (mk h.g) c1 (by decide) (Nat.le_of_ble_eq_true rfl) ?_
                refine jv_aload0 dX5_moved_62 ?_
                refine jv_iload1 dX5_moved_63 ?_
                refine jv_aload0 dX5_moved_64 ?_
                refine jv_getR dX5_moved_65 flX5_21 rfl (mk h.g) (mr_rows h.g) ?_
                refine jv_iload2 dX5_moved_68 ?_
                refine jv_aald3N dX5_moved_69 (mk_rows h.g) (by omega) (by decide) (mr_row h.g ht) ?_
                refine jv_v21 dX5_moved_70 okX5_wrongTeams inX5_wrongTeams seX5_wrongTeams mlX5_316 (ci := 5) (T := TX5) (N := 35) rfl (mk h.g) c2 (by decide) (Nat.le_of_ble_eq_true rfl) ?_
                rw [hwr]
                refine jv_istore6 dX5_moved_73 rfl ?_
                refine jv_aload0 dX5_moved_75 ?_
                refine jv_iload4 dX5_moved_76 ?_
                refine jv_iload5 dX5_moved_78 ?_
                refine jv_v20 dX5_moved_80 okX5_swaps inX5_swaps seX5_swaps mlX5_222 (ci := 5) (T := TX5) (N := 35) rfl (mk h.g) c3 (by decide) (Nat.le_of_ble_eq_true rfl) ?_
                refine jv_iload6 dX5_moved_83 ?_
                refine jv_if_neN dX5_moved_85 (tgt := 97) (by decide) (by omega) (fun h49 => absurd hz h49) (fun h49 => ?_)
                refine jv_bipush dX5_moved_88 jv_c_bipush_100 ?_
                refine jv_iload4 dX5_moved_90 ?_
                refine jv_imulN dX5_moved_92 ?_
                refine jv_iload5 dX5_moved_93 ?_
                refine jv_iaddN dX5_moved_95 ?_
                exact jv_iret dX5_moved_96 rfl rfl (by rw [ot_pair_hit (by omega) (by omega) (decide_eq_true hz) hbb haa]) rfl rfl
              · obtain ⟨I2, hV, p1, p2⟩ := ih2 (b + 1) A2 (.int (nI (ot_wrong (ot_swap Y i b) k (E t)))) (by omega) (by omega) (by omega) hR2 hF3 (fun e e1 e2 => by
                  by_cases q : e = b
                  · rw [q]; exact decide_eq_false hz
                  · exact hbb e e1 (by omega))
                refine ⟨I2, ?_, p1, p2⟩
                refine jv_iload5 dX5_moved_45 ?_
                refine jv_aload0 dX5_moved_47 ?_
                refine jv_getI dX5_moved_48 flX5_80 rfl (mk h.g) (show A 64 9 = nI (Y 10 0) from hR.1.1) ?_
                refine jv_icmp_geN dX5_moved_51 (tgt := 103) (by decide) (by omega) (by omega) (fun hc51 => by omega) (fun hc51 => ?_)
                refine jv_aload0 dX5_moved_54 ?_
                refine jv_iload4 dX5_moved_55 ?_
                refine jv_iload5 dX5_moved_57 ?_
                refine jv_v20 dX5_moved_59 okX5_swaps inX5_swaps seX5_swaps mlX5_222 (ci := 5) (T := TX5) (N := 35) rfl (mk h.g) c1 (by decide) (Nat.le_of_ble_eq_true rfl) ?_
                refine jv_aload0 dX5_moved_62 ?_
                refine jv_iload1 dX5_moved_63 ?_
                refine jv_aload0 dX5_moved_64 ?_
                refine jv_getR dX5_moved_65 flX5_21 rfl (mk h.g) (mr_rows h.g) ?_
                refine jv_iload2 dX5_moved_68 ?_
                refine jv_aald3N dX5_moved_69 (mk_rows h.g) (by omega) (by decide) (mr_row h.g ht) ?_
                refine jv_v21 dX5_moved_70 okX5_wrongTeams inX5_wrongTeams seX5_wrongTeams mlX5_316 (ci := 5) (T := TX5) (N := 35) rfl (mk h.g) c2 (by decide) (Nat.le_of_ble_eq_true rfl) ?_
                rw [hwr]
                refine jv_istore6 dX5_moved_73 rfl ?_
                refine jv_aload0 dX5_moved_75 ?_
                refine jv_iload4 dX5_moved_76 ?_
                refine jv_iload5 dX5_moved_78 ?_
                refine jv_v20 dX5_moved_80 okX5_swaps inX5_swaps seX5_swaps mlX5_222 (ci := 5) (T := TX5) (N := 35) rfl (mk h.g) c3 (by decide) (Nat.le_of_ble_eq_true rfl) ?_
                refine jv_iload6 dX5_moved_83 ?_
                refine jv_if_neN dX5_moved_85 (tgt := 97) (by decide) (by omega) (fun h49 => ?_) (fun h49 => absurd h49 hz)
                refine jv_iinc5N dX5_moved_97 rfl ?_
                refine jv_goto dX5_moved_100 (tgt := 45) (by decide) ?_
                exact hV
            · have eb : b = Y 10 0 := by omega
              obtain ⟨I2, hV, p1, p2⟩ := ih (i + 1) A (.int (nI b)) s6 (by omega) (by omega) hR hF (fun x y h1 h2 h3 => by
                by_cases q : x = i
                · rw [q]; exact hbb y (by omega) (by omega)
                · exact haa x y (by omega) h2 h3)
              refine ⟨I2, ?_, p1, p2⟩
              refine jv_iload5 dX5_moved_45 ?_
              refine jv_aload0 dX5_moved_47 ?_
              refine jv_getI dX5_moved_48 flX5_80 rfl (mk h.g) (show A 64 9 = nI (Y 10 0) from hR.1.1) ?_
              refine jv_icmp_geN dX5_moved_51 (tgt := 103) (by decide) (by omega) (by omega) (fun hc51 => ?_) (fun hc51 => by omega)
              refine jv_iinc4N dX5_moved_103 rfl ?_
              refine jv_goto dX5_moved_106 (tgt := 30) (by decide) ?_
              exact hV
        obtain ⟨I2, hV, p1, p2⟩ := inner (Y 10 0) (i + 1) A s6 (by omega) (by omega) (by omega) hR hF (fun e e1 e2 => by omega)
        refine ⟨I2, ?_, p1, p2⟩
        refine jv_iload4 dX5_moved_30 ?_
        refine jv_aload0 dX5_moved_32 ?_
        refine jv_getI dX5_moved_33 flX5_80 rfl (mk h.g) (show A 64 9 = nI (Y 10 0) from hR.1.1) ?_
        refine jv_icmp_geN dX5_moved_36 (tgt := 109) (by decide) (by omega) (by omega) (fun hc36 => by omega) (fun hc36 => ?_)
        refine jv_iload4 dX5_moved_39 ?_
        refine jv_iconst dX5_moved_41 jv_c_iconst_1 ?_
        refine jv_iaddN dX5_moved_42 ?_
        refine jv_istore5 dX5_moved_43 rfl ?_
        exact hV
      · have ei : i = Y 10 0 := by omega
        refine ⟨A, ?_, hR, hF⟩
        refine jv_iload4 dX5_moved_30 ?_
        refine jv_aload0 dX5_moved_32 ?_
        refine jv_getI dX5_moved_33 flX5_80 rfl (mk h.g) (show A 64 9 = nI (Y 10 0) from hR.1.1) ?_
        refine jv_icmp_geN dX5_moved_36 (tgt := 109) (by decide) (by omega) (by omega) (fun hc36 => ?_) (fun hc36 => by omega)
        refine jv_iconst dX5_moved_109 jv_c_iconst_m1 ?_
        exact jv_iret dX5_moved_110 rfl rfl (ot_pair_none (fun a b h1 h2 => haa a b (by omega) h1 h2)).symm rfl rfl
  exact outer (Y 10 0 + 1) 0 I s5 s6 (by omega) (by omega) h.r (fun _ _ => rfl) (fun x y h1 => by omega)
def ot_rcv (Y Z : ot_Y) (k s : Int32) : Nat := if 0 ≤ k.toInt ∧ k.toInt < Y 10 1 then ot_tt Z s (nI (Y 10 0)) else 2
set_option maxRecDepth 20000 in
theorem pc_moved {G : jv_Gr} {I : jv_I} {J : jv_J} {Y Z : ot_Y} {E : ot_E} {K : Option ot_Y} (h : ot_C G I J Y Z E K) (k : Int32) (s : Int32) : ot_cc 8 mX4_moved [.ref 1, .int k, .int s] G I J (ot_ans (ot_rcv Y Z k s) (ot_pairA (ot_mvp Y (ot_n k) (E (ot_n s))) (Y 10 0))) Y (ot_zr Z (ot_rcv Y Z k s)) E K := by
  have bn := yw_n h.w
  have bc := yw_c h.w
  have bw := yw_w h.w
  by_cases hv : (0 ≤ k.toInt ∧ k.toInt < Y 10 1)
  · unfold ot_rcv
    rw [if_pos hv]
    obtain ⟨j, hj, rfl⟩ := ot_of hv (by omega)
    rw [ot_n_nI (show j < 2 ^ 30 by omega)]
    rcases ot_tt_cases h.z s (nI (Y 10 0)) with ⟨e, t, x, ht, rfl, h1s, hx, hle⟩ | e | e | e
    · have hT := oc_toldT h (nI t) (nI (Y 10 0))
      rw [e] at hT
      have hT : jv_C 4 mX4_toldTrouble _ G I J (some (.int (nI 0))) G I J := hT
      rw [e, ot_n_nI (show t < 2 ^ 30 by omega)]
      obtain ⟨I2, hA, hR2, hF⟩ := oc_fitChange h hj (sk_elements h.g ht) ((h.s.1 t ht).2.2 h1s)
      have hf := ot_fr.pl hF
      refine ⟨I2, J, ?_, ot_C_yard h hR2 h.w h.z hf, ot_hi.fr hf (by decide)⟩
      refine jv_enter okX4_moved (L := [.ref 1, .int (nI j), .int (nI t), .null]) rfl (Nat.le_of_ble_eq_true rfl) ?_
      refine jv_aload0 dX4_moved_0 ?_
      refine jv_getR dX4_moved_1 flX4_10 rfl (ck h.g) (cr_now h.g) ?_
      refine jv_iload1 dX4_moved_4 ?_
      refine jv_v11 dX4_moved_5 okX3_hasCount inX3_hasCount seX3_hasCount mlX4_101 (ci := 3) (T := TX3) (N := 15) rfl (yk (cg_now h.g)) (ot_hasCount (cg_now h.g) h.r h.w _) (by decide) (Nat.le_of_ble_eq_true rfl) ?_
      refine jv_if_eqB dX4_moved_8 (tgt := 26) (by decide) (fun hq8 => absurd hv hq8) (fun hq8 => ?_)
      refine jv_aload0 dX4_moved_11 ?_
      refine jv_iload2 dX4_moved_12 ?_
      refine jv_aload0 dX4_moved_13 ?_
      refine jv_getR dX4_moved_14 flX4_10 rfl (ck h.g) (cr_now h.g) ?_
      refine jv_getI dX4_moved_17 flX4_128 rfl (yk (cg_now h.g)) (yi_children h.r) ?_
      refine jv_v21 dX4_moved_20 okX4_toldTrouble inX4_toldTrouble seX4_toldTrouble mlX4_265 (ci := 4) (T := TX4) (N := 8) rfl (ck h.g) hT (by decide) (Nat.le_of_ble_eq_true rfl) ?_
      refine jv_goto dX4_moved_23 (tgt := 28) (by decide) ?_
      refine jv_istore3 dX4_moved_28 rfl ?_
      refine jv_iload3 dX4_moved_29 ?_
      refine jv_if_eqN dX4_moved_30 (tgt := 39) (by decide) (by omega) (fun hc30 => ?_) (fun hc30 => by omega)
      refine jv_aload0 dX4_moved_39 ?_
      refine jv_getR dX4_moved_40 flX4_27 rfl (ck h.g) (cr_finder h.g) ?_
      refine jv_iload1 dX4_moved_43 ?_
      refine jv_aload0 dX4_moved_44 ?_
      refine jv_getR dX4_moved_45 flX4_40 rfl (ck h.g) (cr_shelves h.g) ?_
      refine jv_iload2 dX4_moved_48 ?_
      refine jv_aald2N dX4_moved_49 (ck_shelves h.g) (by omega) (by decide) (cr_shelf h.g ht) ?_
      refine jv_getR dX4_moved_50 flX4_87 rfl (sk h.g ht) (sr_elements h.g ht) ?_
      refine jv_v21 dX4_moved_53 okX0_firstChangeToFit inX0_firstChangeToFit seX0_firstChangeToFit mlX4_272 (ci := 0) (T := TX0) (N := 6) rfl (fk h.g) hA (by decide) (Nat.le_of_ble_eq_true rfl) ?_
      exact jv_iret dX4_moved_56 rfl rfl rfl rfl rfl
    · have hT := oc_toldT h s (nI (Y 10 0))
      rw [e] at hT
      have hT : jv_C 4 mX4_toldTrouble _ G I J (some (.int (-2))) G I J := hT
      rw [e]
      obtain ⟨I2, hC, h2, h3⟩ := oc_refuse2 h
      refine ⟨I2, J, ?_, h2, h3⟩
      refine jv_enter okX4_moved (L := [.ref 1, .int (nI j), .int s, .null]) rfl (Nat.le_of_ble_eq_true rfl) ?_
      refine jv_aload0 dX4_moved_0 ?_
      refine jv_getR dX4_moved_1 flX4_10 rfl (ck h.g) (cr_now h.g) ?_
      refine jv_iload1 dX4_moved_4 ?_
      refine jv_v11 dX4_moved_5 okX3_hasCount inX3_hasCount seX3_hasCount mlX4_101 (ci := 3) (T := TX3) (N := 15) rfl (yk (cg_now h.g)) (ot_hasCount (cg_now h.g) h.r h.w _) (by decide) (Nat.le_of_ble_eq_true rfl) ?_
      refine jv_if_eqB dX4_moved_8 (tgt := 26) (by decide) (fun hq8 => absurd hv hq8) (fun hq8 => ?_)
      refine jv_aload0 dX4_moved_11 ?_
      refine jv_iload2 dX4_moved_12 ?_
      refine jv_aload0 dX4_moved_13 ?_
      refine jv_getR dX4_moved_14 flX4_10 rfl (ck h.g) (cr_now h.g) ?_
      refine jv_getI dX4_moved_17 flX4_128 rfl (yk (cg_now h.g)) (yi_children h.r) ?_
      refine jv_v21 dX4_moved_20 okX4_toldTrouble inX4_toldTrouble seX4_toldTrouble mlX4_265 (ci := 4) (T := TX4) (N := 8) rfl (ck h.g) hT (by decide) (Nat.le_of_ble_eq_true rfl) ?_
      refine jv_goto dX4_moved_23 (tgt := 28) (by decide) ?_
      refine jv_istore3 dX4_moved_28 rfl ?_
      refine jv_iload3 dX4_moved_29 ?_
      refine jv_if_eq dX4_moved_30 (tgt := 39) (by decide) (fun h30 => absurd h30 (by decide)) (fun h30 => ?_)
      refine jv_aload0 dX4_moved_33 ?_
      refine jv_iload3 dX4_moved_34 ?_
      refine jv_v11 dX4_moved_35 okX4_refuse inX4_refuse seX4_refuse mlX4_61 (ci := 4) (T := TX4) (N := 8) rfl (ck h.g) hC (by decide) (Nat.le_of_ble_eq_true rfl) ?_
      exact jv_iret dX4_moved_38 rfl rfl rfl rfl rfl
    · have hT := oc_toldT h s (nI (Y 10 0))
      rw [e] at hT
      have hT : jv_C 4 mX4_toldTrouble _ G I J (some (.int (-3))) G I J := hT
      rw [e]
      obtain ⟨I2, hC, h2, h3⟩ := oc_refuse3 h
      refine ⟨I2, J, ?_, h2, h3⟩
      refine jv_enter okX4_moved (L := [.ref 1, .int (nI j), .int s, .null]) rfl (Nat.le_of_ble_eq_true rfl) ?_
      refine jv_aload0 dX4_moved_0 ?_
      refine jv_getR dX4_moved_1 flX4_10 rfl (ck h.g) (cr_now h.g) ?_
      refine jv_iload1 dX4_moved_4 ?_
      refine jv_v11 dX4_moved_5 okX3_hasCount inX3_hasCount seX3_hasCount mlX4_101 (ci := 3) (T := TX3) (N := 15) rfl (yk (cg_now h.g)) (ot_hasCount (cg_now h.g) h.r h.w _) (by decide) (Nat.le_of_ble_eq_true rfl) ?_
      refine jv_if_eqB dX4_moved_8 (tgt := 26) (by decide) (fun hq8 => absurd hv hq8) (fun hq8 => ?_)
      refine jv_aload0 dX4_moved_11 ?_
      refine jv_iload2 dX4_moved_12 ?_
      refine jv_aload0 dX4_moved_13 ?_
      refine jv_getR dX4_moved_14 flX4_10 rfl (ck h.g) (cr_now h.g) ?_
      refine jv_getI dX4_moved_17 flX4_128 rfl (yk (cg_now h.g)) (yi_children h.r) ?_
      refine jv_v21 dX4_moved_20 okX4_toldTrouble inX4_toldTrouble seX4_toldTrouble mlX4_265 (ci := 4) (T := TX4) (N := 8) rfl (ck h.g) hT (by decide) (Nat.le_of_ble_eq_true rfl) ?_
      refine jv_goto dX4_moved_23 (tgt := 28) (by decide) ?_
      refine jv_istore3 dX4_moved_28 rfl ?_
      refine jv_iload3 dX4_moved_29 ?_
      refine jv_if_eq dX4_moved_30 (tgt := 39) (by decide) (fun h30 => absurd h30 (by decide)) (fun h30 => ?_)
      refine jv_aload0 dX4_moved_33 ?_
      refine jv_iload3 dX4_moved_34 ?_
      refine jv_v11 dX4_moved_35 okX4_refuse inX4_refuse seX4_refuse mlX4_61 (ci := 4) (T := TX4) (N := 8) rfl (ck h.g) hC (by decide) (Nat.le_of_ble_eq_true rfl) ?_
      exact jv_iret dX4_moved_38 rfl rfl rfl rfl rfl
    · have hT := oc_toldT h s (nI (Y 10 0))
      rw [e] at hT
      have hT : jv_C 4 mX4_toldTrouble _ G I J (some (.int (-4))) G I J := hT
      rw [e]
      obtain ⟨I2, hC, h2, h3⟩ := oc_refuse4 h
      refine ⟨I2, J, ?_, h2, h3⟩
      refine jv_enter okX4_moved (L := [.ref 1, .int (nI j), .int s, .null]) rfl (Nat.le_of_ble_eq_true rfl) ?_
      refine jv_aload0 dX4_moved_0 ?_
      refine jv_getR dX4_moved_1 flX4_10 rfl (ck h.g) (cr_now h.g) ?_
      refine jv_iload1 dX4_moved_4 ?_
      refine jv_v11 dX4_moved_5 okX3_hasCount inX3_hasCount seX3_hasCount mlX4_101 (ci := 3) (T := TX3) (N := 15) rfl (yk (cg_now h.g)) (ot_hasCount (cg_now h.g) h.r h.w _) (by decide) (Nat.le_of_ble_eq_true rfl) ?_
      refine jv_if_eqB dX4_moved_8 (tgt := 26) (by decide) (fun hq8 => absurd hv hq8) (fun hq8 => ?_)
      refine jv_aload0 dX4_moved_11 ?_
      refine jv_iload2 dX4_moved_12 ?_
      refine jv_aload0 dX4_moved_13 ?_
      refine jv_getR dX4_moved_14 flX4_10 rfl (ck h.g) (cr_now h.g) ?_
      refine jv_getI dX4_moved_17 flX4_128 rfl (yk (cg_now h.g)) (yi_children h.r) ?_
      refine jv_v21 dX4_moved_20 okX4_toldTrouble inX4_toldTrouble seX4_toldTrouble mlX4_265 (ci := 4) (T := TX4) (N := 8) rfl (ck h.g) hT (by decide) (Nat.le_of_ble_eq_true rfl) ?_
      refine jv_goto dX4_moved_23 (tgt := 28) (by decide) ?_
      refine jv_istore3 dX4_moved_28 rfl ?_
      refine jv_iload3 dX4_moved_29 ?_
      refine jv_if_eq dX4_moved_30 (tgt := 39) (by decide) (fun h30 => absurd h30 (by decide)) (fun h30 => ?_)
      refine jv_aload0 dX4_moved_33 ?_
      refine jv_iload3 dX4_moved_34 ?_
      refine jv_v11 dX4_moved_35 okX4_refuse inX4_refuse seX4_refuse mlX4_61 (ci := 4) (T := TX4) (N := 8) rfl (ck h.g) hC (by decide) (Nat.le_of_ble_eq_true rfl) ?_
      exact jv_iret dX4_moved_38 rfl rfl rfl rfl rfl
  · unfold ot_rcv
    rw [if_neg hv]
    obtain ⟨I2, hC, h2, h3⟩ := oc_refuse2 h
    refine ⟨I2, J, ?_, h2, h3⟩
    refine jv_enter okX4_moved (L := [.ref 1, .int k, .int s, .null]) rfl (Nat.le_of_ble_eq_true rfl) ?_
    refine jv_aload0 dX4_moved_0 ?_
    refine jv_getR dX4_moved_1 flX4_10 rfl (ck h.g) (cr_now h.g) ?_
    refine jv_iload1 dX4_moved_4 ?_
    refine jv_v11 dX4_moved_5 okX3_hasCount inX3_hasCount seX3_hasCount mlX4_101 (ci := 3) (T := TX3) (N := 15) rfl (yk (cg_now h.g)) (ot_hasCount (cg_now h.g) h.r h.w _) (by decide) (Nat.le_of_ble_eq_true rfl) ?_
    refine jv_if_eqB dX4_moved_8 (tgt := 26) (by decide) (fun hq8 => ?_) (fun hq8 => absurd hq8 hv)
    refine jv_bipush dX4_moved_26 jv_c_bipush_m2 ?_
    refine jv_istore3 dX4_moved_28 rfl ?_
    refine jv_iload3 dX4_moved_29 ?_
    refine jv_if_eq dX4_moved_30 (tgt := 39) (by decide) (fun h30 => absurd h30 (by decide)) (fun h30 => ?_)
    refine jv_aload0 dX4_moved_33 ?_
    refine jv_iload3 dX4_moved_34 ?_
    refine jv_v11 dX4_moved_35 okX4_refuse inX4_refuse seX4_refuse mlX4_61 (ci := 4) (T := TX4) (N := 8) rfl (ck h.g) hC (by decide) (Nat.le_of_ble_eq_true rfl) ?_
    exact jv_iret dX4_moved_38 rfl rfl rfl rfl rfl
set_option maxRecDepth 20000 in
theorem pm_moved {G : jv_Gr} {I : jv_I} {J : jv_J} {Y Z : ot_Y} {E : ot_E} {K : Option ot_Y} (h : ot_M G I J Y Z E K) (k : Int32) (s : Int32) : ot_mm 8 mX5_moved [.ref 64, .int k, .int s] G I J (ot_ans (ot_rcv Y Z k s) (ot_pairA (ot_mvp Y (ot_n k) (E (ot_n s))) (Y 10 0))) Y (ot_zr Z (ot_rcv Y Z k s)) E K := by
  have bn := yw_n h.w
  have bc := yw_c h.w
  have bw := yw_w h.w
  by_cases hv : (0 ≤ k.toInt ∧ k.toInt < Y 10 1)
  · unfold ot_rcv
    rw [if_pos hv]
    obtain ⟨j, hj, rfl⟩ := ot_of hv (by omega)
    rw [ot_n_nI (show j < 2 ^ 30 by omega)]
    rcases ot_tt_cases h.z s (nI (Y 10 0)) with ⟨e, t, x, ht, rfl, h1s, hx, hle⟩ | e | e | e
    · obtain ⟨I2, hT, h2, h3⟩ := om_noMorning h (nI t)
      rw [e] at hT h2
      have hT : jv_C 3 mX5_noMorning _ G I J (some (.int (nI 0))) G I2 J := hT
      have h2 : ot_M G I2 J Y Z E K := h2
      rw [e, ot_n_nI (show t < 2 ^ 30 by omega)]
      obtain ⟨I3, hV, hR3, hF⟩ := om_fitChange h2 hj ht h1s .null .null
      have hmf := ot_mf.pl hF
      refine ⟨G, I3, J, ?_, ot_M_yard h2 hR3 h.w h.z hmf.mw, h3.tr hmf.mw.lo, ot_gx.rf⟩
      refine jv_enter okX5_moved (L := [.ref 64, .int (nI j), .int (nI t), .null, .null, .null, .null]) rfl (Nat.le_of_ble_eq_true rfl) ?_
      refine jv_aload0 dX5_moved_0 ?_
      refine jv_iload1 dX5_moved_1 ?_
      refine jv_v11 dX5_moved_2 okX5_isCount inX5_isCount seX5_isCount mlX5_94 (ci := 5) (T := TX5) (N := 35) rfl (mk h.g) (om_isCount h.g h.r h.w _) (by decide) (Nat.le_of_ble_eq_true rfl) ?_
      refine jv_if_neB dX5_moved_5 (tgt := 15) (by decide) (fun hq8 => ?_) (fun hq8 => absurd hv hq8)
      refine jv_aload0 dX5_moved_15 ?_
      refine jv_iload2 dX5_moved_16 ?_
      refine jv_v11 dX5_moved_17 okX5_noMorning inX5_noMorning seX5_noMorning mlX5_313 (ci := 5) (T := TX5) (N := 35) rfl (mk h.g) hT (by decide) (Nat.le_of_ble_eq_true rfl) ?_
      refine jv_istore3 dX5_moved_20 rfl ?_
      refine jv_iload3 dX5_moved_21 ?_
      refine jv_if_eqN dX5_moved_22 (tgt := 27) (by decide) (by omega) (fun hc22 => ?_) (fun hc22 => by omega)
      refine jv_iconst dX5_moved_27 jv_c_iconst_0 ?_
      refine jv_istore4 dX5_moved_28 rfl ?_
      exact hV
    · obtain ⟨I2, hT, h2, h3⟩ := om_noMorning h s
      rw [e] at hT h2
      have hT : jv_C 3 mX5_noMorning _ G I J (some (.int (-2))) G I2 J := hT
      rw [e]
      refine ⟨G, I2, J, ?_, h2, h3, ot_gx.rf⟩
      refine jv_enter okX5_moved (L := [.ref 64, .int (nI j), .int s, .null, .null, .null, .null]) rfl (Nat.le_of_ble_eq_true rfl) ?_
      refine jv_aload0 dX5_moved_0 ?_
      refine jv_iload1 dX5_moved_1 ?_
      refine jv_v11 dX5_moved_2 okX5_isCount inX5_isCount seX5_isCount mlX5_94 (ci := 5) (T := TX5) (N := 35) rfl (mk h.g) (om_isCount h.g h.r h.w _) (by decide) (Nat.le_of_ble_eq_true rfl) ?_
      refine jv_if_neB dX5_moved_5 (tgt := 15) (by decide) (fun hq8 => ?_) (fun hq8 => absurd hv hq8)
      refine jv_aload0 dX5_moved_15 ?_
      refine jv_iload2 dX5_moved_16 ?_
      refine jv_v11 dX5_moved_17 okX5_noMorning inX5_noMorning seX5_noMorning mlX5_313 (ci := 5) (T := TX5) (N := 35) rfl (mk h.g) hT (by decide) (Nat.le_of_ble_eq_true rfl) ?_
      refine jv_istore3 dX5_moved_20 rfl ?_
      refine jv_iload3 dX5_moved_21 ?_
      refine jv_if_eq dX5_moved_22 (tgt := 27) (by decide) (fun h30 => absurd h30 (by decide)) (fun h30 => ?_)
      refine jv_iload3 dX5_moved_25 ?_
      exact jv_iret dX5_moved_26 rfl rfl rfl rfl rfl
    · obtain ⟨I2, hT, h2, h3⟩ := om_noMorning h s
      rw [e] at hT h2
      have hT : jv_C 3 mX5_noMorning _ G I J (some (.int (-3))) G I2 J := hT
      rw [e]
      refine ⟨G, I2, J, ?_, h2, h3, ot_gx.rf⟩
      refine jv_enter okX5_moved (L := [.ref 64, .int (nI j), .int s, .null, .null, .null, .null]) rfl (Nat.le_of_ble_eq_true rfl) ?_
      refine jv_aload0 dX5_moved_0 ?_
      refine jv_iload1 dX5_moved_1 ?_
      refine jv_v11 dX5_moved_2 okX5_isCount inX5_isCount seX5_isCount mlX5_94 (ci := 5) (T := TX5) (N := 35) rfl (mk h.g) (om_isCount h.g h.r h.w _) (by decide) (Nat.le_of_ble_eq_true rfl) ?_
      refine jv_if_neB dX5_moved_5 (tgt := 15) (by decide) (fun hq8 => ?_) (fun hq8 => absurd hv hq8)
      refine jv_aload0 dX5_moved_15 ?_
      refine jv_iload2 dX5_moved_16 ?_
      refine jv_v11 dX5_moved_17 okX5_noMorning inX5_noMorning seX5_noMorning mlX5_313 (ci := 5) (T := TX5) (N := 35) rfl (mk h.g) hT (by decide) (Nat.le_of_ble_eq_true rfl) ?_
      refine jv_istore3 dX5_moved_20 rfl ?_
      refine jv_iload3 dX5_moved_21 ?_
      refine jv_if_eq dX5_moved_22 (tgt := 27) (by decide) (fun h30 => absurd h30 (by decide)) (fun h30 => ?_)
      refine jv_iload3 dX5_moved_25 ?_
      exact jv_iret dX5_moved_26 rfl rfl rfl rfl rfl
    · obtain ⟨I2, hT, h2, h3⟩ := om_noMorning h s
      rw [e] at hT h2
      have hT : jv_C 3 mX5_noMorning _ G I J (some (.int (-4))) G I2 J := hT
      rw [e]
      refine ⟨G, I2, J, ?_, h2, h3, ot_gx.rf⟩
      refine jv_enter okX5_moved (L := [.ref 64, .int (nI j), .int s, .null, .null, .null, .null]) rfl (Nat.le_of_ble_eq_true rfl) ?_
      refine jv_aload0 dX5_moved_0 ?_
      refine jv_iload1 dX5_moved_1 ?_
      refine jv_v11 dX5_moved_2 okX5_isCount inX5_isCount seX5_isCount mlX5_94 (ci := 5) (T := TX5) (N := 35) rfl (mk h.g) (om_isCount h.g h.r h.w _) (by decide) (Nat.le_of_ble_eq_true rfl) ?_
      refine jv_if_neB dX5_moved_5 (tgt := 15) (by decide) (fun hq8 => ?_) (fun hq8 => absurd hv hq8)
      refine jv_aload0 dX5_moved_15 ?_
      refine jv_iload2 dX5_moved_16 ?_
      refine jv_v11 dX5_moved_17 okX5_noMorning inX5_noMorning seX5_noMorning mlX5_313 (ci := 5) (T := TX5) (N := 35) rfl (mk h.g) hT (by decide) (Nat.le_of_ble_eq_true rfl) ?_
      refine jv_istore3 dX5_moved_20 rfl ?_
      refine jv_iload3 dX5_moved_21 ?_
      refine jv_if_eq dX5_moved_22 (tgt := 27) (by decide) (fun h30 => absurd h30 (by decide)) (fun h30 => ?_)
      refine jv_iload3 dX5_moved_25 ?_
      exact jv_iret dX5_moved_26 rfl rfl rfl rfl rfl
  · unfold ot_rcv
    rw [if_neg hv]
    obtain ⟨I2, hC, h2, h3⟩ := om_refuse2 h
    refine ⟨G, I2, J, ?_, h2, h3, ot_gx.rf⟩
    refine jv_enter okX5_moved (L := [.ref 64, .int k, .int s, .null, .null, .null, .null]) rfl (Nat.le_of_ble_eq_true rfl) ?_
    refine jv_aload0 dX5_moved_0 ?_
    refine jv_iload1 dX5_moved_1 ?_
    refine jv_v11 dX5_moved_2 okX5_isCount inX5_isCount seX5_isCount mlX5_94 (ci := 5) (T := TX5) (N := 35) rfl (mk h.g) (om_isCount h.g h.r h.w _) (by decide) (Nat.le_of_ble_eq_true rfl) ?_
    refine jv_if_neB dX5_moved_5 (tgt := 15) (by decide) (fun hq8 => absurd hq8 hv) (fun hq8 => ?_)
    refine jv_aload0 dX5_moved_8 ?_
    refine jv_bipush dX5_moved_9 jv_c_bipush_m2 ?_
    refine jv_v11 dX5_moved_11 okX5_refuse inX5_refuse seX5_refuse mlX5_104 (ci := 5) (T := TX5) (N := 35) rfl (mk h.g) hC (by decide) (Nat.le_of_ble_eq_true rfl) ?_
    exact jv_iret dX5_moved_14 rfl rfl rfl rfl rfl
