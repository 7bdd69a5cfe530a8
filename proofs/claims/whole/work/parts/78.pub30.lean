/-! ===== most: the component's search ===== -/
theorem ot_maxJ {x y : Nat} (hx : x < 2 ^ 30) (hy : y < 2 ^ 30) : (if nI x < nI y then nI y else nI x) = nI (max x y) := by
  have e : nI x < nI y ↔ x < y := by rw [Int32.lt_iff_toInt_lt, nI_toInt (by omega), nI_toInt (by omega)]; omega
  by_cases h : x < y
  · rw [if_pos (e.mpr h), Nat.max_eq_right (by omega)]
  · rw [if_neg (fun z => h (e.mp z)), Nat.max_eq_left (by omega)]
theorem ot_tkn_set (s : Nat → Nat) (c t u : Nat) : ot_tkn (ot_set1 s c t) (c + 1) u = ot_tkn s c u + (if t = u then 1 else 0) := by
  show ot_num _ c + _ = _
  have e : ot_num (fun e => decide (ot_set1 s c t e = u)) c = ot_tkn s c u := ot_num_cong c (fun i hi => by unfold ot_set1; rw [if_neg (by omega)])
  rw [e]
  unfold ot_set1
  simp
theorem ot_tkn_le (s : Nat → Nat) (c t : Nat) : ot_tkn s c t ≤ c := ot_num_le _ c
theorem ot_cok_leaf {Y : ot_Y} (hW : ot_YW Y) {g s : Nat → Nat} (hg : ∀ q, q < Y 10 0 → g q < 5) (hs : ∀ e, e < Y 10 0 → s e < 5) (h : ∀ t, t < 5 → ot_tkn s (Y 10 0) t ≤ ot_rm (Y 10 0) g t) : ot_cok Y g s (Y 10 0) (ot_valS Y s) := ⟨fun s2 _ _ ha => by rw [ot_valS_cong hW ha]; exact Nat.le_refl _, .inr ⟨s, ot_fil_of hg hs h, rfl⟩⟩
def ot_mf2 (I A : jv_I) : Prop := ∀ q, q ≠ 39 → q ≠ 41 → A q = I q
theorem ot_mf2.c {G : jv_Gr} {I A : jv_I} {J : jv_J} {Y Z : ot_Y} {E : ot_E} {K : Option ot_Y} (hF : ot_mf2 I A) (h : ot_C G I J Y Z E K) : ot_C G A J Y Z E K := ot_C_scratch h (fun q q1 q2 => hF q (by omega) (by omega)) (by rw [hF 44 (by decide) (by decide)])
set_option maxRecDepth 20000 in
theorem oc_like {G : jv_Gr} {I : jv_I} {J : jv_J} {Y Z : ot_Y} {E : ot_E} {K : Option ot_Y} (h : ot_C G I J Y Z E K) {k : Nat} (hRm : ∀ t, t < 5 → I 40 t = nI (ot_rm (Y 10 0) (ot_side Y k) t)) {A : jv_I} (hF : ot_mf2 I A) {s : Nat → Nat} {c : Nat} (hc : c ≤ 8) (h8 : Y 10 0 ≤ 8) (hT : (∀ u0, u0 < 5 → A 41 u0 = nI (ot_tkn s c u0))) {t : Nat} (ht : t < 5) [Decidable (∃ a, a < t ∧ ot_like (Y 10 0) (ot_side Y k) s c t a)] : jv_C 1 mX0_isLikeOneAhead [.ref 38, .int (nI t)] G A J (some (.int (jv_b (∃ a, a < t ∧ ot_like (Y 10 0) (ot_side Y k) s c t a)))) G A J := by
  have hA := hF.c h
  have hM : ∀ t, t < 5 → A 40 t = nI (ot_rm (Y 10 0) (ot_side Y k) t) := fun t ht => by rw [hF 40 (by decide) (by decide)]; exact hRm t ht
  refine jv_enter okX0_isLikeOneAhead (L := [.ref 38, .int (nI t), .null]) rfl (Nat.le_of_ble_eq_true rfl) ?_
  have loop : ∀ (n i : Nat) , t + 1 ≤ i + n → i ≤ t → (∀ a, a < i → ¬ ot_like (Y 10 0) (ot_side Y k) s c t a) → jv_V 1 mX0_isLikeOneAhead 2 [.ref 38, .int (nI t), .int (nI i)] [] G A J (some (.int (jv_b (∃ a, a < t ∧ ot_like (Y 10 0) (ot_side Y k) s c t a)))) G A J := by
    intro n
    induction n with
    | zero => intro i  h1 h2; omega
    | succ n ih =>
      intro i  h1 h2 hn
      refine jv_iload2 dX0_isLikeOneAhead_2 ?_
      refine jv_iload1 dX0_isLikeOneAhead_3 ?_
      refine jv_icmp_geN dX0_isLikeOneAhead_4 (tgt := 48) (by decide) (by omega) (by omega) (fun h4 => ?_) (fun h4 => ?_)
      · refine jv_iconst dX0_isLikeOneAhead_48 jv_c_iconst_0 ?_
        exact jv_iret dX0_isLikeOneAhead_49 rfl (by decide) (ot_b0 (fun ⟨a, ha, hl⟩ => hn a (by omega) hl)) rfl rfl
      · have hk1 := ot_tkn_le s c t
        have hk2 := ot_tkn_le s c i
        have hr1 := ot_num_le (fun q => decide (ot_side Y k q = t)) (Y 10 0)
        have hr2 := ot_num_le (fun q => decide (ot_side Y k q = i)) (Y 10 0)
        refine jv_aload0 dX0_isLikeOneAhead_7 ?_
        refine jv_getR dX0_isLikeOneAhead_8 flX0_18 rfl (fk h.g) (fr_taken h.g) ?_
        refine jv_iload1 dX0_isLikeOneAhead_11 ?_
        refine jv_ialdN dX0_isLikeOneAhead_12 (fk_taken h.g) (by omega) (by decide) (hT _ (by omega)) ?_
        refine jv_if_neN dX0_isLikeOneAhead_13 (tgt := 42) (by decide) (by omega) (fun h13 => ?_) (fun h13 => ?_)
        · refine jv_iinc2N dX0_isLikeOneAhead_42 rfl ?_
          refine jv_goto dX0_isLikeOneAhead_45 (tgt := 2) (by decide) ?_
          exact ih (i + 1) (by omega) (by omega) (fun a ha hl => by
            by_cases e : a = i
            · subst e; exact h13 hl.1
            · exact hn a (by omega) hl)
        · refine jv_aload0 dX0_isLikeOneAhead_16 ?_
          refine jv_getR dX0_isLikeOneAhead_17 flX0_18 rfl (fk h.g) (fr_taken h.g) ?_
          refine jv_iload2 dX0_isLikeOneAhead_20 ?_
          refine jv_ialdN dX0_isLikeOneAhead_21 (fk_taken h.g) (by omega) (by decide) (hT _ (by omega)) ?_
          refine jv_if_neN dX0_isLikeOneAhead_22 (tgt := 42) (by decide) (by omega) (fun h22 => ?_) (fun h22 => ?_)
          · refine jv_iinc2N dX0_isLikeOneAhead_42 rfl ?_
            refine jv_goto dX0_isLikeOneAhead_45 (tgt := 2) (by decide) ?_
            exact ih (i + 1) (by omega) (by omega) (fun a ha hl => by
              by_cases e : a = i
              · subst e; exact h22 hl.2.1
              · exact hn a (by omega) hl)
          · refine jv_aload0 dX0_isLikeOneAhead_25 ?_
            refine jv_getR dX0_isLikeOneAhead_26 flX0_15 rfl (fk h.g) (fr_room h.g) ?_
            refine jv_iload2 dX0_isLikeOneAhead_29 ?_
            refine jv_ialdN dX0_isLikeOneAhead_30 (fk_room h.g) (by omega) (by decide) (hM _ (by omega)) ?_
            refine jv_aload0 dX0_isLikeOneAhead_31 ?_
            refine jv_getR dX0_isLikeOneAhead_32 flX0_15 rfl (fk h.g) (fr_room h.g) ?_
            refine jv_iload1 dX0_isLikeOneAhead_35 ?_
            refine jv_ialdN dX0_isLikeOneAhead_36 (fk_room h.g) (by omega) (by decide) (hM _ (by omega)) ?_
            refine jv_icmp_neN dX0_isLikeOneAhead_37 (tgt := 42) (by decide) (by unfold ot_rm; omega) (by unfold ot_rm; omega) (fun h37 => ?_) (fun h37 => ?_)
            · refine jv_iinc2N dX0_isLikeOneAhead_42 rfl ?_
              refine jv_goto dX0_isLikeOneAhead_45 (tgt := 2) (by decide) ?_
              exact ih (i + 1) (by omega) (by omega) (fun a ha hl => by
                by_cases e : a = i
                · subst e; exact h37 hl.2.2
                · exact hn a (by omega) hl)
            · refine jv_iconst dX0_isLikeOneAhead_40 jv_c_iconst_1 ?_
              exact jv_iret dX0_isLikeOneAhead_41 rfl (by decide) (ot_b1 ⟨i, by omega, h13, h22, h37⟩) rfl rfl
  refine jv_iconst dX0_isLikeOneAhead_0 jv_c_iconst_0 ?_
  refine jv_istore2 dX0_isLikeOneAhead_1 rfl ?_
  exact loop (t + 1) 0 (by omega) (by omega) (fun a ha => by omega)
set_option maxRecDepth 20000 in
theorem oc_greatest {G : jv_Gr} {I : jv_I} {J : jv_J} {Y Z : ot_Y} {E : ot_E} {K : Option ot_Y} (h : ot_C G I J Y Z E K) {k : Nat} (hk : k < Y 10 1) (hRm : ∀ t, t < 5 → I 40 t = nI (ot_rm (Y 10 0) (ot_side Y k) t)) (h8 : Y 10 0 ≤ 8) : ∀ (f c : Nat) (s : Nat → Nat) (A : jv_I), Y 10 0 ≤ c + f → c ≤ Y 10 0 → ot_mf2 I A → (∀ u0, u0 < 5 → A 41 u0 = nI (ot_tkn s c u0)) → (∀ e0, e0 < c → A 39 e0 = nI (s e0)) → (∀ e, e < c → s e < 5) → (∀ t, t < 5 → ot_tkn s c t ≤ ot_rm (Y 10 0) (ot_side Y k) t) → ∃ (I2 : jv_I) (x : Nat), jv_C (f + 3) mX0_greatestFrom [.ref 38, .int (nI c)] G A J (some (.int (nI x))) G I2 J ∧ ot_cok Y (ot_side Y k) s c x ∧ x ≤ 1980 ∧ (∀ u0, u0 < 5 → I2 41 u0 = nI (ot_tkn s c u0)) ∧ (∀ e0, e0 < c → I2 39 e0 = nI (s e0)) ∧ ot_mf2 I I2 := by
  have bn := yw_n h.w
  have bc := yw_c h.w
  have bw := yw_w h.w
  have hg5 : ∀ q, q < Y 10 0 → ot_side Y k q < 5 := fun q _ => ot_side_5 h.w hk q
  intro f
  induction f with
  | zero =>
    intro c s A b1 b2 hF hT hS h5 hle
    have hA := hF.c h
    have ec : c = Y 10 0 := by omega
    have hvl := ot_valS_le h.w s
    refine ⟨A, ot_valS Y s, ?_, by rw [ec] at hle h5 ⊢; exact ot_cok_leaf h.w hg5 h5 hle, hvl, hT, hS, hF⟩
    refine jv_enter okX0_greatestFrom (L := [.ref 38, .int (nI c), .null, .null]) rfl (Nat.le_of_ble_eq_true rfl) ?_
    refine jv_iload1 dX0_greatestFrom_0 ?_
    refine jv_aload0 dX0_greatestFrom_1 ?_
    refine jv_getR dX0_greatestFrom_2 flX0_27 rfl (fk h.g) (fr_yard h.g) ?_
    refine jv_getI dX0_greatestFrom_5 flX0_31 rfl (yk (cg_now h.g)) (yi_children hA.r) ?_
    refine jv_icmp_geN dX0_greatestFrom_8 (tgt := 17) (by decide) (by omega) (by omega) (fun hc8 => ?_) (fun hc8 => by omega)
    refine jv_aload0 dX0_greatestFrom_17 ?_
    refine jv_v01 dX0_greatestFrom_18 okX0_valueOfSides inX0_valueOfSides seX0_valueOfSides mlX0_60 (ci := 0) (T := TX0) (N := 6) rfl (fk h.g) (oc_valueOfSides hA (fun e he => hS e (by omega)) (fun e he => h5 e (by omega))) (by decide) (Nat.le_of_ble_eq_true rfl) ?_
    exact jv_iret dX0_greatestFrom_21 rfl rfl rfl rfl rfl
  | succ f ihf =>
    intro c s A b1 b2 hF hT hS h5 hle
    have hA := hF.c h
    have hvl := ot_valS_le h.w s
    by_cases hc : c < Y 10 0
    · have hc8 : c ≤ 8 := by omega
      have loop : ∀ (m t x : Nat) (A : jv_I), 6 ≤ t + m → t ≤ 5 → ot_coj Y (ot_side Y k) s c t x → x ≤ 1980 → ot_mf2 I A → (∀ u0, u0 < 5 → A 41 u0 = nI (ot_tkn s c u0)) → (∀ e0, e0 < c → A 39 e0 = nI (s e0)) → ∃ (I2 : jv_I) (x2 : Nat), jv_V (f + 1 + 3) mX0_greatestFrom 26 [.ref 38, .int (nI c), .int (nI x), .int (nI t)] [] G A J (some (.int (nI x2))) G I2 J ∧ ot_cok Y (ot_side Y k) s c x2 ∧ x2 ≤ 1980 ∧ (∀ u0, u0 < 5 → I2 41 u0 = nI (ot_tkn s c u0)) ∧ (∀ e0, e0 < c → I2 39 e0 = nI (s e0)) ∧ ot_mf2 I I2 := by
        intro m
        induction m with
        | zero => intro t x A q1 q2; omega
        | succ m ih =>
          intro t x A q1 q2 hco hx hF hT hS
          have hA := hF.c h
          have hM : ∀ t, t < 5 → A 40 t = nI (ot_rm (Y 10 0) (ot_side Y k) t) := fun t ht => by rw [hF 40 (by decide) (by decide)]; exact hRm t ht
          by_cases ht : t < 5
          · have hk1 := ot_tkn_le s c t
            have hr1 : ot_rm (Y 10 0) (ot_side Y k) t ≤ Y 10 0 := ot_num_le _ _
            by_cases hro : ot_tkn s c t < ot_rm (Y 10 0) (ot_side Y k) t
            · haveI : Decidable (∃ a, a < t ∧ ot_like (Y 10 0) (ot_side Y k) s c t a) := Classical.propDecidable _
              by_cases hl : (∃ a, a < t ∧ ot_like (Y 10 0) (ot_side Y k) s c t a)
              · obtain ⟨I2, x2, hV, hP⟩ := ih (t + 1) x A (by omega) (by omega) (ot_coj_like hco hl) hx hF hT hS
                refine ⟨I2, x2, ?_, hP⟩
                refine jv_iload3 dX0_greatestFrom_26 ?_
                refine jv_iconst dX0_greatestFrom_27 jv_c_iconst_5 ?_
                refine jv_icmp_geN dX0_greatestFrom_28 (tgt := 99) (by decide) (by omega) (by omega) (fun hc28 => by omega) (fun hc28 => ?_)
                refine jv_aload0 dX0_greatestFrom_31 ?_
                refine jv_getR dX0_greatestFrom_32 flX0_18 rfl (fk h.g) (fr_taken h.g) ?_
                refine jv_iload3 dX0_greatestFrom_35 ?_
                refine jv_ialdN dX0_greatestFrom_36 (fk_taken h.g) (by omega) (by decide) (hT _ (by omega)) ?_
                refine jv_aload0 dX0_greatestFrom_37 ?_
                refine jv_getR dX0_greatestFrom_38 flX0_15 rfl (fk h.g) (fr_room h.g) ?_
                refine jv_iload3 dX0_greatestFrom_41 ?_
                refine jv_ialdN dX0_greatestFrom_42 (fk_room h.g) (by omega) (by decide) (hM _ (by omega)) ?_
                refine jv_icmp_geN dX0_greatestFrom_43 (tgt := 93) (by decide) (by omega) (by omega) (fun hc43 => by omega) (fun hc43 => ?_)
                refine jv_aload0 dX0_greatestFrom_46 ?_
                refine jv_iload3 dX0_greatestFrom_47 ?_
                refine jv_v11 dX0_greatestFrom_48 okX0_isLikeOneAhead inX0_isLikeOneAhead seX0_isLikeOneAhead mlX0_130 (ci := 0) (T := TX0) (N := 6) rfl (fk h.g) (oc_like h hRm hF hc8 h8 hT ht) (by omega) (Nat.le_of_ble_eq_true rfl) ?_
                refine jv_if_neB dX0_greatestFrom_51 (tgt := 93) (by decide) (fun h51 => ?_) (fun h51 => absurd hl h51)
                refine jv_iinc3N dX0_greatestFrom_93 rfl ?_
                refine jv_goto dX0_greatestFrom_96 (tgt := 26) (by decide) ?_
                exact hV
              · obtain ⟨A2, e2⟩ : ∃ A2, A2 = jv_up (jv_up A 41 t (nI (ot_tkn s c t + 1))) 39 c (nI t) := ⟨_, rfl⟩
                have hF2 : ot_mf2 I A2 := fun q h39 h41 => by rw [e2, jv_up_ne _ _ _ h39, jv_up_ne _ _ _ h41]; exact hF q h39 h41
                have hT2 : (∀ u0, u0 < 5 → A2 41 u0 = nI (ot_tkn (ot_set1 s c t) (c + 1) u0)) := fun u hu => by
                  rw [ot_tkn_set, e2, jv_up_ne _ _ _ (by decide), jv_up_def, if_pos rfl]
                  by_cases eu : u = t
                  · rw [if_pos eu, if_pos eu.symm, eu]
                  · rw [if_neg eu, if_neg (fun z => eu z.symm)]; exact hT u hu
                have hS2 : (∀ e0, e0 < (c + 1) → A2 39 e0 = nI ((ot_set1 s c t) e0)) := fun e he => by
                  rw [e2, jv_up_def, if_pos rfl]
                  unfold ot_set1
                  by_cases ee : e = c
                  · rw [if_pos ee, if_pos ee]
                  · rw [if_neg ee, if_neg ee, jv_up_ne _ _ _ (by decide)]; exact hS e (by omega)
                obtain ⟨A3, y, c1, hy, hyl, hT3, hS3, hF3⟩ := ihf (c + 1) (ot_set1 s c t) A2 (by omega) (by omega) hF2 hT2 hS2 (fun e he => by
                  unfold ot_set1
                  split
                  · exact ht
                  · exact h5 e (by omega)) (fun u hu => by
                  rw [ot_tkn_set]
                  by_cases eu : t = u
                  · rw [if_pos eu, ← eu]; omega
                  · rw [if_neg eu]; exact hle u hu)
                have hpos : 1 ≤ ot_tkn (ot_set1 s c t) (c + 1) t := by rw [ot_tkn_set, if_pos rfl]; omega
                obtain ⟨A4, e4⟩ : ∃ A4, A4 = jv_up A3 41 t (nI (ot_tkn (ot_set1 s c t) (c + 1) t - 1)) := ⟨_, rfl⟩
                obtain ⟨I2, x2, hV, hP⟩ := ih (t + 1) (max x y) A4 (by omega) (by omega) (ot_coj_next hco hy) (by omega) (fun q h39 h41 => by rw [e4, jv_up_ne _ _ _ h41]; exact hF3 q h39 h41) (fun u hu => by
                  rw [e4, jv_up_def, if_pos rfl]
                  by_cases eu : u = t
                  · rw [if_pos eu, eu, ot_tkn_set, if_pos rfl]; rfl
                  · rw [if_neg eu, hT3 u hu, ot_tkn_set, if_neg (fun z => eu z.symm)]; rfl) (fun e he => by
                  rw [e4, jv_up_ne _ _ _ (by decide), hS3 e (by omega)]
                  unfold ot_set1
                  rw [if_neg (by omega)])
                rw [e4] at hV
                rw [e2] at c1
                refine ⟨I2, x2, ?_, hP⟩
                refine jv_iload3 dX0_greatestFrom_26 ?_
                refine jv_iconst dX0_greatestFrom_27 jv_c_iconst_5 ?_
                refine jv_icmp_geN dX0_greatestFrom_28 (tgt := 99) (by decide) (by omega) (by omega) (fun hc28 => by omega) (fun hc28 => ?_)
                refine jv_aload0 dX0_greatestFrom_31 ?_
                refine jv_getR dX0_greatestFrom_32 flX0_18 rfl (fk h.g) (fr_taken h.g) ?_
                refine jv_iload3 dX0_greatestFrom_35 ?_
                refine jv_ialdN dX0_greatestFrom_36 (fk_taken h.g) (by omega) (by decide) (hT _ (by omega)) ?_
                refine jv_aload0 dX0_greatestFrom_37 ?_
                refine jv_getR dX0_greatestFrom_38 flX0_15 rfl (fk h.g) (fr_room h.g) ?_
                refine jv_iload3 dX0_greatestFrom_41 ?_
                refine jv_ialdN dX0_greatestFrom_42 (fk_room h.g) (by omega) (by decide) (hM _ (by omega)) ?_
                refine jv_icmp_geN dX0_greatestFrom_43 (tgt := 93) (by decide) (by omega) (by omega) (fun hc43 => by omega) (fun hc43 => ?_)
                refine jv_aload0 dX0_greatestFrom_46 ?_
                refine jv_iload3 dX0_greatestFrom_47 ?_
                refine jv_v11 dX0_greatestFrom_48 okX0_isLikeOneAhead inX0_isLikeOneAhead seX0_isLikeOneAhead mlX0_130 (ci := 0) (T := TX0) (N := 6) rfl (fk h.g) (oc_like h hRm hF hc8 h8 hT ht) (by omega) (Nat.le_of_ble_eq_true rfl) ?_
                refine jv_if_neB dX0_greatestFrom_51 (tgt := 93) (by decide) (fun h51 => absurd h51 hl) (fun h51 => ?_)
                refine jv_aload0 dX0_greatestFrom_54 ?_
                refine jv_getR dX0_greatestFrom_55 flX0_18 rfl (fk h.g) (fr_taken h.g) ?_
                refine jv_iload3 dX0_greatestFrom_58 ?_
                refine jv_dup2 dX0_greatestFrom_59 rfl rfl ?_
                refine jv_ialdN dX0_greatestFrom_60 (fk_taken h.g) (by omega) (by decide) (hT _ ht) ?_
                refine jv_iconst dX0_greatestFrom_61 jv_c_iconst_1 ?_
                refine jv_iaddN dX0_greatestFrom_62 ?_
                refine jv_iastN dX0_greatestFrom_63 (fk_taken h.g) (by omega) (by decide) ?_
                refine jv_aload0 dX0_greatestFrom_64 ?_
                refine jv_getR dX0_greatestFrom_65 flX0_9 rfl (fk h.g) (fr_sides h.g) ?_
                refine jv_iload1 dX0_greatestFrom_68 ?_
                refine jv_iload3 dX0_greatestFrom_69 ?_
                refine jv_iastN dX0_greatestFrom_70 (fk_sides h.g) (by omega) (by decide) ?_
                refine jv_iload2 dX0_greatestFrom_71 ?_
                refine jv_aload0 dX0_greatestFrom_72 ?_
                refine jv_iload1 dX0_greatestFrom_73 ?_
                refine jv_iconst dX0_greatestFrom_74 jv_c_iconst_1 ?_
                refine jv_iaddN dX0_greatestFrom_75 ?_
                refine jv_v11 dX0_greatestFrom_76 okX0_greatestFrom inX0_greatestFrom seX0_greatestFrom mlX0_127 (ci := 0) (T := TX0) (N := 6) rfl (fk h.g) c1 (by omega) (Nat.le_of_ble_eq_true rfl) ?_
                refine jv_mmax dX0_greatestFrom_79 mlX0_109 st_max ini_math co_max (Nat.le_of_ble_eq_true rfl) (by omega) ?_
                rw [ot_maxJ (by omega) (by omega)]
                refine jv_istore2 dX0_greatestFrom_82 rfl ?_
                refine jv_aload0 dX0_greatestFrom_83 ?_
                refine jv_getR dX0_greatestFrom_84 flX0_18 rfl (fk h.g) (fr_taken h.g) ?_
                refine jv_iload3 dX0_greatestFrom_87 ?_
                refine jv_dup2 dX0_greatestFrom_88 rfl rfl ?_
                refine jv_ialdN dX0_greatestFrom_89 (fk_taken h.g) (by omega) (by decide) (hT3 _ ht) ?_
                refine jv_iconst dX0_greatestFrom_90 jv_c_iconst_1 ?_
                refine jv_isubN dX0_greatestFrom_91 hpos ?_
                refine jv_iastN dX0_greatestFrom_92 (fk_taken h.g) (by omega) (by decide) ?_
                refine jv_iinc3N dX0_greatestFrom_93 rfl ?_
                refine jv_goto dX0_greatestFrom_96 (tgt := 26) (by decide) ?_
                exact hV
            · obtain ⟨I2, x2, hV, hP⟩ := ih (t + 1) x A (by omega) (by omega) (ot_coj_full hc hco hro) hx hF hT hS
              refine ⟨I2, x2, ?_, hP⟩
              refine jv_iload3 dX0_greatestFrom_26 ?_
              refine jv_iconst dX0_greatestFrom_27 jv_c_iconst_5 ?_
              refine jv_icmp_geN dX0_greatestFrom_28 (tgt := 99) (by decide) (by omega) (by omega) (fun hc28 => by omega) (fun hc28 => ?_)
              refine jv_aload0 dX0_greatestFrom_31 ?_
              refine jv_getR dX0_greatestFrom_32 flX0_18 rfl (fk h.g) (fr_taken h.g) ?_
              refine jv_iload3 dX0_greatestFrom_35 ?_
              refine jv_ialdN dX0_greatestFrom_36 (fk_taken h.g) (by omega) (by decide) (hT _ (by omega)) ?_
              refine jv_aload0 dX0_greatestFrom_37 ?_
              refine jv_getR dX0_greatestFrom_38 flX0_15 rfl (fk h.g) (fr_room h.g) ?_
              refine jv_iload3 dX0_greatestFrom_41 ?_
              refine jv_ialdN dX0_greatestFrom_42 (fk_room h.g) (by omega) (by decide) (hM _ (by omega)) ?_
              refine jv_icmp_geN dX0_greatestFrom_43 (tgt := 93) (by decide) (by omega) (by omega) (fun hc43 => ?_) (fun hc43 => by omega)
              refine jv_iinc3N dX0_greatestFrom_93 rfl ?_
              refine jv_goto dX0_greatestFrom_96 (tgt := 26) (by decide) ?_
              exact hV
          · refine ⟨A, x, ?_, ot_cok_of hc (by rw [← show t = 5 by omega]; exact hco), hx, hT, hS, hF⟩
            refine jv_iload3 dX0_greatestFrom_26 ?_
            refine jv_iconst dX0_greatestFrom_27 jv_c_iconst_5 ?_
            refine jv_icmp_geN dX0_greatestFrom_28 (tgt := 99) (by decide) (by omega) (by omega) (fun hc28 => ?_) (fun hc28 => by omega)
            refine jv_iload2 dX0_greatestFrom_99 ?_
            exact jv_iret dX0_greatestFrom_100 rfl rfl rfl rfl rfl
      obtain ⟨I2, x2, hV, hP⟩ := loop 6 0 0 A (by omega) (by omega) (ot_coj_0 _ _ _ _) (by omega) hF hT hS
      refine ⟨I2, x2, ?_, hP⟩
      refine jv_enter okX0_greatestFrom (L := [.ref 38, .int (nI c), .null, .null]) rfl (Nat.le_of_ble_eq_true rfl) ?_
      refine jv_iload1 dX0_greatestFrom_0 ?_
      refine jv_aload0 dX0_greatestFrom_1 ?_
      refine jv_getR dX0_greatestFrom_2 flX0_27 rfl (fk h.g) (fr_yard h.g) ?_
      refine jv_getI dX0_greatestFrom_5 flX0_31 rfl (yk (cg_now h.g)) (yi_children hA.r) ?_
      refine jv_icmp_geN dX0_greatestFrom_8 (tgt := 17) (by decide) (by omega) (by omega) (fun hc8 => by omega) (fun hc8 => ?_)
      refine jv_iload1 dX0_greatestFrom_11 ?_
      refine jv_bipush dX0_greatestFrom_12 jv_c_bipush_8 ?_
      refine jv_icmp_ltN dX0_greatestFrom_14 (tgt := 22) (by decide) (by omega) (by omega) (fun hc14 => ?_) (fun hc14 => by omega)
      refine jv_iconst dX0_greatestFrom_22 jv_c_iconst_0 ?_
      refine jv_istore2 dX0_greatestFrom_23 rfl ?_
      refine jv_iconst dX0_greatestFrom_24 jv_c_iconst_0 ?_
      refine jv_istore3 dX0_greatestFrom_25 rfl ?_
      exact hV
    · have ec : c = Y 10 0 := by omega
      refine ⟨A, ot_valS Y s, ?_, by rw [ec] at hle h5 ⊢; exact ot_cok_leaf h.w hg5 h5 hle, hvl, hT, hS, hF⟩
      refine jv_enter okX0_greatestFrom (L := [.ref 38, .int (nI c), .null, .null]) rfl (Nat.le_of_ble_eq_true rfl) ?_
      refine jv_iload1 dX0_greatestFrom_0 ?_
      refine jv_aload0 dX0_greatestFrom_1 ?_
      refine jv_getR dX0_greatestFrom_2 flX0_27 rfl (fk h.g) (fr_yard h.g) ?_
      refine jv_getI dX0_greatestFrom_5 flX0_31 rfl (yk (cg_now h.g)) (yi_children hA.r) ?_
      refine jv_icmp_geN dX0_greatestFrom_8 (tgt := 17) (by decide) (by omega) (by omega) (fun hc8 => ?_) (fun hc8 => by omega)
      refine jv_aload0 dX0_greatestFrom_17 ?_
      refine jv_v01 dX0_greatestFrom_18 okX0_valueOfSides inX0_valueOfSides seX0_valueOfSides mlX0_60 (ci := 0) (T := TX0) (N := 6) rfl (fk h.g) (oc_valueOfSides hA (fun e he => hS e (by omega)) (fun e he => h5 e (by omega))) (by omega) (Nat.le_of_ble_eq_true rfl) ?_
      exact jv_iret dX0_greatestFrom_21 rfl rfl rfl rfl rfl
set_option maxRecDepth 20000 in
theorem ot_C_394041 {G : jv_Gr} {I A : jv_I} {J : jv_J} {Y Z : ot_Y} {E : ot_E} {K : Option ot_Y} (h : ot_C G I J Y Z E K) (hF : (∀ q, q ≠ 39 → q ≠ 40 → q ≠ 41 → A q = I q)) : ot_C G A J Y Z E K := ot_C_scratch h (fun q q1 q2 => hF q (by omega) (by omega) (by omega)) (by rw [hF 44 (by decide) (by decide) (by decide)])
set_option maxRecDepth 20000 in
theorem oc_greatestValue {G : jv_Gr} {I : jv_I} {J : jv_J} {Y Z : ot_Y} {E : ot_E} {K : Option ot_Y} (h : ot_C G I J Y Z E K) {k : Nat} (hk : k < Y 10 1) (h8 : Y 10 0 ≤ 8) : ∃ (I2 : jv_I) (x : Nat), jv_C 12 mX0_greatestValue [.ref 38, .int (nI k)] G I J (some (.int (nI x))) G I2 J ∧ ot_isMost Y (ot_side Y k) x ∧ x ≤ 1980 ∧ ∀ q, q ≠ 39 → q ≠ 40 → q ≠ 41 → I2 q = I q := by
  have bn := yw_n h.w
  have bc := yw_c h.w
  have bw := yw_w h.w
  have count : ∀ (m i : Nat) (A : jv_I), Y 10 0 + 1 ≤ i + m → i ≤ Y 10 0 → (∀ q, q ≠ 39 → q ≠ 40 → q ≠ 41 → A q = I q) → (∀ t, t < 5 → A 40 t = nI (ot_rm i (ot_side Y k) t)) → (∀ t, t < 5 → A 41 t = nI 0) → ∃ (I2 : jv_I) (x : Nat), jv_V 12 mX0_greatestValue 29 [.ref 38, .int (nI k), .int (nI i)] [] G A J (some (.int (nI x))) G I2 J ∧ ot_isMost Y (ot_side Y k) x ∧ x ≤ 1980 ∧ ∀ q, q ≠ 39 → q ≠ 40 → q ≠ 41 → I2 q = I q := by
    intro m
    induction m with
    | zero => intro i A b1 b2; omega
    | succ m ih =>
      intro i A b1 b2 hF hM hT
      have hA := ot_C_394041 h hF
      by_cases hi : i < Y 10 0
      · have h5 := ot_side_5 h.w hk i
        obtain ⟨I2, x, hV, hP⟩ := ih (i + 1) (jv_up A 40 (ot_side Y k i) (nI (ot_rm i (ot_side Y k) (ot_side Y k i) + 1))) (by omega) (by omega) (fun q q1 q2 q3 => by rw [jv_up_ne _ _ _ q2]; exact hF q q1 q2 q3) (fun t ht => by
          have e1 : ot_rm (i + 1) (ot_side Y k) t = ot_rm i (ot_side Y k) t + (if ot_side Y k i = t then 1 else 0) := by
            show ot_num _ i + _ = _
            simp [ot_rm]
          rw [e1, jv_up_def, if_pos rfl]
          by_cases e : t = ot_side Y k i
          · rw [if_pos e, if_pos e.symm, ← e]
          · rw [if_neg e, if_neg (fun z => e z.symm)]; exact hM t ht) (fun t ht => by rw [jv_up_ne _ _ _ (by decide)]; exact hT t ht)
        refine ⟨I2, x, ?_, hP⟩
        refine jv_iload2 dX0_greatestValue_29 ?_
        refine jv_aload0 dX0_greatestValue_30 ?_
        refine jv_getR dX0_greatestValue_31 flX0_27 rfl (fk h.g) (fr_yard h.g) ?_
        refine jv_getI dX0_greatestValue_34 flX0_31 rfl (yk (cg_now h.g)) (yi_children hA.r) ?_
        refine jv_icmp_geN dX0_greatestValue_37 (tgt := 64) (by decide) (by omega) (by omega) (fun hc37 => by omega) (fun hc37 => ?_)
        refine jv_aload0 dX0_greatestValue_40 ?_
        refine jv_getR dX0_greatestValue_41 flX0_15 rfl (fk h.g) (fr_room h.g) ?_
        refine jv_aload0 dX0_greatestValue_44 ?_
        refine jv_getR dX0_greatestValue_45 flX0_27 rfl (fk h.g) (fr_yard h.g) ?_
        refine jv_iload1 dX0_greatestValue_48 ?_
        refine jv_iload2 dX0_greatestValue_49 ?_
        refine jv_v21 dX0_greatestValue_50 okX3_sideAt inX3_sideAt seX3_sideAt mlX0_124 (ci := 3) (T := TX3) (N := 15) rfl (yk (cg_now h.g)) (ot_sideAt (cg_now h.g) hA.r h.w hk hi) (by decide) (Nat.le_of_ble_eq_true rfl) ?_
        refine jv_dup2 dX0_greatestValue_53 rfl rfl ?_
        refine jv_ialdN dX0_greatestValue_54 (fk_room h.g) (by omega) (by decide) (hM _ h5) ?_
        refine jv_iconst dX0_greatestValue_55 jv_c_iconst_1 ?_
        refine jv_iaddN dX0_greatestValue_56 ?_
        refine jv_iastN dX0_greatestValue_57 (fk_room h.g) (by omega) (by decide) ?_
        refine jv_iinc2N dX0_greatestValue_58 rfl ?_
        refine jv_goto dX0_greatestValue_61 (tgt := 29) (by decide) ?_
        exact hV
      · obtain ⟨I2, x, hC, h1, h2, _, _, h3⟩ := oc_greatest hA hk (fun t ht => by rw [hM t ht, show i = Y 10 0 by omega]) h8 (Y 10 0) 0 (fun _ => 0) A (by omega) (by omega) (fun _ _ _ => rfl) hT (fun e he => by omega) (fun e he => by omega) (fun t ht => Nat.zero_le _)
        have c1 := hC.mono (show Y 10 0 + 3 ≤ 11 by omega)
        refine ⟨I2, x, ?_, ot_isMost_c (fun q _ => ot_side_5 h.w hk q) h1, h2, fun q q1 q2 q3 => (h3 q q1 q3).trans (hF q q1 q2 q3)⟩
        refine jv_iload2 dX0_greatestValue_29 ?_
        refine jv_aload0 dX0_greatestValue_30 ?_
        refine jv_getR dX0_greatestValue_31 flX0_27 rfl (fk h.g) (fr_yard h.g) ?_
        refine jv_getI dX0_greatestValue_34 flX0_31 rfl (yk (cg_now h.g)) (yi_children hA.r) ?_
        refine jv_icmp_geN dX0_greatestValue_37 (tgt := 64) (by decide) (by omega) (by omega) (fun hc37 => ?_) (fun hc37 => by omega)
        refine jv_aload0 dX0_greatestValue_64 ?_
        refine jv_iconst dX0_greatestValue_65 jv_c_iconst_0 ?_
        refine jv_v11 dX0_greatestValue_66 okX0_greatestFrom inX0_greatestFrom seX0_greatestFrom mlX0_127 (ci := 0) (T := TX0) (N := 6) rfl (fk h.g) c1 (by decide) (Nat.le_of_ble_eq_true rfl) ?_
        exact jv_iret dX0_greatestValue_69 rfl rfl rfl rfl rfl
  have zero : ∀ (m i : Nat) (A : jv_I), 6 ≤ i + m → i ≤ 5 → (∀ q, q ≠ 39 → q ≠ 40 → q ≠ 41 → A q = I q) → (∀ t, t < i → A 40 t = nI 0) → (∀ t, t < i → A 41 t = nI 0) → ∃ (I2 : jv_I) (x : Nat), jv_V 12 mX0_greatestValue 2 [.ref 38, .int (nI k), .int (nI i)] [] G A J (some (.int (nI x))) G I2 J ∧ ot_isMost Y (ot_side Y k) x ∧ x ≤ 1980 ∧ ∀ q, q ≠ 39 → q ≠ 40 → q ≠ 41 → I2 q = I q := by
    intro m
    induction m with
    | zero => intro i A b1 b2; omega
    | succ m ih =>
      intro i A b1 b2 hF hM hT
      have hA := ot_C_394041 h hF
      by_cases hi : i < 5
      · obtain ⟨I2, x, hV, hP⟩ := ih (i + 1) (jv_up (jv_up A 40 i (nI 0)) 41 i (nI 0)) (by omega) (by omega) (fun q q1 q2 q3 => by rw [jv_up_ne _ _ _ q3, jv_up_ne _ _ _ q2]; exact hF q q1 q2 q3) (fun t ht => by
          rw [jv_up_ne _ _ _ (by decide), jv_up_def, if_pos rfl]
          split
          · rfl
          · exact hM t (by omega)) (fun t ht => by
          rw [jv_up_def, if_pos rfl]
          split
          · rfl
          · rw [jv_up_ne _ _ _ (by decide)]; exact hT t (by omega))
        refine ⟨I2, x, ?_, hP⟩
        refine jv_iload2 dX0_greatestValue_2 ?_
        refine jv_iconst dX0_greatestValue_3 jv_c_iconst_5 ?_
        refine jv_icmp_geN dX0_greatestValue_4 (tgt := 27) (by decide) (by omega) (by omega) (fun hc4 => by omega) (fun hc4 => ?_)
        refine jv_aload0 dX0_greatestValue_7 ?_
        refine jv_getR dX0_greatestValue_8 flX0_15 rfl (fk h.g) (fr_room h.g) ?_
        refine jv_iload2 dX0_greatestValue_11 ?_
        refine jv_iconst dX0_greatestValue_12 jv_c_iconst_0 ?_
        refine jv_iastN dX0_greatestValue_13 (fk_room h.g) (by omega) (by decide) ?_
        refine jv_aload0 dX0_greatestValue_14 ?_
        refine jv_getR dX0_greatestValue_15 flX0_18 rfl (fk h.g) (fr_taken h.g) ?_
        refine jv_iload2 dX0_greatestValue_18 ?_
        refine jv_iconst dX0_greatestValue_19 jv_c_iconst_0 ?_
        refine jv_iastN dX0_greatestValue_20 (fk_taken h.g) (by omega) (by decide) ?_
        refine jv_iinc2N dX0_greatestValue_21 rfl ?_
        refine jv_goto dX0_greatestValue_24 (tgt := 2) (by decide) ?_
        exact hV
      · obtain ⟨I2, x, hV, hP⟩ := count (Y 10 0 + 1) 0 A (by omega) (by omega) hF (fun t ht => hM t (by omega)) (fun t ht => hT t (by omega))
        refine ⟨I2, x, ?_, hP⟩
        refine jv_iload2 dX0_greatestValue_2 ?_
        refine jv_iconst dX0_greatestValue_3 jv_c_iconst_5 ?_
        refine jv_icmp_geN dX0_greatestValue_4 (tgt := 27) (by decide) (by omega) (by omega) (fun hc4 => ?_) (fun hc4 => by omega)
        refine jv_iconst dX0_greatestValue_27 jv_c_iconst_0 ?_
        refine jv_istore2 dX0_greatestValue_28 rfl ?_
        exact hV
  obtain ⟨I2, x, hV, hP⟩ := zero 6 0 I (by omega) (by omega) (fun _ _ _ _ => rfl) (fun t ht => by omega) (fun t ht => by omega)
  refine ⟨I2, x, ?_, hP⟩
  refine jv_enter okX0_greatestValue (L := [.ref 38, .int (nI k), .null]) rfl (Nat.le_of_ble_eq_true rfl) ?_
  refine jv_iconst dX0_greatestValue_0 jv_c_iconst_0 ?_
  refine jv_istore2 dX0_greatestValue_1 rfl ?_
  exact hV
