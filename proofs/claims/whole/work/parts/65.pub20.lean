/-! ===== the finder's sides ===== -/
def ot_metS (Y : ot_Y) (s : Nat → Nat) (i : Nat) : Bool := decide (s (Y 6 i) = s (Y 7 i)) == decide (Y 8 i = 1)
def ot_valS (Y : ot_Y) (s : Nat → Nat) : Nat := ot_sum (fun i => if ot_metS Y s i = true then Y 9 i else 0) (Y 10 2)
theorem ot_valS_value (Y : ot_Y) (k : Nat) : ot_valS Y (ot_sideOf Y k) = ot_value Y k := rfl
theorem ot_valS_swap (Y : ot_Y) (k a b : Nat) : ot_valS Y (ot_swapF (ot_sideOf Y k) a b) = ot_value (ot_swap Y a b) k := by
  have e : ot_swapF (ot_sideOf Y k) a b = ot_sideOf (ot_swap Y a b) k := by
    funext c
    show _ = ot_side Y k (ot_swapF (Y 2) a b c)
    unfold ot_swapF ot_sideOf
    split
    · rfl
    · split <;> rfl
  rw [e]; rfl
theorem ot_valS_cong {Y : ot_Y} (hW : ot_YW Y) {s t : Nat → Nat} (h : ∀ c, c < Y 10 0 → s c = t c) : ot_valS Y s = ot_valS Y t := ot_sum_cong _ (fun i hi => by
  have := yw_wish hW hi
  unfold ot_metS
  rw [h _ this.1, h _ this.2.1])
theorem ot_valS_part {Y : ot_Y} (hW : ot_YW Y) (s : Nat → Nat) {n : Nat} (hn : n ≤ Y 10 2) : ot_sum (fun i => if ot_metS Y s i = true then Y 9 i else 0) n ≤ 1980 := by
  have h1 := ot_sum_le (f := fun i => if ot_metS Y s i = true then Y 9 i else 0) (b := 99) n (fun i hi => by
    have := yw_wish hW (show i < Y 10 2 by omega)
    split <;> omega)
  have := yw_w hW
  omega
theorem ot_valS_le {Y : ot_Y} (hW : ot_YW Y) (s : Nat → Nat) : ot_valS Y s ≤ 1980 := ot_valS_part hW s (Nat.le_refl _)
theorem ot_swapF_swapF (s : Nat → Nat) (a b : Nat) : ot_swapF (ot_swapF s a b) a b = s := by
  funext c
  unfold ot_swapF
  repeat' split
  all_goals simp_all
theorem ot_swapF_b {s : Nat → Nat} {a b n m : Nat} (h : ∀ c, c < n → s c < m) (ha : a < n) (hb : b < n) : ∀ c, c < n → ot_swapF s a b c < m := fun c hc => by
  unfold ot_swapF
  split
  · exact h a ha
  · split
    · exact h b hb
    · exact h c hc
set_option maxRecDepth 20000 in
theorem oc_valueOfSides {G : jv_Gr} {I : jv_I} {J : jv_J} {Y Z : ot_Y} {E : ot_E} {K : Option ot_Y} (h : ot_C G I J Y Z E K) {s : Nat → Nat} (hS : ∀ c, c < Y 10 0 → I 39 c = nI (s c)) (hb : ∀ c, c < Y 10 0 → s c < 5) : jv_C 1 mX0_valueOfSides [.ref 38] G I J (some (.int (nI (ot_valS Y s)))) G I J := by
  refine jv_enter okX0_valueOfSides (L := [.ref 38, .null, .null, .null]) rfl (Nat.le_of_ble_eq_true rfl) ?_
  have bn := yw_n h.w
  have bc := yw_c h.w
  have bw := yw_w h.w
  have loop : ∀ (n i : Nat) (acc : Nat) (s3 : Value), Y 10 2 + 1 ≤ i + n → i ≤ Y 10 2 → acc = ot_sum (fun i => if ot_metS Y s i = true then Y 9 i else 0) i → jv_V 1 mX0_valueOfSides 4 [.ref 38, .int (nI acc), .int (nI i), s3] [] G I J (some (.int (nI (ot_valS Y s)))) G I J := by
    intro n
    induction n with
    | zero => intro i acc s3 h1 h2; omega
    | succ n ih =>
      intro i acc s3 h1 h2 ea
      refine jv_iload2 dX0_valueOfSides_4 ?_
      refine jv_aload0 dX0_valueOfSides_5 ?_
      refine jv_getR dX0_valueOfSides_6 flX0_27 rfl (fk h.g) (fr_yard h.g) ?_
      refine jv_getI dX0_valueOfSides_9 flX0_41 rfl (yk (cg_now h.g)) (yi_wishes h.r) ?_
      refine jv_icmp_geN dX0_valueOfSides_12 (tgt := 92) (by decide) (by omega) (by omega) (fun h12 => ?_) (fun h12 => ?_)
      · refine jv_iload1 dX0_valueOfSides_92 ?_
        exact jv_iret dX0_valueOfSides_93 rfl rfl (by rw [ea, show i = Y 10 2 by omega]; rfl) rfl rfl
      · have hw := yw_wish h.w (show i < Y 10 2 by omega)
        have hb1 := hb _ hw.1
        have hb2 := hb _ hw.2.1
        refine jv_aload0 dX0_valueOfSides_15 ?_
        refine jv_getR dX0_valueOfSides_16 flX0_9 rfl (fk h.g) (fr_sides h.g) ?_
        refine jv_aload0 dX0_valueOfSides_19 ?_
        refine jv_getR dX0_valueOfSides_20 flX0_27 rfl (fk h.g) (fr_yard h.g) ?_
        refine jv_getR dX0_valueOfSides_23 flX0_44 rfl (yk (cg_now h.g)) (yr_firsts (cg_now h.g)) ?_
        refine jv_iload2 dX0_valueOfSides_26 ?_
        refine jv_ialdN dX0_valueOfSides_27 (yk_firsts (cg_now h.g)) (by omega) (by decide) (ye_firsts h.r (by omega)) ?_
        refine jv_ialdN dX0_valueOfSides_28 (fk_sides h.g) (by omega) (by decide) (hS _ hw.1) ?_
        refine jv_aload0 dX0_valueOfSides_29 ?_
        refine jv_getR dX0_valueOfSides_30 flX0_9 rfl (fk h.g) (fr_sides h.g) ?_
        refine jv_aload0 dX0_valueOfSides_33 ?_
        refine jv_getR dX0_valueOfSides_34 flX0_27 rfl (fk h.g) (fr_yard h.g) ?_
        refine jv_getR dX0_valueOfSides_37 flX0_47 rfl (yk (cg_now h.g)) (yr_seconds (cg_now h.g)) ?_
        refine jv_iload2 dX0_valueOfSides_40 ?_
        refine jv_ialdN dX0_valueOfSides_41 (yk_seconds (cg_now h.g)) (by omega) (by decide) (ye_seconds h.r (by omega)) ?_
        refine jv_ialdN dX0_valueOfSides_42 (fk_sides h.g) (by omega) (by decide) (hS _ hw.2.1) ?_
        refine jv_icmp_neN dX0_valueOfSides_43 (tgt := 50) (by decide) (by omega) (by omega) (fun h43 => ?_) (fun h43 => ?_)
        · refine jv_iconst dX0_valueOfSides_50 jv_c_iconst_0 ?_
          refine jv_istore3 dX0_valueOfSides_51 rfl ?_
          refine jv_iload3 dX0_valueOfSides_52 ?_
          refine jv_aload0 dX0_valueOfSides_53 ?_
          refine jv_getR dX0_valueOfSides_54 flX0_27 rfl (fk h.g) (fr_yard h.g) ?_
          refine jv_getR dX0_valueOfSides_57 flX0_50 rfl (yk (cg_now h.g)) (yr_together (cg_now h.g)) ?_
          refine jv_iload2 dX0_valueOfSides_60 ?_
          refine jv_ialdN dX0_valueOfSides_61 (yk_together (cg_now h.g)) (by omega) (by decide) (ye_together h.r (by omega)) ?_
          refine jv_iconst dX0_valueOfSides_62 jv_c_iconst_1 ?_
          refine jv_icmp_neN dX0_valueOfSides_63 (tgt := 70) (by decide) (by omega) (by omega) (fun h63 => ?_) (fun h63 => ?_)
          · refine jv_iconst dX0_valueOfSides_70 jv_c_iconst_0 ?_
            refine jv_icmp_neN dX0_valueOfSides_71 (tgt := 86) (by decide) (by omega) (by omega) (fun h71 => by omega) (fun h71 => ?_)
            refine jv_iload1 dX0_valueOfSides_74 ?_
            refine jv_aload0 dX0_valueOfSides_75 ?_
            refine jv_getR dX0_valueOfSides_76 flX0_27 rfl (fk h.g) (fr_yard h.g) ?_
            refine jv_getR dX0_valueOfSides_79 flX0_53 rfl (yk (cg_now h.g)) (yr_worths (cg_now h.g)) ?_
            refine jv_iload2 dX0_valueOfSides_82 ?_
            refine jv_ialdN dX0_valueOfSides_83 (yk_worths (cg_now h.g)) (by omega) (by decide) (ye_worths h.r (by omega)) ?_
            refine jv_iaddN dX0_valueOfSides_84 ?_
            refine jv_istore1 dX0_valueOfSides_85 rfl ?_
            refine jv_iinc2N dX0_valueOfSides_86 rfl ?_
            refine jv_goto dX0_valueOfSides_89 (tgt := 4) (by decide) ?_
            exact ih (i + 1) _ _ (by omega) (by omega) (by rw [ot_sum, if_pos (by unfold ot_metS; simp [h43, h63]), ea])
          · refine jv_iconst dX0_valueOfSides_66 jv_c_iconst_1 ?_
            refine jv_goto dX0_valueOfSides_67 (tgt := 71) (by decide) ?_
            refine jv_icmp_neN dX0_valueOfSides_71 (tgt := 86) (by decide) (by omega) (by omega) (fun h71 => ?_) (fun h71 => by omega)
            refine jv_iinc2N dX0_valueOfSides_86 rfl ?_
            refine jv_goto dX0_valueOfSides_89 (tgt := 4) (by decide) ?_
            exact ih (i + 1) _ _ (by omega) (by omega) (by rw [ot_sum, if_neg (by unfold ot_metS; simp [h43, h63]), Nat.add_zero, ea])
        · refine jv_iconst dX0_valueOfSides_46 jv_c_iconst_1 ?_
          refine jv_goto dX0_valueOfSides_47 (tgt := 51) (by decide) ?_
          refine jv_istore3 dX0_valueOfSides_51 rfl ?_
          refine jv_iload3 dX0_valueOfSides_52 ?_
          refine jv_aload0 dX0_valueOfSides_53 ?_
          refine jv_getR dX0_valueOfSides_54 flX0_27 rfl (fk h.g) (fr_yard h.g) ?_
          refine jv_getR dX0_valueOfSides_57 flX0_50 rfl (yk (cg_now h.g)) (yr_together (cg_now h.g)) ?_
          refine jv_iload2 dX0_valueOfSides_60 ?_
          refine jv_ialdN dX0_valueOfSides_61 (yk_together (cg_now h.g)) (by omega) (by decide) (ye_together h.r (by omega)) ?_
          refine jv_iconst dX0_valueOfSides_62 jv_c_iconst_1 ?_
          refine jv_icmp_neN dX0_valueOfSides_63 (tgt := 70) (by decide) (by omega) (by omega) (fun h63 => ?_) (fun h63 => ?_)
          · refine jv_iconst dX0_valueOfSides_70 jv_c_iconst_0 ?_
            refine jv_icmp_neN dX0_valueOfSides_71 (tgt := 86) (by decide) (by omega) (by omega) (fun h71 => ?_) (fun h71 => by omega)
            refine jv_iinc2N dX0_valueOfSides_86 rfl ?_
            refine jv_goto dX0_valueOfSides_89 (tgt := 4) (by decide) ?_
            exact ih (i + 1) _ _ (by omega) (by omega) (by rw [ot_sum, if_neg (by unfold ot_metS; simp [h43, h63]), Nat.add_zero, ea])
          · refine jv_iconst dX0_valueOfSides_66 jv_c_iconst_1 ?_
            refine jv_goto dX0_valueOfSides_67 (tgt := 71) (by decide) ?_
            refine jv_icmp_neN dX0_valueOfSides_71 (tgt := 86) (by decide) (by omega) (by omega) (fun h71 => by omega) (fun h71 => ?_)
            refine jv_iload1 dX0_valueOfSides_74 ?_
            refine jv_aload0 dX0_valueOfSides_75 ?_
            refine jv_getR dX0_valueOfSides_76 flX0_27 rfl (fk h.g) (fr_yard h.g) ?_
            refine jv_getR dX0_valueOfSides_79 flX0_53 rfl (yk (cg_now h.g)) (yr_worths (cg_now h.g)) ?_
            refine jv_iload2 dX0_valueOfSides_82 ?_
            refine jv_ialdN dX0_valueOfSides_83 (yk_worths (cg_now h.g)) (by omega) (by decide) (ye_worths h.r (by omega)) ?_
            refine jv_iaddN dX0_valueOfSides_84 ?_
            refine jv_istore1 dX0_valueOfSides_85 rfl ?_
            refine jv_iinc2N dX0_valueOfSides_86 rfl ?_
            refine jv_goto dX0_valueOfSides_89 (tgt := 4) (by decide) ?_
            exact ih (i + 1) _ _ (by omega) (by omega) (by rw [ot_sum, if_pos (by unfold ot_metS; simp [h43, h63]), ea])
  refine jv_iconst dX0_valueOfSides_0 jv_c_iconst_0 ?_
  refine jv_istore1 dX0_valueOfSides_1 rfl ?_
  refine jv_iconst dX0_valueOfSides_2 jv_c_iconst_0 ?_
  refine jv_istore2 dX0_valueOfSides_3 rfl ?_
  exact loop (Y 10 2 + 1) 0 0 _ (by omega) (by omega) rfl
set_option maxRecDepth 20000 in
theorem oc_exSides {G : jv_Gr} {I : jv_I} {J : jv_J} {Y Z : ot_Y} {E : ot_E} {K : Option ot_Y} (h : ot_C G I J Y Z E K) {s : Nat → Nat} (hS : ∀ c, c < Y 10 0 → I 39 c = nI (s c)) (hb : ∀ c, c < Y 10 0 → s c < 5) {a c : Nat} (ha : a < Y 10 0) (hc : c < Y 10 0) : jv_C 1 mX0_exchangeSides [.ref 38, .int (nI a), .int (nI c)] G I J none G (jv_up (jv_up I 39 a (nI (s c))) 39 c (nI (s a))) J := by
  have bn := yw_n h.w
  have bc := yw_c h.w
  have bw := yw_w h.w
  refine jv_enter okX0_exchangeSides (L := [.ref 38, .int (nI a), .int (nI c), .null]) rfl (Nat.le_of_ble_eq_true rfl) ?_
  refine jv_aload0 dX0_exchangeSides_0 ?_
  refine jv_getR dX0_exchangeSides_1 flX0_9 rfl (fk h.g) (fr_sides h.g) ?_
  refine jv_iload1 dX0_exchangeSides_4 ?_
  refine jv_ialdN dX0_exchangeSides_5 (fk_sides h.g) (by omega) (by decide) (hS a ha) ?_
  refine jv_istore3 dX0_exchangeSides_6 rfl ?_
  refine jv_aload0 dX0_exchangeSides_7 ?_
  refine jv_getR dX0_exchangeSides_8 flX0_9 rfl (fk h.g) (fr_sides h.g) ?_
  refine jv_iload1 dX0_exchangeSides_11 ?_
  refine jv_aload0 dX0_exchangeSides_12 ?_
  refine jv_getR dX0_exchangeSides_13 flX0_9 rfl (fk h.g) (fr_sides h.g) ?_
  refine jv_iload2 dX0_exchangeSides_16 ?_
  refine jv_ialdN dX0_exchangeSides_17 (fk_sides h.g) (by omega) (by decide) (hS c hc) ?_
  refine jv_iastN dX0_exchangeSides_18 (fk_sides h.g) (by omega) (by decide) ?_
  refine jv_aload0 dX0_exchangeSides_19 ?_
  refine jv_getR dX0_exchangeSides_20 flX0_9 rfl (fk h.g) (fr_sides h.g) ?_
  refine jv_iload2 dX0_exchangeSides_23 ?_
  refine jv_iload3 dX0_exchangeSides_24 ?_
  refine jv_iastN dX0_exchangeSides_25 (fk_sides h.g) (by omega) (by decide) ?_
  exact jv_vret dX0_exchangeSides_26 rfl rfl rfl rfl
theorem ot_exS {I : jv_I} {s : Nat → Nat} {n a c : Nat} (hS : ∀ x, x < n → I 39 x = nI (s x)) : ∀ x, x < n → (jv_up (jv_up I 39 a (nI (s c))) 39 c (nI (s a))) 39 x = nI (ot_swapF s a c x) := fun x hx => by
  unfold ot_swapF
  rw [jv_up_def, if_pos rfl]
  by_cases e : x = c
  · rw [if_pos e, if_pos e]
  · rw [if_neg e, if_neg e, jv_up_def, if_pos rfl]
    by_cases e2 : x = a
    · rw [if_pos e2, if_pos e2]
    · rw [if_neg e2, if_neg e2]; exact hS x hx
theorem ot_C_39 {G : jv_Gr} {I I2 : jv_I} {J : jv_J} {Y Z : ot_Y} {E : ot_E} {K : Option ot_Y} (h : ot_C G I J Y Z E K) (hf : ∀ q, q ≠ 39 → I2 q = I q) : ot_C G I2 J Y Z E K := ot_C_scratch h (fun q q1 q2 => hf q (by omega)) (by rw [hf 44 (by decide)])
set_option maxRecDepth 20000 in
theorem oc_withChange {G : jv_Gr} {I : jv_I} {J : jv_J} {Y Z : ot_Y} {E : ot_E} {K : Option ot_Y} (h : ot_C G I J Y Z E K) {s : Nat → Nat} (hS : ∀ c, c < Y 10 0 → I 39 c = nI (s c)) (hb : ∀ c, c < Y 10 0 → s c < 5) {a c : Nat} (ha : a < Y 10 0) (hc : c < Y 10 0) : ∃ I2, jv_C 2 mX0_valueWithChange [.ref 38, .int (nI a), .int (nI c)] G I J (some (.int (nI (ot_valS Y (ot_swapF s a c))))) G I2 J ∧ (∀ x, x < Y 10 0 → I2 39 x = nI (s x)) ∧ ∀ q, q ≠ 39 → I2 q = I q := by
  have c1 := oc_exSides h hS hb ha hc
  obtain ⟨A1, e1⟩ : ∃ A, A = jv_up (jv_up I 39 a (nI (s c))) 39 c (nI (s a)) := ⟨_, rfl⟩
  have hF1 : ∀ q, q ≠ 39 → A1 q = I q := fun q hq => by rw [e1, jv_up_ne _ _ _ hq, jv_up_ne _ _ _ hq]
  have hS1 : ∀ x, x < Y 10 0 → A1 39 x = nI (ot_swapF s a c x) := by rw [e1]; exact ot_exS hS
  rw [← e1] at c1
  have h1 := ot_C_39 h hF1
  have hb1 := ot_swapF_b hb ha hc
  have c2 := oc_valueOfSides h1 hS1 hb1
  have c3 := oc_exSides h1 hS1 hb1 ha hc
  have hS2 := ot_exS (a := a) (c := c) hS1
  rw [ot_swapF_swapF] at hS2
  refine ⟨_, ?_, hS2, fun q hq => by rw [jv_up_ne _ _ _ hq, jv_up_ne _ _ _ hq]; exact hF1 q hq⟩
  refine jv_enter okX0_valueWithChange (L := [.ref 38, .int (nI a), .int (nI c), .null]) rfl (Nat.le_of_ble_eq_true rfl) ?_
  refine jv_aload0 dX0_valueWithChange_0 ?_
  refine jv_iload1 dX0_valueWithChange_1 ?_
  refine jv_iload2 dX0_valueWithChange_2 ?_
  refine jv_v20 dX0_valueWithChange_3 okX0_exchangeSides inX0_exchangeSides seX0_exchangeSides mlX0_56 (ci := 0) (T := TX0) (N := 6) rfl (fk h.g) c1 (by decide) (Nat.le_of_ble_eq_true rfl) ?_
  refine jv_aload0 dX0_valueWithChange_6 ?_
  refine jv_v01 dX0_valueWithChange_7 okX0_valueOfSides inX0_valueOfSides seX0_valueOfSides mlX0_60 (ci := 0) (T := TX0) (N := 6) rfl (fk h.g) c2 (by decide) (Nat.le_of_ble_eq_true rfl) ?_
  refine jv_istore3 dX0_valueWithChange_10 rfl ?_
  refine jv_aload0 dX0_valueWithChange_11 ?_
  refine jv_iload1 dX0_valueWithChange_12 ?_
  refine jv_iload2 dX0_valueWithChange_13 ?_
  refine jv_v20 dX0_valueWithChange_14 okX0_exchangeSides inX0_exchangeSides seX0_exchangeSides mlX0_56 (ci := 0) (T := TX0) (N := 6) rfl (fk h.g) c3 (by decide) (Nat.le_of_ble_eq_true rfl) ?_
  refine jv_iload3 dX0_valueWithChange_17 ?_
  exact jv_iret dX0_valueWithChange_18 rfl rfl rfl rfl rfl
set_option maxRecDepth 20000 in
theorem oc_takeSides {G : jv_Gr} {I : jv_I} {J : jv_J} {Y Z : ot_Y} {E : ot_E} {K : Option ot_Y} (h : ot_C G I J Y Z E K) {k : Nat} (hk : k < Y 10 1) : ∃ I2, jv_C 4 mX0_takeSides [.ref 38, .int (nI k)] G I J none G I2 J ∧ (∀ c, c < Y 10 0 → I2 39 c = nI (ot_sideOf Y k c)) ∧ ∀ q, q ≠ 39 → I2 q = I q := by
  have bn := yw_n h.w
  have bc := yw_c h.w
  have bw := yw_w h.w
  have loop : ∀ (m i : Nat) (A : jv_I), Y 10 0 + 1 ≤ i + m → i ≤ Y 10 0 → (∀ c, c < i → A 39 c = nI (ot_sideOf Y k c)) → (∀ q, q ≠ 39 → A q = I q) → ∃ I2, jv_V 4 mX0_takeSides 2 [.ref 38, .int (nI k), .int (nI i)] [] G A J none G I2 J ∧ (∀ c, c < Y 10 0 → I2 39 c = nI (ot_sideOf Y k c)) ∧ ∀ q, q ≠ 39 → I2 q = I q := by
    intro m
    induction m with
    | zero => intro i A b1 b2; omega
    | succ m ih =>
      intro i A b1 b2 hv hF
      have hA := ot_C_39 h hF
      by_cases hi : i < Y 10 0
      · obtain ⟨I2, hV, p1, p2⟩ := ih (i + 1) (jv_up A 39 i (nI (ot_sideOf Y k i))) (by omega) (by omega) (fun c hc => by
          rw [jv_up_def, if_pos rfl]
          by_cases e : c = i
          · rw [if_pos e, e]
          · rw [if_neg e]; exact hv c (by omega)) (fun q hq => by rw [jv_up_ne _ _ _ hq]; exact hF q hq)
        refine ⟨I2, ?_, p1, p2⟩
        refine jv_iload2 dX0_takeSides_2 ?_
        refine jv_aload0 dX0_takeSides_3 ?_
        refine jv_getR dX0_takeSides_4 flX0_27 rfl (fk h.g) (fr_yard h.g) ?_
        refine jv_getI dX0_takeSides_7 flX0_31 rfl (yk (cg_now h.g)) (yi_children hA.r) ?_
        refine jv_icmp_geN dX0_takeSides_10 (tgt := 34) (by decide) (by omega) (by omega) (fun hc10 => by omega) (fun hc10 => ?_)
        refine jv_aload0 dX0_takeSides_13 ?_
        refine jv_getR dX0_takeSides_14 flX0_9 rfl (fk h.g) (fr_sides h.g) ?_
        refine jv_iload2 dX0_takeSides_17 ?_
        refine jv_aload0 dX0_takeSides_18 ?_
        refine jv_getR dX0_takeSides_19 flX0_27 rfl (fk h.g) (fr_yard h.g) ?_
        refine jv_iload1 dX0_takeSides_22 ?_
        refine jv_iload2 dX0_takeSides_23 ?_
        refine jv_v21 dX0_takeSides_24 okX3_sideOf inX3_sideOf seX3_sideOf mlX0_37 (ci := 3) (T := TX3) (N := 15) rfl (yk (cg_now h.g)) (ot_sideOfM (cg_now h.g) hA.r h.w hk hi) (by decide) (Nat.le_of_ble_eq_true rfl) ?_
        refine jv_iastN dX0_takeSides_27 (fk_sides h.g) (by omega) (by decide) ?_
        refine jv_iinc2N dX0_takeSides_28 rfl ?_
        refine jv_goto dX0_takeSides_31 (tgt := 2) (by decide) ?_
        exact hV
      · refine ⟨A, ?_, fun c hc => hv c (by omega), hF⟩
        refine jv_iload2 dX0_takeSides_2 ?_
        refine jv_aload0 dX0_takeSides_3 ?_
        refine jv_getR dX0_takeSides_4 flX0_27 rfl (fk h.g) (fr_yard h.g) ?_
        refine jv_getI dX0_takeSides_7 flX0_31 rfl (yk (cg_now h.g)) (yi_children hA.r) ?_
        refine jv_icmp_geN dX0_takeSides_10 (tgt := 34) (by decide) (by omega) (by omega) (fun hc10 => ?_) (fun hc10 => by omega)
        exact jv_vret dX0_takeSides_34 rfl rfl rfl rfl
  obtain ⟨I2, hV, p1, p2⟩ := loop (Y 10 0 + 1) 0 I (by omega) (by omega) (fun c hc => by omega) (fun _ _ => rfl)
  refine ⟨I2, ?_, p1, p2⟩
  refine jv_enter okX0_takeSides (L := [.ref 38, .int (nI k), .null]) rfl (Nat.le_of_ble_eq_true rfl) ?_
  refine jv_iconst dX0_takeSides_0 jv_c_iconst_0 ?_
  refine jv_istore2 dX0_takeSides_1 rfl ?_
  exact hV
