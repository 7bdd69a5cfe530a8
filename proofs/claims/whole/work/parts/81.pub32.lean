/-! ===== yard: the component's tape reads ===== -/
def ot_tp (I : jv_I) (n : Nat) (t : Nat → Nat) : Prop := (I 44 1 = nI n ∧ ∀ i, i < n → I 45 i = nI (t i)) ∧ n ≤ 250 ∧ ∀ i, i < n → t i ≤ 255
def ot_tf (I A : jv_I) : Prop := (∀ q, q ≠ 44 → A q = I q) ∧ A 44 1 = I 44 1
def ot_T3 (I : jv_I) (k s e : Nat) : Prop := I 44 2 = nI k ∧ I 44 3 = nI s ∧ I 44 4 = nI e
theorem ot_tf.rf {I : jv_I} : ot_tf I I := ⟨fun _ _ => rfl, rfl⟩
theorem ot_tf.tr {I A B : jv_I} (h : ot_tf I A) (h2 : ot_tf A B) : ot_tf I B := ⟨fun q hq => (h2.1 q hq).trans (h.1 q hq), h2.2.trans h.2⟩
theorem ot_tf.up {I A : jv_I} (h : ot_tf I A) {k : Nat} {v : Int32} (hk : k ≠ 1) : ot_tf I (jv_up A 44 k v) := ⟨fun q hq => by rw [jv_up_ne _ _ _ hq]; exact h.1 q hq, by rw [jv_up_at_ne _ _ _ (fun z => hk z.symm)]; exact h.2⟩
theorem ot_tf.tp {I A : jv_I} {n : Nat} {t : Nat → Nat} (h : ot_tf I A) (hP : ot_tp I n t) : ot_tp A n t := ⟨⟨h.2.trans hP.1.1, fun i hi => by rw [h.1 45 (by decide)]; exact hP.1.2 i hi⟩, hP.2⟩
set_option maxRecDepth 20000 in
theorem oc_tokenOf {G : jv_Gr} {I : jv_I} {J : jv_J} {b : Nat} (hb : b < 2 ^ 30) : jv_C 1 mX2_tokenOf [.int (nI b)] G I J (some (.int (nI (ot_kd b)))) G I J := by
  refine jv_enter okX2_tokenOf (L := [.int (nI b)]) rfl (Nat.le_of_ble_eq_true rfl) ?_
  refine jv_iload0 dX2_tokenOf_0 ?_
  refine jv_bipush dX2_tokenOf_1 jv_c_bipush_97 ?_
  refine jv_icmp_ltN dX2_tokenOf_3 (tgt := 14) (by decide) (by omega) (by omega) (fun hc3 => ?_) (fun hc3 => ?_)
  · refine jv_iload0 dX2_tokenOf_14 ?_
    refine jv_bipush dX2_tokenOf_15 jv_c_bipush_48 ?_
    refine jv_icmp_ltN dX2_tokenOf_17 (tgt := 28) (by decide) (by omega) (by omega) (fun hc17 => ?_) (fun hc17 => ?_)
    · refine jv_iload0 dX2_tokenOf_28 ?_
      refine jv_bipush dX2_tokenOf_29 jv_c_bipush_59 ?_
      refine jv_icmp_neN dX2_tokenOf_31 (tgt := 38) (by decide) (by omega) (by omega) (fun hc31 => ?_) (fun hc31 => ?_)
      · refine jv_iconst dX2_tokenOf_38 jv_c_iconst_4 ?_
        exact jv_iret dX2_tokenOf_39 rfl rfl (by unfold ot_kd; rw [if_neg (by omega), if_neg (by omega), if_neg (by omega)]) rfl rfl
      · refine jv_iconst dX2_tokenOf_34 jv_c_iconst_3 ?_
        refine jv_goto dX2_tokenOf_35 (tgt := 39) (by decide) ?_
        exact jv_iret dX2_tokenOf_39 rfl rfl (by unfold ot_kd; rw [if_neg (by omega), if_neg (by omega), if_pos (by omega)]) rfl rfl
    · refine jv_iload0 dX2_tokenOf_20 ?_
      refine jv_bipush dX2_tokenOf_21 jv_c_bipush_57 ?_
      refine jv_icmp_gtN dX2_tokenOf_23 (tgt := 28) (by decide) (by omega) (by omega) (fun hc23 => ?_) (fun hc23 => ?_)
      · refine jv_iload0 dX2_tokenOf_28 ?_
        refine jv_bipush dX2_tokenOf_29 jv_c_bipush_59 ?_
        refine jv_icmp_neN dX2_tokenOf_31 (tgt := 38) (by decide) (by omega) (by omega) (fun hc31 => ?_) (fun hc31 => ?_)
        · refine jv_iconst dX2_tokenOf_38 jv_c_iconst_4 ?_
          exact jv_iret dX2_tokenOf_39 rfl rfl (by unfold ot_kd; rw [if_neg (by omega), if_neg (by omega), if_neg (by omega)]) rfl rfl
        · refine jv_iconst dX2_tokenOf_34 jv_c_iconst_3 ?_
          refine jv_goto dX2_tokenOf_35 (tgt := 39) (by decide) ?_
          exact jv_iret dX2_tokenOf_39 rfl rfl (by unfold ot_kd; rw [if_neg (by omega), if_neg (by omega), if_pos (by omega)]) rfl rfl
      · refine jv_iconst dX2_tokenOf_26 jv_c_iconst_2 ?_
        exact jv_iret dX2_tokenOf_27 rfl rfl (by unfold ot_kd; rw [if_neg (by omega), if_pos (by omega)]) rfl rfl
  · refine jv_iload0 dX2_tokenOf_6 ?_
    refine jv_bipush dX2_tokenOf_7 jv_c_bipush_122 ?_
    refine jv_icmp_gtN dX2_tokenOf_9 (tgt := 14) (by decide) (by omega) (by omega) (fun hc9 => ?_) (fun hc9 => ?_)
    · refine jv_iload0 dX2_tokenOf_14 ?_
      refine jv_bipush dX2_tokenOf_15 jv_c_bipush_48 ?_
      refine jv_icmp_ltN dX2_tokenOf_17 (tgt := 28) (by decide) (by omega) (by omega) (fun hc17 => ?_) (fun hc17 => ?_)
      · refine jv_iload0 dX2_tokenOf_28 ?_
        refine jv_bipush dX2_tokenOf_29 jv_c_bipush_59 ?_
        refine jv_icmp_neN dX2_tokenOf_31 (tgt := 38) (by decide) (by omega) (by omega) (fun hc31 => ?_) (fun hc31 => ?_)
        · refine jv_iconst dX2_tokenOf_38 jv_c_iconst_4 ?_
          exact jv_iret dX2_tokenOf_39 rfl rfl (by unfold ot_kd; rw [if_neg (by omega), if_neg (by omega), if_neg (by omega)]) rfl rfl
        · refine jv_iconst dX2_tokenOf_34 jv_c_iconst_3 ?_
          refine jv_goto dX2_tokenOf_35 (tgt := 39) (by decide) ?_
          exact jv_iret dX2_tokenOf_39 rfl rfl (by unfold ot_kd; rw [if_neg (by omega), if_neg (by omega), if_pos (by omega)]) rfl rfl
      · refine jv_iload0 dX2_tokenOf_20 ?_
        refine jv_bipush dX2_tokenOf_21 jv_c_bipush_57 ?_
        refine jv_icmp_gtN dX2_tokenOf_23 (tgt := 28) (by decide) (by omega) (by omega) (fun hc23 => ?_) (fun hc23 => ?_)
        · refine jv_iload0 dX2_tokenOf_28 ?_
          refine jv_bipush dX2_tokenOf_29 jv_c_bipush_59 ?_
          refine jv_icmp_neN dX2_tokenOf_31 (tgt := 38) (by decide) (by omega) (by omega) (fun hc31 => ?_) (fun hc31 => ?_)
          · refine jv_iconst dX2_tokenOf_38 jv_c_iconst_4 ?_
            exact jv_iret dX2_tokenOf_39 rfl rfl (by unfold ot_kd; rw [if_neg (by omega), if_neg (by omega), if_neg (by omega)]) rfl rfl
          · refine jv_iconst dX2_tokenOf_34 jv_c_iconst_3 ?_
            refine jv_goto dX2_tokenOf_35 (tgt := 39) (by decide) ?_
            exact jv_iret dX2_tokenOf_39 rfl rfl (by unfold ot_kd; rw [if_neg (by omega), if_neg (by omega), if_pos (by omega)]) rfl rfl
        · refine jv_iconst dX2_tokenOf_26 jv_c_iconst_2 ?_
          exact jv_iret dX2_tokenOf_27 rfl rfl (by unfold ot_kd; rw [if_neg (by omega), if_pos (by omega)]) rfl rfl
    · refine jv_iconst dX2_tokenOf_12 jv_c_iconst_1 ?_
      exact jv_iret dX2_tokenOf_13 rfl rfl (by unfold ot_kd; rw [if_pos (by omega)]) rfl rfl
set_option maxRecDepth 20000 in
theorem oc_nextToken {G : jv_Gr} {I : jv_I} {J : jv_J} (hg : ot_CG G) {n : Nat} {t : Nat → Nat} (hP : ot_tp I n t) {e : Nat} (he : e ≤ n) (h4 : I 44 4 = nI e) : ∃ I2, jv_C 2 mX2_nextToken [.ref 44] G I J none G I2 J ∧ ot_tf I I2 ∧ ot_T3 I2 (ot_tn t n e) (ot_ts t n e) (ot_te t n e) := by
  have hn := hP.2.1
  have h255 := hP.2.2
  have run : ∀ (k s m e : Nat) (A : jv_I), k ≤ 4 → n ≤ e + m → e ≤ n → ot_tf I A → A 44 2 = nI k → A 44 3 = nI s → A 44 4 = nI e → ∃ I2, jv_V 2 mX2_nextToken 101 [.ref 44] [] G A J none G I2 J ∧ ot_tf I I2 ∧ ot_T3 I2 k s (ot_scan (ot_ki t k) n e) := by
    intro k s m
    induction m with
    | zero =>
      intro e A hk4 b1 b2 hF h2 h3 h4
      have hA := hF.tp hP
      refine ⟨A, ?_, hF, h2, h3, by rw [ot_scan_no (by omega)]; exact h4⟩
      refine jv_aload0 dX2_nextToken_101 ?_
      refine jv_getI dX2_nextToken_102 flX2_25 rfl (tk hg) h4 ?_
      refine jv_aload0 dX2_nextToken_105 ?_
      refine jv_getI dX2_nextToken_106 flX2_15 rfl (tk hg) hA.1.1 ?_
      refine jv_icmp_geN dX2_nextToken_109 (tgt := 161) (by decide) (by omega) (by omega) (fun hc109 => ?_) (fun hc109 => by omega)
      exact jv_vret dX2_nextToken_161 rfl rfl rfl rfl
    | succ m ih =>
      intro e A hk4 b1 b2 hF h2 h3 h4
      have hA := hF.tp hP
      by_cases hi : e < n
      · have hc := h255 e hi
        have hkd := ot_kd_pos (t e)
        by_cases hk : ot_kd (t e) = k
        · obtain ⟨I2, hV, p1, p2, p3, p4⟩ := ih (e + 1) (jv_up A 44 4 (nI (e + 1))) hk4 (by omega) (by omega) (hF.up (by decide)) (by rw [jv_up_at_ne _ _ _ (by decide)]; exact h2) (by rw [jv_up_at_ne _ _ _ (by decide)]; exact h3) (jv_up_at _ _ _ _)
          refine ⟨I2, ?_, p1, p2, p3, by rw [ot_scan_go hi (decide_eq_true hk)]; exact p4⟩
          refine jv_aload0 dX2_nextToken_101 ?_
          refine jv_getI dX2_nextToken_102 flX2_25 rfl (tk hg) h4 ?_
          refine jv_aload0 dX2_nextToken_105 ?_
          refine jv_getI dX2_nextToken_106 flX2_15 rfl (tk hg) hA.1.1 ?_
          refine jv_icmp_geN dX2_nextToken_109 (tgt := 161) (by decide) (by omega) (by omega) (fun hc109 => by omega) (fun hc109 => ?_)
          refine jv_aload0 dX2_nextToken_112 ?_
          refine jv_getR dX2_nextToken_113 flX2_9 rfl (tk hg) (tr_bytes hg) ?_
          refine jv_aload0 dX2_nextToken_116 ?_
          refine jv_getI dX2_nextToken_117 flX2_25 rfl (tk hg) h4 ?_
          refine jv_ialdN dX2_nextToken_120 (tk_bytes hg) (by omega) (by decide) (hA.1.2 _ (by omega)) ?_
          refine jv_s11 dX2_nextToken_121 okX2_tokenOf stX2_tokenOf mlX2_35 (oc_tokenOf (by omega)) (by decide) (Nat.le_of_ble_eq_true rfl) ?_
          refine jv_aload0 dX2_nextToken_124 ?_
          refine jv_getI dX2_nextToken_125 flX2_19 rfl (tk hg) h2 ?_
          refine jv_icmp_neN dX2_nextToken_128 (tgt := 161) (by decide) (by omega) (by omega) (fun h128 => absurd hk h128) (fun h128 => ?_)
          refine jv_aload0 dX2_nextToken_131 ?_
          refine jv_dup dX2_nextToken_132 rfl ?_
          refine jv_getI dX2_nextToken_133 flX2_25 rfl (tk hg) h4 ?_
          refine jv_iconst dX2_nextToken_136 jv_c_iconst_1 ?_
          refine jv_iaddN dX2_nextToken_137 ?_
          refine jv_putI dX2_nextToken_138 flX2_25 rfl (tk hg) rfl rfl ?_
          refine jv_goto dX2_nextToken_141 (tgt := 101) (by decide) ?_
          exact hV
        · refine ⟨A, ?_, hF, h2, h3, by rw [ot_scan_no (fun z => hk (of_decide_eq_true z.2))]; exact h4⟩
          refine jv_aload0 dX2_nextToken_101 ?_
          refine jv_getI dX2_nextToken_102 flX2_25 rfl (tk hg) h4 ?_
          refine jv_aload0 dX2_nextToken_105 ?_
          refine jv_getI dX2_nextToken_106 flX2_15 rfl (tk hg) hA.1.1 ?_
          refine jv_icmp_geN dX2_nextToken_109 (tgt := 161) (by decide) (by omega) (by omega) (fun hc109 => by omega) (fun hc109 => ?_)
          refine jv_aload0 dX2_nextToken_112 ?_
          refine jv_getR dX2_nextToken_113 flX2_9 rfl (tk hg) (tr_bytes hg) ?_
          refine jv_aload0 dX2_nextToken_116 ?_
          refine jv_getI dX2_nextToken_117 flX2_25 rfl (tk hg) h4 ?_
          refine jv_ialdN dX2_nextToken_120 (tk_bytes hg) (by omega) (by decide) (hA.1.2 _ (by omega)) ?_
          refine jv_s11 dX2_nextToken_121 okX2_tokenOf stX2_tokenOf mlX2_35 (oc_tokenOf (by omega)) (by decide) (Nat.le_of_ble_eq_true rfl) ?_
          refine jv_aload0 dX2_nextToken_124 ?_
          refine jv_getI dX2_nextToken_125 flX2_19 rfl (tk hg) h2 ?_
          refine jv_icmp_neN dX2_nextToken_128 (tgt := 161) (by decide) (by omega) (by omega) (fun h128 => ?_) (fun h128 => absurd h128 hk)
          exact jv_vret dX2_nextToken_161 rfl rfl rfl rfl
      · refine ⟨A, ?_, hF, h2, h3, by rw [ot_scan_no (by omega)]; exact h4⟩
        refine jv_aload0 dX2_nextToken_101 ?_
        refine jv_getI dX2_nextToken_102 flX2_25 rfl (tk hg) h4 ?_
        refine jv_aload0 dX2_nextToken_105 ?_
        refine jv_getI dX2_nextToken_106 flX2_15 rfl (tk hg) hA.1.1 ?_
        refine jv_icmp_geN dX2_nextToken_109 (tgt := 161) (by decide) (by omega) (by omega) (fun hc109 => ?_) (fun hc109 => by omega)
        exact jv_vret dX2_nextToken_161 rfl rfl rfl rfl
  have tok : ∀ (s : Nat) (A : jv_I), s ≤ n → ot_tf I A → A 44 3 = nI s → ∃ I2, jv_V 2 mX2_nextToken 46 [.ref 44] [] G A J none G I2 J ∧ ot_tf I I2 ∧ ot_T3 I2 (if s < n then ot_kd (t s) else 0) s (if (if s < n then ot_kd (t s) else 0) = 1 ∨ (if s < n then ot_kd (t s) else 0) = 2 then ot_scan (ot_ki t (if s < n then ot_kd (t s) else 0)) n s else if (if s < n then ot_kd (t s) else 0) = 0 then s else s + 1) := by
    intro s A hs hF h3
    have hA := hF.tp hP
    obtain ⟨A1, e1⟩ : ∃ A1, A1 = jv_up A 44 4 (nI s) := ⟨_, rfl⟩
    have hF1 : ot_tf I A1 := by rw [e1]; exact hF.up (by decide)
    have hA1 := hF1.tp hP
    have g3 : A1 44 3 = nI s := by rw [e1, jv_up_at_ne _ _ _ (by decide)]; exact h3
    have g4 : A1 44 4 = nI s := by rw [e1]; exact jv_up_at _ _ _ _
    obtain ⟨k, ek⟩ : ∃ k, k = (if s < n then ot_kd (t s) else 0) := ⟨_, rfl⟩
    rw [← ek]
    obtain ⟨A2, e2⟩ : ∃ A2, A2 = jv_up A1 44 2 (nI k) := ⟨_, rfl⟩
    have hF2 : ot_tf I A2 := by rw [e2]; exact hF1.up (by decide)
    have hA2 := hF2.tp hP
    have k2 : A2 44 2 = nI k := by rw [e2]; exact jv_up_at _ _ _ _
    have k3 : A2 44 3 = nI s := by rw [e2, jv_up_at_ne _ _ _ (by decide)]; exact g3
    have k4 : A2 44 4 = nI s := by rw [e2, jv_up_at_ne _ _ _ (by decide)]; exact g4
    by_cases hi : s < n
    · rw [if_pos hi] at ek
      have hkd := ot_kd_pos (t s)
      have hc := h255 s hi
      by_cases h12 : k = 1 ∨ k = 2
      · rw [if_pos h12]
        obtain ⟨I2, hV, hQ⟩ := run k s n s A2 (by omega) (by omega) (by omega) hF2 k2 k3 k4
        refine ⟨I2, ?_, hQ⟩
        rw [ek] at e2 k2
        by_cases h1 : k = 1
        · skip
          refine jv_aload0 dX2_nextToken_46 ?_
          refine jv_aload0 dX2_nextToken_47 ?_
          refine jv_getI dX2_nextToken_48 flX2_22 rfl (tk hg) h3 ?_
          refine jv_putI dX2_nextToken_51 flX2_25 rfl (tk hg) rfl rfl ?_
          rw [← e1]
          refine jv_aload0 dX2_nextToken_54 ?_
          refine jv_aload0 dX2_nextToken_55 ?_
          refine jv_getI dX2_nextToken_56 flX2_22 rfl (tk hg) g3 ?_
          refine jv_aload0 dX2_nextToken_59 ?_
          refine jv_getI dX2_nextToken_60 flX2_15 rfl (tk hg) hA1.1.1 ?_
          refine jv_icmp_geN dX2_nextToken_63 (tgt := 81) (by decide) (by omega) (by omega) (fun hc63 => by omega) (fun hc63 => ?_)
          refine jv_aload0 dX2_nextToken_66 ?_
          refine jv_getR dX2_nextToken_67 flX2_9 rfl (tk hg) (tr_bytes hg) ?_
          refine jv_aload0 dX2_nextToken_70 ?_
          refine jv_getI dX2_nextToken_71 flX2_22 rfl (tk hg) g3 ?_
          refine jv_ialdN dX2_nextToken_74 (tk_bytes hg) (by omega) (by decide) (hA1.1.2 _ (by omega)) ?_
          refine jv_s11 dX2_nextToken_75 okX2_tokenOf stX2_tokenOf mlX2_35 (oc_tokenOf (by omega)) (by decide) (Nat.le_of_ble_eq_true rfl) ?_
          refine jv_goto dX2_nextToken_78 (tgt := 82) (by decide) ?_
          refine jv_putI dX2_nextToken_82 flX2_19 rfl (tk hg) rfl rfl ?_
          rw [← e2]
          refine jv_aload0 dX2_nextToken_85 ?_
          refine jv_getI dX2_nextToken_86 flX2_19 rfl (tk hg) k2 ?_
          refine jv_iconst dX2_nextToken_89 jv_c_iconst_1 ?_
          refine jv_icmp_eqN dX2_nextToken_90 (tgt := 101) (by decide) (by omega) (by omega) (fun hc90 => ?_) (fun hc90 => by omega)
          exact hV
        · skip
          refine jv_aload0 dX2_nextToken_46 ?_
          refine jv_aload0 dX2_nextToken_47 ?_
          refine jv_getI dX2_nextToken_48 flX2_22 rfl (tk hg) h3 ?_
          refine jv_putI dX2_nextToken_51 flX2_25 rfl (tk hg) rfl rfl ?_
          rw [← e1]
          refine jv_aload0 dX2_nextToken_54 ?_
          refine jv_aload0 dX2_nextToken_55 ?_
          refine jv_getI dX2_nextToken_56 flX2_22 rfl (tk hg) g3 ?_
          refine jv_aload0 dX2_nextToken_59 ?_
          refine jv_getI dX2_nextToken_60 flX2_15 rfl (tk hg) hA1.1.1 ?_
          refine jv_icmp_geN dX2_nextToken_63 (tgt := 81) (by decide) (by omega) (by omega) (fun hc63 => by omega) (fun hc63 => ?_)
          refine jv_aload0 dX2_nextToken_66 ?_
          refine jv_getR dX2_nextToken_67 flX2_9 rfl (tk hg) (tr_bytes hg) ?_
          refine jv_aload0 dX2_nextToken_70 ?_
          refine jv_getI dX2_nextToken_71 flX2_22 rfl (tk hg) g3 ?_
          refine jv_ialdN dX2_nextToken_74 (tk_bytes hg) (by omega) (by decide) (hA1.1.2 _ (by omega)) ?_
          refine jv_s11 dX2_nextToken_75 okX2_tokenOf stX2_tokenOf mlX2_35 (oc_tokenOf (by omega)) (by decide) (Nat.le_of_ble_eq_true rfl) ?_
          refine jv_goto dX2_nextToken_78 (tgt := 82) (by decide) ?_
          refine jv_putI dX2_nextToken_82 flX2_19 rfl (tk hg) rfl rfl ?_
          rw [← e2]
          refine jv_aload0 dX2_nextToken_85 ?_
          refine jv_getI dX2_nextToken_86 flX2_19 rfl (tk hg) k2 ?_
          refine jv_iconst dX2_nextToken_89 jv_c_iconst_1 ?_
          refine jv_icmp_eqN dX2_nextToken_90 (tgt := 101) (by decide) (by omega) (by omega) (fun hc90 => by omega) (fun hc90 => ?_)
          refine jv_aload0 dX2_nextToken_93 ?_
          refine jv_getI dX2_nextToken_94 flX2_19 rfl (tk hg) k2 ?_
          refine jv_iconst dX2_nextToken_97 jv_c_iconst_2 ?_
          refine jv_icmp_neN dX2_nextToken_98 (tgt := 144) (by decide) (by omega) (by omega) (fun hc98 => by omega) (fun hc98 => ?_)
          exact hV
      · rw [if_neg h12, if_neg (show ¬ k = 0 by omega)]
        refine ⟨jv_up A2 44 4 (nI (s + 1)), ?_, hF2.up (by decide), by rw [jv_up_at_ne _ _ _ (by decide)]; exact k2, by rw [jv_up_at_ne _ _ _ (by decide)]; exact k3, jv_up_at _ _ _ _⟩
        rw [ek] at e2 k2
        refine jv_aload0 dX2_nextToken_46 ?_
        refine jv_aload0 dX2_nextToken_47 ?_
        refine jv_getI dX2_nextToken_48 flX2_22 rfl (tk hg) h3 ?_
        refine jv_putI dX2_nextToken_51 flX2_25 rfl (tk hg) rfl rfl ?_
        rw [← e1]
        refine jv_aload0 dX2_nextToken_54 ?_
        refine jv_aload0 dX2_nextToken_55 ?_
        refine jv_getI dX2_nextToken_56 flX2_22 rfl (tk hg) g3 ?_
        refine jv_aload0 dX2_nextToken_59 ?_
        refine jv_getI dX2_nextToken_60 flX2_15 rfl (tk hg) hA1.1.1 ?_
        refine jv_icmp_geN dX2_nextToken_63 (tgt := 81) (by decide) (by omega) (by omega) (fun hc63 => by omega) (fun hc63 => ?_)
        refine jv_aload0 dX2_nextToken_66 ?_
        refine jv_getR dX2_nextToken_67 flX2_9 rfl (tk hg) (tr_bytes hg) ?_
        refine jv_aload0 dX2_nextToken_70 ?_
        refine jv_getI dX2_nextToken_71 flX2_22 rfl (tk hg) g3 ?_
        refine jv_ialdN dX2_nextToken_74 (tk_bytes hg) (by omega) (by decide) (hA1.1.2 _ (by omega)) ?_
        refine jv_s11 dX2_nextToken_75 okX2_tokenOf stX2_tokenOf mlX2_35 (oc_tokenOf (by omega)) (by decide) (Nat.le_of_ble_eq_true rfl) ?_
        refine jv_goto dX2_nextToken_78 (tgt := 82) (by decide) ?_
        refine jv_putI dX2_nextToken_82 flX2_19 rfl (tk hg) rfl rfl ?_
        rw [← e2]
        refine jv_aload0 dX2_nextToken_85 ?_
        refine jv_getI dX2_nextToken_86 flX2_19 rfl (tk hg) k2 ?_
        refine jv_iconst dX2_nextToken_89 jv_c_iconst_1 ?_
        refine jv_icmp_eqN dX2_nextToken_90 (tgt := 101) (by decide) (by omega) (by omega) (fun hc90 => by omega) (fun hc90 => ?_)
        refine jv_aload0 dX2_nextToken_93 ?_
        refine jv_getI dX2_nextToken_94 flX2_19 rfl (tk hg) k2 ?_
        refine jv_iconst dX2_nextToken_97 jv_c_iconst_2 ?_
        refine jv_icmp_neN dX2_nextToken_98 (tgt := 144) (by decide) (by omega) (by omega) (fun hc98 => ?_) (fun hc98 => by omega)
        refine jv_aload0 dX2_nextToken_144 ?_
        refine jv_getI dX2_nextToken_145 flX2_19 rfl (tk hg) k2 ?_
        refine jv_if_eqN dX2_nextToken_148 (tgt := 161) (by decide) (by omega) (fun hc148 => by omega) (fun hc148 => ?_)
        refine jv_aload0 dX2_nextToken_151 ?_
        refine jv_dup dX2_nextToken_152 rfl ?_
        refine jv_getI dX2_nextToken_153 flX2_25 rfl (tk hg) k4 ?_
        refine jv_iconst dX2_nextToken_156 jv_c_iconst_1 ?_
        refine jv_iaddN dX2_nextToken_157 ?_
        refine jv_putI dX2_nextToken_158 flX2_25 rfl (tk hg) rfl rfl ?_
        exact jv_vret dX2_nextToken_161 rfl rfl rfl rfl
    · rw [if_neg hi] at ek
      rw [if_neg (by omega), if_pos ek]
      refine ⟨A2, ?_, hF2, k2, k3, k4⟩
      rw [ek] at e2 k2
      refine jv_aload0 dX2_nextToken_46 ?_
      refine jv_aload0 dX2_nextToken_47 ?_
      refine jv_getI dX2_nextToken_48 flX2_22 rfl (tk hg) h3 ?_
      refine jv_putI dX2_nextToken_51 flX2_25 rfl (tk hg) rfl rfl ?_
      rw [← e1]
      refine jv_aload0 dX2_nextToken_54 ?_
      refine jv_aload0 dX2_nextToken_55 ?_
      refine jv_getI dX2_nextToken_56 flX2_22 rfl (tk hg) g3 ?_
      refine jv_aload0 dX2_nextToken_59 ?_
      refine jv_getI dX2_nextToken_60 flX2_15 rfl (tk hg) hA1.1.1 ?_
      refine jv_icmp_geN dX2_nextToken_63 (tgt := 81) (by decide) (by omega) (by omega) (fun hc63 => ?_) (fun hc63 => by omega)
      refine jv_iconst dX2_nextToken_81 jv_c_iconst_0 ?_
      refine jv_putI dX2_nextToken_82 flX2_19 rfl (tk hg) rfl rfl ?_
      rw [← e2]
      refine jv_aload0 dX2_nextToken_85 ?_
      refine jv_getI dX2_nextToken_86 flX2_19 rfl (tk hg) k2 ?_
      refine jv_iconst dX2_nextToken_89 jv_c_iconst_1 ?_
      refine jv_icmp_eqN dX2_nextToken_90 (tgt := 101) (by decide) (by omega) (by omega) (fun hc90 => by omega) (fun hc90 => ?_)
      refine jv_aload0 dX2_nextToken_93 ?_
      refine jv_getI dX2_nextToken_94 flX2_19 rfl (tk hg) k2 ?_
      refine jv_iconst dX2_nextToken_97 jv_c_iconst_2 ?_
      refine jv_icmp_neN dX2_nextToken_98 (tgt := 144) (by decide) (by omega) (by omega) (fun hc98 => ?_) (fun hc98 => by omega)
      refine jv_aload0 dX2_nextToken_144 ?_
      refine jv_getI dX2_nextToken_145 flX2_19 rfl (tk hg) k2 ?_
      refine jv_if_eqN dX2_nextToken_148 (tgt := 161) (by decide) (by omega) (fun hc148 => ?_) (fun hc148 => by omega)
      exact jv_vret dX2_nextToken_161 rfl rfl rfl rfl
  have skip_ : ∀ (m s : Nat) (A : jv_I), n ≤ s + m → s ≤ n → ot_tf I A → A 44 3 = nI s → ∃ I2, jv_V 2 mX2_nextToken 8 [.ref 44] [] G A J none G I2 J ∧ ∃ z : Nat, z = ot_scan (ot_sp t) n s ∧ ot_tf I I2 ∧ ot_T3 I2 (if z < n then ot_kd (t z) else 0) z (if (if z < n then ot_kd (t z) else 0) = 1 ∨ (if z < n then ot_kd (t z) else 0) = 2 then ot_scan (ot_ki t (if z < n then ot_kd (t z) else 0)) n z else if (if z < n then ot_kd (t z) else 0) = 0 then z else z + 1) := by
    intro m
    induction m with
    | zero =>
      intro s A b1 b2 hF h3
      have hA := hF.tp hP
      obtain ⟨I2, hV, hQ⟩ := tok s A b2 hF h3
      refine ⟨I2, ?_, s, (ot_scan_no (by omega)).symm, hQ⟩
      refine jv_aload0 dX2_nextToken_8 ?_
      refine jv_getI dX2_nextToken_9 flX2_22 rfl (tk hg) h3 ?_
      refine jv_aload0 dX2_nextToken_12 ?_
      refine jv_getI dX2_nextToken_13 flX2_15 rfl (tk hg) hA.1.1 ?_
      refine jv_icmp_geN dX2_nextToken_16 (tgt := 46) (by decide) (by omega) (by omega) (fun hc16 => ?_) (fun hc16 => by omega)
      exact hV
    | succ m ih =>
      intro s A b1 b2 hF h3
      have hA := hF.tp hP
      by_cases hi : s < n
      · have hc := h255 s hi
        by_cases h32 : t s = 32
        · obtain ⟨I2, hV, z, hz, hQ⟩ := ih (s + 1) (jv_up A 44 3 (nI (s + 1))) (by omega) (by omega) (hF.up (by decide)) (jv_up_at _ _ _ _)
          refine ⟨I2, ?_, z, by rw [ot_scan_go hi (decide_eq_true h32)]; exact hz, hQ⟩
          refine jv_aload0 dX2_nextToken_8 ?_
          refine jv_getI dX2_nextToken_9 flX2_22 rfl (tk hg) h3 ?_
          refine jv_aload0 dX2_nextToken_12 ?_
          refine jv_getI dX2_nextToken_13 flX2_15 rfl (tk hg) hA.1.1 ?_
          refine jv_icmp_geN dX2_nextToken_16 (tgt := 46) (by decide) (by omega) (by omega) (fun hc16 => by omega) (fun hc16 => ?_)
          refine jv_aload0 dX2_nextToken_19 ?_
          refine jv_getR dX2_nextToken_20 flX2_9 rfl (tk hg) (tr_bytes hg) ?_
          refine jv_aload0 dX2_nextToken_23 ?_
          refine jv_getI dX2_nextToken_24 flX2_22 rfl (tk hg) h3 ?_
          refine jv_ialdN dX2_nextToken_27 (tk_bytes hg) (by omega) (by decide) (hA.1.2 _ (by omega)) ?_
          refine jv_bipush dX2_nextToken_28 jv_c_bipush_32 ?_
          refine jv_icmp_neN dX2_nextToken_30 (tgt := 46) (by decide) (by omega) (by omega) (fun hc30 => by omega) (fun hc30 => ?_)
          refine jv_aload0 dX2_nextToken_33 ?_
          refine jv_dup dX2_nextToken_34 rfl ?_
          refine jv_getI dX2_nextToken_35 flX2_22 rfl (tk hg) h3 ?_
          refine jv_iconst dX2_nextToken_38 jv_c_iconst_1 ?_
          refine jv_iaddN dX2_nextToken_39 ?_
          refine jv_putI dX2_nextToken_40 flX2_22 rfl (tk hg) rfl rfl ?_
          refine jv_goto dX2_nextToken_43 (tgt := 8) (by decide) ?_
          exact hV
        · obtain ⟨I2, hV, hQ⟩ := tok s A b2 hF h3
          refine ⟨I2, ?_, s, (ot_scan_no (fun z => h32 (of_decide_eq_true z.2))).symm, hQ⟩
          refine jv_aload0 dX2_nextToken_8 ?_
          refine jv_getI dX2_nextToken_9 flX2_22 rfl (tk hg) h3 ?_
          refine jv_aload0 dX2_nextToken_12 ?_
          refine jv_getI dX2_nextToken_13 flX2_15 rfl (tk hg) hA.1.1 ?_
          refine jv_icmp_geN dX2_nextToken_16 (tgt := 46) (by decide) (by omega) (by omega) (fun hc16 => by omega) (fun hc16 => ?_)
          refine jv_aload0 dX2_nextToken_19 ?_
          refine jv_getR dX2_nextToken_20 flX2_9 rfl (tk hg) (tr_bytes hg) ?_
          refine jv_aload0 dX2_nextToken_23 ?_
          refine jv_getI dX2_nextToken_24 flX2_22 rfl (tk hg) h3 ?_
          refine jv_ialdN dX2_nextToken_27 (tk_bytes hg) (by omega) (by decide) (hA.1.2 _ (by omega)) ?_
          refine jv_bipush dX2_nextToken_28 jv_c_bipush_32 ?_
          refine jv_icmp_neN dX2_nextToken_30 (tgt := 46) (by decide) (by omega) (by omega) (fun hc30 => ?_) (fun hc30 => by omega)
          exact hV
      · obtain ⟨I2, hV, hQ⟩ := tok s A b2 hF h3
        refine ⟨I2, ?_, s, (ot_scan_no (by omega)).symm, hQ⟩
        refine jv_aload0 dX2_nextToken_8 ?_
        refine jv_getI dX2_nextToken_9 flX2_22 rfl (tk hg) h3 ?_
        refine jv_aload0 dX2_nextToken_12 ?_
        refine jv_getI dX2_nextToken_13 flX2_15 rfl (tk hg) hA.1.1 ?_
        refine jv_icmp_geN dX2_nextToken_16 (tgt := 46) (by decide) (by omega) (by omega) (fun hc16 => ?_) (fun hc16 => by omega)
        exact hV
  obtain ⟨I2, hV, z, hz, hQ⟩ := skip_ n e (jv_up I 44 3 (nI e)) (by omega) he (ot_tf.rf.up (by decide)) (jv_up_at _ _ _ _)
  refine ⟨I2, ?_, ?_⟩
  · refine jv_enter okX2_nextToken (L := [.ref 44]) rfl (Nat.le_of_ble_eq_true rfl) ?_
    refine jv_aload0 dX2_nextToken_0 ?_
    refine jv_aload0 dX2_nextToken_1 ?_
    refine jv_getI dX2_nextToken_2 flX2_25 rfl (tk hg) h4 ?_
    refine jv_putI dX2_nextToken_5 flX2_22 rfl (tk hg) rfl rfl ?_
    exact hV
  · subst hz; exact hQ
theorem ot_isW_1 {t : Nat → Nat} {n e k : Nat} (h : ot_isW t n e k = true) : ot_tn t n e = 1 := by
  unfold ot_isW at h
  simp only [Bool.and_eq_true, decide_eq_true_eq] at h
  exact h.1.1
theorem ot_isW_2 {t : Nat → Nat} {n e k : Nat} (h : ot_isW t n e k = true) : ot_te t n e - ot_ts t n e = jv_len.getD k 0 := by
  unfold ot_isW at h
  simp only [Bool.and_eq_true, decide_eq_true_eq] at h
  exact h.1.2
theorem ot_isW_3 {t : Nat → Nat} {n e k : Nat} (h : ot_isW t n e k = true) : ot_eqw t (ot_ts t n e) k (jv_len.getD k 0) = true := by
  unfold ot_isW at h
  simp only [Bool.and_eq_true, decide_eq_true_eq] at h
  exact h.2
set_option maxRecDepth 20000 in
theorem oc_isWord {G : jv_Gr} {I : jv_I} {J : jv_J} (hg : ot_CG G) {n : Nat} {t : Nat → Nat} (hP : ot_tp I n t) {e k : Nat} (hk : k < 6) (he : e ≤ n) (h3 : ot_T3 I (ot_tn t n e) (ot_ts t n e) (ot_te t n e)) : jv_C 5 mX2_isWord [.ref 44, .ref (1000000 + k)] G I J (some (.int (jv_b (ot_isW t n e k = true)))) G I J := by
  have hn := hP.2.1
  have h255 := hP.2.2
  have b1 := ot_tn_4 t n e
  have b2 := ot_te_le t he
  have b3 := ot_te_ge t n e
  have b4 := ot_ts_ge t n e
  have b5 := jv_len_ok k hk
  refine jv_enter okX2_isWord (L := [.ref 44, .ref (1000000 + k), .null]) rfl (Nat.le_of_ble_eq_true rfl) ?_
  by_cases hk1 : ot_tn t n e = 1
  · by_cases hk2 : ot_te t n e - ot_ts t n e = jv_len.getD k 0
    · skip
      have loop : ∀ (m0 i : Nat) , jv_len.getD k 0 + 1 ≤ i + m0 → i ≤ jv_len.getD k 0 → ot_eqw t (ot_ts t n e) k i = true → jv_V 5 mX2_isWord 28 [.ref 44, .ref (1000000 + k), .int (nI i)] [] G I J (some (.int (jv_b (ot_isW t n e k = true)))) G I J := by
        intro m0
        induction m0 with
        | zero => intro i  h1 h2; omega
        | succ m0 ih =>
          intro i  h1 h2 ea
          refine jv_iload2 dX2_isWord_28 ?_
          refine jv_aload1 dX2_isWord_29 ?_
          refine jv_callT (k := k) (As := []) hk dX2_isWord_30 okJ0_length_8abf5 rfl inJ0_length_8abf5 seJ0_length_8abf5 mlX2_39 (jv_lengthM hk) (by decide) rfl rfl (Nat.le_of_ble_eq_true rfl) ?_
          refine jv_icmp_geN dX2_isWord_33 (tgt := 63) (by decide) (by omega) (by omega) (fun h33 => ?_) (fun h33 => ?_)
          · refine jv_iconst dX2_isWord_63 jv_c_iconst_1 ?_
            exact jv_iret dX2_isWord_64 rfl (by decide) (ot_b1 (by unfold ot_isW; rw [decide_eq_true hk1, decide_eq_true hk2, show jv_len.getD k 0 = i by omega, ea]; rfl)) rfl rfl
          · refine jv_aload0 dX2_isWord_36 ?_
            refine jv_getR dX2_isWord_37 flX2_9 rfl (tk hg) (tr_bytes hg) ?_
            refine jv_aload0 dX2_isWord_40 ?_
            refine jv_getI dX2_isWord_41 flX2_22 rfl (tk hg) h3.2.1 ?_
            refine jv_iload2 dX2_isWord_44 ?_
            refine jv_iaddN dX2_isWord_45 ?_
            refine jv_ialdN dX2_isWord_46 (tk_bytes hg) (by omega) (by decide) (hP.1.2 _ (by omega)) ?_
            refine jv_aload1 dX2_isWord_47 ?_
            refine jv_iload2 dX2_isWord_48 ?_
            refine jv_callT (k := k) (As := [.int (nI i)]) hk dX2_isWord_49 okJ0_charAt_5068e rfl inJ0_charAt_5068e seJ0_charAt_5068e mlX2_45 (jv_charAtM hk (by omega)) (by decide) rfl rfl (Nat.le_of_ble_eq_true rfl) ?_
            refine jv_icmp_eq dX2_isWord_52 (tgt := 57) (by decide) (fun h52 => ?_) (fun h52 => ?_)
            · refine jv_iinc2N dX2_isWord_57 rfl ?_
              refine jv_goto dX2_isWord_60 (tgt := 28) (by decide) ?_
              exact ih (i + 1) (by omega) (by omega) (by rw [ot_eqw, ea, decide_eq_true h52]; rfl)
            · refine jv_iconst dX2_isWord_55 jv_c_iconst_0 ?_
              exact jv_iret dX2_isWord_56 rfl (by decide) (ot_b0 (fun z => ot_eqw_no (show i < jv_len.getD k 0 by omega) h52 (ot_isW_3 z))) rfl rfl
      refine jv_aload0 dX2_isWord_0 ?_
      refine jv_getI dX2_isWord_1 flX2_19 rfl (tk hg) h3.1 ?_
      refine jv_iconst dX2_isWord_4 jv_c_iconst_1 ?_
      refine jv_icmp_neN dX2_isWord_5 (tgt := 24) (by decide) (by omega) (by omega) (fun hc5 => by omega) (fun hc5 => ?_)
      refine jv_aload0 dX2_isWord_8 ?_
      refine jv_getI dX2_isWord_9 flX2_25 rfl (tk hg) h3.2.2 ?_
      refine jv_aload0 dX2_isWord_12 ?_
      refine jv_getI dX2_isWord_13 flX2_22 rfl (tk hg) h3.2.1 ?_
      refine jv_isubN dX2_isWord_16 (by omega) ?_
      refine jv_aload1 dX2_isWord_17 ?_
      refine jv_callT (k := k) (As := []) hk dX2_isWord_18 okJ0_length_8abf5 rfl inJ0_length_8abf5 seJ0_length_8abf5 mlX2_39 (jv_lengthM hk) (by decide) rfl rfl (Nat.le_of_ble_eq_true rfl) ?_
      refine jv_icmp_eqN dX2_isWord_21 (tgt := 26) (by decide) (by omega) (by omega) (fun hc21 => ?_) (fun hc21 => by omega)
      refine jv_iconst dX2_isWord_26 jv_c_iconst_0 ?_
      refine jv_istore2 dX2_isWord_27 rfl ?_
      exact loop (jv_len.getD k 0 + 1) 0 (by omega) (by omega) rfl
    · skip
      refine jv_aload0 dX2_isWord_0 ?_
      refine jv_getI dX2_isWord_1 flX2_19 rfl (tk hg) h3.1 ?_
      refine jv_iconst dX2_isWord_4 jv_c_iconst_1 ?_
      refine jv_icmp_neN dX2_isWord_5 (tgt := 24) (by decide) (by omega) (by omega) (fun hc5 => by omega) (fun hc5 => ?_)
      refine jv_aload0 dX2_isWord_8 ?_
      refine jv_getI dX2_isWord_9 flX2_25 rfl (tk hg) h3.2.2 ?_
      refine jv_aload0 dX2_isWord_12 ?_
      refine jv_getI dX2_isWord_13 flX2_22 rfl (tk hg) h3.2.1 ?_
      refine jv_isubN dX2_isWord_16 (by omega) ?_
      refine jv_aload1 dX2_isWord_17 ?_
      refine jv_callT (k := k) (As := []) hk dX2_isWord_18 okJ0_length_8abf5 rfl inJ0_length_8abf5 seJ0_length_8abf5 mlX2_39 (jv_lengthM hk) (by decide) rfl rfl (Nat.le_of_ble_eq_true rfl) ?_
      refine jv_icmp_eqN dX2_isWord_21 (tgt := 26) (by decide) (by omega) (by omega) (fun hc21 => by omega) (fun hc21 => ?_)
      refine jv_iconst dX2_isWord_24 jv_c_iconst_0 ?_
      exact jv_iret dX2_isWord_25 rfl (by decide) (ot_b0 (fun z => hk2 (ot_isW_2 z))) rfl rfl
  · skip
    refine jv_aload0 dX2_isWord_0 ?_
    refine jv_getI dX2_isWord_1 flX2_19 rfl (tk hg) h3.1 ?_
    refine jv_iconst dX2_isWord_4 jv_c_iconst_1 ?_
    refine jv_icmp_neN dX2_isWord_5 (tgt := 24) (by decide) (by omega) (by omega) (fun hc5 => ?_) (fun hc5 => by omega)
    refine jv_iconst dX2_isWord_24 jv_c_iconst_0 ?_
    exact jv_iret dX2_isWord_25 rfl (by decide) (ot_b0 (fun z => hk1 (ot_isW_1 z))) rfl rfl
