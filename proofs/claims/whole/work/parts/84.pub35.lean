/-! ===== yard: the reference reads ===== -/
def ot_tq (I : jv_I) (n : Nat) (t : Nat → Nat) : Prop := (I 64 7 = nI n ∧ ∀ i, i < n → I (64 + 15) i = nI (t i)) ∧ n ≤ 250 ∧ ∀ i, i < n → t i ≤ 255
def ot_lf (I A : jv_I) : Prop := (∀ q, q ≠ 64 → A q = I q) ∧ ∀ j, (j < 25 ∨ 28 < j) → A 64 j = I 64 j
def ot_L4 (I : jv_I) (t : Nat → Nat) (n e : Nat) : Prop := I 64 26 = nI (ot_tn t n e) ∧ I 64 27 = nI (ot_ts t n e) ∧ I 64 25 = nI (ot_te t n e) ∧ I 64 28 = nI (ot_fg t n e)
theorem ot_lf.rf {I : jv_I} : ot_lf I I := ⟨fun _ _ => rfl, fun _ _ => rfl⟩
theorem ot_lf.tr {I A B : jv_I} (h : ot_lf I A) (h2 : ot_lf A B) : ot_lf I B := ⟨fun q hq => (h2.1 q hq).trans (h.1 q hq), fun j hj => (h2.2 j hj).trans (h.2 j hj)⟩
theorem ot_lf.up {I A : jv_I} (h : ot_lf I A) {k : Nat} {v : Int32} (hk : 25 ≤ k ∧ k ≤ 28) : ot_lf I (jv_up A 64 k v) := ⟨fun q hq => by rw [jv_up_ne _ _ _ hq]; exact h.1 q hq, fun j hj => by rw [jv_up_at_ne _ _ _ (by omega)]; exact h.2 j hj⟩
theorem ot_lf.tq {I A : jv_I} {n : Nat} {t : Nat → Nat} (h : ot_lf I A) (hP : ot_tq I n t) : ot_tq A n t := ⟨⟨(h.2 7 (by decide)).trans hP.1.1, fun i hi => by rw [h.1 (64 + 15) (by decide)]; exact hP.1.2 i hi⟩, hP.2⟩
theorem ot_kd_1 (b : Nat) : ot_kd b = 1 ↔ 97 ≤ b ∧ b ≤ 122 := by
  unfold ot_kd
  split
  · rename_i h; exact ⟨fun _ => h, fun _ => rfl⟩
  · rename_i h
    refine ⟨fun z => ?_, fun z => absurd z h⟩
    split at z
    · omega
    · split at z <;> omega
theorem ot_kd_2 (b : Nat) : ot_kd b = 2 ↔ 48 ≤ b ∧ b ≤ 57 := by
  unfold ot_kd
  split
  · omega
  · split
    · rename_i h; exact ⟨fun _ => h, fun _ => rfl⟩
    · rename_i h
      refine ⟨fun z => ?_, fun z => absurd z h⟩
      split at z <;> omega
theorem ot_kd_34 {b : Nat} (h1 : ¬ ot_kd b = 1) (h2 : ¬ ot_kd b = 2) : ot_kd b = if b = 59 then 3 else 4 := by
  rw [ot_kd_1] at h1
  rw [ot_kd_2] at h2
  unfold ot_kd
  rw [if_neg h1, if_neg h2]
theorem ot_fm_next {t : Nat → Nat} {s m : Nat} (h : m < 2) : ot_fm t s (m + 1) = ot_fm t s m * 10 + t (s + m) - 48 := by
  unfold ot_fm
  rw [if_pos (by omega), if_pos (by omega), ot_dec, Nat.mul_comm]
theorem ot_fm_long {t : Nat → Nat} {s m : Nat} (h : ¬ m < 2) : ot_fm t s (m + 1) = 1000 := by
  unfold ot_fm
  rw [if_neg (by omega)]
theorem ot_fm_le {t : Nat → Nat} {s m : Nat} (h : ∀ j, j < m → t (s + j) ≤ 255) : ot_fm t s m ≤ 40000 := by
  unfold ot_fm
  split
  · exact ot_dec_le m (by omega) h
  · omega
set_option maxRecDepth 20000 in
theorem om_isLetter {G : jv_Gr} {I : jv_I} {J : jv_J} {b : Nat} (hb : b < 2 ^ 30) : jv_C 1 mX5_isLetter [.int (nI b)] G I J (some (.int (jv_b (ot_kd b = 1)))) G I J := by
  refine jv_enter okX5_isLetter (L := [.int (nI b)]) rfl (Nat.le_of_ble_eq_true rfl) ?_
  refine jv_iload0 dX5_isLetter_0 ?_
  refine jv_bipush dX5_isLetter_1 jv_c_bipush_97 ?_
  refine jv_icmp_ltN dX5_isLetter_3 (tgt := 16) (by decide) (by omega) (by omega) (fun hc3 => ?_) (fun hc3 => ?_)
  · refine jv_iconst dX5_isLetter_16 jv_c_iconst_0 ?_
    exact jv_iret dX5_isLetter_17 rfl (by decide) (ot_b0 (fun z => by have := (ot_kd_1 b).mp z; omega)) rfl rfl
  · refine jv_iload0 dX5_isLetter_6 ?_
    refine jv_bipush dX5_isLetter_7 jv_c_bipush_122 ?_
    refine jv_icmp_gtN dX5_isLetter_9 (tgt := 16) (by decide) (by omega) (by omega) (fun hc9 => ?_) (fun hc9 => ?_)
    · refine jv_iconst dX5_isLetter_16 jv_c_iconst_0 ?_
      exact jv_iret dX5_isLetter_17 rfl (by decide) (ot_b0 (fun z => by have := (ot_kd_1 b).mp z; omega)) rfl rfl
    · refine jv_iconst dX5_isLetter_12 jv_c_iconst_1 ?_
      refine jv_goto dX5_isLetter_13 (tgt := 17) (by decide) ?_
      exact jv_iret dX5_isLetter_17 rfl (by decide) (ot_b1 ((ot_kd_1 b).mpr (by omega))) rfl rfl
set_option maxRecDepth 20000 in
theorem om_isDigit {G : jv_Gr} {I : jv_I} {J : jv_J} {b : Nat} (hb : b < 2 ^ 30) : jv_C 1 mX5_isDigit [.int (nI b)] G I J (some (.int (jv_b (ot_kd b = 2)))) G I J := by
  refine jv_enter okX5_isDigit (L := [.int (nI b)]) rfl (Nat.le_of_ble_eq_true rfl) ?_
  refine jv_iload0 dX5_isDigit_0 ?_
  refine jv_bipush dX5_isDigit_1 jv_c_bipush_48 ?_
  refine jv_icmp_ltN dX5_isDigit_3 (tgt := 16) (by decide) (by omega) (by omega) (fun hc3 => ?_) (fun hc3 => ?_)
  · refine jv_iconst dX5_isDigit_16 jv_c_iconst_0 ?_
    exact jv_iret dX5_isDigit_17 rfl (by decide) (ot_b0 (fun z => by have := (ot_kd_2 b).mp z; omega)) rfl rfl
  · refine jv_iload0 dX5_isDigit_6 ?_
    refine jv_bipush dX5_isDigit_7 jv_c_bipush_57 ?_
    refine jv_icmp_gtN dX5_isDigit_9 (tgt := 16) (by decide) (by omega) (by omega) (fun hc9 => ?_) (fun hc9 => ?_)
    · refine jv_iconst dX5_isDigit_16 jv_c_iconst_0 ?_
      exact jv_iret dX5_isDigit_17 rfl (by decide) (ot_b0 (fun z => by have := (ot_kd_2 b).mp z; omega)) rfl rfl
    · refine jv_iconst dX5_isDigit_12 jv_c_iconst_1 ?_
      refine jv_goto dX5_isDigit_13 (tgt := 17) (by decide) ?_
      exact jv_iret dX5_isDigit_17 rfl (by decide) (ot_b1 ((ot_kd_2 b).mpr (by omega))) rfl rfl
set_option maxRecDepth 20000 in
theorem om_look {G : jv_Gr} {I : jv_I} {J : jv_J} (hG : ot_MG G 64) {n : Nat} {t : Nat → Nat} (hP : ot_tq I n t) {e : Nat} (he : e ≤ n) (h25 : I 64 25 = nI e) : ∃ I2, jv_C 2 mX5_look [.ref 64] G I J none G I2 J ∧ ot_lf I I2 ∧ ot_L4 I2 t n e := by
  have hn := hP.2.1
  have h255 := hP.2.2
  have runL : ∀ (s m e : Nat) (A : jv_I), n ≤ e + m → e ≤ n → ot_lf I A → A 64 26 = nI 1 → A 64 27 = nI s → A 64 25 = nI e → A 64 28 = nI 0 → ∃ I2, jv_V 2 mX5_look 90 [.ref 64] [] G A J none G I2 J ∧ ot_lf I I2 ∧ I2 64 26 = nI 1 ∧ I2 64 27 = nI s ∧ I2 64 25 = nI (ot_scan (ot_ki t 1) n e) ∧ I2 64 28 = nI 0 := by
    intro s m
    induction m with
    | zero =>
      intro e A b1 b2 hF h26 h27 h25 h28
      have hA := hF.tq hP
      refine ⟨A, ?_, hF, h26, h27, by rw [ot_scan_no (by omega)]; exact h25, h28⟩
      refine jv_aload0 dX5_look_90 ?_
      refine jv_getI dX5_look_91 flX5_157 rfl (mk hG) h25 ?_
      refine jv_aload0 dX5_look_94 ?_
      refine jv_getI dX5_look_95 flX5_154 rfl (mk hG) hA.1.1 ?_
      refine jv_icmp_geN dX5_look_98 (tgt := 264) (by decide) (by omega) (by omega) (fun hc98 => ?_) (fun hc98 => by omega)
      exact jv_vret dX5_look_264 rfl rfl rfl rfl
    | succ m ih =>
      intro e A b1 b2 hF h26 h27 h25 h28
      have hA := hF.tq hP
      by_cases hi : e < n
      · have hc := h255 e hi
        by_cases hk : ot_kd (t e) = 1
        · obtain ⟨I2, hV, p1, p2, p3, p4, p5⟩ := ih (e + 1) (jv_up A 64 25 (nI (e + 1))) (by omega) (by omega) (hF.up (by decide)) (by rw [jv_up_at_ne _ _ _ (by decide)]; exact h26) (by rw [jv_up_at_ne _ _ _ (by decide)]; exact h27) (jv_up_at _ _ _ _) (by rw [jv_up_at_ne _ _ _ (by decide)]; exact h28)
          refine ⟨I2, ?_, p1, p2, p3, by rw [ot_scan_go hi (decide_eq_true hk)]; exact p4, p5⟩
          refine jv_aload0 dX5_look_90 ?_
          refine jv_getI dX5_look_91 flX5_157 rfl (mk hG) h25 ?_
          refine jv_aload0 dX5_look_94 ?_
          refine jv_getI dX5_look_95 flX5_154 rfl (mk hG) hA.1.1 ?_
          refine jv_icmp_geN dX5_look_98 (tgt := 264) (by decide) (by omega) (by omega) (fun hc98 => by omega) (fun hc98 => ?_)
          refine jv_aload0 dX5_look_101 ?_
          refine jv_getR dX5_look_102 flX5_31 rfl (mk hG) (mr_tape hG) ?_
          refine jv_aload0 dX5_look_105 ?_
          refine jv_getI dX5_look_106 flX5_157 rfl (mk hG) h25 ?_
          refine jv_ialdN dX5_look_109 (mk_tape hG) (by omega) (by decide) (hA.1.2 _ (by omega)) ?_
          refine jv_s11 dX5_look_110 okX5_isLetter stX5_isLetter mlX5_169 (om_isLetter (by omega)) (by decide) (Nat.le_of_ble_eq_true rfl) ?_
          refine jv_if_eqB dX5_look_113 (tgt := 264) (by decide) (fun hz => absurd hk hz) (fun hz => ?_)
          refine jv_aload0 dX5_look_116 ?_
          refine jv_dup dX5_look_117 rfl ?_
          refine jv_getI dX5_look_118 flX5_157 rfl (mk hG) h25 ?_
          refine jv_iconst dX5_look_121 jv_c_iconst_1 ?_
          refine jv_iaddN dX5_look_122 ?_
          refine jv_putI dX5_look_123 flX5_157 rfl (mk hG) rfl rfl ?_
          refine jv_goto dX5_look_126 (tgt := 90) (by decide) ?_
          exact hV
        · refine ⟨A, ?_, hF, h26, h27, by rw [ot_scan_no (fun z => hk (of_decide_eq_true z.2))]; exact h25, h28⟩
          refine jv_aload0 dX5_look_90 ?_
          refine jv_getI dX5_look_91 flX5_157 rfl (mk hG) h25 ?_
          refine jv_aload0 dX5_look_94 ?_
          refine jv_getI dX5_look_95 flX5_154 rfl (mk hG) hA.1.1 ?_
          refine jv_icmp_geN dX5_look_98 (tgt := 264) (by decide) (by omega) (by omega) (fun hc98 => by omega) (fun hc98 => ?_)
          refine jv_aload0 dX5_look_101 ?_
          refine jv_getR dX5_look_102 flX5_31 rfl (mk hG) (mr_tape hG) ?_
          refine jv_aload0 dX5_look_105 ?_
          refine jv_getI dX5_look_106 flX5_157 rfl (mk hG) h25 ?_
          refine jv_ialdN dX5_look_109 (mk_tape hG) (by omega) (by decide) (hA.1.2 _ (by omega)) ?_
          refine jv_s11 dX5_look_110 okX5_isLetter stX5_isLetter mlX5_169 (om_isLetter (by omega)) (by decide) (Nat.le_of_ble_eq_true rfl) ?_
          refine jv_if_eqB dX5_look_113 (tgt := 264) (by decide) (fun hz => ?_) (fun hz => absurd hz hk)
          exact jv_vret dX5_look_264 rfl rfl rfl rfl
      · refine ⟨A, ?_, hF, h26, h27, by rw [ot_scan_no (by omega)]; exact h25, h28⟩
        refine jv_aload0 dX5_look_90 ?_
        refine jv_getI dX5_look_91 flX5_157 rfl (mk hG) h25 ?_
        refine jv_aload0 dX5_look_94 ?_
        refine jv_getI dX5_look_95 flX5_154 rfl (mk hG) hA.1.1 ?_
        refine jv_icmp_geN dX5_look_98 (tgt := 264) (by decide) (by omega) (by omega) (fun hc98 => ?_) (fun hc98 => by omega)
        exact jv_vret dX5_look_264 rfl rfl rfl rfl
  have runD : ∀ (s m e : Nat) (A : jv_I), n ≤ e + m → e ≤ n → s ≤ e → ot_lf I A → A 64 26 = nI 2 → A 64 27 = nI s → A 64 25 = nI e → A 64 28 = nI (ot_fm t s (e - s)) → ∃ I2, jv_V 2 mX5_look 149 [.ref 64] [] G A J none G I2 J ∧ ot_lf I I2 ∧ I2 64 26 = nI 2 ∧ I2 64 27 = nI s ∧ I2 64 25 = nI (ot_scan (ot_ki t 2) n e) ∧ I2 64 28 = nI (ot_fm t s (ot_scan (ot_ki t 2) n e - s)) := by
    intro s m
    induction m with
    | zero =>
      intro e A b1 b2 b3 hF h26 h27 h25 h28
      have hA := hF.tq hP
      refine ⟨A, ?_, hF, h26, h27, by rw [ot_scan_no (by omega)]; exact h25, by rw [ot_scan_no (by omega)]; exact h28⟩
      refine jv_aload0 dX5_look_149 ?_
      refine jv_getI dX5_look_150 flX5_157 rfl (mk hG) h25 ?_
      refine jv_aload0 dX5_look_153 ?_
      refine jv_getI dX5_look_154 flX5_154 rfl (mk hG) hA.1.1 ?_
      refine jv_icmp_geN dX5_look_157 (tgt := 264) (by decide) (by omega) (by omega) (fun hc157 => ?_) (fun hc157 => by omega)
      exact jv_vret dX5_look_264 rfl rfl rfl rfl
    | succ m ih =>
      intro e A b1 b2 b3 hF h26 h27 h25 h28
      have hA := hF.tq hP
      have hfl : ot_fm t s (e - s) ≤ 40000 := ot_fm_le (fun j hj => h255 _ (by omega))
      by_cases hi : e < n
      · have hc := h255 e hi
        by_cases hk : ot_kd (t e) = 2
        · have hd := (ot_kd_2 _).mp hk
          have key : ∀ (x : Nat), x = ot_fm t s (e + 1 - s) → ∃ I2, jv_V 2 mX5_look 149 [.ref 64] [] G (jv_up (jv_up A 64 28 (nI x)) 64 25 (nI (e + 1))) J none G I2 J ∧ ot_lf I I2 ∧ I2 64 26 = nI 2 ∧ I2 64 27 = nI s ∧ I2 64 25 = nI (ot_scan (ot_ki t 2) n e) ∧ I2 64 28 = nI (ot_fm t s (ot_scan (ot_ki t 2) n e - s)) := fun x hx => by
            obtain ⟨I2, hV, p1, p2, p3, p4, p5⟩ := ih (e + 1) (jv_up (jv_up A 64 28 (nI x)) 64 25 (nI (e + 1))) (by omega) (by omega) (by omega) ((hF.up (by decide)).up (by decide)) (by rw [jv_up_at_ne _ _ _ (by decide), jv_up_at_ne _ _ _ (by decide)]; exact h26) (by rw [jv_up_at_ne _ _ _ (by decide), jv_up_at_ne _ _ _ (by decide)]; exact h27) (jv_up_at _ _ _ _) (by rw [jv_up_at_ne _ _ _ (by decide), jv_up_at, hx])
            refine ⟨I2, hV, p1, p2, p3, ?_, ?_⟩
            · rw [ot_scan_go hi (decide_eq_true hk)]; exact p4
            · rw [ot_scan_go hi (decide_eq_true hk)]; exact p5
          by_cases h2 : e - s < 2
          · obtain ⟨I2, hV, hQ⟩ := key (ot_fm t s (e - s) * 10 + t e - 48) (by rw [show e + 1 - s = (e - s) + 1 by omega, ot_fm_next h2, show s + (e - s) = e by omega])
            obtain ⟨A1, e1⟩ : ∃ A1, A1 = jv_up A 64 28 (nI (ot_fm t s (e - s) * 10 + t e - 48)) := ⟨_, rfl⟩
            have g25 : A1 64 25 = nI e := by rw [e1, jv_up_at_ne _ _ _ (by decide)]; exact h25
            rw [← e1] at hV
            refine ⟨I2, ?_, hQ⟩
            refine jv_aload0 dX5_look_149 ?_
            refine jv_getI dX5_look_150 flX5_157 rfl (mk hG) h25 ?_
            refine jv_aload0 dX5_look_153 ?_
            refine jv_getI dX5_look_154 flX5_154 rfl (mk hG) hA.1.1 ?_
            refine jv_icmp_geN dX5_look_157 (tgt := 264) (by decide) (by omega) (by omega) (fun hc157 => by omega) (fun hc157 => ?_)
            refine jv_aload0 dX5_look_160 ?_
            refine jv_getR dX5_look_161 flX5_31 rfl (mk hG) (mr_tape hG) ?_
            refine jv_aload0 dX5_look_164 ?_
            refine jv_getI dX5_look_165 flX5_157 rfl (mk hG) h25 ?_
            refine jv_ialdN dX5_look_168 (mk_tape hG) (by omega) (by decide) (hA.1.2 _ (by omega)) ?_
            refine jv_s11 dX5_look_169 okX5_isDigit stX5_isDigit mlX5_172 (om_isDigit (by omega)) (by decide) (Nat.le_of_ble_eq_true rfl) ?_
            refine jv_if_eqB dX5_look_172 (tgt := 264) (by decide) (fun hz => absurd hk hz) (fun hz => ?_)
            refine jv_aload0 dX5_look_175 ?_
            refine jv_aload0 dX5_look_176 ?_
            refine jv_getI dX5_look_177 flX5_157 rfl (mk hG) h25 ?_
            refine jv_aload0 dX5_look_180 ?_
            refine jv_getI dX5_look_181 flX5_160 rfl (mk hG) h27 ?_
            refine jv_isubN dX5_look_184 (by omega) ?_
            refine jv_iconst dX5_look_185 jv_c_iconst_2 ?_
            refine jv_icmp_geN dX5_look_186 (tgt := 212) (by decide) (by omega) (by omega) (fun hc186 => by omega) (fun hc186 => ?_)
            refine jv_aload0 dX5_look_189 ?_
            refine jv_getI dX5_look_190 flX5_163 rfl (mk hG) h28 ?_
            refine jv_bipush dX5_look_193 jv_c_bipush_10 ?_
            refine jv_imulN dX5_look_195 ?_
            refine jv_aload0 dX5_look_196 ?_
            refine jv_getR dX5_look_197 flX5_31 rfl (mk hG) (mr_tape hG) ?_
            refine jv_aload0 dX5_look_200 ?_
            refine jv_getI dX5_look_201 flX5_157 rfl (mk hG) h25 ?_
            refine jv_ialdN dX5_look_204 (mk_tape hG) (by omega) (by decide) (hA.1.2 _ (by omega)) ?_
            refine jv_iaddN dX5_look_205 ?_
            refine jv_bipush dX5_look_206 jv_c_bipush_48 ?_
            refine jv_isubN dX5_look_208 (by omega) ?_
            refine jv_goto dX5_look_209 (tgt := 215) (by decide) ?_
            refine jv_putI dX5_look_215 flX5_163 rfl (mk hG) rfl rfl ?_
            rw [← e1]
            refine jv_aload0 dX5_look_218 ?_
            refine jv_dup dX5_look_219 rfl ?_
            refine jv_getI dX5_look_220 flX5_157 rfl (mk hG) g25 ?_
            refine jv_iconst dX5_look_223 jv_c_iconst_1 ?_
            refine jv_iaddN dX5_look_224 ?_
            refine jv_putI dX5_look_225 flX5_157 rfl (mk hG) rfl rfl ?_
            refine jv_goto dX5_look_228 (tgt := 149) (by decide) ?_
            exact hV
          · obtain ⟨I2, hV, hQ⟩ := key 1000 (by rw [show e + 1 - s = (e - s) + 1 by omega, ot_fm_long h2])
            obtain ⟨A1, e1⟩ : ∃ A1, A1 = jv_up A 64 28 (nI 1000) := ⟨_, rfl⟩
            have g25 : A1 64 25 = nI e := by rw [e1, jv_up_at_ne _ _ _ (by decide)]; exact h25
            rw [← e1] at hV
            refine ⟨I2, ?_, hQ⟩
            refine jv_aload0 dX5_look_149 ?_
            refine jv_getI dX5_look_150 flX5_157 rfl (mk hG) h25 ?_
            refine jv_aload0 dX5_look_153 ?_
            refine jv_getI dX5_look_154 flX5_154 rfl (mk hG) hA.1.1 ?_
            refine jv_icmp_geN dX5_look_157 (tgt := 264) (by decide) (by omega) (by omega) (fun hc157 => by omega) (fun hc157 => ?_)
            refine jv_aload0 dX5_look_160 ?_
            refine jv_getR dX5_look_161 flX5_31 rfl (mk hG) (mr_tape hG) ?_
            refine jv_aload0 dX5_look_164 ?_
            refine jv_getI dX5_look_165 flX5_157 rfl (mk hG) h25 ?_
            refine jv_ialdN dX5_look_168 (mk_tape hG) (by omega) (by decide) (hA.1.2 _ (by omega)) ?_
            refine jv_s11 dX5_look_169 okX5_isDigit stX5_isDigit mlX5_172 (om_isDigit (by omega)) (by decide) (Nat.le_of_ble_eq_true rfl) ?_
            refine jv_if_eqB dX5_look_172 (tgt := 264) (by decide) (fun hz => absurd hk hz) (fun hz => ?_)
            refine jv_aload0 dX5_look_175 ?_
            refine jv_aload0 dX5_look_176 ?_
            refine jv_getI dX5_look_177 flX5_157 rfl (mk hG) h25 ?_
            refine jv_aload0 dX5_look_180 ?_
            refine jv_getI dX5_look_181 flX5_160 rfl (mk hG) h27 ?_
            refine jv_isubN dX5_look_184 (by omega) ?_
            refine jv_iconst dX5_look_185 jv_c_iconst_2 ?_
            refine jv_icmp_geN dX5_look_186 (tgt := 212) (by decide) (by omega) (by omega) (fun hc186 => ?_) (fun hc186 => by omega)
            refine jv_sipush dX5_look_212 jv_c_sipush_1000 ?_
            refine jv_putI dX5_look_215 flX5_163 rfl (mk hG) rfl rfl ?_
            rw [← e1]
            refine jv_aload0 dX5_look_218 ?_
            refine jv_dup dX5_look_219 rfl ?_
            refine jv_getI dX5_look_220 flX5_157 rfl (mk hG) g25 ?_
            refine jv_iconst dX5_look_223 jv_c_iconst_1 ?_
            refine jv_iaddN dX5_look_224 ?_
            refine jv_putI dX5_look_225 flX5_157 rfl (mk hG) rfl rfl ?_
            refine jv_goto dX5_look_228 (tgt := 149) (by decide) ?_
            exact hV
        · refine ⟨A, ?_, hF, h26, h27, by rw [ot_scan_no (fun z => hk (of_decide_eq_true z.2))]; exact h25, by rw [ot_scan_no (fun z => hk (of_decide_eq_true z.2))]; exact h28⟩
          refine jv_aload0 dX5_look_149 ?_
          refine jv_getI dX5_look_150 flX5_157 rfl (mk hG) h25 ?_
          refine jv_aload0 dX5_look_153 ?_
          refine jv_getI dX5_look_154 flX5_154 rfl (mk hG) hA.1.1 ?_
          refine jv_icmp_geN dX5_look_157 (tgt := 264) (by decide) (by omega) (by omega) (fun hc157 => by omega) (fun hc157 => ?_)
          refine jv_aload0 dX5_look_160 ?_
          refine jv_getR dX5_look_161 flX5_31 rfl (mk hG) (mr_tape hG) ?_
          refine jv_aload0 dX5_look_164 ?_
          refine jv_getI dX5_look_165 flX5_157 rfl (mk hG) h25 ?_
          refine jv_ialdN dX5_look_168 (mk_tape hG) (by omega) (by decide) (hA.1.2 _ (by omega)) ?_
          refine jv_s11 dX5_look_169 okX5_isDigit stX5_isDigit mlX5_172 (om_isDigit (by omega)) (by decide) (Nat.le_of_ble_eq_true rfl) ?_
          refine jv_if_eqB dX5_look_172 (tgt := 264) (by decide) (fun hz => ?_) (fun hz => absurd hz hk)
          exact jv_vret dX5_look_264 rfl rfl rfl rfl
      · refine ⟨A, ?_, hF, h26, h27, by rw [ot_scan_no (by omega)]; exact h25, by rw [ot_scan_no (by omega)]; exact h28⟩
        refine jv_aload0 dX5_look_149 ?_
        refine jv_getI dX5_look_150 flX5_157 rfl (mk hG) h25 ?_
        refine jv_aload0 dX5_look_153 ?_
        refine jv_getI dX5_look_154 flX5_154 rfl (mk hG) hA.1.1 ?_
        refine jv_icmp_geN dX5_look_157 (tgt := 264) (by decide) (by omega) (by omega) (fun hc157 => ?_) (fun hc157 => by omega)
        exact jv_vret dX5_look_264 rfl rfl rfl rfl
  have tok : ∀ (s : Nat) (A : jv_I), s ≤ n → ot_lf I A → A 64 25 = nI s → ∃ I2, jv_V 2 mX5_look 38 [.ref 64] [] G A J none G I2 J ∧ ot_lf I I2 ∧ I2 64 26 = nI (if s < n then ot_kd (t s) else 0) ∧ I2 64 27 = nI s ∧ I2 64 25 = nI (if (if s < n then ot_kd (t s) else 0) = 1 ∨ (if s < n then ot_kd (t s) else 0) = 2 then ot_scan (ot_ki t (if s < n then ot_kd (t s) else 0)) n s else if (if s < n then ot_kd (t s) else 0) = 0 then s else s + 1) ∧ I2 64 28 = nI (if (if s < n then ot_kd (t s) else 0) = 2 then ot_fm t s ((if (if s < n then ot_kd (t s) else 0) = 1 ∨ (if s < n then ot_kd (t s) else 0) = 2 then ot_scan (ot_ki t (if s < n then ot_kd (t s) else 0)) n s else if (if s < n then ot_kd (t s) else 0) = 0 then s else s + 1) - s) else 0) := by
    intro s A hs hF h25
    have hA := hF.tq hP
    obtain ⟨A1, e1⟩ : ∃ A1, A1 = jv_up A 64 27 (nI s) := ⟨_, rfl⟩
    have hF1 : ot_lf I A1 := by rw [e1]; exact hF.up (by decide)
    have g25 : A1 64 25 = nI s := by rw [e1, jv_up_at_ne _ _ _ (by decide)]; exact h25
    have g27 : A1 64 27 = nI s := by rw [e1]; exact jv_up_at _ _ _ _
    obtain ⟨A2, e2⟩ : ∃ A2, A2 = jv_up A1 64 28 (nI 0) := ⟨_, rfl⟩
    have hF2 : ot_lf I A2 := by rw [e2]; exact hF1.up (by decide)
    have hA2 := hF2.tq hP
    have k25 : A2 64 25 = nI s := by rw [e2, jv_up_at_ne _ _ _ (by decide)]; exact g25
    have k27 : A2 64 27 = nI s := by rw [e2, jv_up_at_ne _ _ _ (by decide)]; exact g27
    have k28 : A2 64 28 = nI 0 := by rw [e2]; exact jv_up_at _ _ _ _
    obtain ⟨k, ek⟩ : ∃ k, k = (if s < n then ot_kd (t s) else 0) := ⟨_, rfl⟩
    rw [← ek]
    have m3 : ∀ v, (jv_up A2 64 26 (nI v)) 64 26 = nI v ∧ (jv_up A2 64 26 (nI v)) 64 27 = nI s ∧ (jv_up A2 64 26 (nI v)) 64 25 = nI s ∧ (jv_up A2 64 26 (nI v)) 64 28 = nI 0 := fun v => ⟨jv_up_at _ _ _ _, by rw [jv_up_at_ne _ _ _ (by decide)]; exact k27, by rw [jv_up_at_ne _ _ _ (by decide)]; exact k25, by rw [jv_up_at_ne _ _ _ (by decide)]; exact k28⟩
    by_cases hi : s < n
    · rw [if_pos hi] at ek
      have hkd := ot_kd_pos (t s)
      have hc := h255 s hi
      by_cases hk1 : ot_kd (t s) = 1
      · rw [hk1] at ek
        rw [ek, if_pos (.inl rfl), if_neg (by decide)]
        have m := m3 1
        obtain ⟨I2, hV, hQ⟩ := runL s n s (jv_up A2 64 26 (nI 1)) (by omega) (by omega) (hF2.up (by decide)) m.1 m.2.1 m.2.2.1 m.2.2.2
        refine ⟨I2, ?_, hQ⟩
        refine jv_aload0 dX5_look_38 ?_
        refine jv_aload0 dX5_look_39 ?_
        refine jv_getI dX5_look_40 flX5_157 rfl (mk hG) h25 ?_
        refine jv_putI dX5_look_43 flX5_160 rfl (mk hG) rfl rfl ?_
        rw [← e1]
        refine jv_aload0 dX5_look_46 ?_
        refine jv_iconst dX5_look_47 jv_c_iconst_0 ?_
        refine jv_putI dX5_look_48 flX5_163 rfl (mk hG) rfl rfl ?_
        rw [← e2]
        refine jv_aload0 dX5_look_51 ?_
        refine jv_getI dX5_look_52 flX5_157 rfl (mk hG) k25 ?_
        refine jv_aload0 dX5_look_55 ?_
        refine jv_getI dX5_look_56 flX5_154 rfl (mk hG) hA2.1.1 ?_
        refine jv_icmp_neN dX5_look_59 (tgt := 70) (by decide) (by omega) (by omega) (fun hc59 => ?_) (fun hc59 => by omega)
        refine jv_aload0 dX5_look_70 ?_
        refine jv_getR dX5_look_71 flX5_31 rfl (mk hG) (mr_tape hG) ?_
        refine jv_aload0 dX5_look_74 ?_
        refine jv_getI dX5_look_75 flX5_157 rfl (mk hG) k25 ?_
        refine jv_ialdN dX5_look_78 (mk_tape hG) (by omega) (by decide) (hA2.1.2 _ (by omega)) ?_
        refine jv_s11 dX5_look_79 okX5_isLetter stX5_isLetter mlX5_169 (om_isLetter (by omega)) (by decide) (Nat.le_of_ble_eq_true rfl) ?_
        refine jv_if_eqB dX5_look_82 (tgt := 129) (by decide) (fun hz => absurd hk1 hz) (fun hz => ?_)
        refine jv_aload0 dX5_look_85 ?_
        refine jv_iconst dX5_look_86 jv_c_iconst_1 ?_
        refine jv_putI dX5_look_87 flX5_166 rfl (mk hG) rfl rfl ?_
        exact hV
      · by_cases hk2 : ot_kd (t s) = 2
        · rw [hk2] at ek
          rw [ek, if_pos (.inr rfl), if_pos rfl]
          have m := m3 2
          obtain ⟨I2, hV, hQ⟩ := runD s n s (jv_up A2 64 26 (nI 2)) (by omega) (by omega) (by omega) (hF2.up (by decide)) m.1 m.2.1 m.2.2.1 (by rw [Nat.sub_self]; exact m.2.2.2)
          refine ⟨I2, ?_, hQ⟩
          refine jv_aload0 dX5_look_38 ?_
          refine jv_aload0 dX5_look_39 ?_
          refine jv_getI dX5_look_40 flX5_157 rfl (mk hG) h25 ?_
          refine jv_putI dX5_look_43 flX5_160 rfl (mk hG) rfl rfl ?_
          rw [← e1]
          refine jv_aload0 dX5_look_46 ?_
          refine jv_iconst dX5_look_47 jv_c_iconst_0 ?_
          refine jv_putI dX5_look_48 flX5_163 rfl (mk hG) rfl rfl ?_
          rw [← e2]
          refine jv_aload0 dX5_look_51 ?_
          refine jv_getI dX5_look_52 flX5_157 rfl (mk hG) k25 ?_
          refine jv_aload0 dX5_look_55 ?_
          refine jv_getI dX5_look_56 flX5_154 rfl (mk hG) hA2.1.1 ?_
          refine jv_icmp_neN dX5_look_59 (tgt := 70) (by decide) (by omega) (by omega) (fun hc59 => ?_) (fun hc59 => by omega)
          refine jv_aload0 dX5_look_70 ?_
          refine jv_getR dX5_look_71 flX5_31 rfl (mk hG) (mr_tape hG) ?_
          refine jv_aload0 dX5_look_74 ?_
          refine jv_getI dX5_look_75 flX5_157 rfl (mk hG) k25 ?_
          refine jv_ialdN dX5_look_78 (mk_tape hG) (by omega) (by decide) (hA2.1.2 _ (by omega)) ?_
          refine jv_s11 dX5_look_79 okX5_isLetter stX5_isLetter mlX5_169 (om_isLetter (by omega)) (by decide) (Nat.le_of_ble_eq_true rfl) ?_
          refine jv_if_eqB dX5_look_82 (tgt := 129) (by decide) (fun hz => ?_) (fun hz => absurd hz hk1)
          refine jv_aload0 dX5_look_129 ?_
          refine jv_getR dX5_look_130 flX5_31 rfl (mk hG) (mr_tape hG) ?_
          refine jv_aload0 dX5_look_133 ?_
          refine jv_getI dX5_look_134 flX5_157 rfl (mk hG) k25 ?_
          refine jv_ialdN dX5_look_137 (mk_tape hG) (by omega) (by decide) (hA2.1.2 _ (by omega)) ?_
          refine jv_s11 dX5_look_138 okX5_isDigit stX5_isDigit mlX5_172 (om_isDigit (by omega)) (by decide) (Nat.le_of_ble_eq_true rfl) ?_
          refine jv_if_eqB dX5_look_141 (tgt := 231) (by decide) (fun hz => absurd hk2 hz) (fun hz => ?_)
          refine jv_aload0 dX5_look_144 ?_
          refine jv_iconst dX5_look_145 jv_c_iconst_2 ?_
          refine jv_putI dX5_look_146 flX5_166 rfl (mk hG) rfl rfl ?_
          exact hV
        · have h34 := ot_kd_34 hk1 hk2
          rw [if_neg (by omega), if_neg (by omega), if_neg (by omega)]
          have m := m3 k
          obtain ⟨A3, e3⟩ : ∃ A3, A3 = jv_up A2 64 26 (nI k) := ⟨_, rfl⟩
          have hF3 : ot_lf I A3 := by rw [e3]; exact hF2.up (by decide)
          rw [← e3] at m
          have m25 := m.2.2.1
          refine ⟨jv_up A3 64 25 (nI (s + 1)), ?_, hF3.up (by decide), by rw [jv_up_at_ne _ _ _ (by decide)]; exact m.1, by rw [jv_up_at_ne _ _ _ (by decide)]; exact m.2.1, jv_up_at _ _ _ _, by rw [jv_up_at_ne _ _ _ (by decide)]; exact m.2.2.2⟩
          by_cases h59 : t s = 59
          · rw [if_pos h59] at h34
            rw [ek, h34] at e3
            refine jv_aload0 dX5_look_38 ?_
            refine jv_aload0 dX5_look_39 ?_
            refine jv_getI dX5_look_40 flX5_157 rfl (mk hG) h25 ?_
            refine jv_putI dX5_look_43 flX5_160 rfl (mk hG) rfl rfl ?_
            rw [← e1]
            refine jv_aload0 dX5_look_46 ?_
            refine jv_iconst dX5_look_47 jv_c_iconst_0 ?_
            refine jv_putI dX5_look_48 flX5_163 rfl (mk hG) rfl rfl ?_
            rw [← e2]
            refine jv_aload0 dX5_look_51 ?_
            refine jv_getI dX5_look_52 flX5_157 rfl (mk hG) k25 ?_
            refine jv_aload0 dX5_look_55 ?_
            refine jv_getI dX5_look_56 flX5_154 rfl (mk hG) hA2.1.1 ?_
            refine jv_icmp_neN dX5_look_59 (tgt := 70) (by decide) (by omega) (by omega) (fun hc59 => ?_) (fun hc59 => by omega)
            refine jv_aload0 dX5_look_70 ?_
            refine jv_getR dX5_look_71 flX5_31 rfl (mk hG) (mr_tape hG) ?_
            refine jv_aload0 dX5_look_74 ?_
            refine jv_getI dX5_look_75 flX5_157 rfl (mk hG) k25 ?_
            refine jv_ialdN dX5_look_78 (mk_tape hG) (by omega) (by decide) (hA2.1.2 _ (by omega)) ?_
            refine jv_s11 dX5_look_79 okX5_isLetter stX5_isLetter mlX5_169 (om_isLetter (by omega)) (by decide) (Nat.le_of_ble_eq_true rfl) ?_
            refine jv_if_eqB dX5_look_82 (tgt := 129) (by decide) (fun hz => ?_) (fun hz => absurd hz hk1)
            refine jv_aload0 dX5_look_129 ?_
            refine jv_getR dX5_look_130 flX5_31 rfl (mk hG) (mr_tape hG) ?_
            refine jv_aload0 dX5_look_133 ?_
            refine jv_getI dX5_look_134 flX5_157 rfl (mk hG) k25 ?_
            refine jv_ialdN dX5_look_137 (mk_tape hG) (by omega) (by decide) (hA2.1.2 _ (by omega)) ?_
            refine jv_s11 dX5_look_138 okX5_isDigit stX5_isDigit mlX5_172 (om_isDigit (by omega)) (by decide) (Nat.le_of_ble_eq_true rfl) ?_
            refine jv_if_eqB dX5_look_141 (tgt := 231) (by decide) (fun hz => ?_) (fun hz => absurd hz hk2)
            refine jv_aload0 dX5_look_231 ?_
            refine jv_aload0 dX5_look_232 ?_
            refine jv_getR dX5_look_233 flX5_31 rfl (mk hG) (mr_tape hG) ?_
            refine jv_aload0 dX5_look_236 ?_
            refine jv_getI dX5_look_237 flX5_157 rfl (mk hG) k25 ?_
            refine jv_ialdN dX5_look_240 (mk_tape hG) (by omega) (by decide) (hA2.1.2 _ (by omega)) ?_
            refine jv_bipush dX5_look_241 jv_c_bipush_59 ?_
            refine jv_icmp_neN dX5_look_243 (tgt := 250) (by decide) (by omega) (by omega) (fun hc243 => by omega) (fun hc243 => ?_)
            refine jv_iconst dX5_look_246 jv_c_iconst_3 ?_
            refine jv_goto dX5_look_247 (tgt := 251) (by decide) ?_
            refine jv_putI dX5_look_251 flX5_166 rfl (mk hG) rfl rfl ?_
            rw [← e3]
            refine jv_aload0 dX5_look_254 ?_
            refine jv_dup dX5_look_255 rfl ?_
            refine jv_getI dX5_look_256 flX5_157 rfl (mk hG) m25 ?_
            refine jv_iconst dX5_look_259 jv_c_iconst_1 ?_
            refine jv_iaddN dX5_look_260 ?_
            refine jv_putI dX5_look_261 flX5_157 rfl (mk hG) rfl rfl ?_
            exact jv_vret dX5_look_264 rfl rfl rfl rfl
          · rw [if_neg h59] at h34
            rw [ek, h34] at e3
            refine jv_aload0 dX5_look_38 ?_
            refine jv_aload0 dX5_look_39 ?_
            refine jv_getI dX5_look_40 flX5_157 rfl (mk hG) h25 ?_
            refine jv_putI dX5_look_43 flX5_160 rfl (mk hG) rfl rfl ?_
            rw [← e1]
            refine jv_aload0 dX5_look_46 ?_
            refine jv_iconst dX5_look_47 jv_c_iconst_0 ?_
            refine jv_putI dX5_look_48 flX5_163 rfl (mk hG) rfl rfl ?_
            rw [← e2]
            refine jv_aload0 dX5_look_51 ?_
            refine jv_getI dX5_look_52 flX5_157 rfl (mk hG) k25 ?_
            refine jv_aload0 dX5_look_55 ?_
            refine jv_getI dX5_look_56 flX5_154 rfl (mk hG) hA2.1.1 ?_
            refine jv_icmp_neN dX5_look_59 (tgt := 70) (by decide) (by omega) (by omega) (fun hc59 => ?_) (fun hc59 => by omega)
            refine jv_aload0 dX5_look_70 ?_
            refine jv_getR dX5_look_71 flX5_31 rfl (mk hG) (mr_tape hG) ?_
            refine jv_aload0 dX5_look_74 ?_
            refine jv_getI dX5_look_75 flX5_157 rfl (mk hG) k25 ?_
            refine jv_ialdN dX5_look_78 (mk_tape hG) (by omega) (by decide) (hA2.1.2 _ (by omega)) ?_
            refine jv_s11 dX5_look_79 okX5_isLetter stX5_isLetter mlX5_169 (om_isLetter (by omega)) (by decide) (Nat.le_of_ble_eq_true rfl) ?_
            refine jv_if_eqB dX5_look_82 (tgt := 129) (by decide) (fun hz => ?_) (fun hz => absurd hz hk1)
            refine jv_aload0 dX5_look_129 ?_
            refine jv_getR dX5_look_130 flX5_31 rfl (mk hG) (mr_tape hG) ?_
            refine jv_aload0 dX5_look_133 ?_
            refine jv_getI dX5_look_134 flX5_157 rfl (mk hG) k25 ?_
            refine jv_ialdN dX5_look_137 (mk_tape hG) (by omega) (by decide) (hA2.1.2 _ (by omega)) ?_
            refine jv_s11 dX5_look_138 okX5_isDigit stX5_isDigit mlX5_172 (om_isDigit (by omega)) (by decide) (Nat.le_of_ble_eq_true rfl) ?_
            refine jv_if_eqB dX5_look_141 (tgt := 231) (by decide) (fun hz => ?_) (fun hz => absurd hz hk2)
            refine jv_aload0 dX5_look_231 ?_
            refine jv_aload0 dX5_look_232 ?_
            refine jv_getR dX5_look_233 flX5_31 rfl (mk hG) (mr_tape hG) ?_
            refine jv_aload0 dX5_look_236 ?_
            refine jv_getI dX5_look_237 flX5_157 rfl (mk hG) k25 ?_
            refine jv_ialdN dX5_look_240 (mk_tape hG) (by omega) (by decide) (hA2.1.2 _ (by omega)) ?_
            refine jv_bipush dX5_look_241 jv_c_bipush_59 ?_
            refine jv_icmp_neN dX5_look_243 (tgt := 250) (by decide) (by omega) (by omega) (fun hc243 => ?_) (fun hc243 => by omega)
            refine jv_iconst dX5_look_250 jv_c_iconst_4 ?_
            refine jv_putI dX5_look_251 flX5_166 rfl (mk hG) rfl rfl ?_
            rw [← e3]
            refine jv_aload0 dX5_look_254 ?_
            refine jv_dup dX5_look_255 rfl ?_
            refine jv_getI dX5_look_256 flX5_157 rfl (mk hG) m25 ?_
            refine jv_iconst dX5_look_259 jv_c_iconst_1 ?_
            refine jv_iaddN dX5_look_260 ?_
            refine jv_putI dX5_look_261 flX5_157 rfl (mk hG) rfl rfl ?_
            exact jv_vret dX5_look_264 rfl rfl rfl rfl
    · rw [if_neg hi] at ek
      rw [ek, if_neg (by decide), if_pos rfl, if_neg (by decide)]
      have m := m3 0
      refine ⟨jv_up A2 64 26 (nI 0), ?_, hF2.up (by decide), m.1, m.2.1, m.2.2.1, m.2.2.2⟩
      refine jv_aload0 dX5_look_38 ?_
      refine jv_aload0 dX5_look_39 ?_
      refine jv_getI dX5_look_40 flX5_157 rfl (mk hG) h25 ?_
      refine jv_putI dX5_look_43 flX5_160 rfl (mk hG) rfl rfl ?_
      rw [← e1]
      refine jv_aload0 dX5_look_46 ?_
      refine jv_iconst dX5_look_47 jv_c_iconst_0 ?_
      refine jv_putI dX5_look_48 flX5_163 rfl (mk hG) rfl rfl ?_
      rw [← e2]
      refine jv_aload0 dX5_look_51 ?_
      refine jv_getI dX5_look_52 flX5_157 rfl (mk hG) k25 ?_
      refine jv_aload0 dX5_look_55 ?_
      refine jv_getI dX5_look_56 flX5_154 rfl (mk hG) hA2.1.1 ?_
      refine jv_icmp_neN dX5_look_59 (tgt := 70) (by decide) (by omega) (by omega) (fun hc59 => by omega) (fun hc59 => ?_)
      refine jv_aload0 dX5_look_62 ?_
      refine jv_iconst dX5_look_63 jv_c_iconst_0 ?_
      refine jv_putI dX5_look_64 flX5_166 rfl (mk hG) rfl rfl ?_
      refine jv_goto dX5_look_67 (tgt := 264) (by decide) ?_
      exact jv_vret dX5_look_264 rfl rfl rfl rfl
  have skip_ : ∀ (m s : Nat) (A : jv_I), n ≤ s + m → s ≤ n → ot_lf I A → A 64 25 = nI s → ∃ I2, jv_V 2 mX5_look 0 [.ref 64] [] G A J none G I2 J ∧ ∃ z : Nat, z = ot_scan (ot_sp t) n s ∧ ot_lf I I2 ∧ I2 64 26 = nI (if z < n then ot_kd (t z) else 0) ∧ I2 64 27 = nI z ∧ I2 64 25 = nI (if (if z < n then ot_kd (t z) else 0) = 1 ∨ (if z < n then ot_kd (t z) else 0) = 2 then ot_scan (ot_ki t (if z < n then ot_kd (t z) else 0)) n z else if (if z < n then ot_kd (t z) else 0) = 0 then z else z + 1) ∧ I2 64 28 = nI (if (if z < n then ot_kd (t z) else 0) = 2 then ot_fm t z ((if (if z < n then ot_kd (t z) else 0) = 1 ∨ (if z < n then ot_kd (t z) else 0) = 2 then ot_scan (ot_ki t (if z < n then ot_kd (t z) else 0)) n z else if (if z < n then ot_kd (t z) else 0) = 0 then z else z + 1) - z) else 0) := by
    intro m
    induction m with
    | zero =>
      intro s A b1 b2 hF h25
      have hA := hF.tq hP
      obtain ⟨I2, hV, hQ⟩ := tok s A b2 hF h25
      refine ⟨I2, ?_, s, (ot_scan_no (by omega)).symm, hQ⟩
      refine jv_aload0 dX5_look_0 ?_
      refine jv_getI dX5_look_1 flX5_157 rfl (mk hG) h25 ?_
      refine jv_aload0 dX5_look_4 ?_
      refine jv_getI dX5_look_5 flX5_154 rfl (mk hG) hA.1.1 ?_
      refine jv_icmp_geN dX5_look_8 (tgt := 38) (by decide) (by omega) (by omega) (fun hc8 => ?_) (fun hc8 => by omega)
      exact hV
    | succ m ih =>
      intro s A b1 b2 hF h25
      have hA := hF.tq hP
      by_cases hi : s < n
      · have hc := h255 s hi
        by_cases h32 : t s = 32
        · obtain ⟨I2, hV, z, hz, hQ⟩ := ih (s + 1) (jv_up A 64 25 (nI (s + 1))) (by omega) (by omega) (hF.up (by decide)) (jv_up_at _ _ _ _)
          refine ⟨I2, ?_, z, by rw [ot_scan_go hi (decide_eq_true h32)]; exact hz, hQ⟩
          refine jv_aload0 dX5_look_0 ?_
          refine jv_getI dX5_look_1 flX5_157 rfl (mk hG) h25 ?_
          refine jv_aload0 dX5_look_4 ?_
          refine jv_getI dX5_look_5 flX5_154 rfl (mk hG) hA.1.1 ?_
          refine jv_icmp_geN dX5_look_8 (tgt := 38) (by decide) (by omega) (by omega) (fun hc8 => by omega) (fun hc8 => ?_)
          refine jv_aload0 dX5_look_11 ?_
          refine jv_getR dX5_look_12 flX5_31 rfl (mk hG) (mr_tape hG) ?_
          refine jv_aload0 dX5_look_15 ?_
          refine jv_getI dX5_look_16 flX5_157 rfl (mk hG) h25 ?_
          refine jv_ialdN dX5_look_19 (mk_tape hG) (by omega) (by decide) (hA.1.2 _ (by omega)) ?_
          refine jv_bipush dX5_look_20 jv_c_bipush_32 ?_
          refine jv_icmp_neN dX5_look_22 (tgt := 38) (by decide) (by omega) (by omega) (fun hc22 => by omega) (fun hc22 => ?_)
          refine jv_aload0 dX5_look_25 ?_
          refine jv_dup dX5_look_26 rfl ?_
          refine jv_getI dX5_look_27 flX5_157 rfl (mk hG) h25 ?_
          refine jv_iconst dX5_look_30 jv_c_iconst_1 ?_
          refine jv_iaddN dX5_look_31 ?_
          refine jv_putI dX5_look_32 flX5_157 rfl (mk hG) rfl rfl ?_
          refine jv_goto dX5_look_35 (tgt := 0) (by decide) ?_
          exact hV
        · obtain ⟨I2, hV, hQ⟩ := tok s A b2 hF h25
          refine ⟨I2, ?_, s, (ot_scan_no (fun z => h32 (of_decide_eq_true z.2))).symm, hQ⟩
          refine jv_aload0 dX5_look_0 ?_
          refine jv_getI dX5_look_1 flX5_157 rfl (mk hG) h25 ?_
          refine jv_aload0 dX5_look_4 ?_
          refine jv_getI dX5_look_5 flX5_154 rfl (mk hG) hA.1.1 ?_
          refine jv_icmp_geN dX5_look_8 (tgt := 38) (by decide) (by omega) (by omega) (fun hc8 => by omega) (fun hc8 => ?_)
          refine jv_aload0 dX5_look_11 ?_
          refine jv_getR dX5_look_12 flX5_31 rfl (mk hG) (mr_tape hG) ?_
          refine jv_aload0 dX5_look_15 ?_
          refine jv_getI dX5_look_16 flX5_157 rfl (mk hG) h25 ?_
          refine jv_ialdN dX5_look_19 (mk_tape hG) (by omega) (by decide) (hA.1.2 _ (by omega)) ?_
          refine jv_bipush dX5_look_20 jv_c_bipush_32 ?_
          refine jv_icmp_neN dX5_look_22 (tgt := 38) (by decide) (by omega) (by omega) (fun hc22 => ?_) (fun hc22 => by omega)
          exact hV
      · obtain ⟨I2, hV, hQ⟩ := tok s A b2 hF h25
        refine ⟨I2, ?_, s, (ot_scan_no (by omega)).symm, hQ⟩
        refine jv_aload0 dX5_look_0 ?_
        refine jv_getI dX5_look_1 flX5_157 rfl (mk hG) h25 ?_
        refine jv_aload0 dX5_look_4 ?_
        refine jv_getI dX5_look_5 flX5_154 rfl (mk hG) hA.1.1 ?_
        refine jv_icmp_geN dX5_look_8 (tgt := 38) (by decide) (by omega) (by omega) (fun hc8 => ?_) (fun hc8 => by omega)
        exact hV
  obtain ⟨I2, hV, z, hz, hQ⟩ := skip_ n e I (by omega) he ot_lf.rf h25
  refine ⟨I2, ?_, ?_⟩
  · exact jv_enter okX5_look (L := [.ref 64]) rfl (Nat.le_of_ble_eq_true rfl) hV
  · subst hz; exact hQ
