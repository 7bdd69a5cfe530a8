/-! ===== the reference is made ===== -/
def ot_al (G0 G : jv_Gr) (m c nr : Nat) : Prop :=
  jv_n G = m + c ∧ (∀ b, b ≤ m → jv_k G b = jv_k G0 b) ∧ (∀ b, b < m → ∀ i, jv_r G b i = jv_r G0 b i) ∧ (∀ j, j < c → jv_k G (m + (j + 1)) = ot_mkind j) ∧ (∀ j, j < nr → jv_r G m (ot_mfld j) = m + ot_moff j) ∧ (∀ k, (∀ j, j < nr → ot_mfld j ≠ k) → jv_r G m k = jv_r G0 m k) ∧ (4 ≤ c → ∀ s, s < 8 → jv_r G (m + 4) s = m + (5 + s))
theorem jv_r_sr {G : jv_Gr} {a k r b j : Nat} : jv_r (jv_sr G a k r) b j = if b = a then (if j = k then r else jv_r G b j) else jv_r G b j := by
  show (jv_up G.2.2.2 a k r) b j = _
  rw [jv_up_def]
  by_cases h : b = a
  · rw [if_pos h, if_pos h]; subst h; rfl
  · rw [if_neg h, if_neg h]; rfl
theorem ot_al_arr {G0 G : jv_Gr} {m c nr f sl : Nat} {kd : Nat × Nat} (h : ot_al G0 G m c nr) (hk : kd = ot_mkind c) (hf : ot_mfld nr = f) (ho : ot_moff nr = c + 1) (hd : ∀ j, j < nr → ot_mfld j ≠ f) (hc : c ≠ 3) (hm : m ≠ 0) : ot_al G0 (jv_sr (jv_nw G kd sl) m f (jv_n G + 1)) m (c + 1) (nr + 1) := by
  obtain ⟨h1, h2, h3, h4, h5, h6, h7⟩ := h
  have kk : ∀ b, b ≤ m + c → jv_k (jv_sr (jv_nw G kd sl) m f (jv_n G + 1)) b = jv_k G b := fun b hb => by rw [jv_k_up, jv_k_old (by omega)]
  have rr : ∀ b, b ≤ m + c → ∀ i, jv_r (jv_nw G kd sl) b i = jv_r G b i := fun b hb i => jv_r_old (by omega)
  refine ⟨?_, fun b hb => ?_, fun b hb i => ?_, fun j hj => ?_, fun j hj => ?_, fun k hk2 => ?_, fun hc4 s hs => ?_⟩
  · show jv_n G + 1 = _; omega
  · rw [kk b (by omega)]; exact h2 b hb
  · rw [jv_r_sr, if_neg (by omega), rr b (by omega)]; exact h3 b hb i
  · by_cases e : j = c
    · subst e
      rw [jv_k_up, show m + (j + 1) = jv_n G + 1 by omega, jv_k_new]; exact hk
    · rw [kk _ (by omega)]; exact h4 j (by omega)
  · rw [jv_r_sr, if_pos rfl]
    by_cases e : j = nr
    · subst e; rw [if_pos hf, ho]; omega
    · rw [if_neg (hd j (by omega)), rr m (by omega)]; exact h5 j (by omega)
  · rw [jv_r_sr, if_pos rfl, if_neg (fun q => hk2 nr (by omega) (by rw [hf, q])), rr m (by omega)]
    exact h6 k (fun j hj => hk2 j (by omega))
  · rw [jv_r_sr, if_neg (by omega), rr _ (by omega)]; exact h7 (by omega) s hs
theorem ot_al_grid {G0 G : jv_Gr} {m : Nat} (h : ot_al G0 G m 3 3) (hm : m ≠ 0) : ot_al G0 (jv_sr (jv_g8 G) m 3 (jv_n G + 1)) m 12 4 := by
  obtain ⟨h1, h2, h3, h4, h5, h6, h7⟩ := h
  have kk : ∀ b, b ≤ m + 3 → jv_k (jv_sr (jv_g8 G) m 3 (jv_n G + 1)) b = jv_k G b := fun b hb => by rw [jv_k_up, jv_g8_k_old (by omega)]
  have rr : ∀ b, b ≤ m + 3 → ∀ i, jv_r (jv_g8 G) b i = jv_r G b i := fun b hb i => jv_g8_r_old (by omega)
  refine ⟨?_, fun b hb => ?_, fun b hb i => ?_, fun j hj => ?_, fun j hj => ?_, fun k hk2 => ?_, fun hc4 s hs => ?_⟩
  · show jv_n G + 9 = _; omega
  · rw [kk b (by omega)]; exact h2 b hb
  · rw [jv_r_sr, if_neg (by omega), rr b (by omega)]; exact h3 b hb i
  · by_cases e : j < 3
    · rw [kk _ (by omega)]; exact h4 j e
    · by_cases e2 : j = 3
      · subst e2; rw [jv_k_up, show m + (3 + 1) = jv_n G + 1 by omega, jv_g8_k_out]; rfl
      · rw [jv_k_up, show m + (j + 1) = jv_n G + 2 + (j - 4) by omega, jv_g8_k_in (by omega)]
        rcases (show j = 4 ∨ j = 5 ∨ j = 6 ∨ j = 7 ∨ j = 8 ∨ j = 9 ∨ j = 10 ∨ j = 11 by omega) with rfl | rfl | rfl | rfl | rfl | rfl | rfl | rfl <;> rfl
  · rw [jv_r_sr, if_pos rfl]
    by_cases e : j = 3
    · subst e; rw [if_pos (show ot_mfld 3 = 3 from rfl)]; show jv_n G + 1 = m + 4; omega
    · rw [if_neg (by rcases (show j = 0 ∨ j = 1 ∨ j = 2 by omega) with rfl | rfl | rfl <;> decide), rr m (by omega)]; exact h5 j (by omega)
  · rw [jv_r_sr, if_pos rfl, if_neg (fun q => hk2 3 (by omega) q.symm), rr m (by omega)]
    exact h6 k (fun j hj => hk2 j (by omega))
  · rw [jv_r_sr, if_neg (by omega), show m + 4 = jv_n G + 1 by omega, jv_g8_r_out hs]; omega
/-- and the numbers: what was there stays, what is new is 0, the seed 1 -/
def ot_ai (I0 I : jv_I) (m c : Nat) (sd : Bool) : Prop := (∀ b, b < m → I b = I0 b) ∧ (∀ k, k ≠ 22 → I m k = I0 m k) ∧ (I m 22 = if sd = true then nI 1 else I0 m 22) ∧ (1 ≤ c → ∀ i, I (m + 1) i = 0) ∧ (16 ≤ c → ∀ i, I (m + 16) i = 0)
theorem ot_ai_z {I0 I : jv_I} {m c n : Nat} {sd : Bool} (h : ot_ai I0 I m c sd) (hn : n = m + c) : ot_ai I0 (jv_zI I (n + 1)) m (c + 1) sd := by
  subst hn
  obtain ⟨h1, h2, h3, h4, h5⟩ := h
  have e : ∀ b, b ≠ m + c + 1 → jv_zI I (m + c + 1) b = I b := fun b hb => by funext j; unfold jv_zI; rw [if_neg hb]
  have e2 : ∀ i, jv_zI I (m + c + 1) (m + c + 1) i = 0 := fun i => by unfold jv_zI; rw [if_pos rfl]
  refine ⟨fun b hb => by rw [e b (by omega)]; exact h1 b hb, fun k hk => by rw [e m (by omega)]; exact h2 k hk, by rw [e m (by omega)]; exact h3, fun _ i => ?_, fun _ i => ?_⟩
  · by_cases q : c = 0
    · subst q; exact e2 i
    · rw [e _ (by omega)]; exact h4 (by omega) i
  · by_cases q : c = 15
    · subst q; exact e2 i
    · rw [e _ (by omega)]; exact h5 (by omega) i
theorem ot_ai_k {I0 I : jv_I} {m c c2 : Nat} {sd : Bool} (h : ot_ai I0 I m c sd) (h1 : 1 ≤ c) (h16 : c2 < 16 ∨ 16 ≤ c) : ot_ai I0 I m c2 sd := ⟨h.1, h.2.1, h.2.2.1, fun _ => h.2.2.2.1 h1, fun q => h.2.2.2.2 (by omega)⟩
theorem ot_ai_s {I0 I : jv_I} {m c : Nat} (h : ot_ai I0 I m c false) : ot_ai I0 (jv_up I m 22 (nI 1)) m c true := by
  obtain ⟨h1, h2, h3, h4, h5⟩ := h
  refine ⟨fun b hb => by rw [jv_up_ne _ _ _ (by omega)]; exact h1 b hb, fun k hk => by rw [jv_up_at_ne _ _ _ hk]; exact h2 k hk, jv_up_at _ _ _ _, fun q i => by rw [jv_up_ne _ _ _ (by omega)]; exact h4 q i, fun q i => by rw [jv_up_ne _ _ _ (by omega)]; exact h5 q i⟩
theorem ot_ow1 {n m : Nat} (h : m ≤ n) : jv_ow n [.ref m] := fun v hv r e => by
  rw [List.mem_singleton] at hv
  subst hv
  cases e
  exact .inl h
theorem ot_narr {t : FieldType} : ∀ v : Value, (v = .null ∨ ∃ q, v = .ref q) → narrow (.array t) v = v ∧ fits (.array t) v = true := fun v hv => by
  rcases hv with rfl | ⟨q, rfl⟩ <;> exact ⟨rfl, rfl⟩
theorem ot_nobj {t : String} : ∀ v : Value, (v = .null ∨ ∃ q, v = .ref q) → narrow (.object t) v = v ∧ fits (.object t) v = true := fun v hv => by
  rcases hv with rfl | ⟨q, rfl⟩ <;> exact ⟨rfl, rfl⟩
theorem ot_finX5 : ∀ C T N ty0, jv_cl 5 C T N ty0 → RX5 = C := fun C T N ty0 hc => by
  have e := hc.1
  rw [clX5.1] at e
  cases e
  rfl
set_option maxRecDepth 20000 in
theorem om_init {G : jv_Gr} {I : jv_I} {J : jv_J} {m : Nat} (hm0 : m ≠ 0) (hm : m < 900) (hn : jv_n G = m) (hk : jv_k G m = (5 + 10, 0)) : ∃ G2 I2 J2, jv_C 2 mX5_init [.ref m] G I J none G2 I2 J2 ∧ ot_al G G2 m 29 21 ∧ ot_ai I I2 m 29 true ∧ (∀ b, b ≤ m → J2 b = J b) ∧ jv_s G2 ≤ jv_s G + 829 := by
  have s22 : ∀ (G1 : jv_Gr) (I1 : jv_I) (J1 : jv_J), ot_al G G1 m 29 21 → ot_ai I I1 m 29 true → (∀ b, b ≤ m → J1 b = J b) → jv_s G1 ≤ jv_s G + 829 → ∃ G2 I2 J2, jv_V 2 mX5_init 181 [.ref m] [] G1 I1 J1 none G2 I2 J2 ∧ ot_al G G2 m 29 21 ∧ ot_ai I I2 m 29 true ∧ (∀ b, b ≤ m → J2 b = J b) ∧ jv_s G2 ≤ jv_s G + 829 := by
    intro G1 I1 J1 a b e hz
    exact ⟨G1, I1, J1, jv_vret dX5_init_181 rfl rfl rfl rfl, a, b, e, hz⟩
  have s21 : ∀ (G1 : jv_Gr) (I1 : jv_I) (J1 : jv_J), ot_al G G1 m 28 20 → ot_ai I I1 m 28 true → (∀ b, b ≤ m → J1 b = J b) → jv_s G1 ≤ jv_s G + 815 → ∃ G2 I2 J2, jv_V 2 mX5_init 173 [.ref m] [] G1 I1 J1 none G2 I2 J2 ∧ ot_al G G2 m 29 21 ∧ ot_ai I I2 m 29 true ∧ (∀ b, b ≤ m → J2 b = J b) ∧ jv_s G2 ≤ jv_s G + 829 := by
    intro G1 I1 J1 a b e hz
    have hn1 := a.1
    have hk1 := (a.2.1 m (Nat.le_refl m)).trans hk
    obtain ⟨G2, I2, J2, hV, hP⟩ := s22 (jv_sr (jv_nw G1 (0, 14) 14) m 34 (jv_n G1 + 1)) (jv_zI I1 (jv_n G1 + 1)) J1 (ot_al_arr a rfl rfl rfl (by decide) (by decide) hm0) (ot_ai_z b hn1) e (show jv_s G1 + 14 ≤ _ by omega)
    refine ⟨G2, I2, J2, ?_, hP⟩
    refine jv_aload0 dX5_init_173 ?_
    refine jv_bipush dX5_init_174 jv_c_bipush_14 ?_
    refine jv_newI dX5_init_176 rfl (by decide) ac_int (by omega) (ot_ow1 (by omega)) (ot_ow1 (by omega)) ?_
    refine jv_putR0 (fun _ => ⟨rfl, ot_finX5⟩) dX5_init_178 flX5_77 rfl (a := m) (n := 0) (by rw [jv_k_old (by omega)]; exact hk1) (Nat.le_refl _) ot_narr ?_
    exact hV
  have s20 : ∀ (G1 : jv_Gr) (I1 : jv_I) (J1 : jv_J), ot_al G G1 m 27 19 → ot_ai I I1 m 27 true → (∀ b, b ≤ m → J1 b = J b) → jv_s G1 ≤ jv_s G + 801 → ∃ G2 I2 J2, jv_V 2 mX5_init 165 [.ref m] [] G1 I1 J1 none G2 I2 J2 ∧ ot_al G G2 m 29 21 ∧ ot_ai I I2 m 29 true ∧ (∀ b, b ≤ m → J2 b = J b) ∧ jv_s G2 ≤ jv_s G + 829 := by
    intro G1 I1 J1 a b e hz
    have hn1 := a.1
    have hk1 := (a.2.1 m (Nat.le_refl m)).trans hk
    obtain ⟨G2, I2, J2, hV, hP⟩ := s21 (jv_sr (jv_nw G1 (0, 14) 14) m 33 (jv_n G1 + 1)) (jv_zI I1 (jv_n G1 + 1)) J1 (ot_al_arr a rfl rfl rfl (by decide) (by decide) hm0) (ot_ai_z b hn1) e (show jv_s G1 + 14 ≤ _ by omega)
    refine ⟨G2, I2, J2, ?_, hP⟩
    refine jv_aload0 dX5_init_165 ?_
    refine jv_bipush dX5_init_166 jv_c_bipush_14 ?_
    refine jv_newI dX5_init_168 rfl (by decide) ac_int (by omega) (ot_ow1 (by omega)) (ot_ow1 (by omega)) ?_
    refine jv_putR0 (fun _ => ⟨rfl, ot_finX5⟩) dX5_init_170 flX5_74 rfl (a := m) (n := 0) (by rw [jv_k_old (by omega)]; exact hk1) (Nat.le_refl _) ot_narr ?_
    exact hV
  have s19 : ∀ (G1 : jv_Gr) (I1 : jv_I) (J1 : jv_J), ot_al G G1 m 26 18 → ot_ai I I1 m 26 true → (∀ b, b ≤ m → J1 b = J b) → jv_s G1 ≤ jv_s G + 798 → ∃ G2 I2 J2, jv_V 2 mX5_init 158 [.ref m] [] G1 I1 J1 none G2 I2 J2 ∧ ot_al G G2 m 29 21 ∧ ot_ai I I2 m 29 true ∧ (∀ b, b ≤ m → J2 b = J b) ∧ jv_s G2 ≤ jv_s G + 829 := by
    intro G1 I1 J1 a b e hz
    have hn1 := a.1
    have hk1 := (a.2.1 m (Nat.le_refl m)).trans hk
    obtain ⟨G2, I2, J2, hV, hP⟩ := s20 (jv_sr (jv_nw G1 (0, 3) 3) m 30 (jv_n G1 + 1)) (jv_zI I1 (jv_n G1 + 1)) J1 (ot_al_arr a rfl rfl rfl (by decide) (by decide) hm0) (ot_ai_z b hn1) e (show jv_s G1 + 3 ≤ _ by omega)
    refine ⟨G2, I2, J2, ?_, hP⟩
    refine jv_aload0 dX5_init_158 ?_
    refine jv_iconst dX5_init_159 jv_c_iconst_3 ?_
    refine jv_newI dX5_init_160 rfl (by decide) ac_int (by omega) (ot_ow1 (by omega)) (ot_ow1 (by omega)) ?_
    refine jv_putR0 (fun _ => ⟨rfl, ot_finX5⟩) dX5_init_162 flX5_71 rfl (a := m) (n := 0) (by rw [jv_k_old (by omega)]; exact hk1) (Nat.le_refl _) ot_narr ?_
    exact hV
  have s18 : ∀ (G1 : jv_Gr) (I1 : jv_I) (J1 : jv_J), ot_al G G1 m 26 18 → ot_ai I I1 m 26 false → (∀ b, b ≤ m → J1 b = J b) → jv_s G1 ≤ jv_s G + 798 → ∃ G2 I2 J2, jv_V 2 mX5_init 153 [.ref m] [] G1 I1 J1 none G2 I2 J2 ∧ ot_al G G2 m 29 21 ∧ ot_ai I I2 m 29 true ∧ (∀ b, b ≤ m → J2 b = J b) ∧ jv_s G2 ≤ jv_s G + 829 := by
    intro G1 I1 J1 a b e hz
    have hn1 := a.1
    have hk1 := (a.2.1 m (Nat.le_refl m)).trans hk
    obtain ⟨G2, I2, J2, hV, hP⟩ := s19 G1 (jv_up I1 m 22 (nI 1)) J1 a (ot_ai_s b) e hz
    refine ⟨G2, I2, J2, ?_, hP⟩
    refine jv_aload0 dX5_init_153 ?_
    refine jv_iconst dX5_init_154 jv_c_iconst_1 ?_
    refine jv_putI dX5_init_155 flX5_67 rfl hk1 rfl rfl ?_
    exact hV
  have s17 : ∀ (G1 : jv_Gr) (I1 : jv_I) (J1 : jv_J), ot_al G G1 m 25 17 → ot_ai I I1 m 25 false → (∀ b, b ≤ m → J1 b = J b) → jv_s G1 ≤ jv_s G + 778 → ∃ G2 I2 J2, jv_V 2 mX5_init 145 [.ref m] [] G1 I1 J1 none G2 I2 J2 ∧ ot_al G G2 m 29 21 ∧ ot_ai I I2 m 29 true ∧ (∀ b, b ≤ m → J2 b = J b) ∧ jv_s G2 ≤ jv_s G + 829 := by
    intro G1 I1 J1 a b e hz
    have hn1 := a.1
    have hk1 := (a.2.1 m (Nat.le_refl m)).trans hk
    obtain ⟨G2, I2, J2, hV, hP⟩ := s18 (jv_sr (jv_nw G1 (0, 20) 20) m 21 (jv_n G1 + 1)) (jv_zI I1 (jv_n G1 + 1)) J1 (ot_al_arr a rfl rfl rfl (by decide) (by decide) hm0) (ot_ai_z b hn1) e (show jv_s G1 + 20 ≤ _ by omega)
    refine ⟨G2, I2, J2, ?_, hP⟩
    refine jv_aload0 dX5_init_145 ?_
    refine jv_bipush dX5_init_146 jv_c_bipush_20 ?_
    refine jv_newI dX5_init_148 rfl (by decide) ac_int (by omega) (ot_ow1 (by omega)) (ot_ow1 (by omega)) ?_
    refine jv_putR0 (fun _ => ⟨rfl, ot_finX5⟩) dX5_init_150 flX5_64 rfl (a := m) (n := 0) (by rw [jv_k_old (by omega)]; exact hk1) (Nat.le_refl _) ot_narr ?_
    exact hV
  have s16 : ∀ (G1 : jv_Gr) (I1 : jv_I) (J1 : jv_J), ot_al G G1 m 24 16 → ot_ai I I1 m 24 false → (∀ b, b ≤ m → J1 b = J b) → jv_s G1 ≤ jv_s G + 758 → ∃ G2 I2 J2, jv_V 2 mX5_init 137 [.ref m] [] G1 I1 J1 none G2 I2 J2 ∧ ot_al G G2 m 29 21 ∧ ot_ai I I2 m 29 true ∧ (∀ b, b ≤ m → J2 b = J b) ∧ jv_s G2 ≤ jv_s G + 829 := by
    intro G1 I1 J1 a b e hz
    have hn1 := a.1
    have hk1 := (a.2.1 m (Nat.le_refl m)).trans hk
    obtain ⟨G2, I2, J2, hV, hP⟩ := s17 (jv_sr (jv_nw G1 (0, 20) 20) m 20 (jv_n G1 + 1)) (jv_zI I1 (jv_n G1 + 1)) J1 (ot_al_arr a rfl rfl rfl (by decide) (by decide) hm0) (ot_ai_z b hn1) e (show jv_s G1 + 20 ≤ _ by omega)
    refine ⟨G2, I2, J2, ?_, hP⟩
    refine jv_aload0 dX5_init_137 ?_
    refine jv_bipush dX5_init_138 jv_c_bipush_20 ?_
    refine jv_newI dX5_init_140 rfl (by decide) ac_int (by omega) (ot_ow1 (by omega)) (ot_ow1 (by omega)) ?_
    refine jv_putR0 (fun _ => ⟨rfl, ot_finX5⟩) dX5_init_142 flX5_61 rfl (a := m) (n := 0) (by rw [jv_k_old (by omega)]; exact hk1) (Nat.le_refl _) ot_narr ?_
    exact hV
  have s15 : ∀ (G1 : jv_Gr) (I1 : jv_I) (J1 : jv_J), ot_al G G1 m 23 15 → ot_ai I I1 m 23 false → (∀ b, b ≤ m → J1 b = J b) → jv_s G1 ≤ jv_s G + 738 → ∃ G2 I2 J2, jv_V 2 mX5_init 129 [.ref m] [] G1 I1 J1 none G2 I2 J2 ∧ ot_al G G2 m 29 21 ∧ ot_ai I I2 m 29 true ∧ (∀ b, b ≤ m → J2 b = J b) ∧ jv_s G2 ≤ jv_s G + 829 := by
    intro G1 I1 J1 a b e hz
    have hn1 := a.1
    have hk1 := (a.2.1 m (Nat.le_refl m)).trans hk
    obtain ⟨G2, I2, J2, hV, hP⟩ := s16 (jv_sr (jv_nw G1 (0, 20) 20) m 19 (jv_n G1 + 1)) (jv_zI I1 (jv_n G1 + 1)) J1 (ot_al_arr a rfl rfl rfl (by decide) (by decide) hm0) (ot_ai_z b hn1) e (show jv_s G1 + 20 ≤ _ by omega)
    refine ⟨G2, I2, J2, ?_, hP⟩
    refine jv_aload0 dX5_init_129 ?_
    refine jv_bipush dX5_init_130 jv_c_bipush_20 ?_
    refine jv_newI dX5_init_132 rfl (by decide) ac_int (by omega) (ot_ow1 (by omega)) (ot_ow1 (by omega)) ?_
    refine jv_putR0 (fun _ => ⟨rfl, ot_finX5⟩) dX5_init_134 flX5_58 rfl (a := m) (n := 0) (by rw [jv_k_old (by omega)]; exact hk1) (Nat.le_refl _) ot_narr ?_
    exact hV
  have s14 : ∀ (G1 : jv_Gr) (I1 : jv_I) (J1 : jv_J), ot_al G G1 m 22 14 → ot_ai I I1 m 22 false → (∀ b, b ≤ m → J1 b = J b) → jv_s G1 ≤ jv_s G + 718 → ∃ G2 I2 J2, jv_V 2 mX5_init 121 [.ref m] [] G1 I1 J1 none G2 I2 J2 ∧ ot_al G G2 m 29 21 ∧ ot_ai I I2 m 29 true ∧ (∀ b, b ≤ m → J2 b = J b) ∧ jv_s G2 ≤ jv_s G + 829 := by
    intro G1 I1 J1 a b e hz
    have hn1 := a.1
    have hk1 := (a.2.1 m (Nat.le_refl m)).trans hk
    obtain ⟨G2, I2, J2, hV, hP⟩ := s15 (jv_sr (jv_nw G1 (0, 20) 20) m 18 (jv_n G1 + 1)) (jv_zI I1 (jv_n G1 + 1)) J1 (ot_al_arr a rfl rfl rfl (by decide) (by decide) hm0) (ot_ai_z b hn1) e (show jv_s G1 + 20 ≤ _ by omega)
    refine ⟨G2, I2, J2, ?_, hP⟩
    refine jv_aload0 dX5_init_121 ?_
    refine jv_bipush dX5_init_122 jv_c_bipush_20 ?_
    refine jv_newI dX5_init_124 rfl (by decide) ac_int (by omega) (ot_ow1 (by omega)) (ot_ow1 (by omega)) ?_
    refine jv_putR0 (fun _ => ⟨rfl, ot_finX5⟩) dX5_init_126 flX5_55 rfl (a := m) (n := 0) (by rw [jv_k_old (by omega)]; exact hk1) (Nat.le_refl _) ot_narr ?_
    exact hV
  have s13 : ∀ (G1 : jv_Gr) (I1 : jv_I) (J1 : jv_J), ot_al G G1 m 21 13 → ot_ai I I1 m 21 false → (∀ b, b ≤ m → J1 b = J b) → jv_s G1 ≤ jv_s G + 712 → ∃ G2 I2 J2, jv_V 2 mX5_init 113 [.ref m] [] G1 I1 J1 none G2 I2 J2 ∧ ot_al G G2 m 29 21 ∧ ot_ai I I2 m 29 true ∧ (∀ b, b ≤ m → J2 b = J b) ∧ jv_s G2 ≤ jv_s G + 829 := by
    intro G1 I1 J1 a b e hz
    have hn1 := a.1
    have hk1 := (a.2.1 m (Nat.le_refl m)).trans hk
    obtain ⟨G2, I2, J2, hV, hP⟩ := s14 (jv_sr (jv_nw G1 (0, 6) 6) m 16 (jv_n G1 + 1)) (jv_zI I1 (jv_n G1 + 1)) J1 (ot_al_arr a rfl rfl rfl (by decide) (by decide) hm0) (ot_ai_z b hn1) e (show jv_s G1 + 6 ≤ _ by omega)
    refine ⟨G2, I2, J2, ?_, hP⟩
    refine jv_aload0 dX5_init_113 ?_
    refine jv_bipush dX5_init_114 jv_c_bipush_6 ?_
    refine jv_newI dX5_init_116 rfl (by decide) ac_int (by omega) (ot_ow1 (by omega)) (ot_ow1 (by omega)) ?_
    refine jv_putR0 (fun _ => ⟨rfl, ot_finX5⟩) dX5_init_118 flX5_52 rfl (a := m) (n := 0) (by rw [jv_k_old (by omega)]; exact hk1) (Nat.le_refl _) ot_narr ?_
    exact hV
  have s12 : ∀ (G1 : jv_Gr) (I1 : jv_I) (J1 : jv_J), ot_al G G1 m 20 12 → ot_ai I I1 m 20 false → (∀ b, b ≤ m → J1 b = J b) → jv_s G1 ≤ jv_s G + 706 → ∃ G2 I2 J2, jv_V 2 mX5_init 105 [.ref m] [] G1 I1 J1 none G2 I2 J2 ∧ ot_al G G2 m 29 21 ∧ ot_ai I I2 m 29 true ∧ (∀ b, b ≤ m → J2 b = J b) ∧ jv_s G2 ≤ jv_s G + 829 := by
    intro G1 I1 J1 a b e hz
    have hn1 := a.1
    have hk1 := (a.2.1 m (Nat.le_refl m)).trans hk
    obtain ⟨G2, I2, J2, hV, hP⟩ := s13 (jv_sr (jv_nw G1 (0, 6) 6) m 15 (jv_n G1 + 1)) (jv_zI I1 (jv_n G1 + 1)) J1 (ot_al_arr a rfl rfl rfl (by decide) (by decide) hm0) (ot_ai_z b hn1) e (show jv_s G1 + 6 ≤ _ by omega)
    refine ⟨G2, I2, J2, ?_, hP⟩
    refine jv_aload0 dX5_init_105 ?_
    refine jv_bipush dX5_init_106 jv_c_bipush_6 ?_
    refine jv_newI dX5_init_108 rfl (by decide) ac_int (by omega) (ot_ow1 (by omega)) (ot_ow1 (by omega)) ?_
    refine jv_putR0 (fun _ => ⟨rfl, ot_finX5⟩) dX5_init_110 flX5_49 rfl (a := m) (n := 0) (by rw [jv_k_old (by omega)]; exact hk1) (Nat.le_refl _) ot_narr ?_
    exact hV
  have s11 : ∀ (G1 : jv_Gr) (I1 : jv_I) (J1 : jv_J), ot_al G G1 m 19 11 → ot_ai I I1 m 19 false → (∀ b, b ≤ m → J1 b = J b) → jv_s G1 ≤ jv_s G + 700 → ∃ G2 I2 J2, jv_V 2 mX5_init 97 [.ref m] [] G1 I1 J1 none G2 I2 J2 ∧ ot_al G G2 m 29 21 ∧ ot_ai I I2 m 29 true ∧ (∀ b, b ≤ m → J2 b = J b) ∧ jv_s G2 ≤ jv_s G + 829 := by
    intro G1 I1 J1 a b e hz
    have hn1 := a.1
    have hk1 := (a.2.1 m (Nat.le_refl m)).trans hk
    obtain ⟨G2, I2, J2, hV, hP⟩ := s12 (jv_sr (jv_nw G1 (0, 6) 6) m 14 (jv_n G1 + 1)) (jv_zI I1 (jv_n G1 + 1)) J1 (ot_al_arr a rfl rfl rfl (by decide) (by decide) hm0) (ot_ai_z b hn1) e (show jv_s G1 + 6 ≤ _ by omega)
    refine ⟨G2, I2, J2, ?_, hP⟩
    refine jv_aload0 dX5_init_97 ?_
    refine jv_bipush dX5_init_98 jv_c_bipush_6 ?_
    refine jv_newI dX5_init_100 rfl (by decide) ac_int (by omega) (ot_ow1 (by omega)) (ot_ow1 (by omega)) ?_
    refine jv_putR0 (fun _ => ⟨rfl, ot_finX5⟩) dX5_init_102 flX5_46 rfl (a := m) (n := 0) (by rw [jv_k_old (by omega)]; exact hk1) (Nat.le_refl _) ot_narr ?_
    exact hV
  have s10 : ∀ (G1 : jv_Gr) (I1 : jv_I) (J1 : jv_J), ot_al G G1 m 18 10 → ot_ai I I1 m 18 false → (∀ b, b ≤ m → J1 b = J b) → jv_s G1 ≤ jv_s G + 686 → ∃ G2 I2 J2, jv_V 2 mX5_init 89 [.ref m] [] G1 I1 J1 none G2 I2 J2 ∧ ot_al G G2 m 29 21 ∧ ot_ai I I2 m 29 true ∧ (∀ b, b ≤ m → J2 b = J b) ∧ jv_s G2 ≤ jv_s G + 829 := by
    intro G1 I1 J1 a b e hz
    have hn1 := a.1
    have hk1 := (a.2.1 m (Nat.le_refl m)).trans hk
    obtain ⟨G2, I2, J2, hV, hP⟩ := s11 (jv_sr (jv_nw G1 (0, 14) 14) m 12 (jv_n G1 + 1)) (jv_zI I1 (jv_n G1 + 1)) J1 (ot_al_arr a rfl rfl rfl (by decide) (by decide) hm0) (ot_ai_z b hn1) e (show jv_s G1 + 14 ≤ _ by omega)
    refine ⟨G2, I2, J2, ?_, hP⟩
    refine jv_aload0 dX5_init_89 ?_
    refine jv_bipush dX5_init_90 jv_c_bipush_14 ?_
    refine jv_newI dX5_init_92 rfl (by decide) ac_int (by omega) (ot_ow1 (by omega)) (ot_ow1 (by omega)) ?_
    refine jv_putR0 (fun _ => ⟨rfl, ot_finX5⟩) dX5_init_94 flX5_43 rfl (a := m) (n := 0) (by rw [jv_k_old (by omega)]; exact hk1) (Nat.le_refl _) ot_narr ?_
    exact hV
  have s9 : ∀ (G1 : jv_Gr) (I1 : jv_I) (J1 : jv_J), ot_al G G1 m 17 9 → ot_ai I I1 m 17 false → (∀ b, b ≤ m → J1 b = J b) → jv_s G1 ≤ jv_s G + 672 → ∃ G2 I2 J2, jv_V 2 mX5_init 81 [.ref m] [] G1 I1 J1 none G2 I2 J2 ∧ ot_al G G2 m 29 21 ∧ ot_ai I I2 m 29 true ∧ (∀ b, b ≤ m → J2 b = J b) ∧ jv_s G2 ≤ jv_s G + 829 := by
    intro G1 I1 J1 a b e hz
    have hn1 := a.1
    have hk1 := (a.2.1 m (Nat.le_refl m)).trans hk
    obtain ⟨G2, I2, J2, hV, hP⟩ := s10 (jv_sr (jv_nw G1 (0, 14) 14) m 11 (jv_n G1 + 1)) (jv_zI I1 (jv_n G1 + 1)) J1 (ot_al_arr a rfl rfl rfl (by decide) (by decide) hm0) (ot_ai_z b hn1) e (show jv_s G1 + 14 ≤ _ by omega)
    refine ⟨G2, I2, J2, ?_, hP⟩
    refine jv_aload0 dX5_init_81 ?_
    refine jv_bipush dX5_init_82 jv_c_bipush_14 ?_
    refine jv_newI dX5_init_84 rfl (by decide) ac_int (by omega) (ot_ow1 (by omega)) (ot_ow1 (by omega)) ?_
    refine jv_putR0 (fun _ => ⟨rfl, ot_finX5⟩) dX5_init_86 flX5_40 rfl (a := m) (n := 0) (by rw [jv_k_old (by omega)]; exact hk1) (Nat.le_refl _) ot_narr ?_
    exact hV
  have s8 : ∀ (G1 : jv_Gr) (I1 : jv_I) (J1 : jv_J), ot_al G G1 m 16 8 → ot_ai I I1 m 16 false → (∀ b, b ≤ m → J1 b = J b) → jv_s G1 ≤ jv_s G + 658 → ∃ G2 I2 J2, jv_V 2 mX5_init 73 [.ref m] [] G1 I1 J1 none G2 I2 J2 ∧ ot_al G G2 m 29 21 ∧ ot_ai I I2 m 29 true ∧ (∀ b, b ≤ m → J2 b = J b) ∧ jv_s G2 ≤ jv_s G + 829 := by
    intro G1 I1 J1 a b e hz
    have hn1 := a.1
    have hk1 := (a.2.1 m (Nat.le_refl m)).trans hk
    obtain ⟨G2, I2, J2, hV, hP⟩ := s9 (jv_sr (jv_nw G1 (0, 14) 14) m 10 (jv_n G1 + 1)) (jv_zI I1 (jv_n G1 + 1)) J1 (ot_al_arr a rfl rfl rfl (by decide) (by decide) hm0) (ot_ai_z b hn1) e (show jv_s G1 + 14 ≤ _ by omega)
    refine ⟨G2, I2, J2, ?_, hP⟩
    refine jv_aload0 dX5_init_73 ?_
    refine jv_bipush dX5_init_74 jv_c_bipush_14 ?_
    refine jv_newI dX5_init_76 rfl (by decide) ac_int (by omega) (ot_ow1 (by omega)) (ot_ow1 (by omega)) ?_
    refine jv_putR0 (fun _ => ⟨rfl, ot_finX5⟩) dX5_init_78 flX5_37 rfl (a := m) (n := 0) (by rw [jv_k_old (by omega)]; exact hk1) (Nat.le_refl _) ot_narr ?_
    exact hV
  have s7 : ∀ (G1 : jv_Gr) (I1 : jv_I) (J1 : jv_J), ot_al G G1 m 15 7 → ot_ai I I1 m 15 false → (∀ b, b ≤ m → J1 b = J b) → jv_s G1 ≤ jv_s G + 650 → ∃ G2 I2 J2, jv_V 2 mX5_init 65 [.ref m] [] G1 I1 J1 none G2 I2 J2 ∧ ot_al G G2 m 29 21 ∧ ot_ai I I2 m 29 true ∧ (∀ b, b ≤ m → J2 b = J b) ∧ jv_s G2 ≤ jv_s G + 829 := by
    intro G1 I1 J1 a b e hz
    have hn1 := a.1
    have hk1 := (a.2.1 m (Nat.le_refl m)).trans hk
    obtain ⟨G2, I2, J2, hV, hP⟩ := s8 (jv_sr (jv_nw G1 (0, 8) 8) m 8 (jv_n G1 + 1)) (jv_zI I1 (jv_n G1 + 1)) J1 (ot_al_arr a rfl rfl rfl (by decide) (by decide) hm0) (ot_ai_z b hn1) e (show jv_s G1 + 8 ≤ _ by omega)
    refine ⟨G2, I2, J2, ?_, hP⟩
    refine jv_aload0 dX5_init_65 ?_
    refine jv_bipush dX5_init_66 jv_c_bipush_8 ?_
    refine jv_newI dX5_init_68 rfl (by decide) ac_int (by omega) (ot_ow1 (by omega)) (ot_ow1 (by omega)) ?_
    refine jv_putR0 (fun _ => ⟨rfl, ot_finX5⟩) dX5_init_70 flX5_34 rfl (a := m) (n := 0) (by rw [jv_k_old (by omega)]; exact hk1) (Nat.le_refl _) ot_narr ?_
    exact hV
  have s6 : ∀ (G1 : jv_Gr) (I1 : jv_I) (J1 : jv_J), ot_al G G1 m 14 6 → ot_ai I I1 m 14 false → (∀ b, b ≤ m → J1 b = J b) → jv_s G1 ≤ jv_s G + 400 → ∃ G2 I2 J2, jv_V 2 mX5_init 56 [.ref m] [] G1 I1 J1 none G2 I2 J2 ∧ ot_al G G2 m 29 21 ∧ ot_ai I I2 m 29 true ∧ (∀ b, b ≤ m → J2 b = J b) ∧ jv_s G2 ≤ jv_s G + 829 := by
    intro G1 I1 J1 a b e hz
    have hn1 := a.1
    have hk1 := (a.2.1 m (Nat.le_refl m)).trans hk
    obtain ⟨G2, I2, J2, hV, hP⟩ := s7 (jv_sr (jv_nw G1 (0, 250) 250) m 6 (jv_n G1 + 1)) (jv_zI I1 (jv_n G1 + 1)) J1 (ot_al_arr a rfl rfl rfl (by decide) (by decide) hm0) (ot_ai_z b hn1) e (show jv_s G1 + 250 ≤ _ by omega)
    refine ⟨G2, I2, J2, ?_, hP⟩
    refine jv_aload0 dX5_init_56 ?_
    refine jv_sipush dX5_init_57 jv_c_sipush_250 ?_
    refine jv_newI dX5_init_60 rfl (by decide) ac_int (by omega) (ot_ow1 (by omega)) (ot_ow1 (by omega)) ?_
    refine jv_putR0 (fun _ => ⟨rfl, ot_finX5⟩) dX5_init_62 flX5_31 rfl (a := m) (n := 0) (by rw [jv_k_old (by omega)]; exact hk1) (Nat.le_refl _) ot_narr ?_
    exact hV
  have s5 : ∀ (G1 : jv_Gr) (I1 : jv_I) (J1 : jv_J), ot_al G G1 m 13 5 → ot_ai I I1 m 13 false → (∀ b, b ≤ m → J1 b = J b) → jv_s G1 ≤ jv_s G + 392 → ∃ G2 I2 J2, jv_V 2 mX5_init 48 [.ref m] [] G1 I1 J1 none G2 I2 J2 ∧ ot_al G G2 m 29 21 ∧ ot_ai I I2 m 29 true ∧ (∀ b, b ≤ m → J2 b = J b) ∧ jv_s G2 ≤ jv_s G + 829 := by
    intro G1 I1 J1 a b e hz
    have hn1 := a.1
    have hk1 := (a.2.1 m (Nat.le_refl m)).trans hk
    obtain ⟨G2, I2, J2, hV, hP⟩ := s6 (jv_sr (jv_nw G1 (0, 8) 8) m 5 (jv_n G1 + 1)) (jv_zI I1 (jv_n G1 + 1)) J1 (ot_al_arr a rfl rfl rfl (by decide) (by decide) hm0) (ot_ai_z b hn1) e (show jv_s G1 + 8 ≤ _ by omega)
    refine ⟨G2, I2, J2, ?_, hP⟩
    refine jv_aload0 dX5_init_48 ?_
    refine jv_bipush dX5_init_49 jv_c_bipush_8 ?_
    refine jv_newI dX5_init_51 rfl (by decide) ac_int (by omega) (ot_ow1 (by omega)) (ot_ow1 (by omega)) ?_
    refine jv_putR0 (fun _ => ⟨rfl, ot_finX5⟩) dX5_init_53 flX5_28 rfl (a := m) (n := 0) (by rw [jv_k_old (by omega)]; exact hk1) (Nat.le_refl _) ot_narr ?_
    exact hV
  have s4 : ∀ (G1 : jv_Gr) (I1 : jv_I) (J1 : jv_J), ot_al G G1 m 12 4 → ot_ai I I1 m 12 false → (∀ b, b ≤ m → J1 b = J b) → jv_s G1 ≤ jv_s G + 352 → ∃ G2 I2 J2, jv_V 2 mX5_init 40 [.ref m] [] G1 I1 J1 none G2 I2 J2 ∧ ot_al G G2 m 29 21 ∧ ot_ai I I2 m 29 true ∧ (∀ b, b ≤ m → J2 b = J b) ∧ jv_s G2 ≤ jv_s G + 829 := by
    intro G1 I1 J1 a b e hz
    have hn1 := a.1
    have hk1 := (a.2.1 m (Nat.le_refl m)).trans hk
    obtain ⟨G2, I2, J2, hV, hP⟩ := s5 (jv_sr (jv_nw G1 (1, 40) 40) m 4 (jv_n G1 + 1)) I1 (jv_zJ J1 (jv_n G1 + 1)) (ot_al_arr a rfl rfl rfl (by decide) (by decide) hm0) (ot_ai_k b (by decide) (by decide)) (fun q hq => by rw [← e q hq]; funext j; unfold jv_zJ; rw [if_neg (by omega)]) (show jv_s G1 + 40 ≤ _ by omega)
    refine ⟨G2, I2, J2, ?_, hP⟩
    refine jv_aload0 dX5_init_40 ?_
    refine jv_bipush dX5_init_41 jv_c_bipush_40 ?_
    refine jv_newJ dX5_init_43 rfl (by decide) ac_long (by omega) (ot_ow1 (by omega)) (ot_ow1 (by omega)) ?_
    refine jv_putR0 (fun _ => ⟨rfl, ot_finX5⟩) dX5_init_45 flX5_24 rfl (a := m) (n := 0) (by rw [jv_k_old (by omega)]; exact hk1) (Nat.le_refl _) ot_narr ?_
    exact hV
  have s3 : ∀ (G1 : jv_Gr) (I1 : jv_I) (J1 : jv_J), ot_al G G1 m 3 3 → ot_ai I I1 m 3 false → (∀ b, b ≤ m → J1 b = J b) → jv_s G1 ≤ jv_s G + 24 → ∃ G2 I2 J2, jv_V 2 mX5_init 28 [.ref m] [] G1 I1 J1 none G2 I2 J2 ∧ ot_al G G2 m 29 21 ∧ ot_ai I I2 m 29 true ∧ (∀ b, b ≤ m → J2 b = J b) ∧ jv_s G2 ≤ jv_s G + 829 := by
    intro G1 I1 J1 a b e hz
    have hn1 := a.1
    have hk1 := (a.2.1 m (Nat.le_refl m)).trans hk
    obtain ⟨G2, I2, J2, hV, hP⟩ := s4 (jv_sr (jv_g8 G1) m 3 (jv_n G1 + 1)) I1 (jv_zA J1 (jv_n G1)) (ot_al_grid a hm0) (ot_ai_k b (by decide) (by decide)) (fun q hq => by rw [← e q hq]; funext j; unfold jv_zA; rw [if_neg (by omega)]) (show jv_s G1 + 328 ≤ _ by omega)
    refine ⟨G2, I2, J2, ?_, hP⟩
    refine jv_aload0 dX5_init_28 ?_
    refine jv_bipush dX5_init_29 jv_c_bipush_8 ?_
    refine jv_bipush dX5_init_31 jv_c_bipush_40 ?_
    refine jv_grid dX5_init_33 klX5_19 ac_long (by omega) (ot_ow1 (by omega)) (ot_ow1 (by omega)) ?_
    refine jv_putR0 (fun _ => ⟨rfl, ot_finX5⟩) dX5_init_37 flX5_21 rfl (a := m) (n := 0) (by rw [jv_g8_k_old (by omega)]; exact hk1) (by show jv_n G1 + 1 ≤ jv_n G1 + 9; omega) ot_narr ?_
    exact hV
  have s2 : ∀ (G1 : jv_Gr) (I1 : jv_I) (J1 : jv_J), ot_al G G1 m 2 2 → ot_ai I I1 m 2 false → (∀ b, b ≤ m → J1 b = J b) → jv_s G1 ≤ jv_s G + 16 → ∃ G2 I2 J2, jv_V 2 mX5_init 20 [.ref m] [] G1 I1 J1 none G2 I2 J2 ∧ ot_al G G2 m 29 21 ∧ ot_ai I I2 m 29 true ∧ (∀ b, b ≤ m → J2 b = J b) ∧ jv_s G2 ≤ jv_s G + 829 := by
    intro G1 I1 J1 a b e hz
    have hn1 := a.1
    have hk1 := (a.2.1 m (Nat.le_refl m)).trans hk
    obtain ⟨G2, I2, J2, hV, hP⟩ := s3 (jv_sr (jv_nw G1 (0, 8) 8) m 2 (jv_n G1 + 1)) (jv_zI I1 (jv_n G1 + 1)) J1 (ot_al_arr a rfl rfl rfl (by decide) (by decide) hm0) (ot_ai_z b hn1) e (show jv_s G1 + 8 ≤ _ by omega)
    refine ⟨G2, I2, J2, ?_, hP⟩
    refine jv_aload0 dX5_init_20 ?_
    refine jv_bipush dX5_init_21 jv_c_bipush_8 ?_
    refine jv_newI dX5_init_23 rfl (by decide) ac_int (by omega) (ot_ow1 (by omega)) (ot_ow1 (by omega)) ?_
    refine jv_putR0 (fun _ => ⟨rfl, ot_finX5⟩) dX5_init_25 flX5_16 rfl (a := m) (n := 0) (by rw [jv_k_old (by omega)]; exact hk1) (Nat.le_refl _) ot_narr ?_
    exact hV
  have s1 : ∀ (G1 : jv_Gr) (I1 : jv_I) (J1 : jv_J), ot_al G G1 m 1 1 → ot_ai I I1 m 1 false → (∀ b, b ≤ m → J1 b = J b) → jv_s G1 ≤ jv_s G + 8 → ∃ G2 I2 J2, jv_V 2 mX5_init 12 [.ref m] [] G1 I1 J1 none G2 I2 J2 ∧ ot_al G G2 m 29 21 ∧ ot_ai I I2 m 29 true ∧ (∀ b, b ≤ m → J2 b = J b) ∧ jv_s G2 ≤ jv_s G + 829 := by
    intro G1 I1 J1 a b e hz
    have hn1 := a.1
    have hk1 := (a.2.1 m (Nat.le_refl m)).trans hk
    obtain ⟨G2, I2, J2, hV, hP⟩ := s2 (jv_sr (jv_nw G1 (0, 8) 8) m 1 (jv_n G1 + 1)) (jv_zI I1 (jv_n G1 + 1)) J1 (ot_al_arr a rfl rfl rfl (by decide) (by decide) hm0) (ot_ai_z b hn1) e (show jv_s G1 + 8 ≤ _ by omega)
    refine ⟨G2, I2, J2, ?_, hP⟩
    refine jv_aload0 dX5_init_12 ?_
    refine jv_bipush dX5_init_13 jv_c_bipush_8 ?_
    refine jv_newI dX5_init_15 rfl (by decide) ac_int (by omega) (ot_ow1 (by omega)) (ot_ow1 (by omega)) ?_
    refine jv_putR0 (fun _ => ⟨rfl, ot_finX5⟩) dX5_init_17 flX5_13 rfl (a := m) (n := 0) (by rw [jv_k_old (by omega)]; exact hk1) (Nat.le_refl _) ot_narr ?_
    exact hV
  have s0 : ∀ (G1 : jv_Gr) (I1 : jv_I) (J1 : jv_J), ot_al G G1 m 0 0 → ot_ai I I1 m 0 false → (∀ b, b ≤ m → J1 b = J b) → jv_s G1 ≤ jv_s G + 0 → ∃ G2 I2 J2, jv_V 2 mX5_init 4 [.ref m] [] G1 I1 J1 none G2 I2 J2 ∧ ot_al G G2 m 29 21 ∧ ot_ai I I2 m 29 true ∧ (∀ b, b ≤ m → J2 b = J b) ∧ jv_s G2 ≤ jv_s G + 829 := by
    intro G1 I1 J1 a b e hz
    have hn1 := a.1
    have hk1 := (a.2.1 m (Nat.le_refl m)).trans hk
    obtain ⟨G2, I2, J2, hV, hP⟩ := s1 (jv_sr (jv_nw G1 (0, 8) 8) m 0 (jv_n G1 + 1)) (jv_zI I1 (jv_n G1 + 1)) J1 (ot_al_arr a rfl rfl rfl (by decide) (by decide) hm0) (ot_ai_z b hn1) e (show jv_s G1 + 8 ≤ _ by omega)
    refine ⟨G2, I2, J2, ?_, hP⟩
    refine jv_aload0 dX5_init_4 ?_
    refine jv_bipush dX5_init_5 jv_c_bipush_8 ?_
    refine jv_newI dX5_init_7 rfl (by decide) ac_int (by omega) (ot_ow1 (by omega)) (ot_ow1 (by omega)) ?_
    refine jv_putR0 (fun _ => ⟨rfl, ot_finX5⟩) dX5_init_9 flX5_7 rfl (a := m) (n := 0) (by rw [jv_k_old (by omega)]; exact hk1) (Nat.le_refl _) ot_narr ?_
    exact hV
  obtain ⟨G2, I2, J2, hV, hP⟩ := s0 G I J ⟨hn, fun _ _ => rfl, fun _ _ _ => rfl, fun j hj => absurd hj (by omega), fun j hj => absurd hj (by omega), fun _ _ => rfl, fun q => absurd q (by omega)⟩ ⟨fun _ _ => rfl, fun _ _ => rfl, rfl, fun q => absurd q (by omega), fun q => absurd q (by omega)⟩ (fun _ _ => rfl) (Nat.le_refl _)
  refine ⟨G2, I2, J2, ?_, hP⟩
  refine jv_enter okX5_init (L := [.ref m]) rfl (Nat.le_of_ble_eq_true rfl) ?_
  refine jv_aload0 dX5_init_0 ?_
  refine jv_objInit dX5_init_1 mlX5_1 in_obj co_obj hm0 (Nat.le_of_ble_eq_true rfl) (by decide) ?_
  exact hV
theorem ot_MG_ext {G G2 : jv_Gr} {m n f : Nat} (h : ot_MG G m) (hk : ∀ b, b ≤ n → jv_k G2 b = jv_k G b) (hr : ∀ b i, b ≤ n → (b ≠ 64 ∨ i ≠ f) → jv_r G2 b i = jv_r G b i) (hf : ∀ j, j < 21 → ot_mfld j ≠ f) (hn : m + 29 ≤ n) (h4 : m + 4 ≠ 64) : ot_MG G2 m := by
  obtain ⟨a, b, c, e⟩ := h
  refine ⟨by rw [hk m (by omega)]; exact a, fun j hj => by rw [hk _ (by omega)]; exact b j hj, fun j hj => by rw [hr m _ (by omega) (.inr (hf j hj))]; exact c j hj, fun s hs => by rw [hr _ _ (by omega) (.inl h4)]; exact e s hs⟩
theorem ot_MG_al {G0 G : jv_Gr} {m : Nat} (h : ot_al G0 G m 29 21) (hk : jv_k G0 m = (5 + 10, 0)) : ot_MG G m := ⟨(h.2.1 m (Nat.le_refl m)).trans hk, h.2.2.2.1, h.2.2.2.2.1, h.2.2.2.2.2.2 (by decide)⟩
theorem ot_mfld_23 : ∀ j, j < 21 → ot_mfld j ≠ 23 := by decide
theorem ot_mfld_24 : ∀ j, j < 21 → ot_mfld j ≠ 24 := by decide
section OTG3
variable {G G2 : jv_Gr} {I I2 : jv_I} {J J2 : jv_J} {Y Z : ot_Y} {E : ot_E} {K : Option ot_Y}
theorem ot_MR_ext {m n : Nat} (h : ot_MR I m Y) (hI : ∀ b, b ≤ n → I2 b = I b) (hn : m + 29 ≤ n) : ot_MR I2 m Y := by
  obtain ⟨b1, b2, b3, b4⟩ := h
  unfold ot_MR
  rw [hI m (by omega), hI (m + 17) (by omega), hI (m + 18) (by omega), hI (m + 19) (by omega), hI (m + 20) (by omega), hI (m + 21) (by omega), hI (m + 22) (by omega), hI (m + 23) (by omega), hI (m + 24) (by omega), hI (m + 25) (by omega), hI (m + 26) (by omega)]
  exact ⟨b1, b2, b3, b4⟩
theorem ot_NR_ext {n : Nat} (h : ot_NR I J Z E) (hI : ∀ b, b ≤ n → I2 b = I b) (hJ : ∀ b, b ≤ n → J2 b = J b) (hn : 93 ≤ n) : ot_NR I2 J2 Z E := by
  obtain ⟨d1, ⟨d2, d3⟩, d4⟩ := h
  refine ⟨fun s hs => ?_, ⟨?_, fun i hi => ?_⟩, fun k hk => ?_⟩
  · rw [hI 65 (by omega), hI 66 (by omega), hI 67 (by omega), hI 78 (by omega), hJ (64 + (5 + s)) (by omega)]; exact d1 s hs
  · rw [hI 64 (by omega)]; exact d2
  · rw [hI 79 (by omega)]; exact d3 i hi
  · rw [hI 80 (by omega)]; exact d4 k hk
end OTG3
