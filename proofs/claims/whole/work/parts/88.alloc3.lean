/-! ===== the component is made ===== -/
theorem nlX4_9 (base : Nat) (adS : Nat → Nat) (U : State) (h : jv_env base adS U) : va_Nw (.methodLinkNest RX4 9 yX3_init RX4) U := h.2.2.2.2.2.1 _ (show (RX4, 9, yX3_init, RX4) ∈ jv_nests from List.mem_of_getElem? (i := 0) rfl)
theorem nlX4_33 (base : Nat) (adS : Nat → Nat) (U : State) (h : jv_env base adS U) : va_Nw (.methodLinkNest RX4 33 yX2_init RX4) U := h.2.2.2.2.2.1 _ (show (RX4, 33, yX2_init, RX4) ∈ jv_nests from List.mem_of_getElem? (i := 1) rfl)
theorem nlX4_52 (base : Nat) (adS : Nat → Nat) (U : State) (h : jv_env base adS U) : va_Nw (.methodLinkNest RX4 52 yX1_init RX4) U := h.2.2.2.2.2.1 _ (show (RX4, 52, yX1_init, RX4) ∈ jv_nests from List.mem_of_getElem? (i := 2) rfl)
def ot_a2 (K : Nat → Nat × Nat) (fld : Nat → Nat) (G0 G : jv_Gr) (m c : Nat) : Prop :=
  jv_n G = m + c ∧ (∀ b, b ≤ m → jv_k G b = jv_k G0 b) ∧ (∀ b, b < m → ∀ i, jv_r G b i = jv_r G0 b i) ∧ (∀ j, j < c → jv_k G (m + (j + 1)) = K j) ∧ (∀ j, j < c → jv_r G m (fld j) = m + (j + 1)) ∧ (∀ k, (∀ j, j < c → fld j ≠ k) → jv_r G m k = jv_r G0 m k)
theorem ot_a2_0 {K : Nat → Nat × Nat} {fld : Nat → Nat} {G : jv_Gr} {m : Nat} (hn : jv_n G = m) : ot_a2 K fld G G m 0 := ⟨hn, fun _ _ => rfl, fun _ _ _ => rfl, fun j hj => absurd hj (by omega), fun j hj => absurd hj (by omega), fun _ _ => rfl⟩
theorem ot_a2_arr {K : Nat → Nat × Nat} {fld : Nat → Nat} {G0 G : jv_Gr} {m c f sl : Nat} {kd : Nat × Nat} (h : ot_a2 K fld G0 G m c) (hk : kd = K c) (hf : fld c = f) (hd : ∀ j, j < c → fld j ≠ f) (hm : m ≠ 0) : ot_a2 K fld G0 (jv_sr (jv_nw G kd sl) m f (jv_n G + 1)) m (c + 1) := by
  obtain ⟨h1, h2, h3, h4, h5, h6⟩ := h
  have kk : ∀ b, b ≤ m + c → jv_k (jv_sr (jv_nw G kd sl) m f (jv_n G + 1)) b = jv_k G b := fun b hb => by rw [jv_k_up, jv_k_old (by omega)]
  have rr : ∀ b, b ≤ m + c → ∀ i, jv_r (jv_nw G kd sl) b i = jv_r G b i := fun b hb i => jv_r_old (by omega)
  refine ⟨?_, fun b hb => ?_, fun b hb i => ?_, fun j hj => ?_, fun j hj => ?_, fun k hk2 => ?_⟩
  · show jv_n G + 1 = _; omega
  · rw [kk b (by omega)]; exact h2 b hb
  · rw [jv_r_sr, if_neg (by omega), rr b (by omega)]; exact h3 b hb i
  · by_cases e : j = c
    · subst e
      rw [jv_k_up, show m + (j + 1) = jv_n G + 1 by omega, jv_k_new]; exact hk
    · rw [kk _ (by omega)]; exact h4 j (by omega)
  · rw [jv_r_sr, if_pos rfl]
    by_cases e : j = c
    · subst e; rw [if_pos hf]; omega
    · rw [if_neg (hd j (by omega)), rr m (by omega)]; exact h5 j (by omega)
  · rw [jv_r_sr, if_pos rfl, if_neg (fun q => hk2 c (by omega) (by rw [hf, q])), rr m (by omega)]
    exact h6 k (fun j hj => hk2 j (by omega))
def ot_yK (j : Nat) : Nat × Nat := (0, ot_ylen j)
def ot_fK (j : Nat) : Nat × Nat := match j with
  | 0 => (0, 14)
  | 1 => (0, 5)
  | 2 => (0, 5)
  | _ => (0, 14)
def ot_fF (j : Nat) : Nat := j + 1
def ot_tK (_ : Nat) : Nat × Nat := (0, 250)
def ot_tF (_ : Nat) : Nat := 0
def ot_sK (_ : Nat) : Nat × Nat := (1, 40)
def ot_sF (_ : Nat) : Nat := 2
theorem ot_zI_ne (I : jv_I) {a b : Nat} (h : b ≠ a) : jv_zI I a b = I b := by funext j; unfold jv_zI; rw [if_neg h]
theorem ot_ow2 {n m : Nat} (h : m ≤ n) : jv_ow n [.ref m, .null] := ot_ow_r h (ot_ow_n ot_ow_nil)
theorem ot_finX0 : ∀ C T N ty0, jv_cl 0 C T N ty0 → RX0 = C := fun C T N ty0 hc => by
  have e := hc.1
  rw [clX0.1] at e
  cases e
  rfl
theorem ot_finX1 : ∀ C T N ty0, jv_cl 1 C T N ty0 → RX1 = C := fun C T N ty0 hc => by
  have e := hc.1
  rw [clX1.1] at e
  cases e
  rfl
theorem ot_finX2 : ∀ C T N ty0, jv_cl 2 C T N ty0 → RX2 = C := fun C T N ty0 hc => by
  have e := hc.1
  rw [clX2.1] at e
  cases e
  rfl
theorem ot_finX3 : ∀ C T N ty0, jv_cl 3 C T N ty0 → RX3 = C := fun C T N ty0 hc => by
  have e := hc.1
  rw [clX3.1] at e
  cases e
  rfl
theorem ot_finX4 : ∀ C T N ty0, jv_cl 4 C T N ty0 → RX4 = C := fun C T N ty0 hc => by
  have e := hc.1
  rw [clX4.1] at e
  cases e
  rfl
set_option maxRecDepth 20000 in
theorem oc_initX3 {G : jv_Gr} {I : jv_I} {J : jv_J} {m : Nat}  (hm0 : m ≠ 0) (hm : m < 900) (hn : jv_n G = m) (hk : jv_k G m = (3 + 10, 0)) : ∃ G2 I2 J2, jv_C 2 mX3_init [.ref m] G I J none G2 I2 J2 ∧ ot_a2 ot_yK ot_yfld G G2 m 11 ∧ jv_s G2 ≤ jv_s G + 154 ∧ (∀ b, b < m → I2 b = I b) ∧ I2 m 0 = nI 0 ∧ I2 m 5 = nI 0 ∧ I2 m 9 = nI 0 ∧ I2 m 14 = nI 1 := by
  have s15 : ∀ (G1 : jv_Gr) (I1 : jv_I) (J1 : jv_J), ot_a2 ot_yK ot_yfld G G1 m 11 → jv_s G1 ≤ jv_s G + 154 → ((∀ b, b < m → I1 b = I b) ∧ I1 m 0 = nI 0 ∧ I1 m 5 = nI 0 ∧ I1 m 9 = nI 0 ∧ I1 m 14 = nI 1) → ∃ G2 I2 J2, jv_V 2 mX3_init 112 [.ref m] [] G1 I1 J1 none G2 I2 J2 ∧ ot_a2 ot_yK ot_yfld G G2 m 11 ∧ jv_s G2 ≤ jv_s G + 154 ∧ (∀ b, b < m → I2 b = I b) ∧ I2 m 0 = nI 0 ∧ I2 m 5 = nI 0 ∧ I2 m 9 = nI 0 ∧ I2 m 14 = nI 1 := by
    intro G1 I1 J1 a hz b
    exact ⟨G1, I1, J1, jv_vret dX3_init_112 rfl rfl rfl rfl, a, hz, b⟩
  have s14 : ∀ (G1 : jv_Gr) (I1 : jv_I) (J1 : jv_J), ot_a2 ot_yK ot_yfld G G1 m 11 → jv_s G1 ≤ jv_s G + 154 → ((∀ b, b < m → I1 b = I b) ∧ I1 m 0 = nI 0 ∧ I1 m 5 = nI 0 ∧ I1 m 9 = nI 0) → ∃ G2 I2 J2, jv_V 2 mX3_init 107 [.ref m] [] G1 I1 J1 none G2 I2 J2 ∧ ot_a2 ot_yK ot_yfld G G2 m 11 ∧ jv_s G2 ≤ jv_s G + 154 ∧ (∀ b, b < m → I2 b = I b) ∧ I2 m 0 = nI 0 ∧ I2 m 5 = nI 0 ∧ I2 m 9 = nI 0 ∧ I2 m 14 = nI 1 := by
    intro G1 I1 J1 a hz b
    have hn1 := a.1
    have hk1 := (a.2.1 m (Nat.le_refl m)).trans hk
    obtain ⟨b0, q0, q1, q2⟩ := b
    obtain ⟨G2, I2, J2, hV, hP⟩ := s15 G1 (jv_up I1 m 14 (nI 1)) J1 a hz ⟨fun b hb => by rw [jv_up_ne _ _ _ (by omega)]; exact b0 b hb, by rw [jv_up_at_ne _ _ _ (by decide)]; exact q0, by rw [jv_up_at_ne _ _ _ (by decide)]; exact q1, by rw [jv_up_at_ne _ _ _ (by decide)]; exact q2, jv_up_at _ _ _ _⟩
    refine ⟨G2, I2, J2, ?_, hP⟩
    refine jv_aload0 dX3_init_107 ?_
    refine jv_iconst dX3_init_108 jv_c_iconst_1 ?_
    refine jv_putI dX3_init_109 flX3_55 rfl hk1 rfl rfl ?_
    exact hV
  have s13 : ∀ (G1 : jv_Gr) (I1 : jv_I) (J1 : jv_J), ot_a2 ot_yK ot_yfld G G1 m 10 → jv_s G1 ≤ jv_s G + 134 → ((∀ b, b < m → I1 b = I b) ∧ I1 m 0 = nI 0 ∧ I1 m 5 = nI 0 ∧ I1 m 9 = nI 0) → ∃ G2 I2 J2, jv_V 2 mX3_init 99 [.ref m] [] G1 I1 J1 none G2 I2 J2 ∧ ot_a2 ot_yK ot_yfld G G2 m 11 ∧ jv_s G2 ≤ jv_s G + 154 ∧ (∀ b, b < m → I2 b = I b) ∧ I2 m 0 = nI 0 ∧ I2 m 5 = nI 0 ∧ I2 m 9 = nI 0 ∧ I2 m 14 = nI 1 := by
    intro G1 I1 J1 a hz b
    have hn1 := a.1
    have hk1 := (a.2.1 m (Nat.le_refl m)).trans hk
    obtain ⟨b0, q0, q1, q2⟩ := b
    obtain ⟨G2, I2, J2, hV, hP⟩ := s14 (jv_sr (jv_nw G1 (0, 20) 20) m 13 (jv_n G1 + 1)) (jv_zI I1 (jv_n G1 + 1)) J1 (ot_a2_arr a rfl rfl (by decide) hm0) (show jv_s G1 + 20 ≤ _ by omega) ⟨fun b hb => by rw [ot_zI_ne _ (by omega)]; exact b0 b hb, by rw [ot_zI_ne _ (by omega)]; exact q0, by rw [ot_zI_ne _ (by omega)]; exact q1, by rw [ot_zI_ne _ (by omega)]; exact q2⟩
    refine ⟨G2, I2, J2, ?_, hP⟩
    refine jv_aload0 dX3_init_99 ?_
    refine jv_bipush dX3_init_100 jv_c_bipush_20 ?_
    refine jv_newI dX3_init_102 rfl (by decide) ac_int (by omega) (ot_ow1 (by omega)) (ot_ow1 (by omega)) ?_
    refine jv_putR0 (fun _ => ⟨rfl, ot_finX3⟩) dX3_init_104 flX3_52 rfl (a := m) (n := 0) (by rw [jv_k_old (by omega)]; exact hk1) (Nat.le_refl _) ot_narr ?_
    exact hV
  have s12 : ∀ (G1 : jv_Gr) (I1 : jv_I) (J1 : jv_J), ot_a2 ot_yK ot_yfld G G1 m 9 → jv_s G1 ≤ jv_s G + 114 → ((∀ b, b < m → I1 b = I b) ∧ I1 m 0 = nI 0 ∧ I1 m 5 = nI 0 ∧ I1 m 9 = nI 0) → ∃ G2 I2 J2, jv_V 2 mX3_init 91 [.ref m] [] G1 I1 J1 none G2 I2 J2 ∧ ot_a2 ot_yK ot_yfld G G2 m 11 ∧ jv_s G2 ≤ jv_s G + 154 ∧ (∀ b, b < m → I2 b = I b) ∧ I2 m 0 = nI 0 ∧ I2 m 5 = nI 0 ∧ I2 m 9 = nI 0 ∧ I2 m 14 = nI 1 := by
    intro G1 I1 J1 a hz b
    have hn1 := a.1
    have hk1 := (a.2.1 m (Nat.le_refl m)).trans hk
    obtain ⟨b0, q0, q1, q2⟩ := b
    obtain ⟨G2, I2, J2, hV, hP⟩ := s13 (jv_sr (jv_nw G1 (0, 20) 20) m 12 (jv_n G1 + 1)) (jv_zI I1 (jv_n G1 + 1)) J1 (ot_a2_arr a rfl rfl (by decide) hm0) (show jv_s G1 + 20 ≤ _ by omega) ⟨fun b hb => by rw [ot_zI_ne _ (by omega)]; exact b0 b hb, by rw [ot_zI_ne _ (by omega)]; exact q0, by rw [ot_zI_ne _ (by omega)]; exact q1, by rw [ot_zI_ne _ (by omega)]; exact q2⟩
    refine ⟨G2, I2, J2, ?_, hP⟩
    refine jv_aload0 dX3_init_91 ?_
    refine jv_bipush dX3_init_92 jv_c_bipush_20 ?_
    refine jv_newI dX3_init_94 rfl (by decide) ac_int (by omega) (ot_ow1 (by omega)) (ot_ow1 (by omega)) ?_
    refine jv_putR0 (fun _ => ⟨rfl, ot_finX3⟩) dX3_init_96 flX3_49 rfl (a := m) (n := 0) (by rw [jv_k_old (by omega)]; exact hk1) (Nat.le_refl _) ot_narr ?_
    exact hV
  have s11 : ∀ (G1 : jv_Gr) (I1 : jv_I) (J1 : jv_J), ot_a2 ot_yK ot_yfld G G1 m 8 → jv_s G1 ≤ jv_s G + 94 → ((∀ b, b < m → I1 b = I b) ∧ I1 m 0 = nI 0 ∧ I1 m 5 = nI 0 ∧ I1 m 9 = nI 0) → ∃ G2 I2 J2, jv_V 2 mX3_init 83 [.ref m] [] G1 I1 J1 none G2 I2 J2 ∧ ot_a2 ot_yK ot_yfld G G2 m 11 ∧ jv_s G2 ≤ jv_s G + 154 ∧ (∀ b, b < m → I2 b = I b) ∧ I2 m 0 = nI 0 ∧ I2 m 5 = nI 0 ∧ I2 m 9 = nI 0 ∧ I2 m 14 = nI 1 := by
    intro G1 I1 J1 a hz b
    have hn1 := a.1
    have hk1 := (a.2.1 m (Nat.le_refl m)).trans hk
    obtain ⟨b0, q0, q1, q2⟩ := b
    obtain ⟨G2, I2, J2, hV, hP⟩ := s12 (jv_sr (jv_nw G1 (0, 20) 20) m 11 (jv_n G1 + 1)) (jv_zI I1 (jv_n G1 + 1)) J1 (ot_a2_arr a rfl rfl (by decide) hm0) (show jv_s G1 + 20 ≤ _ by omega) ⟨fun b hb => by rw [ot_zI_ne _ (by omega)]; exact b0 b hb, by rw [ot_zI_ne _ (by omega)]; exact q0, by rw [ot_zI_ne _ (by omega)]; exact q1, by rw [ot_zI_ne _ (by omega)]; exact q2⟩
    refine ⟨G2, I2, J2, ?_, hP⟩
    refine jv_aload0 dX3_init_83 ?_
    refine jv_bipush dX3_init_84 jv_c_bipush_20 ?_
    refine jv_newI dX3_init_86 rfl (by decide) ac_int (by omega) (ot_ow1 (by omega)) (ot_ow1 (by omega)) ?_
    refine jv_putR0 (fun _ => ⟨rfl, ot_finX3⟩) dX3_init_88 flX3_46 rfl (a := m) (n := 0) (by rw [jv_k_old (by omega)]; exact hk1) (Nat.le_refl _) ot_narr ?_
    exact hV
  have s10 : ∀ (G1 : jv_Gr) (I1 : jv_I) (J1 : jv_J), ot_a2 ot_yK ot_yfld G G1 m 7 → jv_s G1 ≤ jv_s G + 74 → ((∀ b, b < m → I1 b = I b) ∧ I1 m 0 = nI 0 ∧ I1 m 5 = nI 0 ∧ I1 m 9 = nI 0) → ∃ G2 I2 J2, jv_V 2 mX3_init 75 [.ref m] [] G1 I1 J1 none G2 I2 J2 ∧ ot_a2 ot_yK ot_yfld G G2 m 11 ∧ jv_s G2 ≤ jv_s G + 154 ∧ (∀ b, b < m → I2 b = I b) ∧ I2 m 0 = nI 0 ∧ I2 m 5 = nI 0 ∧ I2 m 9 = nI 0 ∧ I2 m 14 = nI 1 := by
    intro G1 I1 J1 a hz b
    have hn1 := a.1
    have hk1 := (a.2.1 m (Nat.le_refl m)).trans hk
    obtain ⟨b0, q0, q1, q2⟩ := b
    obtain ⟨G2, I2, J2, hV, hP⟩ := s11 (jv_sr (jv_nw G1 (0, 20) 20) m 10 (jv_n G1 + 1)) (jv_zI I1 (jv_n G1 + 1)) J1 (ot_a2_arr a rfl rfl (by decide) hm0) (show jv_s G1 + 20 ≤ _ by omega) ⟨fun b hb => by rw [ot_zI_ne _ (by omega)]; exact b0 b hb, by rw [ot_zI_ne _ (by omega)]; exact q0, by rw [ot_zI_ne _ (by omega)]; exact q1, by rw [ot_zI_ne _ (by omega)]; exact q2⟩
    refine ⟨G2, I2, J2, ?_, hP⟩
    refine jv_aload0 dX3_init_75 ?_
    refine jv_bipush dX3_init_76 jv_c_bipush_20 ?_
    refine jv_newI dX3_init_78 rfl (by decide) ac_int (by omega) (ot_ow1 (by omega)) (ot_ow1 (by omega)) ?_
    refine jv_putR0 (fun _ => ⟨rfl, ot_finX3⟩) dX3_init_80 flX3_43 rfl (a := m) (n := 0) (by rw [jv_k_old (by omega)]; exact hk1) (Nat.le_refl _) ot_narr ?_
    exact hV
  have s9 : ∀ (G1 : jv_Gr) (I1 : jv_I) (J1 : jv_J), ot_a2 ot_yK ot_yfld G G1 m 7 → jv_s G1 ≤ jv_s G + 74 → ((∀ b, b < m → I1 b = I b) ∧ I1 m 0 = nI 0 ∧ I1 m 5 = nI 0) → ∃ G2 I2 J2, jv_V 2 mX3_init 70 [.ref m] [] G1 I1 J1 none G2 I2 J2 ∧ ot_a2 ot_yK ot_yfld G G2 m 11 ∧ jv_s G2 ≤ jv_s G + 154 ∧ (∀ b, b < m → I2 b = I b) ∧ I2 m 0 = nI 0 ∧ I2 m 5 = nI 0 ∧ I2 m 9 = nI 0 ∧ I2 m 14 = nI 1 := by
    intro G1 I1 J1 a hz b
    have hn1 := a.1
    have hk1 := (a.2.1 m (Nat.le_refl m)).trans hk
    obtain ⟨b0, q0, q1⟩ := b
    obtain ⟨G2, I2, J2, hV, hP⟩ := s10 G1 (jv_up I1 m 9 (nI 0)) J1 a hz ⟨fun b hb => by rw [jv_up_ne _ _ _ (by omega)]; exact b0 b hb, by rw [jv_up_at_ne _ _ _ (by decide)]; exact q0, by rw [jv_up_at_ne _ _ _ (by decide)]; exact q1, jv_up_at _ _ _ _⟩
    refine ⟨G2, I2, J2, ?_, hP⟩
    refine jv_aload0 dX3_init_70 ?_
    refine jv_iconst dX3_init_71 jv_c_iconst_0 ?_
    refine jv_putI dX3_init_72 flX3_40 rfl hk1 rfl rfl ?_
    exact hV
  have s8 : ∀ (G1 : jv_Gr) (I1 : jv_I) (J1 : jv_J), ot_a2 ot_yK ot_yfld G G1 m 6 → jv_s G1 ≤ jv_s G + 68 → ((∀ b, b < m → I1 b = I b) ∧ I1 m 0 = nI 0 ∧ I1 m 5 = nI 0) → ∃ G2 I2 J2, jv_V 2 mX3_init 62 [.ref m] [] G1 I1 J1 none G2 I2 J2 ∧ ot_a2 ot_yK ot_yfld G G2 m 11 ∧ jv_s G2 ≤ jv_s G + 154 ∧ (∀ b, b < m → I2 b = I b) ∧ I2 m 0 = nI 0 ∧ I2 m 5 = nI 0 ∧ I2 m 9 = nI 0 ∧ I2 m 14 = nI 1 := by
    intro G1 I1 J1 a hz b
    have hn1 := a.1
    have hk1 := (a.2.1 m (Nat.le_refl m)).trans hk
    obtain ⟨b0, q0, q1⟩ := b
    obtain ⟨G2, I2, J2, hV, hP⟩ := s9 (jv_sr (jv_nw G1 (0, 6) 6) m 8 (jv_n G1 + 1)) (jv_zI I1 (jv_n G1 + 1)) J1 (ot_a2_arr a rfl rfl (by decide) hm0) (show jv_s G1 + 6 ≤ _ by omega) ⟨fun b hb => by rw [ot_zI_ne _ (by omega)]; exact b0 b hb, by rw [ot_zI_ne _ (by omega)]; exact q0, by rw [ot_zI_ne _ (by omega)]; exact q1⟩
    refine ⟨G2, I2, J2, ?_, hP⟩
    refine jv_aload0 dX3_init_62 ?_
    refine jv_bipush dX3_init_63 jv_c_bipush_6 ?_
    refine jv_newI dX3_init_65 rfl (by decide) ac_int (by omega) (ot_ow1 (by omega)) (ot_ow1 (by omega)) ?_
    refine jv_putR0 (fun _ => ⟨rfl, ot_finX3⟩) dX3_init_67 flX3_37 rfl (a := m) (n := 0) (by rw [jv_k_old (by omega)]; exact hk1) (Nat.le_refl _) ot_narr ?_
    exact hV
  have s7 : ∀ (G1 : jv_Gr) (I1 : jv_I) (J1 : jv_J), ot_a2 ot_yK ot_yfld G G1 m 5 → jv_s G1 ≤ jv_s G + 62 → ((∀ b, b < m → I1 b = I b) ∧ I1 m 0 = nI 0 ∧ I1 m 5 = nI 0) → ∃ G2 I2 J2, jv_V 2 mX3_init 54 [.ref m] [] G1 I1 J1 none G2 I2 J2 ∧ ot_a2 ot_yK ot_yfld G G2 m 11 ∧ jv_s G2 ≤ jv_s G + 154 ∧ (∀ b, b < m → I2 b = I b) ∧ I2 m 0 = nI 0 ∧ I2 m 5 = nI 0 ∧ I2 m 9 = nI 0 ∧ I2 m 14 = nI 1 := by
    intro G1 I1 J1 a hz b
    have hn1 := a.1
    have hk1 := (a.2.1 m (Nat.le_refl m)).trans hk
    obtain ⟨b0, q0, q1⟩ := b
    obtain ⟨G2, I2, J2, hV, hP⟩ := s8 (jv_sr (jv_nw G1 (0, 6) 6) m 7 (jv_n G1 + 1)) (jv_zI I1 (jv_n G1 + 1)) J1 (ot_a2_arr a rfl rfl (by decide) hm0) (show jv_s G1 + 6 ≤ _ by omega) ⟨fun b hb => by rw [ot_zI_ne _ (by omega)]; exact b0 b hb, by rw [ot_zI_ne _ (by omega)]; exact q0, by rw [ot_zI_ne _ (by omega)]; exact q1⟩
    refine ⟨G2, I2, J2, ?_, hP⟩
    refine jv_aload0 dX3_init_54 ?_
    refine jv_bipush dX3_init_55 jv_c_bipush_6 ?_
    refine jv_newI dX3_init_57 rfl (by decide) ac_int (by omega) (ot_ow1 (by omega)) (ot_ow1 (by omega)) ?_
    refine jv_putR0 (fun _ => ⟨rfl, ot_finX3⟩) dX3_init_59 flX3_34 rfl (a := m) (n := 0) (by rw [jv_k_old (by omega)]; exact hk1) (Nat.le_refl _) ot_narr ?_
    exact hV
  have s6 : ∀ (G1 : jv_Gr) (I1 : jv_I) (J1 : jv_J), ot_a2 ot_yK ot_yfld G G1 m 4 → jv_s G1 ≤ jv_s G + 56 → ((∀ b, b < m → I1 b = I b) ∧ I1 m 0 = nI 0 ∧ I1 m 5 = nI 0) → ∃ G2 I2 J2, jv_V 2 mX3_init 46 [.ref m] [] G1 I1 J1 none G2 I2 J2 ∧ ot_a2 ot_yK ot_yfld G G2 m 11 ∧ jv_s G2 ≤ jv_s G + 154 ∧ (∀ b, b < m → I2 b = I b) ∧ I2 m 0 = nI 0 ∧ I2 m 5 = nI 0 ∧ I2 m 9 = nI 0 ∧ I2 m 14 = nI 1 := by
    intro G1 I1 J1 a hz b
    have hn1 := a.1
    have hk1 := (a.2.1 m (Nat.le_refl m)).trans hk
    obtain ⟨b0, q0, q1⟩ := b
    obtain ⟨G2, I2, J2, hV, hP⟩ := s7 (jv_sr (jv_nw G1 (0, 6) 6) m 6 (jv_n G1 + 1)) (jv_zI I1 (jv_n G1 + 1)) J1 (ot_a2_arr a rfl rfl (by decide) hm0) (show jv_s G1 + 6 ≤ _ by omega) ⟨fun b hb => by rw [ot_zI_ne _ (by omega)]; exact b0 b hb, by rw [ot_zI_ne _ (by omega)]; exact q0, by rw [ot_zI_ne _ (by omega)]; exact q1⟩
    refine ⟨G2, I2, J2, ?_, hP⟩
    refine jv_aload0 dX3_init_46 ?_
    refine jv_bipush dX3_init_47 jv_c_bipush_6 ?_
    refine jv_newI dX3_init_49 rfl (by decide) ac_int (by omega) (ot_ow1 (by omega)) (ot_ow1 (by omega)) ?_
    refine jv_putR0 (fun _ => ⟨rfl, ot_finX3⟩) dX3_init_51 flX3_31 rfl (a := m) (n := 0) (by rw [jv_k_old (by omega)]; exact hk1) (Nat.le_refl _) ot_narr ?_
    exact hV
  have s5 : ∀ (G1 : jv_Gr) (I1 : jv_I) (J1 : jv_J), ot_a2 ot_yK ot_yfld G G1 m 4 → jv_s G1 ≤ jv_s G + 56 → ((∀ b, b < m → I1 b = I b) ∧ I1 m 0 = nI 0) → ∃ G2 I2 J2, jv_V 2 mX3_init 41 [.ref m] [] G1 I1 J1 none G2 I2 J2 ∧ ot_a2 ot_yK ot_yfld G G2 m 11 ∧ jv_s G2 ≤ jv_s G + 154 ∧ (∀ b, b < m → I2 b = I b) ∧ I2 m 0 = nI 0 ∧ I2 m 5 = nI 0 ∧ I2 m 9 = nI 0 ∧ I2 m 14 = nI 1 := by
    intro G1 I1 J1 a hz b
    have hn1 := a.1
    have hk1 := (a.2.1 m (Nat.le_refl m)).trans hk
    obtain ⟨b0, q0⟩ := b
    obtain ⟨G2, I2, J2, hV, hP⟩ := s6 G1 (jv_up I1 m 5 (nI 0)) J1 a hz ⟨fun b hb => by rw [jv_up_ne _ _ _ (by omega)]; exact b0 b hb, by rw [jv_up_at_ne _ _ _ (by decide)]; exact q0, jv_up_at _ _ _ _⟩
    refine ⟨G2, I2, J2, ?_, hP⟩
    refine jv_aload0 dX3_init_41 ?_
    refine jv_iconst dX3_init_42 jv_c_iconst_0 ?_
    refine jv_putI dX3_init_43 flX3_28 rfl hk1 rfl rfl ?_
    exact hV
  have s4 : ∀ (G1 : jv_Gr) (I1 : jv_I) (J1 : jv_J), ot_a2 ot_yK ot_yfld G G1 m 3 → jv_s G1 ≤ jv_s G + 42 → ((∀ b, b < m → I1 b = I b) ∧ I1 m 0 = nI 0) → ∃ G2 I2 J2, jv_V 2 mX3_init 33 [.ref m] [] G1 I1 J1 none G2 I2 J2 ∧ ot_a2 ot_yK ot_yfld G G2 m 11 ∧ jv_s G2 ≤ jv_s G + 154 ∧ (∀ b, b < m → I2 b = I b) ∧ I2 m 0 = nI 0 ∧ I2 m 5 = nI 0 ∧ I2 m 9 = nI 0 ∧ I2 m 14 = nI 1 := by
    intro G1 I1 J1 a hz b
    have hn1 := a.1
    have hk1 := (a.2.1 m (Nat.le_refl m)).trans hk
    obtain ⟨b0, q0⟩ := b
    obtain ⟨G2, I2, J2, hV, hP⟩ := s5 (jv_sr (jv_nw G1 (0, 14) 14) m 4 (jv_n G1 + 1)) (jv_zI I1 (jv_n G1 + 1)) J1 (ot_a2_arr a rfl rfl (by decide) hm0) (show jv_s G1 + 14 ≤ _ by omega) ⟨fun b hb => by rw [ot_zI_ne _ (by omega)]; exact b0 b hb, by rw [ot_zI_ne _ (by omega)]; exact q0⟩
    refine ⟨G2, I2, J2, ?_, hP⟩
    refine jv_aload0 dX3_init_33 ?_
    refine jv_bipush dX3_init_34 jv_c_bipush_14 ?_
    refine jv_newI dX3_init_36 rfl (by decide) ac_int (by omega) (ot_ow1 (by omega)) (ot_ow1 (by omega)) ?_
    refine jv_putR0 (fun _ => ⟨rfl, ot_finX3⟩) dX3_init_38 flX3_25 rfl (a := m) (n := 0) (by rw [jv_k_old (by omega)]; exact hk1) (Nat.le_refl _) ot_narr ?_
    exact hV
  have s3 : ∀ (G1 : jv_Gr) (I1 : jv_I) (J1 : jv_J), ot_a2 ot_yK ot_yfld G G1 m 2 → jv_s G1 ≤ jv_s G + 28 → ((∀ b, b < m → I1 b = I b) ∧ I1 m 0 = nI 0) → ∃ G2 I2 J2, jv_V 2 mX3_init 25 [.ref m] [] G1 I1 J1 none G2 I2 J2 ∧ ot_a2 ot_yK ot_yfld G G2 m 11 ∧ jv_s G2 ≤ jv_s G + 154 ∧ (∀ b, b < m → I2 b = I b) ∧ I2 m 0 = nI 0 ∧ I2 m 5 = nI 0 ∧ I2 m 9 = nI 0 ∧ I2 m 14 = nI 1 := by
    intro G1 I1 J1 a hz b
    have hn1 := a.1
    have hk1 := (a.2.1 m (Nat.le_refl m)).trans hk
    obtain ⟨b0, q0⟩ := b
    obtain ⟨G2, I2, J2, hV, hP⟩ := s4 (jv_sr (jv_nw G1 (0, 14) 14) m 3 (jv_n G1 + 1)) (jv_zI I1 (jv_n G1 + 1)) J1 (ot_a2_arr a rfl rfl (by decide) hm0) (show jv_s G1 + 14 ≤ _ by omega) ⟨fun b hb => by rw [ot_zI_ne _ (by omega)]; exact b0 b hb, by rw [ot_zI_ne _ (by omega)]; exact q0⟩
    refine ⟨G2, I2, J2, ?_, hP⟩
    refine jv_aload0 dX3_init_25 ?_
    refine jv_bipush dX3_init_26 jv_c_bipush_14 ?_
    refine jv_newI dX3_init_28 rfl (by decide) ac_int (by omega) (ot_ow1 (by omega)) (ot_ow1 (by omega)) ?_
    refine jv_putR0 (fun _ => ⟨rfl, ot_finX3⟩) dX3_init_30 flX3_22 rfl (a := m) (n := 0) (by rw [jv_k_old (by omega)]; exact hk1) (Nat.le_refl _) ot_narr ?_
    exact hV
  have s2 : ∀ (G1 : jv_Gr) (I1 : jv_I) (J1 : jv_J), ot_a2 ot_yK ot_yfld G G1 m 1 → jv_s G1 ≤ jv_s G + 14 → ((∀ b, b < m → I1 b = I b) ∧ I1 m 0 = nI 0) → ∃ G2 I2 J2, jv_V 2 mX3_init 17 [.ref m] [] G1 I1 J1 none G2 I2 J2 ∧ ot_a2 ot_yK ot_yfld G G2 m 11 ∧ jv_s G2 ≤ jv_s G + 154 ∧ (∀ b, b < m → I2 b = I b) ∧ I2 m 0 = nI 0 ∧ I2 m 5 = nI 0 ∧ I2 m 9 = nI 0 ∧ I2 m 14 = nI 1 := by
    intro G1 I1 J1 a hz b
    have hn1 := a.1
    have hk1 := (a.2.1 m (Nat.le_refl m)).trans hk
    obtain ⟨b0, q0⟩ := b
    obtain ⟨G2, I2, J2, hV, hP⟩ := s3 (jv_sr (jv_nw G1 (0, 14) 14) m 2 (jv_n G1 + 1)) (jv_zI I1 (jv_n G1 + 1)) J1 (ot_a2_arr a rfl rfl (by decide) hm0) (show jv_s G1 + 14 ≤ _ by omega) ⟨fun b hb => by rw [ot_zI_ne _ (by omega)]; exact b0 b hb, by rw [ot_zI_ne _ (by omega)]; exact q0⟩
    refine ⟨G2, I2, J2, ?_, hP⟩
    refine jv_aload0 dX3_init_17 ?_
    refine jv_bipush dX3_init_18 jv_c_bipush_14 ?_
    refine jv_newI dX3_init_20 rfl (by decide) ac_int (by omega) (ot_ow1 (by omega)) (ot_ow1 (by omega)) ?_
    refine jv_putR0 (fun _ => ⟨rfl, ot_finX3⟩) dX3_init_22 flX3_19 rfl (a := m) (n := 0) (by rw [jv_k_old (by omega)]; exact hk1) (Nat.le_refl _) ot_narr ?_
    exact hV
  have s1 : ∀ (G1 : jv_Gr) (I1 : jv_I) (J1 : jv_J), ot_a2 ot_yK ot_yfld G G1 m 0 → jv_s G1 ≤ jv_s G + 0 → ((∀ b, b < m → I1 b = I b) ∧ I1 m 0 = nI 0) → ∃ G2 I2 J2, jv_V 2 mX3_init 9 [.ref m] [] G1 I1 J1 none G2 I2 J2 ∧ ot_a2 ot_yK ot_yfld G G2 m 11 ∧ jv_s G2 ≤ jv_s G + 154 ∧ (∀ b, b < m → I2 b = I b) ∧ I2 m 0 = nI 0 ∧ I2 m 5 = nI 0 ∧ I2 m 9 = nI 0 ∧ I2 m 14 = nI 1 := by
    intro G1 I1 J1 a hz b
    have hn1 := a.1
    have hk1 := (a.2.1 m (Nat.le_refl m)).trans hk
    obtain ⟨b0, q0⟩ := b
    obtain ⟨G2, I2, J2, hV, hP⟩ := s2 (jv_sr (jv_nw G1 (0, 14) 14) m 1 (jv_n G1 + 1)) (jv_zI I1 (jv_n G1 + 1)) J1 (ot_a2_arr a rfl rfl (by decide) hm0) (show jv_s G1 + 14 ≤ _ by omega) ⟨fun b hb => by rw [ot_zI_ne _ (by omega)]; exact b0 b hb, by rw [ot_zI_ne _ (by omega)]; exact q0⟩
    refine ⟨G2, I2, J2, ?_, hP⟩
    refine jv_aload0 dX3_init_9 ?_
    refine jv_bipush dX3_init_10 jv_c_bipush_14 ?_
    refine jv_newI dX3_init_12 rfl (by decide) ac_int (by omega) (ot_ow1 (by omega)) (ot_ow1 (by omega)) ?_
    refine jv_putR0 (fun _ => ⟨rfl, ot_finX3⟩) dX3_init_14 flX3_15 rfl (a := m) (n := 0) (by rw [jv_k_old (by omega)]; exact hk1) (Nat.le_refl _) ot_narr ?_
    exact hV
  have s0 : ∀ (G1 : jv_Gr) (I1 : jv_I) (J1 : jv_J), ot_a2 ot_yK ot_yfld G G1 m 0 → jv_s G1 ≤ jv_s G + 0 → ((∀ b, b < m → I1 b = I b)) → ∃ G2 I2 J2, jv_V 2 mX3_init 4 [.ref m] [] G1 I1 J1 none G2 I2 J2 ∧ ot_a2 ot_yK ot_yfld G G2 m 11 ∧ jv_s G2 ≤ jv_s G + 154 ∧ (∀ b, b < m → I2 b = I b) ∧ I2 m 0 = nI 0 ∧ I2 m 5 = nI 0 ∧ I2 m 9 = nI 0 ∧ I2 m 14 = nI 1 := by
    intro G1 I1 J1 a hz b
    have hn1 := a.1
    have hk1 := (a.2.1 m (Nat.le_refl m)).trans hk
    have b0 := b
    obtain ⟨G2, I2, J2, hV, hP⟩ := s1 G1 (jv_up I1 m 0 (nI 0)) J1 a hz ⟨fun b hb => by rw [jv_up_ne _ _ _ (by omega)]; exact b0 b hb, jv_up_at _ _ _ _⟩
    refine ⟨G2, I2, J2, ?_, hP⟩
    refine jv_aload0 dX3_init_4 ?_
    refine jv_iconst dX3_init_5 jv_c_iconst_0 ?_
    refine jv_putI dX3_init_6 flX3_9 rfl hk1 rfl rfl ?_
    exact hV
  obtain ⟨G2, I2, J2, hV, hP⟩ := s0 G I J (ot_a2_0 hn) (Nat.le_refl _) (fun _ _ => rfl)
  refine ⟨G2, I2, J2, ?_, hP⟩
  refine jv_enter okX3_init (L := [.ref m]) rfl (Nat.le_of_ble_eq_true rfl) ?_
  refine jv_aload0 dX3_init_0 ?_
  refine jv_objInit dX3_init_1 mlX3_3 in_obj co_obj hm0 (Nat.le_of_ble_eq_true rfl) (by decide) ?_
  exact hV
set_option maxRecDepth 20000 in
theorem oc_initX0 {G : jv_Gr} {I : jv_I} {J : jv_J} {m : Nat} {y : Nat} (hy : y ≤ m) (hm0 : m ≠ 0) (hm : m < 900) (hn : jv_n G = m) (hk : jv_k G m = (0 + 10, 0)) : ∃ G2 I2 J2, jv_C 2 mX0_init [.ref m, .ref y] G I J none (jv_sr G2 m 0 y) I2 J2 ∧ ot_a2 ot_fK ot_fF G G2 m 5 ∧ jv_s G2 ≤ jv_s G + 52 ∧ (∀ b, b < m → I2 b = I b) := by
  have s6 : ∀ (G1 : jv_Gr) (I1 : jv_I) (J1 : jv_J), ∀ G0, G1 = jv_sr G0 m 0 y → ot_a2 ot_fK ot_fF G G0 m 5 → jv_s G0 ≤ jv_s G + 52 → ((∀ b, b < m → I1 b = I b)) → ∃ G2 I2 J2, jv_V 2 mX0_init 47 [.ref m, .ref y] [] G1 I1 J1 none (jv_sr G2 m 0 y) I2 J2 ∧ ot_a2 ot_fK ot_fF G G2 m 5 ∧ jv_s G2 ≤ jv_s G + 52 ∧ (∀ b, b < m → I2 b = I b) := by
    intro G1 I1 J1 G0 e0 a hz b
    subst e0
    exact ⟨G0, I1, J1, jv_vret dX0_init_47 rfl rfl rfl rfl, a, hz, b⟩
  have s5 : ∀ (G1 : jv_Gr) (I1 : jv_I) (J1 : jv_J), ot_a2 ot_fK ot_fF G G1 m 5 → jv_s G1 ≤ jv_s G + 52 → ((∀ b, b < m → I1 b = I b)) → ∃ G2 I2 J2, jv_V 2 mX0_init 42 [.ref m, .ref y] [] G1 I1 J1 none (jv_sr G2 m 0 y) I2 J2 ∧ ot_a2 ot_fK ot_fF G G2 m 5 ∧ jv_s G2 ≤ jv_s G + 52 ∧ (∀ b, b < m → I2 b = I b) := by
    intro G1 I1 J1 a hz b
    have hn1 := a.1
    have hk1 := (a.2.1 m (Nat.le_refl m)).trans hk
    have b0 := b
    obtain ⟨G2, I2, J2, hV, hP⟩ := s6 (jv_sr G1 m 0 y) I1 J1 G1 rfl a hz b0
    refine ⟨G2, I2, J2, ?_, hP⟩
    refine jv_aload0 dX0_init_42 ?_
    refine jv_aload1 dX0_init_43 ?_
    refine jv_putR0 (fun _ => ⟨rfl, ot_finX0⟩) dX0_init_44 flX0_27 rfl (a := m) (n := 0) hk1 (by omega) ot_nobj ?_
    exact hV
  have s4 : ∀ (G1 : jv_Gr) (I1 : jv_I) (J1 : jv_J), ot_a2 ot_fK ot_fF G G1 m 4 → jv_s G1 ≤ jv_s G + 38 → ((∀ b, b < m → I1 b = I b)) → ∃ G2 I2 J2, jv_V 2 mX0_init 34 [.ref m, .ref y] [] G1 I1 J1 none (jv_sr G2 m 0 y) I2 J2 ∧ ot_a2 ot_fK ot_fF G G2 m 5 ∧ jv_s G2 ≤ jv_s G + 52 ∧ (∀ b, b < m → I2 b = I b) := by
    intro G1 I1 J1 a hz b
    have hn1 := a.1
    have hk1 := (a.2.1 m (Nat.le_refl m)).trans hk
    have b0 := b
    obtain ⟨G2, I2, J2, hV, hP⟩ := s5 (jv_sr (jv_nw G1 (0, 14) 14) m 5 (jv_n G1 + 1)) (jv_zI I1 (jv_n G1 + 1)) J1 (ot_a2_arr a rfl rfl (by decide) hm0) (show jv_s G1 + 14 ≤ _ by omega) (fun b hb => by rw [ot_zI_ne _ (by omega)]; exact b0 b hb)
    refine ⟨G2, I2, J2, ?_, hP⟩
    refine jv_aload0 dX0_init_34 ?_
    refine jv_bipush dX0_init_35 jv_c_bipush_14 ?_
    refine jv_newI dX0_init_37 rfl (by decide) ac_int (by omega) (ot_ow_r (by omega) (ot_ow1 (by omega))) (ot_ow1 (by omega)) ?_
    refine jv_putR0 (fun _ => ⟨rfl, ot_finX0⟩) dX0_init_39 flX0_24 rfl (a := m) (n := 0) (by rw [jv_k_old (by omega)]; exact hk1) (Nat.le_refl _) ot_narr ?_
    exact hV
  have s3 : ∀ (G1 : jv_Gr) (I1 : jv_I) (J1 : jv_J), ot_a2 ot_fK ot_fF G G1 m 3 → jv_s G1 ≤ jv_s G + 24 → ((∀ b, b < m → I1 b = I b)) → ∃ G2 I2 J2, jv_V 2 mX0_init 26 [.ref m, .ref y] [] G1 I1 J1 none (jv_sr G2 m 0 y) I2 J2 ∧ ot_a2 ot_fK ot_fF G G2 m 5 ∧ jv_s G2 ≤ jv_s G + 52 ∧ (∀ b, b < m → I2 b = I b) := by
    intro G1 I1 J1 a hz b
    have hn1 := a.1
    have hk1 := (a.2.1 m (Nat.le_refl m)).trans hk
    have b0 := b
    obtain ⟨G2, I2, J2, hV, hP⟩ := s4 (jv_sr (jv_nw G1 (0, 14) 14) m 4 (jv_n G1 + 1)) (jv_zI I1 (jv_n G1 + 1)) J1 (ot_a2_arr a rfl rfl (by decide) hm0) (show jv_s G1 + 14 ≤ _ by omega) (fun b hb => by rw [ot_zI_ne _ (by omega)]; exact b0 b hb)
    refine ⟨G2, I2, J2, ?_, hP⟩
    refine jv_aload0 dX0_init_26 ?_
    refine jv_bipush dX0_init_27 jv_c_bipush_14 ?_
    refine jv_newI dX0_init_29 rfl (by decide) ac_int (by omega) (ot_ow_r (by omega) (ot_ow1 (by omega))) (ot_ow1 (by omega)) ?_
    refine jv_putR0 (fun _ => ⟨rfl, ot_finX0⟩) dX0_init_31 flX0_21 rfl (a := m) (n := 0) (by rw [jv_k_old (by omega)]; exact hk1) (Nat.le_refl _) ot_narr ?_
    exact hV
  have s2 : ∀ (G1 : jv_Gr) (I1 : jv_I) (J1 : jv_J), ot_a2 ot_fK ot_fF G G1 m 2 → jv_s G1 ≤ jv_s G + 19 → ((∀ b, b < m → I1 b = I b)) → ∃ G2 I2 J2, jv_V 2 mX0_init 19 [.ref m, .ref y] [] G1 I1 J1 none (jv_sr G2 m 0 y) I2 J2 ∧ ot_a2 ot_fK ot_fF G G2 m 5 ∧ jv_s G2 ≤ jv_s G + 52 ∧ (∀ b, b < m → I2 b = I b) := by
    intro G1 I1 J1 a hz b
    have hn1 := a.1
    have hk1 := (a.2.1 m (Nat.le_refl m)).trans hk
    have b0 := b
    obtain ⟨G2, I2, J2, hV, hP⟩ := s3 (jv_sr (jv_nw G1 (0, 5) 5) m 3 (jv_n G1 + 1)) (jv_zI I1 (jv_n G1 + 1)) J1 (ot_a2_arr a rfl rfl (by decide) hm0) (show jv_s G1 + 5 ≤ _ by omega) (fun b hb => by rw [ot_zI_ne _ (by omega)]; exact b0 b hb)
    refine ⟨G2, I2, J2, ?_, hP⟩
    refine jv_aload0 dX0_init_19 ?_
    refine jv_iconst dX0_init_20 jv_c_iconst_5 ?_
    refine jv_newI dX0_init_21 rfl (by decide) ac_int (by omega) (ot_ow_r (by omega) (ot_ow1 (by omega))) (ot_ow1 (by omega)) ?_
    refine jv_putR0 (fun _ => ⟨rfl, ot_finX0⟩) dX0_init_23 flX0_18 rfl (a := m) (n := 0) (by rw [jv_k_old (by omega)]; exact hk1) (Nat.le_refl _) ot_narr ?_
    exact hV
  have s1 : ∀ (G1 : jv_Gr) (I1 : jv_I) (J1 : jv_J), ot_a2 ot_fK ot_fF G G1 m 1 → jv_s G1 ≤ jv_s G + 14 → ((∀ b, b < m → I1 b = I b)) → ∃ G2 I2 J2, jv_V 2 mX0_init 12 [.ref m, .ref y] [] G1 I1 J1 none (jv_sr G2 m 0 y) I2 J2 ∧ ot_a2 ot_fK ot_fF G G2 m 5 ∧ jv_s G2 ≤ jv_s G + 52 ∧ (∀ b, b < m → I2 b = I b) := by
    intro G1 I1 J1 a hz b
    have hn1 := a.1
    have hk1 := (a.2.1 m (Nat.le_refl m)).trans hk
    have b0 := b
    obtain ⟨G2, I2, J2, hV, hP⟩ := s2 (jv_sr (jv_nw G1 (0, 5) 5) m 2 (jv_n G1 + 1)) (jv_zI I1 (jv_n G1 + 1)) J1 (ot_a2_arr a rfl rfl (by decide) hm0) (show jv_s G1 + 5 ≤ _ by omega) (fun b hb => by rw [ot_zI_ne _ (by omega)]; exact b0 b hb)
    refine ⟨G2, I2, J2, ?_, hP⟩
    refine jv_aload0 dX0_init_12 ?_
    refine jv_iconst dX0_init_13 jv_c_iconst_5 ?_
    refine jv_newI dX0_init_14 rfl (by decide) ac_int (by omega) (ot_ow_r (by omega) (ot_ow1 (by omega))) (ot_ow1 (by omega)) ?_
    refine jv_putR0 (fun _ => ⟨rfl, ot_finX0⟩) dX0_init_16 flX0_15 rfl (a := m) (n := 0) (by rw [jv_k_old (by omega)]; exact hk1) (Nat.le_refl _) ot_narr ?_
    exact hV
  have s0 : ∀ (G1 : jv_Gr) (I1 : jv_I) (J1 : jv_J), ot_a2 ot_fK ot_fF G G1 m 0 → jv_s G1 ≤ jv_s G + 0 → ((∀ b, b < m → I1 b = I b)) → ∃ G2 I2 J2, jv_V 2 mX0_init 4 [.ref m, .ref y] [] G1 I1 J1 none (jv_sr G2 m 0 y) I2 J2 ∧ ot_a2 ot_fK ot_fF G G2 m 5 ∧ jv_s G2 ≤ jv_s G + 52 ∧ (∀ b, b < m → I2 b = I b) := by
    intro G1 I1 J1 a hz b
    have hn1 := a.1
    have hk1 := (a.2.1 m (Nat.le_refl m)).trans hk
    have b0 := b
    obtain ⟨G2, I2, J2, hV, hP⟩ := s1 (jv_sr (jv_nw G1 (0, 14) 14) m 1 (jv_n G1 + 1)) (jv_zI I1 (jv_n G1 + 1)) J1 (ot_a2_arr a rfl rfl (by decide) hm0) (show jv_s G1 + 14 ≤ _ by omega) (fun b hb => by rw [ot_zI_ne _ (by omega)]; exact b0 b hb)
    refine ⟨G2, I2, J2, ?_, hP⟩
    refine jv_aload0 dX0_init_4 ?_
    refine jv_bipush dX0_init_5 jv_c_bipush_14 ?_
    refine jv_newI dX0_init_7 rfl (by decide) ac_int (by omega) (ot_ow_r (by omega) (ot_ow1 (by omega))) (ot_ow1 (by omega)) ?_
    refine jv_putR0 (fun _ => ⟨rfl, ot_finX0⟩) dX0_init_9 flX0_9 rfl (a := m) (n := 0) (by rw [jv_k_old (by omega)]; exact hk1) (Nat.le_refl _) ot_narr ?_
    exact hV
  obtain ⟨G2, I2, J2, hV, hP⟩ := s0 G I J (ot_a2_0 hn) (Nat.le_refl _) (fun _ _ => rfl)
  refine ⟨G2, I2, J2, ?_, hP⟩
  refine jv_enter okX0_init (L := [.ref m, .ref y]) rfl (Nat.le_of_ble_eq_true rfl) ?_
  refine jv_aload0 dX0_init_0 ?_
  refine jv_objInit dX0_init_1 mlX0_3 in_obj co_obj hm0 (Nat.le_of_ble_eq_true rfl) (by decide) ?_
  exact hV
set_option maxRecDepth 20000 in
theorem oc_initX2 {G : jv_Gr} {I : jv_I} {J : jv_J} {m : Nat}  (hm0 : m ≠ 0) (hm : m < 900) (hn : jv_n G = m) (hk : jv_k G m = (2 + 10, 0)) : ∃ G2 I2 J2, jv_C 2 mX2_init [.ref m] G I J none G2 I2 J2 ∧ ot_a2 ot_tK ot_tF G G2 m 1 ∧ jv_s G2 ≤ jv_s G + 250 ∧ (∀ b, b < m → I2 b = I b) ∧ I2 m 1 = nI 0 ∧ I2 m 2 = nI 0 ∧ I2 m 3 = nI 0 ∧ I2 m 4 = nI 0 := by
  have s5 : ∀ (G1 : jv_Gr) (I1 : jv_I) (J1 : jv_J), ot_a2 ot_tK ot_tF G G1 m 1 → jv_s G1 ≤ jv_s G + 250 → ((∀ b, b < m → I1 b = I b) ∧ I1 m 1 = nI 0 ∧ I1 m 2 = nI 0 ∧ I1 m 3 = nI 0 ∧ I1 m 4 = nI 0) → ∃ G2 I2 J2, jv_V 2 mX2_init 33 [.ref m] [] G1 I1 J1 none G2 I2 J2 ∧ ot_a2 ot_tK ot_tF G G2 m 1 ∧ jv_s G2 ≤ jv_s G + 250 ∧ (∀ b, b < m → I2 b = I b) ∧ I2 m 1 = nI 0 ∧ I2 m 2 = nI 0 ∧ I2 m 3 = nI 0 ∧ I2 m 4 = nI 0 := by
    intro G1 I1 J1 a hz b
    exact ⟨G1, I1, J1, jv_vret dX2_init_33 rfl rfl rfl rfl, a, hz, b⟩
  have s4 : ∀ (G1 : jv_Gr) (I1 : jv_I) (J1 : jv_J), ot_a2 ot_tK ot_tF G G1 m 1 → jv_s G1 ≤ jv_s G + 250 → ((∀ b, b < m → I1 b = I b) ∧ I1 m 1 = nI 0 ∧ I1 m 2 = nI 0 ∧ I1 m 3 = nI 0) → ∃ G2 I2 J2, jv_V 2 mX2_init 28 [.ref m] [] G1 I1 J1 none G2 I2 J2 ∧ ot_a2 ot_tK ot_tF G G2 m 1 ∧ jv_s G2 ≤ jv_s G + 250 ∧ (∀ b, b < m → I2 b = I b) ∧ I2 m 1 = nI 0 ∧ I2 m 2 = nI 0 ∧ I2 m 3 = nI 0 ∧ I2 m 4 = nI 0 := by
    intro G1 I1 J1 a hz b
    have hn1 := a.1
    have hk1 := (a.2.1 m (Nat.le_refl m)).trans hk
    obtain ⟨b0, q0, q1, q2⟩ := b
    obtain ⟨G2, I2, J2, hV, hP⟩ := s5 G1 (jv_up I1 m 4 (nI 0)) J1 a hz ⟨fun b hb => by rw [jv_up_ne _ _ _ (by omega)]; exact b0 b hb, by rw [jv_up_at_ne _ _ _ (by decide)]; exact q0, by rw [jv_up_at_ne _ _ _ (by decide)]; exact q1, by rw [jv_up_at_ne _ _ _ (by decide)]; exact q2, jv_up_at _ _ _ _⟩
    refine ⟨G2, I2, J2, ?_, hP⟩
    refine jv_aload0 dX2_init_28 ?_
    refine jv_iconst dX2_init_29 jv_c_iconst_0 ?_
    refine jv_putI dX2_init_30 flX2_25 rfl hk1 rfl rfl ?_
    exact hV
  have s3 : ∀ (G1 : jv_Gr) (I1 : jv_I) (J1 : jv_J), ot_a2 ot_tK ot_tF G G1 m 1 → jv_s G1 ≤ jv_s G + 250 → ((∀ b, b < m → I1 b = I b) ∧ I1 m 1 = nI 0 ∧ I1 m 2 = nI 0) → ∃ G2 I2 J2, jv_V 2 mX2_init 23 [.ref m] [] G1 I1 J1 none G2 I2 J2 ∧ ot_a2 ot_tK ot_tF G G2 m 1 ∧ jv_s G2 ≤ jv_s G + 250 ∧ (∀ b, b < m → I2 b = I b) ∧ I2 m 1 = nI 0 ∧ I2 m 2 = nI 0 ∧ I2 m 3 = nI 0 ∧ I2 m 4 = nI 0 := by
    intro G1 I1 J1 a hz b
    have hn1 := a.1
    have hk1 := (a.2.1 m (Nat.le_refl m)).trans hk
    obtain ⟨b0, q0, q1⟩ := b
    obtain ⟨G2, I2, J2, hV, hP⟩ := s4 G1 (jv_up I1 m 3 (nI 0)) J1 a hz ⟨fun b hb => by rw [jv_up_ne _ _ _ (by omega)]; exact b0 b hb, by rw [jv_up_at_ne _ _ _ (by decide)]; exact q0, by rw [jv_up_at_ne _ _ _ (by decide)]; exact q1, jv_up_at _ _ _ _⟩
    refine ⟨G2, I2, J2, ?_, hP⟩
    refine jv_aload0 dX2_init_23 ?_
    refine jv_iconst dX2_init_24 jv_c_iconst_0 ?_
    refine jv_putI dX2_init_25 flX2_22 rfl hk1 rfl rfl ?_
    exact hV
  have s2 : ∀ (G1 : jv_Gr) (I1 : jv_I) (J1 : jv_J), ot_a2 ot_tK ot_tF G G1 m 1 → jv_s G1 ≤ jv_s G + 250 → ((∀ b, b < m → I1 b = I b) ∧ I1 m 1 = nI 0) → ∃ G2 I2 J2, jv_V 2 mX2_init 18 [.ref m] [] G1 I1 J1 none G2 I2 J2 ∧ ot_a2 ot_tK ot_tF G G2 m 1 ∧ jv_s G2 ≤ jv_s G + 250 ∧ (∀ b, b < m → I2 b = I b) ∧ I2 m 1 = nI 0 ∧ I2 m 2 = nI 0 ∧ I2 m 3 = nI 0 ∧ I2 m 4 = nI 0 := by
    intro G1 I1 J1 a hz b
    have hn1 := a.1
    have hk1 := (a.2.1 m (Nat.le_refl m)).trans hk
    obtain ⟨b0, q0⟩ := b
    obtain ⟨G2, I2, J2, hV, hP⟩ := s3 G1 (jv_up I1 m 2 (nI 0)) J1 a hz ⟨fun b hb => by rw [jv_up_ne _ _ _ (by omega)]; exact b0 b hb, by rw [jv_up_at_ne _ _ _ (by decide)]; exact q0, jv_up_at _ _ _ _⟩
    refine ⟨G2, I2, J2, ?_, hP⟩
    refine jv_aload0 dX2_init_18 ?_
    refine jv_iconst dX2_init_19 jv_c_iconst_0 ?_
    refine jv_putI dX2_init_20 flX2_19 rfl hk1 rfl rfl ?_
    exact hV
  have s1 : ∀ (G1 : jv_Gr) (I1 : jv_I) (J1 : jv_J), ot_a2 ot_tK ot_tF G G1 m 1 → jv_s G1 ≤ jv_s G + 250 → ((∀ b, b < m → I1 b = I b)) → ∃ G2 I2 J2, jv_V 2 mX2_init 13 [.ref m] [] G1 I1 J1 none G2 I2 J2 ∧ ot_a2 ot_tK ot_tF G G2 m 1 ∧ jv_s G2 ≤ jv_s G + 250 ∧ (∀ b, b < m → I2 b = I b) ∧ I2 m 1 = nI 0 ∧ I2 m 2 = nI 0 ∧ I2 m 3 = nI 0 ∧ I2 m 4 = nI 0 := by
    intro G1 I1 J1 a hz b
    have hn1 := a.1
    have hk1 := (a.2.1 m (Nat.le_refl m)).trans hk
    have b0 := b
    obtain ⟨G2, I2, J2, hV, hP⟩ := s2 G1 (jv_up I1 m 1 (nI 0)) J1 a hz ⟨fun b hb => by rw [jv_up_ne _ _ _ (by omega)]; exact b0 b hb, jv_up_at _ _ _ _⟩
    refine ⟨G2, I2, J2, ?_, hP⟩
    refine jv_aload0 dX2_init_13 ?_
    refine jv_iconst dX2_init_14 jv_c_iconst_0 ?_
    refine jv_putI dX2_init_15 flX2_15 rfl hk1 rfl rfl ?_
    exact hV
  have s0 : ∀ (G1 : jv_Gr) (I1 : jv_I) (J1 : jv_J), ot_a2 ot_tK ot_tF G G1 m 0 → jv_s G1 ≤ jv_s G + 0 → ((∀ b, b < m → I1 b = I b)) → ∃ G2 I2 J2, jv_V 2 mX2_init 4 [.ref m] [] G1 I1 J1 none G2 I2 J2 ∧ ot_a2 ot_tK ot_tF G G2 m 1 ∧ jv_s G2 ≤ jv_s G + 250 ∧ (∀ b, b < m → I2 b = I b) ∧ I2 m 1 = nI 0 ∧ I2 m 2 = nI 0 ∧ I2 m 3 = nI 0 ∧ I2 m 4 = nI 0 := by
    intro G1 I1 J1 a hz b
    have hn1 := a.1
    have hk1 := (a.2.1 m (Nat.le_refl m)).trans hk
    have b0 := b
    obtain ⟨G2, I2, J2, hV, hP⟩ := s1 (jv_sr (jv_nw G1 (0, 250) 250) m 0 (jv_n G1 + 1)) (jv_zI I1 (jv_n G1 + 1)) J1 (ot_a2_arr a rfl rfl (by decide) hm0) (show jv_s G1 + 250 ≤ _ by omega) (fun b hb => by rw [ot_zI_ne _ (by omega)]; exact b0 b hb)
    refine ⟨G2, I2, J2, ?_, hP⟩
    refine jv_aload0 dX2_init_4 ?_
    refine jv_sipush dX2_init_5 jv_c_sipush_250 ?_
    refine jv_newI dX2_init_8 rfl (by decide) ac_int (by omega) (ot_ow1 (by omega)) (ot_ow1 (by omega)) ?_
    refine jv_putR0 (fun _ => ⟨rfl, ot_finX2⟩) dX2_init_10 flX2_9 rfl (a := m) (n := 0) (by rw [jv_k_old (by omega)]; exact hk1) (Nat.le_refl _) ot_narr ?_
    exact hV
  obtain ⟨G2, I2, J2, hV, hP⟩ := s0 G I J (ot_a2_0 hn) (Nat.le_refl _) (fun _ _ => rfl)
  refine ⟨G2, I2, J2, ?_, hP⟩
  refine jv_enter okX2_init (L := [.ref m]) rfl (Nat.le_of_ble_eq_true rfl) ?_
  refine jv_aload0 dX2_init_0 ?_
  refine jv_objInit dX2_init_1 mlX2_3 in_obj co_obj hm0 (Nat.le_of_ble_eq_true rfl) (by decide) ?_
  exact hV
set_option maxRecDepth 20000 in
theorem oc_initX1 {G : jv_Gr} {I : jv_I} {J : jv_J} {m : Nat}  (hm0 : m ≠ 0) (hm : m < 900) (hn : jv_n G = m) (hk : jv_k G m = (1 + 10, 0)) : ∃ G2 I2 J2, jv_C 2 mX1_init [.ref m] G I J none G2 I2 J2 ∧ ot_a2 ot_sK ot_sF G G2 m 1 ∧ jv_s G2 ≤ jv_s G + 40 ∧ (∀ b, b < m → I2 b = I b) ∧ I2 m 0 = -1 ∧ I2 m 1 = nI 0 := by
  have s3 : ∀ (G1 : jv_Gr) (I1 : jv_I) (J1 : jv_J), ot_a2 ot_sK ot_sF G G1 m 1 → jv_s G1 ≤ jv_s G + 40 → ((∀ b, b < m → I1 b = I b) ∧ I1 m 0 = -1 ∧ I1 m 1 = nI 0) → ∃ G2 I2 J2, jv_V 2 mX1_init 22 [.ref m] [] G1 I1 J1 none G2 I2 J2 ∧ ot_a2 ot_sK ot_sF G G2 m 1 ∧ jv_s G2 ≤ jv_s G + 40 ∧ (∀ b, b < m → I2 b = I b) ∧ I2 m 0 = -1 ∧ I2 m 1 = nI 0 := by
    intro G1 I1 J1 a hz b
    exact ⟨G1, I1, J1, jv_vret dX1_init_22 rfl rfl rfl rfl, a, hz, b⟩
  have s2 : ∀ (G1 : jv_Gr) (I1 : jv_I) (J1 : jv_J), ot_a2 ot_sK ot_sF G G1 m 0 → jv_s G1 ≤ jv_s G + 0 → ((∀ b, b < m → I1 b = I b) ∧ I1 m 0 = -1 ∧ I1 m 1 = nI 0) → ∃ G2 I2 J2, jv_V 2 mX1_init 14 [.ref m] [] G1 I1 J1 none G2 I2 J2 ∧ ot_a2 ot_sK ot_sF G G2 m 1 ∧ jv_s G2 ≤ jv_s G + 40 ∧ (∀ b, b < m → I2 b = I b) ∧ I2 m 0 = -1 ∧ I2 m 1 = nI 0 := by
    intro G1 I1 J1 a hz b
    have hn1 := a.1
    have hk1 := (a.2.1 m (Nat.le_refl m)).trans hk
    obtain ⟨b0, q0, q1⟩ := b
    obtain ⟨G2, I2, J2, hV, hP⟩ := s3 (jv_sr (jv_nw G1 (1, 40) 40) m 2 (jv_n G1 + 1)) I1 (jv_zJ J1 (jv_n G1 + 1)) (ot_a2_arr a rfl rfl (by decide) hm0) (show jv_s G1 + 40 ≤ _ by omega) ⟨b0, q0, q1⟩
    refine ⟨G2, I2, J2, ?_, hP⟩
    refine jv_aload0 dX1_init_14 ?_
    refine jv_bipush dX1_init_15 jv_c_bipush_40 ?_
    refine jv_newJ dX1_init_17 rfl (by decide) ac_long (by omega) (ot_ow1 (by omega)) (ot_ow1 (by omega)) ?_
    refine jv_putR0 (fun _ => ⟨rfl, ot_finX1⟩) dX1_init_19 flX1_18 rfl (a := m) (n := 0) (by rw [jv_k_old (by omega)]; exact hk1) (Nat.le_refl _) ot_narr ?_
    exact hV
  have s1 : ∀ (G1 : jv_Gr) (I1 : jv_I) (J1 : jv_J), ot_a2 ot_sK ot_sF G G1 m 0 → jv_s G1 ≤ jv_s G + 0 → ((∀ b, b < m → I1 b = I b) ∧ I1 m 0 = -1) → ∃ G2 I2 J2, jv_V 2 mX1_init 9 [.ref m] [] G1 I1 J1 none G2 I2 J2 ∧ ot_a2 ot_sK ot_sF G G2 m 1 ∧ jv_s G2 ≤ jv_s G + 40 ∧ (∀ b, b < m → I2 b = I b) ∧ I2 m 0 = -1 ∧ I2 m 1 = nI 0 := by
    intro G1 I1 J1 a hz b
    have hn1 := a.1
    have hk1 := (a.2.1 m (Nat.le_refl m)).trans hk
    obtain ⟨b0, q0⟩ := b
    obtain ⟨G2, I2, J2, hV, hP⟩ := s2 G1 (jv_up I1 m 1 (nI 0)) J1 a hz ⟨fun b hb => by rw [jv_up_ne _ _ _ (by omega)]; exact b0 b hb, by rw [jv_up_at_ne _ _ _ (by decide)]; exact q0, jv_up_at _ _ _ _⟩
    refine ⟨G2, I2, J2, ?_, hP⟩
    refine jv_aload0 dX1_init_9 ?_
    refine jv_iconst dX1_init_10 jv_c_iconst_0 ?_
    refine jv_putI dX1_init_11 flX1_15 rfl hk1 rfl rfl ?_
    exact hV
  have s0 : ∀ (G1 : jv_Gr) (I1 : jv_I) (J1 : jv_J), ot_a2 ot_sK ot_sF G G1 m 0 → jv_s G1 ≤ jv_s G + 0 → ((∀ b, b < m → I1 b = I b)) → ∃ G2 I2 J2, jv_V 2 mX1_init 4 [.ref m] [] G1 I1 J1 none G2 I2 J2 ∧ ot_a2 ot_sK ot_sF G G2 m 1 ∧ jv_s G2 ≤ jv_s G + 40 ∧ (∀ b, b < m → I2 b = I b) ∧ I2 m 0 = -1 ∧ I2 m 1 = nI 0 := by
    intro G1 I1 J1 a hz b
    have hn1 := a.1
    have hk1 := (a.2.1 m (Nat.le_refl m)).trans hk
    have b0 := b
    obtain ⟨G2, I2, J2, hV, hP⟩ := s1 G1 (jv_up I1 m 0 (-1)) J1 a hz ⟨fun b hb => by rw [jv_up_ne _ _ _ (by omega)]; exact b0 b hb, jv_up_at _ _ _ _⟩
    refine ⟨G2, I2, J2, ?_, hP⟩
    refine jv_aload0 dX1_init_4 ?_
    refine jv_iconst dX1_init_5 jv_c_iconst_m1 ?_
    refine jv_putI dX1_init_6 flX1_9 rfl hk1 rfl rfl ?_
    exact hV
  obtain ⟨G2, I2, J2, hV, hP⟩ := s0 G I J (ot_a2_0 hn) (Nat.le_refl _) (fun _ _ => rfl)
  refine ⟨G2, I2, J2, ?_, hP⟩
  refine jv_enter okX1_init (L := [.ref m]) rfl (Nat.le_of_ble_eq_true rfl) ?_
  refine jv_aload0 dX1_init_0 ?_
  refine jv_objInit dX1_init_1 mlX1_3 in_obj co_obj hm0 (Nat.le_of_ble_eq_true rfl) (by decide) ?_
  exact hV
def ot_Y0 : ot_Y := fun j i => if j = 10 ∧ i = 3 then 1 else 0
def ot_Z0 : ot_Y := fun _ _ => 0
def ot_E0 : ot_E := fun _ _ => 0
theorem ot_YW0 : ot_YW ot_Y0 := ⟨⟨by decide, by decide, by decide⟩, fun c hc => absurd hc (Nat.not_lt_zero _), fun c e hc => absurd hc (Nat.not_lt_zero _), fun c hc => absurd hc (Nat.not_lt_zero _), fun c hc => absurd hc (Nat.not_lt_zero _)⟩
theorem ot_ZW0 : ot_ZW ot_Y0 ot_Z0 := ⟨fun s _ => ⟨Nat.zero_le _, fun z => absurd z (show ¬ (0 : Nat) = 1 by decide), fun z => absurd z (show ¬ (0 : Nat) = 2 by decide)⟩, Nat.zero_le _, fun i hi => absurd hi (Nat.not_lt_zero _)⟩
set_option maxRecDepth 20000 in
theorem oc_init {G0 : jv_Gr} {I0 : jv_I} {J0 : jv_J} (n0 : jv_n G0 = 1) (hk : jv_k G0 1 = (14, 0)) (sz0 : jv_s G0 ≤ 8) : ∃ G2 I2 J2, jv_C 4 mX4_init [.ref 1] G0 I0 J0 none G2 I2 J2 ∧ ot_C G2 I2 J2 ot_Y0 ot_Z0 ot_E0 none ∧ jv_n G2 = 63 ∧ jv_s G2 ≤ 1185 := by
  have kG0 : jv_k G0 1 = (14, 0) := hk
  obtain ⟨H0, I1, J1, c0, a0, z0, ib0, f0_0, f0_5, f0_9, f0_14⟩ := oc_initX3 (G := jv_nw G0 (3 + 10, 0) 15) (I := jv_zI I0 (jv_n G0 + 1)) (J := J0) (m := jv_n G0 + 1) (by omega) (by omega) rfl jv_k_new
  obtain ⟨G1, e0⟩ : ∃ x, x = jv_sr H0 1 0 (jv_n G0 + 1) := ⟨_, rfl⟩
  have n1 : jv_n G1 = 13 := by rw [e0]; show jv_n H0 = _; rw [a0.1]; omega
  have kq1 : ∀ b, b ≤ 1 → jv_k G1 b = jv_k G0 b := fun b hb => by rw [e0, jv_k_up, a0.2.1 b (by omega), jv_k_old (by omega)]
  have rq1 : ∀ b k, b ≤ 1 → (b ≠ 1 ∨ k ≠ 0) → jv_r G1 b k = jv_r G0 b k := fun b k hb hbk => by
    rw [e0, jv_r_sr]
    by_cases q : b = 1
    · rw [if_pos q, if_neg (by omega), a0.2.2.1 b (by omega), jv_r_old (by omega)]
    · rw [if_neg q, a0.2.2.1 b (by omega), jv_r_old (by omega)]
  have ro1 : jv_r G1 1 0 = 2 := by rw [e0, jv_r_sr, if_pos rfl, if_pos rfl]; omega
  have ko1 : jv_k G1 2 = (3 + 10, 0) := by rw [e0, jv_k_up, show 2 = jv_n G0 + 1 by omega, a0.2.1 _ (Nat.le_refl _)]; exact jv_k_new
  have kc1 : ∀ j, j < 11 → jv_k G1 (2 + (j + 1)) = ot_yK j := fun j hj => by rw [e0, jv_k_up, show 2 + (j + 1) = jv_n G0 + 1 + (j + 1) by omega]; exact a0.2.2.2.1 j hj
  have rc1 : ∀ j, j < 11 → jv_r G1 2 (ot_yfld j) = 2 + (j + 1) := fun j hj => by rw [e0, jv_r_sr, if_neg (by omega), show 2 = jv_n G0 + 1 by omega]; exact a0.2.2.2.2.1 j hj
  have sz1 : jv_s G1 ≤ 177 := by rw [e0]; show jv_s H0 ≤ _; have q : jv_s (jv_nw G0 (3 + 10, 0) 15) = jv_s G0 + 15 := rfl; omega
  have iq1 : ∀ b, b ≤ 1 → I1 b = I0 b := fun b hb => by rw [ib0 b (by omega), ot_zI_ne _ (by omega)]
  have if1_0 : I1 2 0 = nI 0 := by
    have q := f0_0
    rw [show jv_n G0 + 1 = 2 by omega] at q
    exact q
  have if1_5 : I1 2 5 = nI 0 := by
    have q := f0_5
    rw [show jv_n G0 + 1 = 2 by omega] at q
    exact q
  have if1_9 : I1 2 9 = nI 0 := by
    have q := f0_9
    rw [show jv_n G0 + 1 = 2 by omega] at q
    exact q
  have if1_14 : I1 2 14 = nI 1 := by
    have q := f0_14
    rw [show jv_n G0 + 1 = 2 by omega] at q
    exact q
  obtain ⟨H1, I2, J2, c1, a1, z1, ib1, f1_0, f1_5, f1_9, f1_14⟩ := oc_initX3 (G := jv_nw G1 (3 + 10, 0) 15) (I := jv_zI I1 (jv_n G1 + 1)) (J := J1) (m := jv_n G1 + 1) (by omega) (by omega) rfl jv_k_new
  obtain ⟨G2, e1⟩ : ∃ x, x = jv_sr H1 1 1 (jv_n G1 + 1) := ⟨_, rfl⟩
  have n2 : jv_n G2 = 25 := by rw [e1]; show jv_n H1 = _; rw [a1.1]; omega
  have kq2 : ∀ b, b ≤ 13 → jv_k G2 b = jv_k G1 b := fun b hb => by rw [e1, jv_k_up, a1.2.1 b (by omega), jv_k_old (by omega)]
  have rq2 : ∀ b k, b ≤ 13 → (b ≠ 1 ∨ k ≠ 1) → jv_r G2 b k = jv_r G1 b k := fun b k hb hbk => by
    rw [e1, jv_r_sr]
    by_cases q : b = 1
    · rw [if_pos q, if_neg (by omega), a1.2.2.1 b (by omega), jv_r_old (by omega)]
    · rw [if_neg q, a1.2.2.1 b (by omega), jv_r_old (by omega)]
  have ro2 : jv_r G2 1 1 = 14 := by rw [e1, jv_r_sr, if_pos rfl, if_pos rfl]; omega
  have ko2 : jv_k G2 14 = (3 + 10, 0) := by rw [e1, jv_k_up, show 14 = jv_n G1 + 1 by omega, a1.2.1 _ (Nat.le_refl _)]; exact jv_k_new
  have kc2 : ∀ j, j < 11 → jv_k G2 (14 + (j + 1)) = ot_yK j := fun j hj => by rw [e1, jv_k_up, show 14 + (j + 1) = jv_n G1 + 1 + (j + 1) by omega]; exact a1.2.2.2.1 j hj
  have rc2 : ∀ j, j < 11 → jv_r G2 14 (ot_yfld j) = 14 + (j + 1) := fun j hj => by rw [e1, jv_r_sr, if_neg (by omega), show 14 = jv_n G1 + 1 by omega]; exact a1.2.2.2.2.1 j hj
  have sz2 : jv_s G2 ≤ 346 := by rw [e1]; show jv_s H1 ≤ _; have q : jv_s (jv_nw G1 (3 + 10, 0) 15) = jv_s G1 + 15 := rfl; omega
  have iq2 : ∀ b, b ≤ 13 → I2 b = I1 b := fun b hb => by rw [ib1 b (by omega), ot_zI_ne _ (by omega)]
  have if2_0 : I2 14 0 = nI 0 := by
    have q := f1_0
    rw [show jv_n G1 + 1 = 14 by omega] at q
    exact q
  have if2_5 : I2 14 5 = nI 0 := by
    have q := f1_5
    rw [show jv_n G1 + 1 = 14 by omega] at q
    exact q
  have if2_9 : I2 14 9 = nI 0 := by
    have q := f1_9
    rw [show jv_n G1 + 1 = 14 by omega] at q
    exact q
  have if2_14 : I2 14 14 = nI 1 := by
    have q := f1_14
    rw [show jv_n G1 + 1 = 14 by omega] at q
    exact q
  obtain ⟨H2, I3, J3, c2, a2, z2, ib2, f2_0, f2_5, f2_9, f2_14⟩ := oc_initX3 (G := jv_nw G2 (3 + 10, 0) 15) (I := jv_zI I2 (jv_n G2 + 1)) (J := J2) (m := jv_n G2 + 1) (by omega) (by omega) rfl jv_k_new
  obtain ⟨G3, e2⟩ : ∃ x, x = jv_sr H2 1 2 (jv_n G2 + 1) := ⟨_, rfl⟩
  have n3 : jv_n G3 = 37 := by rw [e2]; show jv_n H2 = _; rw [a2.1]; omega
  have kq3 : ∀ b, b ≤ 25 → jv_k G3 b = jv_k G2 b := fun b hb => by rw [e2, jv_k_up, a2.2.1 b (by omega), jv_k_old (by omega)]
  have rq3 : ∀ b k, b ≤ 25 → (b ≠ 1 ∨ k ≠ 2) → jv_r G3 b k = jv_r G2 b k := fun b k hb hbk => by
    rw [e2, jv_r_sr]
    by_cases q : b = 1
    · rw [if_pos q, if_neg (by omega), a2.2.2.1 b (by omega), jv_r_old (by omega)]
    · rw [if_neg q, a2.2.2.1 b (by omega), jv_r_old (by omega)]
  have ro3 : jv_r G3 1 2 = 26 := by rw [e2, jv_r_sr, if_pos rfl, if_pos rfl]; omega
  have ko3 : jv_k G3 26 = (3 + 10, 0) := by rw [e2, jv_k_up, show 26 = jv_n G2 + 1 by omega, a2.2.1 _ (Nat.le_refl _)]; exact jv_k_new
  have kc3 : ∀ j, j < 11 → jv_k G3 (26 + (j + 1)) = ot_yK j := fun j hj => by rw [e2, jv_k_up, show 26 + (j + 1) = jv_n G2 + 1 + (j + 1) by omega]; exact a2.2.2.2.1 j hj
  have rc3 : ∀ j, j < 11 → jv_r G3 26 (ot_yfld j) = 26 + (j + 1) := fun j hj => by rw [e2, jv_r_sr, if_neg (by omega), show 26 = jv_n G2 + 1 by omega]; exact a2.2.2.2.2.1 j hj
  have sz3 : jv_s G3 ≤ 515 := by rw [e2]; show jv_s H2 ≤ _; have q : jv_s (jv_nw G2 (3 + 10, 0) 15) = jv_s G2 + 15 := rfl; omega
  have iq3 : ∀ b, b ≤ 25 → I3 b = I2 b := fun b hb => by rw [ib2 b (by omega), ot_zI_ne _ (by omega)]
  have if3_0 : I3 26 0 = nI 0 := by
    have q := f2_0
    rw [show jv_n G2 + 1 = 26 by omega] at q
    exact q
  have if3_5 : I3 26 5 = nI 0 := by
    have q := f2_5
    rw [show jv_n G2 + 1 = 26 by omega] at q
    exact q
  have if3_9 : I3 26 9 = nI 0 := by
    have q := f2_9
    rw [show jv_n G2 + 1 = 26 by omega] at q
    exact q
  have if3_14 : I3 26 14 = nI 1 := by
    have q := f2_14
    rw [show jv_n G2 + 1 = 26 by omega] at q
    exact q
  obtain ⟨H3, I4, J4, c3, a3, z3, ib3⟩ := oc_initX0 (G := jv_nw G3 (0 + 10, 0) 6) (I := jv_zI I3 (jv_n G3 + 1)) (J := J3) (m := jv_n G3 + 1) (y := 2) (by omega) (by omega) (by omega) rfl jv_k_new
  obtain ⟨G4, e3⟩ : ∃ x, x = jv_sr (jv_sr H3 (jv_n G3 + 1) 0 2) 1 3 (jv_n G3 + 1) := ⟨_, rfl⟩
  have n4 : jv_n G4 = 43 := by rw [e3]; show jv_n H3 = _; rw [a3.1]; omega
  have kq4 : ∀ b, b ≤ 37 → jv_k G4 b = jv_k G3 b := fun b hb => by rw [e3, jv_k_up, jv_k_up, a3.2.1 b (by omega), jv_k_old (by omega)]
  have rq4 : ∀ b k, b ≤ 37 → (b ≠ 1 ∨ k ≠ 3) → jv_r G4 b k = jv_r G3 b k := fun b k hb hbk => by
    rw [e3, jv_r_sr]
    by_cases q : b = 1
    · rw [if_pos q, if_neg (by omega), jv_r_sr, if_neg (by omega), a3.2.2.1 b (by omega), jv_r_old (by omega)]
    · rw [if_neg q, jv_r_sr, if_neg (by omega), a3.2.2.1 b (by omega), jv_r_old (by omega)]
  have ro4 : jv_r G4 1 3 = 38 := by rw [e3, jv_r_sr, if_pos rfl, if_pos rfl]; omega
  have ko4 : jv_k G4 38 = (0 + 10, 0) := by rw [e3, jv_k_up, jv_k_up, show 38 = jv_n G3 + 1 by omega, a3.2.1 _ (Nat.le_refl _)]; exact jv_k_new
  have kc4 : ∀ j, j < 5 → jv_k G4 (38 + (j + 1)) = ot_fK j := fun j hj => by rw [e3, jv_k_up, jv_k_up, show 38 + (j + 1) = jv_n G3 + 1 + (j + 1) by omega]; exact a3.2.2.2.1 j hj
  have rc4 : ∀ j, j < 5 → jv_r G4 38 (ot_fF j) = 38 + (j + 1) := fun j hj => by rw [e3, jv_r_sr, if_neg (by omega), jv_r_sr, if_pos (by omega), if_neg (show ¬ ot_fF j = 0 by unfold ot_fF; omega), show 38 = jv_n G3 + 1 by omega]; exact a3.2.2.2.2.1 j hj
  have ry4 : jv_r G4 38 0 = 2 := by rw [e3, jv_r_sr, if_neg (by omega), jv_r_sr, if_pos (by omega), if_pos rfl]
  have sz4 : jv_s G4 ≤ 573 := by rw [e3]; show jv_s H3 ≤ _; have q : jv_s (jv_nw G3 (0 + 10, 0) 6) = jv_s G3 + 6 := rfl; omega
  have iq4 : ∀ b, b ≤ 37 → I4 b = I3 b := fun b hb => by rw [ib3 b (by omega), ot_zI_ne _ (by omega)]
  obtain ⟨H4, I5, J5, c4, a4, z4, ib4, f4_1, f4_2, f4_3, f4_4⟩ := oc_initX2 (G := jv_nw G4 (2 + 10, 0) 5) (I := jv_zI I4 (jv_n G4 + 1)) (J := J4) (m := jv_n G4 + 1) (by omega) (by omega) rfl jv_k_new
  obtain ⟨G5, e4⟩ : ∃ x, x = jv_sr H4 1 4 (jv_n G4 + 1) := ⟨_, rfl⟩
  have n5 : jv_n G5 = 45 := by rw [e4]; show jv_n H4 = _; rw [a4.1]; omega
  have kq5 : ∀ b, b ≤ 43 → jv_k G5 b = jv_k G4 b := fun b hb => by rw [e4, jv_k_up, a4.2.1 b (by omega), jv_k_old (by omega)]
  have rq5 : ∀ b k, b ≤ 43 → (b ≠ 1 ∨ k ≠ 4) → jv_r G5 b k = jv_r G4 b k := fun b k hb hbk => by
    rw [e4, jv_r_sr]
    by_cases q : b = 1
    · rw [if_pos q, if_neg (by omega), a4.2.2.1 b (by omega), jv_r_old (by omega)]
    · rw [if_neg q, a4.2.2.1 b (by omega), jv_r_old (by omega)]
  have ro5 : jv_r G5 1 4 = 44 := by rw [e4, jv_r_sr, if_pos rfl, if_pos rfl]; omega
  have ko5 : jv_k G5 44 = (2 + 10, 0) := by rw [e4, jv_k_up, show 44 = jv_n G4 + 1 by omega, a4.2.1 _ (Nat.le_refl _)]; exact jv_k_new
  have kc5 : ∀ j, j < 1 → jv_k G5 (44 + (j + 1)) = ot_tK j := fun j hj => by rw [e4, jv_k_up, show 44 + (j + 1) = jv_n G4 + 1 + (j + 1) by omega]; exact a4.2.2.2.1 j hj
  have rc5 : ∀ j, j < 1 → jv_r G5 44 (ot_tF j) = 44 + (j + 1) := fun j hj => by rw [e4, jv_r_sr, if_neg (by omega), show 44 = jv_n G4 + 1 by omega]; exact a4.2.2.2.2.1 j hj
  have sz5 : jv_s G5 ≤ 828 := by rw [e4]; show jv_s H4 ≤ _; have q : jv_s (jv_nw G4 (2 + 10, 0) 5) = jv_s G4 + 5 := rfl; omega
  have iq5 : ∀ b, b ≤ 43 → I5 b = I4 b := fun b hb => by rw [ib4 b (by omega), ot_zI_ne _ (by omega)]
  have if5_1 : I5 44 1 = nI 0 := by
    have q := f4_1
    rw [show jv_n G4 + 1 = 44 by omega] at q
    exact q
  have if5_2 : I5 44 2 = nI 0 := by
    have q := f4_2
    rw [show jv_n G4 + 1 = 44 by omega] at q
    exact q
  have if5_3 : I5 44 3 = nI 0 := by
    have q := f4_3
    rw [show jv_n G4 + 1 = 44 by omega] at q
    exact q
  have if5_4 : I5 44 4 = nI 0 := by
    have q := f4_4
    rw [show jv_n G4 + 1 = 44 by omega] at q
    exact q
  obtain ⟨G6, e5⟩ : ∃ x, x = jv_sr (jv_nw G5 (2, 8) 8) 1 5 (jv_n G5 + 1) := ⟨_, rfl⟩
  obtain ⟨I6, ei5⟩ : ∃ x, x = I5 := ⟨_, rfl⟩
  obtain ⟨J6, ej5⟩ : ∃ x, x = J5 := ⟨_, rfl⟩
  have n6 : jv_n G6 = 46 := by rw [e5]; show jv_n G5 + 1 = _; omega
  have kq6 : ∀ b, b ≤ 45 → jv_k G6 b = jv_k G5 b := fun b hb => by rw [e5, jv_k_up, jv_k_old (by omega)]
  have rq6 : ∀ b k, b ≤ 45 → (b ≠ 1 ∨ k ≠ 5) → jv_r G6 b k = jv_r G5 b k := fun b k hb hbk => by
    rw [e5, jv_r_sr]
    by_cases q : b = 1
    · rw [if_pos q, if_neg (by omega), jv_r_old (by omega)]
    · rw [if_neg q, jv_r_old (by omega)]
  have ro6 : jv_r G6 1 5 = 46 := by rw [e5, jv_r_sr, if_pos rfl, if_pos rfl]; omega
  have ko6 : jv_k G6 46 = (2, 8) := by rw [e5, jv_k_up, show 46 = jv_n G5 + 1 by omega]; exact jv_k_new
  have sz6 : jv_s G6 ≤ 836 := by rw [e5]; show jv_s G5 + 8 ≤ _; omega
  have iq6 : ∀ b, b ≤ 45 → I6 b = I5 b := fun b hb => by rw [ei5]
  obtain ⟨G7, e6⟩ : ∃ x, x = jv_sr (jv_nw G6 (0, 5) 5) 1 6 (jv_n G6 + 1) := ⟨_, rfl⟩
  obtain ⟨I7, ei6⟩ : ∃ x, x = jv_zI I6 (jv_n G6 + 1) := ⟨_, rfl⟩
  obtain ⟨J7, ej6⟩ : ∃ x, x = J6 := ⟨_, rfl⟩
  have n7 : jv_n G7 = 47 := by rw [e6]; show jv_n G6 + 1 = _; omega
  have kq7 : ∀ b, b ≤ 46 → jv_k G7 b = jv_k G6 b := fun b hb => by rw [e6, jv_k_up, jv_k_old (by omega)]
  have rq7 : ∀ b k, b ≤ 46 → (b ≠ 1 ∨ k ≠ 6) → jv_r G7 b k = jv_r G6 b k := fun b k hb hbk => by
    rw [e6, jv_r_sr]
    by_cases q : b = 1
    · rw [if_pos q, if_neg (by omega), jv_r_old (by omega)]
    · rw [if_neg q, jv_r_old (by omega)]
  have ro7 : jv_r G7 1 6 = 47 := by rw [e6, jv_r_sr, if_pos rfl, if_pos rfl]; omega
  have ko7 : jv_k G7 47 = (0, 5) := by rw [e6, jv_k_up, show 47 = jv_n G6 + 1 by omega]; exact jv_k_new
  have sz7 : jv_s G7 ≤ 841 := by rw [e6]; show jv_s G6 + 5 ≤ _; omega
  have iq7 : ∀ b, b ≤ 46 → I7 b = I6 b := fun b hb => by rw [ei6]; exact ot_zI_ne _ (by omega)
  have iz7 : ∀ j, I7 47 j = nI 0 := fun j => by rw [ei6, show 47 = jv_n G6 + 1 by omega]; unfold jv_zI; rw [if_pos rfl]; rfl
  obtain ⟨G8, e7⟩ : ∃ x, x = G7 := ⟨_, rfl⟩
  obtain ⟨J8, ej7⟩ : ∃ x, x = J7 := ⟨_, rfl⟩
  obtain ⟨I8, ei7⟩ : ∃ x, x = jv_up I7 1 7 (nI 0) := ⟨_, rfl⟩
  have n8 : jv_n G8 = 47 := by rw [e7]; exact n7
  have kq8 : ∀ b, b ≤ 47 → jv_k G8 b = jv_k G7 b := fun b hb => by rw [e7]
  have rq8 : ∀ b k, b ≤ 47 → (b ≠ 0 ∨ k ≠ 99) → jv_r G8 b k = jv_r G7 b k := fun b k hb hbk => by rw [e7]
  have sz8 : jv_s G8 ≤ 841 := by rw [e7]; exact sz7
  have iq8 : ∀ b, b ≤ 47 → b ≠ 1 → I8 b = I7 b := fun b hb hb1 => by rw [ei7]; exact jv_up_ne _ _ _ hb1
  have i17 : I8 1 7 = nI 0 := by rw [ei7]; exact jv_up_at _ _ _ _
  obtain ⟨H8, I9, J9, c8, a8, z8, ib8, f8_0, f8_1⟩ := oc_initX1 (G := jv_nw G8 (1 + 10, 0) 3) (I := jv_zI I8 (jv_n G8 + 1)) (J := J8) (m := jv_n G8 + 1) (by omega) (by omega) rfl jv_k_new
  obtain ⟨G9, e8⟩ : ∃ x, x = jv_sr H8 46 0 (jv_n G8 + 1) := ⟨_, rfl⟩
  have n9 : jv_n G9 = 49 := by rw [e8]; show jv_n H8 = _; rw [a8.1]; omega
  have kq9 : ∀ b, b ≤ 47 → jv_k G9 b = jv_k G8 b := fun b hb => by rw [e8, jv_k_up, a8.2.1 b (by omega), jv_k_old (by omega)]
  have rq9 : ∀ b k, b ≤ 47 → (b ≠ 46 ∨ k ≠ 0) → jv_r G9 b k = jv_r G8 b k := fun b k hb hbk => by
    rw [e8, jv_r_sr]
    by_cases q : b = 46
    · rw [if_pos q, if_neg (by omega), a8.2.2.1 b (by omega), jv_r_old (by omega)]
    · rw [if_neg q, a8.2.2.1 b (by omega), jv_r_old (by omega)]
  have ro9 : jv_r G9 46 0 = 48 := by rw [e8, jv_r_sr, if_pos rfl, if_pos rfl]; omega
  have ko9 : jv_k G9 48 = (1 + 10, 0) := by rw [e8, jv_k_up, show 48 = jv_n G8 + 1 by omega, a8.2.1 _ (Nat.le_refl _)]; exact jv_k_new
  have kc9 : ∀ j, j < 1 → jv_k G9 (48 + (j + 1)) = ot_sK j := fun j hj => by rw [e8, jv_k_up, show 48 + (j + 1) = jv_n G8 + 1 + (j + 1) by omega]; exact a8.2.2.2.1 j hj
  have rc9 : ∀ j, j < 1 → jv_r G9 48 (ot_sF j) = 48 + (j + 1) := fun j hj => by rw [e8, jv_r_sr, if_neg (by omega), show 48 = jv_n G8 + 1 by omega]; exact a8.2.2.2.2.1 j hj
  have sz9 : jv_s G9 ≤ 884 := by rw [e8]; show jv_s H8 ≤ _; have q : jv_s (jv_nw G8 (1 + 10, 0) 3) = jv_s G8 + 3 := rfl; omega
  have iq9 : ∀ b, b ≤ 47 → I9 b = I8 b := fun b hb => by rw [ib8 b (by omega), ot_zI_ne _ (by omega)]
  have if9_0 : I9 48 0 = -1 := by
    have q := f8_0
    rw [show jv_n G8 + 1 = 48 by omega] at q
    exact q
  have if9_1 : I9 48 1 = nI 0 := by
    have q := f8_1
    rw [show jv_n G8 + 1 = 48 by omega] at q
    exact q
  obtain ⟨H9, I10, J10, c9, a9, z9, ib9, f9_0, f9_1⟩ := oc_initX1 (G := jv_nw G9 (1 + 10, 0) 3) (I := jv_zI I9 (jv_n G9 + 1)) (J := J9) (m := jv_n G9 + 1) (by omega) (by omega) rfl jv_k_new
  obtain ⟨G10, e9⟩ : ∃ x, x = jv_sr H9 46 1 (jv_n G9 + 1) := ⟨_, rfl⟩
  have n10 : jv_n G10 = 51 := by rw [e9]; show jv_n H9 = _; rw [a9.1]; omega
  have kq10 : ∀ b, b ≤ 49 → jv_k G10 b = jv_k G9 b := fun b hb => by rw [e9, jv_k_up, a9.2.1 b (by omega), jv_k_old (by omega)]
  have rq10 : ∀ b k, b ≤ 49 → (b ≠ 46 ∨ k ≠ 1) → jv_r G10 b k = jv_r G9 b k := fun b k hb hbk => by
    rw [e9, jv_r_sr]
    by_cases q : b = 46
    · rw [if_pos q, if_neg (by omega), a9.2.2.1 b (by omega), jv_r_old (by omega)]
    · rw [if_neg q, a9.2.2.1 b (by omega), jv_r_old (by omega)]
  have ro10 : jv_r G10 46 1 = 50 := by rw [e9, jv_r_sr, if_pos rfl, if_pos rfl]; omega
  have ko10 : jv_k G10 50 = (1 + 10, 0) := by rw [e9, jv_k_up, show 50 = jv_n G9 + 1 by omega, a9.2.1 _ (Nat.le_refl _)]; exact jv_k_new
  have kc10 : ∀ j, j < 1 → jv_k G10 (50 + (j + 1)) = ot_sK j := fun j hj => by rw [e9, jv_k_up, show 50 + (j + 1) = jv_n G9 + 1 + (j + 1) by omega]; exact a9.2.2.2.1 j hj
  have rc10 : ∀ j, j < 1 → jv_r G10 50 (ot_sF j) = 50 + (j + 1) := fun j hj => by rw [e9, jv_r_sr, if_neg (by omega), show 50 = jv_n G9 + 1 by omega]; exact a9.2.2.2.2.1 j hj
  have sz10 : jv_s G10 ≤ 927 := by rw [e9]; show jv_s H9 ≤ _; have q : jv_s (jv_nw G9 (1 + 10, 0) 3) = jv_s G9 + 3 := rfl; omega
  have iq10 : ∀ b, b ≤ 49 → I10 b = I9 b := fun b hb => by rw [ib9 b (by omega), ot_zI_ne _ (by omega)]
  have if10_0 : I10 50 0 = -1 := by
    have q := f9_0
    rw [show jv_n G9 + 1 = 50 by omega] at q
    exact q
  have if10_1 : I10 50 1 = nI 0 := by
    have q := f9_1
    rw [show jv_n G9 + 1 = 50 by omega] at q
    exact q
  obtain ⟨H10, I11, J11, c10, a10, z10, ib10, f10_0, f10_1⟩ := oc_initX1 (G := jv_nw G10 (1 + 10, 0) 3) (I := jv_zI I10 (jv_n G10 + 1)) (J := J10) (m := jv_n G10 + 1) (by omega) (by omega) rfl jv_k_new
  obtain ⟨G11, e10⟩ : ∃ x, x = jv_sr H10 46 2 (jv_n G10 + 1) := ⟨_, rfl⟩
  have n11 : jv_n G11 = 53 := by rw [e10]; show jv_n H10 = _; rw [a10.1]; omega
  have kq11 : ∀ b, b ≤ 51 → jv_k G11 b = jv_k G10 b := fun b hb => by rw [e10, jv_k_up, a10.2.1 b (by omega), jv_k_old (by omega)]
  have rq11 : ∀ b k, b ≤ 51 → (b ≠ 46 ∨ k ≠ 2) → jv_r G11 b k = jv_r G10 b k := fun b k hb hbk => by
    rw [e10, jv_r_sr]
    by_cases q : b = 46
    · rw [if_pos q, if_neg (by omega), a10.2.2.1 b (by omega), jv_r_old (by omega)]
    · rw [if_neg q, a10.2.2.1 b (by omega), jv_r_old (by omega)]
  have ro11 : jv_r G11 46 2 = 52 := by rw [e10, jv_r_sr, if_pos rfl, if_pos rfl]; omega
  have ko11 : jv_k G11 52 = (1 + 10, 0) := by rw [e10, jv_k_up, show 52 = jv_n G10 + 1 by omega, a10.2.1 _ (Nat.le_refl _)]; exact jv_k_new
  have kc11 : ∀ j, j < 1 → jv_k G11 (52 + (j + 1)) = ot_sK j := fun j hj => by rw [e10, jv_k_up, show 52 + (j + 1) = jv_n G10 + 1 + (j + 1) by omega]; exact a10.2.2.2.1 j hj
  have rc11 : ∀ j, j < 1 → jv_r G11 52 (ot_sF j) = 52 + (j + 1) := fun j hj => by rw [e10, jv_r_sr, if_neg (by omega), show 52 = jv_n G10 + 1 by omega]; exact a10.2.2.2.2.1 j hj
  have sz11 : jv_s G11 ≤ 970 := by rw [e10]; show jv_s H10 ≤ _; have q : jv_s (jv_nw G10 (1 + 10, 0) 3) = jv_s G10 + 3 := rfl; omega
  have iq11 : ∀ b, b ≤ 51 → I11 b = I10 b := fun b hb => by rw [ib10 b (by omega), ot_zI_ne _ (by omega)]
  have if11_0 : I11 52 0 = -1 := by
    have q := f10_0
    rw [show jv_n G10 + 1 = 52 by omega] at q
    exact q
  have if11_1 : I11 52 1 = nI 0 := by
    have q := f10_1
    rw [show jv_n G10 + 1 = 52 by omega] at q
    exact q
  obtain ⟨H11, I12, J12, c11, a11, z11, ib11, f11_0, f11_1⟩ := oc_initX1 (G := jv_nw G11 (1 + 10, 0) 3) (I := jv_zI I11 (jv_n G11 + 1)) (J := J11) (m := jv_n G11 + 1) (by omega) (by omega) rfl jv_k_new
  obtain ⟨G12, e11⟩ : ∃ x, x = jv_sr H11 46 3 (jv_n G11 + 1) := ⟨_, rfl⟩
  have n12 : jv_n G12 = 55 := by rw [e11]; show jv_n H11 = _; rw [a11.1]; omega
  have kq12 : ∀ b, b ≤ 53 → jv_k G12 b = jv_k G11 b := fun b hb => by rw [e11, jv_k_up, a11.2.1 b (by omega), jv_k_old (by omega)]
  have rq12 : ∀ b k, b ≤ 53 → (b ≠ 46 ∨ k ≠ 3) → jv_r G12 b k = jv_r G11 b k := fun b k hb hbk => by
    rw [e11, jv_r_sr]
    by_cases q : b = 46
    · rw [if_pos q, if_neg (by omega), a11.2.2.1 b (by omega), jv_r_old (by omega)]
    · rw [if_neg q, a11.2.2.1 b (by omega), jv_r_old (by omega)]
  have ro12 : jv_r G12 46 3 = 54 := by rw [e11, jv_r_sr, if_pos rfl, if_pos rfl]; omega
  have ko12 : jv_k G12 54 = (1 + 10, 0) := by rw [e11, jv_k_up, show 54 = jv_n G11 + 1 by omega, a11.2.1 _ (Nat.le_refl _)]; exact jv_k_new
  have kc12 : ∀ j, j < 1 → jv_k G12 (54 + (j + 1)) = ot_sK j := fun j hj => by rw [e11, jv_k_up, show 54 + (j + 1) = jv_n G11 + 1 + (j + 1) by omega]; exact a11.2.2.2.1 j hj
  have rc12 : ∀ j, j < 1 → jv_r G12 54 (ot_sF j) = 54 + (j + 1) := fun j hj => by rw [e11, jv_r_sr, if_neg (by omega), show 54 = jv_n G11 + 1 by omega]; exact a11.2.2.2.2.1 j hj
  have sz12 : jv_s G12 ≤ 1013 := by rw [e11]; show jv_s H11 ≤ _; have q : jv_s (jv_nw G11 (1 + 10, 0) 3) = jv_s G11 + 3 := rfl; omega
  have iq12 : ∀ b, b ≤ 53 → I12 b = I11 b := fun b hb => by rw [ib11 b (by omega), ot_zI_ne _ (by omega)]
  have if12_0 : I12 54 0 = -1 := by
    have q := f11_0
    rw [show jv_n G11 + 1 = 54 by omega] at q
    exact q
  have if12_1 : I12 54 1 = nI 0 := by
    have q := f11_1
    rw [show jv_n G11 + 1 = 54 by omega] at q
    exact q
  obtain ⟨H12, I13, J13, c12, a12, z12, ib12, f12_0, f12_1⟩ := oc_initX1 (G := jv_nw G12 (1 + 10, 0) 3) (I := jv_zI I12 (jv_n G12 + 1)) (J := J12) (m := jv_n G12 + 1) (by omega) (by omega) rfl jv_k_new
  obtain ⟨G13, e12⟩ : ∃ x, x = jv_sr H12 46 4 (jv_n G12 + 1) := ⟨_, rfl⟩
  have n13 : jv_n G13 = 57 := by rw [e12]; show jv_n H12 = _; rw [a12.1]; omega
  have kq13 : ∀ b, b ≤ 55 → jv_k G13 b = jv_k G12 b := fun b hb => by rw [e12, jv_k_up, a12.2.1 b (by omega), jv_k_old (by omega)]
  have rq13 : ∀ b k, b ≤ 55 → (b ≠ 46 ∨ k ≠ 4) → jv_r G13 b k = jv_r G12 b k := fun b k hb hbk => by
    rw [e12, jv_r_sr]
    by_cases q : b = 46
    · rw [if_pos q, if_neg (by omega), a12.2.2.1 b (by omega), jv_r_old (by omega)]
    · rw [if_neg q, a12.2.2.1 b (by omega), jv_r_old (by omega)]
  have ro13 : jv_r G13 46 4 = 56 := by rw [e12, jv_r_sr, if_pos rfl, if_pos rfl]; omega
  have ko13 : jv_k G13 56 = (1 + 10, 0) := by rw [e12, jv_k_up, show 56 = jv_n G12 + 1 by omega, a12.2.1 _ (Nat.le_refl _)]; exact jv_k_new
  have kc13 : ∀ j, j < 1 → jv_k G13 (56 + (j + 1)) = ot_sK j := fun j hj => by rw [e12, jv_k_up, show 56 + (j + 1) = jv_n G12 + 1 + (j + 1) by omega]; exact a12.2.2.2.1 j hj
  have rc13 : ∀ j, j < 1 → jv_r G13 56 (ot_sF j) = 56 + (j + 1) := fun j hj => by rw [e12, jv_r_sr, if_neg (by omega), show 56 = jv_n G12 + 1 by omega]; exact a12.2.2.2.2.1 j hj
  have sz13 : jv_s G13 ≤ 1056 := by rw [e12]; show jv_s H12 ≤ _; have q : jv_s (jv_nw G12 (1 + 10, 0) 3) = jv_s G12 + 3 := rfl; omega
  have iq13 : ∀ b, b ≤ 55 → I13 b = I12 b := fun b hb => by rw [ib12 b (by omega), ot_zI_ne _ (by omega)]
  have if13_0 : I13 56 0 = -1 := by
    have q := f12_0
    rw [show jv_n G12 + 1 = 56 by omega] at q
    exact q
  have if13_1 : I13 56 1 = nI 0 := by
    have q := f12_1
    rw [show jv_n G12 + 1 = 56 by omega] at q
    exact q
  obtain ⟨H13, I14, J14, c13, a13, z13, ib13, f13_0, f13_1⟩ := oc_initX1 (G := jv_nw G13 (1 + 10, 0) 3) (I := jv_zI I13 (jv_n G13 + 1)) (J := J13) (m := jv_n G13 + 1) (by omega) (by omega) rfl jv_k_new
  obtain ⟨G14, e13⟩ : ∃ x, x = jv_sr H13 46 5 (jv_n G13 + 1) := ⟨_, rfl⟩
  have n14 : jv_n G14 = 59 := by rw [e13]; show jv_n H13 = _; rw [a13.1]; omega
  have kq14 : ∀ b, b ≤ 57 → jv_k G14 b = jv_k G13 b := fun b hb => by rw [e13, jv_k_up, a13.2.1 b (by omega), jv_k_old (by omega)]
  have rq14 : ∀ b k, b ≤ 57 → (b ≠ 46 ∨ k ≠ 5) → jv_r G14 b k = jv_r G13 b k := fun b k hb hbk => by
    rw [e13, jv_r_sr]
    by_cases q : b = 46
    · rw [if_pos q, if_neg (by omega), a13.2.2.1 b (by omega), jv_r_old (by omega)]
    · rw [if_neg q, a13.2.2.1 b (by omega), jv_r_old (by omega)]
  have ro14 : jv_r G14 46 5 = 58 := by rw [e13, jv_r_sr, if_pos rfl, if_pos rfl]; omega
  have ko14 : jv_k G14 58 = (1 + 10, 0) := by rw [e13, jv_k_up, show 58 = jv_n G13 + 1 by omega, a13.2.1 _ (Nat.le_refl _)]; exact jv_k_new
  have kc14 : ∀ j, j < 1 → jv_k G14 (58 + (j + 1)) = ot_sK j := fun j hj => by rw [e13, jv_k_up, show 58 + (j + 1) = jv_n G13 + 1 + (j + 1) by omega]; exact a13.2.2.2.1 j hj
  have rc14 : ∀ j, j < 1 → jv_r G14 58 (ot_sF j) = 58 + (j + 1) := fun j hj => by rw [e13, jv_r_sr, if_neg (by omega), show 58 = jv_n G13 + 1 by omega]; exact a13.2.2.2.2.1 j hj
  have sz14 : jv_s G14 ≤ 1099 := by rw [e13]; show jv_s H13 ≤ _; have q : jv_s (jv_nw G13 (1 + 10, 0) 3) = jv_s G13 + 3 := rfl; omega
  have iq14 : ∀ b, b ≤ 57 → I14 b = I13 b := fun b hb => by rw [ib13 b (by omega), ot_zI_ne _ (by omega)]
  have if14_0 : I14 58 0 = -1 := by
    have q := f13_0
    rw [show jv_n G13 + 1 = 58 by omega] at q
    exact q
  have if14_1 : I14 58 1 = nI 0 := by
    have q := f13_1
    rw [show jv_n G13 + 1 = 58 by omega] at q
    exact q
  obtain ⟨H14, I15, J15, c14, a14, z14, ib14, f14_0, f14_1⟩ := oc_initX1 (G := jv_nw G14 (1 + 10, 0) 3) (I := jv_zI I14 (jv_n G14 + 1)) (J := J14) (m := jv_n G14 + 1) (by omega) (by omega) rfl jv_k_new
  obtain ⟨G15, e14⟩ : ∃ x, x = jv_sr H14 46 6 (jv_n G14 + 1) := ⟨_, rfl⟩
  have n15 : jv_n G15 = 61 := by rw [e14]; show jv_n H14 = _; rw [a14.1]; omega
  have kq15 : ∀ b, b ≤ 59 → jv_k G15 b = jv_k G14 b := fun b hb => by rw [e14, jv_k_up, a14.2.1 b (by omega), jv_k_old (by omega)]
  have rq15 : ∀ b k, b ≤ 59 → (b ≠ 46 ∨ k ≠ 6) → jv_r G15 b k = jv_r G14 b k := fun b k hb hbk => by
    rw [e14, jv_r_sr]
    by_cases q : b = 46
    · rw [if_pos q, if_neg (by omega), a14.2.2.1 b (by omega), jv_r_old (by omega)]
    · rw [if_neg q, a14.2.2.1 b (by omega), jv_r_old (by omega)]
  have ro15 : jv_r G15 46 6 = 60 := by rw [e14, jv_r_sr, if_pos rfl, if_pos rfl]; omega
  have ko15 : jv_k G15 60 = (1 + 10, 0) := by rw [e14, jv_k_up, show 60 = jv_n G14 + 1 by omega, a14.2.1 _ (Nat.le_refl _)]; exact jv_k_new
  have kc15 : ∀ j, j < 1 → jv_k G15 (60 + (j + 1)) = ot_sK j := fun j hj => by rw [e14, jv_k_up, show 60 + (j + 1) = jv_n G14 + 1 + (j + 1) by omega]; exact a14.2.2.2.1 j hj
  have rc15 : ∀ j, j < 1 → jv_r G15 60 (ot_sF j) = 60 + (j + 1) := fun j hj => by rw [e14, jv_r_sr, if_neg (by omega), show 60 = jv_n G14 + 1 by omega]; exact a14.2.2.2.2.1 j hj
  have sz15 : jv_s G15 ≤ 1142 := by rw [e14]; show jv_s H14 ≤ _; have q : jv_s (jv_nw G14 (1 + 10, 0) 3) = jv_s G14 + 3 := rfl; omega
  have iq15 : ∀ b, b ≤ 59 → I15 b = I14 b := fun b hb => by rw [ib14 b (by omega), ot_zI_ne _ (by omega)]
  have if15_0 : I15 60 0 = -1 := by
    have q := f14_0
    rw [show jv_n G14 + 1 = 60 by omega] at q
    exact q
  have if15_1 : I15 60 1 = nI 0 := by
    have q := f14_1
    rw [show jv_n G14 + 1 = 60 by omega] at q
    exact q
  obtain ⟨H15, I16, J16, c15, a15, z15, ib15, f15_0, f15_1⟩ := oc_initX1 (G := jv_nw G15 (1 + 10, 0) 3) (I := jv_zI I15 (jv_n G15 + 1)) (J := J15) (m := jv_n G15 + 1) (by omega) (by omega) rfl jv_k_new
  obtain ⟨G16, e15⟩ : ∃ x, x = jv_sr H15 46 7 (jv_n G15 + 1) := ⟨_, rfl⟩
  have n16 : jv_n G16 = 63 := by rw [e15]; show jv_n H15 = _; rw [a15.1]; omega
  have kq16 : ∀ b, b ≤ 61 → jv_k G16 b = jv_k G15 b := fun b hb => by rw [e15, jv_k_up, a15.2.1 b (by omega), jv_k_old (by omega)]
  have rq16 : ∀ b k, b ≤ 61 → (b ≠ 46 ∨ k ≠ 7) → jv_r G16 b k = jv_r G15 b k := fun b k hb hbk => by
    rw [e15, jv_r_sr]
    by_cases q : b = 46
    · rw [if_pos q, if_neg (by omega), a15.2.2.1 b (by omega), jv_r_old (by omega)]
    · rw [if_neg q, a15.2.2.1 b (by omega), jv_r_old (by omega)]
  have ro16 : jv_r G16 46 7 = 62 := by rw [e15, jv_r_sr, if_pos rfl, if_pos rfl]; omega
  have ko16 : jv_k G16 62 = (1 + 10, 0) := by rw [e15, jv_k_up, show 62 = jv_n G15 + 1 by omega, a15.2.1 _ (Nat.le_refl _)]; exact jv_k_new
  have kc16 : ∀ j, j < 1 → jv_k G16 (62 + (j + 1)) = ot_sK j := fun j hj => by rw [e15, jv_k_up, show 62 + (j + 1) = jv_n G15 + 1 + (j + 1) by omega]; exact a15.2.2.2.1 j hj
  have rc16 : ∀ j, j < 1 → jv_r G16 62 (ot_sF j) = 62 + (j + 1) := fun j hj => by rw [e15, jv_r_sr, if_neg (by omega), show 62 = jv_n G15 + 1 by omega]; exact a15.2.2.2.2.1 j hj
  have sz16 : jv_s G16 ≤ 1185 := by rw [e15]; show jv_s H15 ≤ _; have q : jv_s (jv_nw G15 (1 + 10, 0) 3) = jv_s G15 + 3 := rfl; omega
  have iq16 : ∀ b, b ≤ 61 → I16 b = I15 b := fun b hb => by rw [ib15 b (by omega), ot_zI_ne _ (by omega)]
  have if16_0 : I16 62 0 = -1 := by
    have q := f15_0
    rw [show jv_n G15 + 1 = 62 by omega] at q
    exact q
  have if16_1 : I16 62 1 = nI 0 := by
    have q := f15_1
    rw [show jv_n G15 + 1 = 62 by omega] at q
    exact q
  have kg0 := kG0
  have kg1 := (kq1 1 (by omega)).trans kg0
  have kg2 := (kq2 1 (by omega)).trans kg1
  have kg3 := (kq3 1 (by omega)).trans kg2
  have kg4 := (kq4 1 (by omega)).trans kg3
  have kg5 := (kq5 1 (by omega)).trans kg4
  have kg6 := (kq6 1 (by omega)).trans kg5
  have kg7 := (kq7 1 (by omega)).trans kg6
  have kg8 := (kq8 1 (by omega)).trans kg7
  have kg9 := (kq9 1 (by omega)).trans kg8
  have kg10 := (kq10 1 (by omega)).trans kg9
  have kg11 := (kq11 1 (by omega)).trans kg10
  have kg12 := (kq12 1 (by omega)).trans kg11
  have kg13 := (kq13 1 (by omega)).trans kg12
  have kg14 := (kq14 1 (by omega)).trans kg13
  have kg15 := (kq15 1 (by omega)).trans kg14
  have kg16 := (kq16 1 (by omega)).trans kg15
  have rn1 := ro1
  have rn2 := (rq2 1 0 (by omega) (.inr (by decide))).trans rn1
  have rn3 := (rq3 1 0 (by omega) (.inr (by decide))).trans rn2
  have rs6 := ro6
  have rs7 := (rq7 1 5 (by omega) (.inr (by decide))).trans rs6
  have rs8 := (rq8 1 5 (by omega) (.inl (by decide))).trans rs7
  have rs9 := (rq9 1 5 (by omega) (.inl (by decide))).trans rs8
  have rs10 := (rq10 1 5 (by omega) (.inl (by decide))).trans rs9
  have rs11 := (rq11 1 5 (by omega) (.inl (by decide))).trans rs10
  have rs12 := (rq12 1 5 (by omega) (.inl (by decide))).trans rs11
  have rs13 := (rq13 1 5 (by omega) (.inl (by decide))).trans rs12
  have rs14 := (rq14 1 5 (by omega) (.inl (by decide))).trans rs13
  have rs15 := (rq15 1 5 (by omega) (.inl (by decide))).trans rs14
  have rs16 := (rq16 1 5 (by omega) (.inl (by decide))).trans rs15
  have k46_6 := ko6
  have k46_7 := (kq7 46 (by omega)).trans k46_6
  have k46_8 := (kq8 46 (by omega)).trans k46_7
  have k46_9 := (kq9 46 (by omega)).trans k46_8
  have k46_10 := (kq10 46 (by omega)).trans k46_9
  have k46_11 := (kq11 46 (by omega)).trans k46_10
  have k46_12 := (kq12 46 (by omega)).trans k46_11
  have k46_13 := (kq13 46 (by omega)).trans k46_12
  have k46_14 := (kq14 46 (by omega)).trans k46_13
  have k46_15 := (kq15 46 (by omega)).trans k46_14
  have k46_16 := (kq16 46 (by omega)).trans k46_15
  have kf16 : ∀ b, b ≤ 63 → jv_k G16 b = jv_k G16 b := fun _ _ => rfl
  have rf16 : ∀ b k, b ≤ 63 → b ≠ 1 → b ≠ 46 → jv_r G16 b k = jv_r G16 b k := fun _ _ _ _ _ => rfl
  have if16 : ∀ b, b ≤ 63 → b ≠ 1 → I16 b = I16 b := fun _ _ _ => rfl
  have kf15 : ∀ b, b ≤ 61 → jv_k G16 b = jv_k G15 b := fun b hb => (kf16 b (by omega)).trans (kq16 b hb)
  have rf15 : ∀ b k, b ≤ 61 → b ≠ 1 → b ≠ 46 → jv_r G16 b k = jv_r G15 b k := fun b k hb h1 h2 => (rf16 b k (by omega) h1 h2).trans (rq16 b k hb (.inl h2))
  have if15 : ∀ b, b ≤ 61 → b ≠ 1 → I16 b = I15 b := fun b hb h1 => (if16 b (by omega) h1).trans (iq16 b hb)
  have kf14 : ∀ b, b ≤ 59 → jv_k G16 b = jv_k G14 b := fun b hb => (kf15 b (by omega)).trans (kq15 b hb)
  have rf14 : ∀ b k, b ≤ 59 → b ≠ 1 → b ≠ 46 → jv_r G16 b k = jv_r G14 b k := fun b k hb h1 h2 => (rf15 b k (by omega) h1 h2).trans (rq15 b k hb (.inl h2))
  have if14 : ∀ b, b ≤ 59 → b ≠ 1 → I16 b = I14 b := fun b hb h1 => (if15 b (by omega) h1).trans (iq15 b hb)
  have kf13 : ∀ b, b ≤ 57 → jv_k G16 b = jv_k G13 b := fun b hb => (kf14 b (by omega)).trans (kq14 b hb)
  have rf13 : ∀ b k, b ≤ 57 → b ≠ 1 → b ≠ 46 → jv_r G16 b k = jv_r G13 b k := fun b k hb h1 h2 => (rf14 b k (by omega) h1 h2).trans (rq14 b k hb (.inl h2))
  have if13 : ∀ b, b ≤ 57 → b ≠ 1 → I16 b = I13 b := fun b hb h1 => (if14 b (by omega) h1).trans (iq14 b hb)
  have kf12 : ∀ b, b ≤ 55 → jv_k G16 b = jv_k G12 b := fun b hb => (kf13 b (by omega)).trans (kq13 b hb)
  have rf12 : ∀ b k, b ≤ 55 → b ≠ 1 → b ≠ 46 → jv_r G16 b k = jv_r G12 b k := fun b k hb h1 h2 => (rf13 b k (by omega) h1 h2).trans (rq13 b k hb (.inl h2))
  have if12 : ∀ b, b ≤ 55 → b ≠ 1 → I16 b = I12 b := fun b hb h1 => (if13 b (by omega) h1).trans (iq13 b hb)
  have kf11 : ∀ b, b ≤ 53 → jv_k G16 b = jv_k G11 b := fun b hb => (kf12 b (by omega)).trans (kq12 b hb)
  have rf11 : ∀ b k, b ≤ 53 → b ≠ 1 → b ≠ 46 → jv_r G16 b k = jv_r G11 b k := fun b k hb h1 h2 => (rf12 b k (by omega) h1 h2).trans (rq12 b k hb (.inl h2))
  have if11 : ∀ b, b ≤ 53 → b ≠ 1 → I16 b = I11 b := fun b hb h1 => (if12 b (by omega) h1).trans (iq12 b hb)
  have kf10 : ∀ b, b ≤ 51 → jv_k G16 b = jv_k G10 b := fun b hb => (kf11 b (by omega)).trans (kq11 b hb)
  have rf10 : ∀ b k, b ≤ 51 → b ≠ 1 → b ≠ 46 → jv_r G16 b k = jv_r G10 b k := fun b k hb h1 h2 => (rf11 b k (by omega) h1 h2).trans (rq11 b k hb (.inl h2))
  have if10 : ∀ b, b ≤ 51 → b ≠ 1 → I16 b = I10 b := fun b hb h1 => (if11 b (by omega) h1).trans (iq11 b hb)
  have kf9 : ∀ b, b ≤ 49 → jv_k G16 b = jv_k G9 b := fun b hb => (kf10 b (by omega)).trans (kq10 b hb)
  have rf9 : ∀ b k, b ≤ 49 → b ≠ 1 → b ≠ 46 → jv_r G16 b k = jv_r G9 b k := fun b k hb h1 h2 => (rf10 b k (by omega) h1 h2).trans (rq10 b k hb (.inl h2))
  have if9 : ∀ b, b ≤ 49 → b ≠ 1 → I16 b = I9 b := fun b hb h1 => (if10 b (by omega) h1).trans (iq10 b hb)
  have kf8 : ∀ b, b ≤ 47 → jv_k G16 b = jv_k G8 b := fun b hb => (kf9 b (by omega)).trans (kq9 b hb)
  have rf8 : ∀ b k, b ≤ 47 → b ≠ 1 → b ≠ 46 → jv_r G16 b k = jv_r G8 b k := fun b k hb h1 h2 => (rf9 b k (by omega) h1 h2).trans (rq9 b k hb (.inl h2))
  have if8 : ∀ b, b ≤ 47 → b ≠ 1 → I16 b = I8 b := fun b hb h1 => (if9 b (by omega) h1).trans (iq9 b hb)
  have kf7 : ∀ b, b ≤ 47 → jv_k G16 b = jv_k G7 b := fun b hb => (kf8 b (by omega)).trans (kq8 b hb)
  have rf7 : ∀ b k, b ≤ 47 → b ≠ 1 → b ≠ 46 → jv_r G16 b k = jv_r G7 b k := fun b k hb h1 h2 => (rf8 b k (by omega) h1 h2).trans (by rw [e7])
  have if7 : ∀ b, b ≤ 47 → b ≠ 1 → I16 b = I7 b := fun b hb h1 => (if8 b (by omega) h1).trans (iq8 b hb h1)
  have kf6 : ∀ b, b ≤ 46 → jv_k G16 b = jv_k G6 b := fun b hb => (kf7 b (by omega)).trans (kq7 b hb)
  have rf6 : ∀ b k, b ≤ 46 → b ≠ 1 → b ≠ 46 → jv_r G16 b k = jv_r G6 b k := fun b k hb h1 h2 => (rf7 b k (by omega) h1 h2).trans (rq7 b k hb (.inl h1))
  have if6 : ∀ b, b ≤ 46 → b ≠ 1 → I16 b = I6 b := fun b hb h1 => (if7 b (by omega) h1).trans (iq7 b hb)
  have kf5 : ∀ b, b ≤ 45 → jv_k G16 b = jv_k G5 b := fun b hb => (kf6 b (by omega)).trans (kq6 b hb)
  have rf5 : ∀ b k, b ≤ 45 → b ≠ 1 → b ≠ 46 → jv_r G16 b k = jv_r G5 b k := fun b k hb h1 h2 => (rf6 b k (by omega) h1 h2).trans (rq6 b k hb (.inl h1))
  have if5 : ∀ b, b ≤ 45 → b ≠ 1 → I16 b = I5 b := fun b hb h1 => (if6 b (by omega) h1).trans (iq6 b hb)
  have kf4 : ∀ b, b ≤ 43 → jv_k G16 b = jv_k G4 b := fun b hb => (kf5 b (by omega)).trans (kq5 b hb)
  have rf4 : ∀ b k, b ≤ 43 → b ≠ 1 → b ≠ 46 → jv_r G16 b k = jv_r G4 b k := fun b k hb h1 h2 => (rf5 b k (by omega) h1 h2).trans (rq5 b k hb (.inl h1))
  have if4 : ∀ b, b ≤ 43 → b ≠ 1 → I16 b = I4 b := fun b hb h1 => (if5 b (by omega) h1).trans (iq5 b hb)
  have kf3 : ∀ b, b ≤ 37 → jv_k G16 b = jv_k G3 b := fun b hb => (kf4 b (by omega)).trans (kq4 b hb)
  have rf3 : ∀ b k, b ≤ 37 → b ≠ 1 → b ≠ 46 → jv_r G16 b k = jv_r G3 b k := fun b k hb h1 h2 => (rf4 b k (by omega) h1 h2).trans (rq4 b k hb (.inl h1))
  have if3 : ∀ b, b ≤ 37 → b ≠ 1 → I16 b = I3 b := fun b hb h1 => (if4 b (by omega) h1).trans (iq4 b hb)
  have kf2 : ∀ b, b ≤ 25 → jv_k G16 b = jv_k G2 b := fun b hb => (kf3 b (by omega)).trans (kq3 b hb)
  have rf2 : ∀ b k, b ≤ 25 → b ≠ 1 → b ≠ 46 → jv_r G16 b k = jv_r G2 b k := fun b k hb h1 h2 => (rf3 b k (by omega) h1 h2).trans (rq3 b k hb (.inl h1))
  have if2 : ∀ b, b ≤ 25 → b ≠ 1 → I16 b = I2 b := fun b hb h1 => (if3 b (by omega) h1).trans (iq3 b hb)
  have kf1 : ∀ b, b ≤ 13 → jv_k G16 b = jv_k G1 b := fun b hb => (kf2 b (by omega)).trans (kq2 b hb)
  have rf1 : ∀ b k, b ≤ 13 → b ≠ 1 → b ≠ 46 → jv_r G16 b k = jv_r G1 b k := fun b k hb h1 h2 => (rf2 b k (by omega) h1 h2).trans (rq2 b k hb (.inl h1))
  have if1 : ∀ b, b ≤ 13 → b ≠ 1 → I16 b = I1 b := fun b hb h1 => (if2 b (by omega) h1).trans (iq2 b hb)
  have r1_0 : jv_r G16 1 0 = 2 := (rq16 1 0 (by omega) (.inl (by decide))).trans ((rq15 1 0 (by omega) (.inl (by decide))).trans ((rq14 1 0 (by omega) (.inl (by decide))).trans ((rq13 1 0 (by omega) (.inl (by decide))).trans ((rq12 1 0 (by omega) (.inl (by decide))).trans ((rq11 1 0 (by omega) (.inl (by decide))).trans ((rq10 1 0 (by omega) (.inl (by decide))).trans ((rq9 1 0 (by omega) (.inl (by decide))).trans ((rq8 1 0 (by omega) (.inl (by decide))).trans ((rq7 1 0 (by omega) (.inr (by decide))).trans ((rq6 1 0 (by omega) (.inr (by decide))).trans ((rq5 1 0 (by omega) (.inr (by decide))).trans ((rq4 1 0 (by omega) (.inr (by decide))).trans ((rq3 1 0 (by omega) (.inr (by decide))).trans ((rq2 1 0 (by omega) (.inr (by decide))).trans (ro1)))))))))))))))
  have r1_1 : jv_r G16 1 1 = 14 := (rq16 1 1 (by omega) (.inl (by decide))).trans ((rq15 1 1 (by omega) (.inl (by decide))).trans ((rq14 1 1 (by omega) (.inl (by decide))).trans ((rq13 1 1 (by omega) (.inl (by decide))).trans ((rq12 1 1 (by omega) (.inl (by decide))).trans ((rq11 1 1 (by omega) (.inl (by decide))).trans ((rq10 1 1 (by omega) (.inl (by decide))).trans ((rq9 1 1 (by omega) (.inl (by decide))).trans ((rq8 1 1 (by omega) (.inl (by decide))).trans ((rq7 1 1 (by omega) (.inr (by decide))).trans ((rq6 1 1 (by omega) (.inr (by decide))).trans ((rq5 1 1 (by omega) (.inr (by decide))).trans ((rq4 1 1 (by omega) (.inr (by decide))).trans ((rq3 1 1 (by omega) (.inr (by decide))).trans (ro2))))))))))))))
  have r1_2 : jv_r G16 1 2 = 26 := (rq16 1 2 (by omega) (.inl (by decide))).trans ((rq15 1 2 (by omega) (.inl (by decide))).trans ((rq14 1 2 (by omega) (.inl (by decide))).trans ((rq13 1 2 (by omega) (.inl (by decide))).trans ((rq12 1 2 (by omega) (.inl (by decide))).trans ((rq11 1 2 (by omega) (.inl (by decide))).trans ((rq10 1 2 (by omega) (.inl (by decide))).trans ((rq9 1 2 (by omega) (.inl (by decide))).trans ((rq8 1 2 (by omega) (.inl (by decide))).trans ((rq7 1 2 (by omega) (.inr (by decide))).trans ((rq6 1 2 (by omega) (.inr (by decide))).trans ((rq5 1 2 (by omega) (.inr (by decide))).trans ((rq4 1 2 (by omega) (.inr (by decide))).trans (ro3)))))))))))))
  have r1_3 : jv_r G16 1 3 = 38 := (rq16 1 3 (by omega) (.inl (by decide))).trans ((rq15 1 3 (by omega) (.inl (by decide))).trans ((rq14 1 3 (by omega) (.inl (by decide))).trans ((rq13 1 3 (by omega) (.inl (by decide))).trans ((rq12 1 3 (by omega) (.inl (by decide))).trans ((rq11 1 3 (by omega) (.inl (by decide))).trans ((rq10 1 3 (by omega) (.inl (by decide))).trans ((rq9 1 3 (by omega) (.inl (by decide))).trans ((rq8 1 3 (by omega) (.inl (by decide))).trans ((rq7 1 3 (by omega) (.inr (by decide))).trans ((rq6 1 3 (by omega) (.inr (by decide))).trans ((rq5 1 3 (by omega) (.inr (by decide))).trans (ro4))))))))))))
  have r1_4 : jv_r G16 1 4 = 44 := (rq16 1 4 (by omega) (.inl (by decide))).trans ((rq15 1 4 (by omega) (.inl (by decide))).trans ((rq14 1 4 (by omega) (.inl (by decide))).trans ((rq13 1 4 (by omega) (.inl (by decide))).trans ((rq12 1 4 (by omega) (.inl (by decide))).trans ((rq11 1 4 (by omega) (.inl (by decide))).trans ((rq10 1 4 (by omega) (.inl (by decide))).trans ((rq9 1 4 (by omega) (.inl (by decide))).trans ((rq8 1 4 (by omega) (.inl (by decide))).trans ((rq7 1 4 (by omega) (.inr (by decide))).trans ((rq6 1 4 (by omega) (.inr (by decide))).trans (ro5)))))))))))
  have r1_5 : jv_r G16 1 5 = 46 := (rq16 1 5 (by omega) (.inl (by decide))).trans ((rq15 1 5 (by omega) (.inl (by decide))).trans ((rq14 1 5 (by omega) (.inl (by decide))).trans ((rq13 1 5 (by omega) (.inl (by decide))).trans ((rq12 1 5 (by omega) (.inl (by decide))).trans ((rq11 1 5 (by omega) (.inl (by decide))).trans ((rq10 1 5 (by omega) (.inl (by decide))).trans ((rq9 1 5 (by omega) (.inl (by decide))).trans ((rq8 1 5 (by omega) (.inl (by decide))).trans ((rq7 1 5 (by omega) (.inr (by decide))).trans (ro6))))))))))
  have r1_6 : jv_r G16 1 6 = 47 := (rq16 1 6 (by omega) (.inl (by decide))).trans ((rq15 1 6 (by omega) (.inl (by decide))).trans ((rq14 1 6 (by omega) (.inl (by decide))).trans ((rq13 1 6 (by omega) (.inl (by decide))).trans ((rq12 1 6 (by omega) (.inl (by decide))).trans ((rq11 1 6 (by omega) (.inl (by decide))).trans ((rq10 1 6 (by omega) (.inl (by decide))).trans ((rq9 1 6 (by omega) (.inl (by decide))).trans ((rq8 1 6 (by omega) (.inl (by decide))).trans (ro7)))))))))
  have r46_0 : jv_r G16 46 0 = 48 := (rq16 46 0 (by omega) (.inr (by decide))).trans ((rq15 46 0 (by omega) (.inr (by decide))).trans ((rq14 46 0 (by omega) (.inr (by decide))).trans ((rq13 46 0 (by omega) (.inr (by decide))).trans ((rq12 46 0 (by omega) (.inr (by decide))).trans ((rq11 46 0 (by omega) (.inr (by decide))).trans ((rq10 46 0 (by omega) (.inr (by decide))).trans (ro9)))))))
  have r46_1 : jv_r G16 46 1 = 50 := (rq16 46 1 (by omega) (.inr (by decide))).trans ((rq15 46 1 (by omega) (.inr (by decide))).trans ((rq14 46 1 (by omega) (.inr (by decide))).trans ((rq13 46 1 (by omega) (.inr (by decide))).trans ((rq12 46 1 (by omega) (.inr (by decide))).trans ((rq11 46 1 (by omega) (.inr (by decide))).trans (ro10))))))
  have r46_2 : jv_r G16 46 2 = 52 := (rq16 46 2 (by omega) (.inr (by decide))).trans ((rq15 46 2 (by omega) (.inr (by decide))).trans ((rq14 46 2 (by omega) (.inr (by decide))).trans ((rq13 46 2 (by omega) (.inr (by decide))).trans ((rq12 46 2 (by omega) (.inr (by decide))).trans (ro11)))))
  have r46_3 : jv_r G16 46 3 = 54 := (rq16 46 3 (by omega) (.inr (by decide))).trans ((rq15 46 3 (by omega) (.inr (by decide))).trans ((rq14 46 3 (by omega) (.inr (by decide))).trans ((rq13 46 3 (by omega) (.inr (by decide))).trans (ro12))))
  have r46_4 : jv_r G16 46 4 = 56 := (rq16 46 4 (by omega) (.inr (by decide))).trans ((rq15 46 4 (by omega) (.inr (by decide))).trans ((rq14 46 4 (by omega) (.inr (by decide))).trans (ro13)))
  have r46_5 : jv_r G16 46 5 = 58 := (rq16 46 5 (by omega) (.inr (by decide))).trans ((rq15 46 5 (by omega) (.inr (by decide))).trans (ro14))
  have r46_6 : jv_r G16 46 6 = 60 := (rq16 46 6 (by omega) (.inr (by decide))).trans (ro15)
  have r46_7 : jv_r G16 46 7 = 62 := ro16
  have i1F : I16 1 7 = nI 0 := (congrFun (iq16 1 (by omega)) 7).trans ((congrFun (iq15 1 (by omega)) 7).trans ((congrFun (iq14 1 (by omega)) 7).trans ((congrFun (iq13 1 (by omega)) 7).trans ((congrFun (iq12 1 (by omega)) 7).trans ((congrFun (iq11 1 (by omega)) 7).trans ((congrFun (iq10 1 (by omega)) 7).trans ((congrFun (iq9 1 (by omega)) 7).trans (i17))))))))
  have hCG : ot_CG G16 := by
    refine ⟨⟨kg16, r1_0, r1_1, r1_2, r1_3, r1_4, r1_5, r1_6⟩, ⟨⟨(kf1 2 (by omega)).trans ko1, fun j hj => (kf1 _ (by omega)).trans (kc1 j hj), fun j hj => (rf1 2 _ (by omega) (by omega) (by omega)).trans (rc1 j hj)⟩, ⟨(kf2 14 (by omega)).trans ko2, fun j hj => (kf2 _ (by omega)).trans (kc2 j hj), fun j hj => (rf2 14 _ (by omega) (by omega) (by omega)).trans (rc2 j hj)⟩, ⟨(kf3 26 (by omega)).trans ko3, fun j hj => (kf3 _ (by omega)).trans (kc3 j hj), fun j hj => (rf3 26 _ (by omega) (by omega) (by omega)).trans (rc3 j hj)⟩⟩, ⟨(kf4 38 (by omega)).trans ko4, (rf4 38 0 (by omega) (by omega) (by omega)).trans ry4, (rf4 38 1 (by omega) (by omega) (by omega)).trans (rc4 0 (by decide)), (rf4 38 2 (by omega) (by omega) (by omega)).trans (rc4 1 (by decide)), (rf4 38 3 (by omega) (by omega) (by omega)).trans (rc4 2 (by decide)), (rf4 38 4 (by omega) (by omega) (by omega)).trans (rc4 3 (by decide)), (rf4 38 5 (by omega) (by omega) (by omega)).trans (rc4 4 (by decide))⟩, ⟨(kf4 39 (by omega)).trans (kc4 0 (by decide)), (kf4 40 (by omega)).trans (kc4 1 (by decide)), (kf4 41 (by omega)).trans (kc4 2 (by decide)), (kf4 42 (by omega)).trans (kc4 3 (by decide)), (kf4 43 (by omega)).trans (kc4 4 (by decide))⟩, ⟨(kf5 44 (by omega)).trans ko5, (rf5 44 0 (by omega) (by omega) (by omega)).trans (rc5 0 (by decide)), (kf5 45 (by omega)).trans (kc5 0 (by decide)), (kf6 46 (by omega)).trans ko6, (kf7 47 (by omega)).trans ko7⟩, ?_⟩
    exact fun s hs => by
      rcases (show s = 0 ∨ s = 1 ∨ s = 2 ∨ s = 3 ∨ s = 4 ∨ s = 5 ∨ s = 6 ∨ s = 7 by omega) with rfl | rfl | rfl | rfl | rfl | rfl | rfl | rfl
      · exact ⟨r46_0, (kf9 48 (by omega)).trans ko9, (rf9 48 2 (by omega) (by omega) (by omega)).trans (rc9 0 (by decide)), (kf9 49 (by omega)).trans (kc9 0 (by decide))⟩
      · exact ⟨r46_1, (kf10 50 (by omega)).trans ko10, (rf10 50 2 (by omega) (by omega) (by omega)).trans (rc10 0 (by decide)), (kf10 51 (by omega)).trans (kc10 0 (by decide))⟩
      · exact ⟨r46_2, (kf11 52 (by omega)).trans ko11, (rf11 52 2 (by omega) (by omega) (by omega)).trans (rc11 0 (by decide)), (kf11 53 (by omega)).trans (kc11 0 (by decide))⟩
      · exact ⟨r46_3, (kf12 54 (by omega)).trans ko12, (rf12 54 2 (by omega) (by omega) (by omega)).trans (rc12 0 (by decide)), (kf12 55 (by omega)).trans (kc12 0 (by decide))⟩
      · exact ⟨r46_4, (kf13 56 (by omega)).trans ko13, (rf13 56 2 (by omega) (by omega) (by omega)).trans (rc13 0 (by decide)), (kf13 57 (by omega)).trans (kc13 0 (by decide))⟩
      · exact ⟨r46_5, (kf14 58 (by omega)).trans ko14, (rf14 58 2 (by omega) (by omega) (by omega)).trans (rc14 0 (by decide)), (kf14 59 (by omega)).trans (kc14 0 (by decide))⟩
      · exact ⟨r46_6, (kf15 60 (by omega)).trans ko15, (rf15 60 2 (by omega) (by omega) (by omega)).trans (rc15 0 (by decide)), (kf15 61 (by omega)).trans (kc15 0 (by decide))⟩
      · exact ⟨r46_7, (kf16 62 (by omega)).trans ko16, (rf16 62 2 (by omega) (by omega) (by omega)).trans (rc16 0 (by decide)), (kf16 63 (by omega)).trans (kc16 0 (by decide))⟩
  have hC : ot_C G16 I16 J16 ot_Y0 ot_Z0 ot_E0 none := by
    refine ⟨hCG, ⟨⟨(congrFun (if1 2 (by omega) (by omega)) 0).trans if1_0, (congrFun (if1 2 (by omega) (by omega)) 5).trans if1_5, (congrFun (if1 2 (by omega) (by omega)) 9).trans if1_9, (congrFun (if1 2 (by omega) (by omega)) 14).trans if1_14⟩, fun c hc => absurd hc (Nat.not_lt_zero _), fun c hc => absurd hc (Nat.not_lt_zero _), fun c hc => absurd hc (Nat.not_lt_zero _)⟩, ot_YW0, ⟨?_, ⟨(congrFun (if5 44 (by omega) (by omega)) 1).trans if5_1, fun i hi => absurd hi (Nat.not_lt_zero _)⟩, fun j _ => (congrFun (if7 47 (by omega) (by omega)) j).trans (iz7 j)⟩, ot_ZW0, i1F⟩
    exact fun s hs => by
      rcases (show s = 0 ∨ s = 1 ∨ s = 2 ∨ s = 3 ∨ s = 4 ∨ s = 5 ∨ s = 6 ∨ s = 7 by omega) with rfl | rfl | rfl | rfl | rfl | rfl | rfl | rfl
      · exact ⟨(congrFun (if9 48 (by omega) (by omega)) 0).trans if9_0, (congrFun (if9 48 (by omega) (by omega)) 1).trans if9_1, fun z => absurd z (by decide)⟩
      · exact ⟨(congrFun (if10 50 (by omega) (by omega)) 0).trans if10_0, (congrFun (if10 50 (by omega) (by omega)) 1).trans if10_1, fun z => absurd z (by decide)⟩
      · exact ⟨(congrFun (if11 52 (by omega) (by omega)) 0).trans if11_0, (congrFun (if11 52 (by omega) (by omega)) 1).trans if11_1, fun z => absurd z (by decide)⟩
      · exact ⟨(congrFun (if12 54 (by omega) (by omega)) 0).trans if12_0, (congrFun (if12 54 (by omega) (by omega)) 1).trans if12_1, fun z => absurd z (by decide)⟩
      · exact ⟨(congrFun (if13 56 (by omega) (by omega)) 0).trans if13_0, (congrFun (if13 56 (by omega) (by omega)) 1).trans if13_1, fun z => absurd z (by decide)⟩
      · exact ⟨(congrFun (if14 58 (by omega) (by omega)) 0).trans if14_0, (congrFun (if14 58 (by omega) (by omega)) 1).trans if14_1, fun z => absurd z (by decide)⟩
      · exact ⟨(congrFun (if15 60 (by omega) (by omega)) 0).trans if15_0, (congrFun (if15 60 (by omega) (by omega)) 1).trans if15_1, fun z => absurd z (by decide)⟩
      · exact ⟨(congrFun (if16 62 (by omega) (by omega)) 0).trans if16_0, (congrFun (if16 62 (by omega) (by omega)) 1).trans if16_1, fun z => absurd z (by decide)⟩
  refine ⟨G16, I16, J16, ?_, hC, n16, sz16⟩
  clear hC hCG
  refine jv_enter okX4_init (L := [.ref 1, .null]) rfl (Nat.le_of_ble_eq_true rfl) ?_
  refine jv_aload0 dX4_init_0 ?_
  refine jv_objInit dX4_init_1 mlX4_1 in_obj co_obj (by decide) (Nat.le_of_ble_eq_true rfl) (by decide) ?_
  refine jv_aload0 dX4_init_4 ?_
  refine jv_new dX4_init_5 clX3 klX4_7 (by omega) (ot_ow2 (by omega)) (ot_ow1 (by omega)) ?_
  refine jv_dup dX4_init_8 rfl ?_
  refine jv_callIN (a := jv_n G0 + 1) (As := []) (rest := [.ref (jv_n G0 + 1), .ref 1]) dX4_init_9 okX3_init rfl rfl inX3_init nlX4_9 (by omega) c0 (by decide) rfl rfl (Nat.le_of_ble_eq_true rfl) (.inr ⟨ot_ow_r (by show 1 ≤ jv_n G0 + 1; omega) (ot_ow_n ot_ow_nil), ot_ow_r (Nat.le_refl _) (ot_ow1 (by show 1 ≤ jv_n G0 + 1; omega)), by rw [a0.1]; omega⟩) ?_
  refine jv_putR0 (fun _ => ⟨rfl, ot_finX4⟩) dX4_init_12 flX4_10 rfl (a := 1) (n := 0) (by rw [a0.2.1 1 (by omega), jv_k_old (by omega)]; exact kg0) (by show jv_n G0 + 1 ≤ jv_n H0; rw [a0.1]; omega) ot_nobj ?_
  rw [← e0]
  refine jv_aload0 dX4_init_15 ?_
  refine jv_new dX4_init_16 clX3 klX4_7 (by omega) (ot_ow2 (by omega)) (ot_ow1 (by omega)) ?_
  refine jv_dup dX4_init_19 rfl ?_
  refine jv_callIN (a := jv_n G1 + 1) (As := []) (rest := [.ref (jv_n G1 + 1), .ref 1]) dX4_init_20 okX3_init rfl rfl inX3_init nlX4_9 (by omega) c1 (by decide) rfl rfl (Nat.le_of_ble_eq_true rfl) (.inr ⟨ot_ow_r (by show 1 ≤ jv_n G1 + 1; omega) (ot_ow_n ot_ow_nil), ot_ow_r (Nat.le_refl _) (ot_ow1 (by show 1 ≤ jv_n G1 + 1; omega)), by rw [a1.1]; omega⟩) ?_
  refine jv_putR0 (fun _ => ⟨rfl, ot_finX4⟩) dX4_init_23 flX4_16 rfl (a := 1) (n := 0) (by rw [a1.2.1 1 (by omega), jv_k_old (by omega)]; exact kg1) (by show jv_n G1 + 1 ≤ jv_n H1; rw [a1.1]; omega) ot_nobj ?_
  rw [← e1]
  refine jv_aload0 dX4_init_26 ?_
  refine jv_new dX4_init_27 clX3 klX4_7 (by omega) (ot_ow2 (by omega)) (ot_ow1 (by omega)) ?_
  refine jv_dup dX4_init_30 rfl ?_
  refine jv_callIN (a := jv_n G2 + 1) (As := []) (rest := [.ref (jv_n G2 + 1), .ref 1]) dX4_init_31 okX3_init rfl rfl inX3_init nlX4_9 (by omega) c2 (by decide) rfl rfl (Nat.le_of_ble_eq_true rfl) (.inr ⟨ot_ow_r (by show 1 ≤ jv_n G2 + 1; omega) (ot_ow_n ot_ow_nil), ot_ow_r (Nat.le_refl _) (ot_ow1 (by show 1 ≤ jv_n G2 + 1; omega)), by rw [a2.1]; omega⟩) ?_
  refine jv_putR0 (fun _ => ⟨rfl, ot_finX4⟩) dX4_init_34 flX4_19 rfl (a := 1) (n := 0) (by rw [a2.2.1 1 (by omega), jv_k_old (by omega)]; exact kg2) (by show jv_n G2 + 1 ≤ jv_n H2; rw [a2.1]; omega) ot_nobj ?_
  rw [← e2]
  refine jv_aload0 dX4_init_37 ?_
  refine jv_new dX4_init_38 clX0 klX4_22 (by omega) (ot_ow2 (by omega)) (ot_ow1 (by omega)) ?_
  refine jv_dup dX4_init_41 rfl ?_
  refine jv_aload0 dX4_init_42 ?_
  refine jv_getR dX4_init_43 flX4_10 rfl (by rw [jv_k_old (by omega)]; exact kg3) ((jv_r_old (by omega)).trans rn3) ?_
  refine jv_callI (a := jv_n G3 + 1) (As := [.ref 2]) (rest := [.ref (jv_n G3 + 1), .ref 1]) dX4_init_46 okX0_init rfl rfl inX0_init mlX4_24 (by omega) c3 (by decide) rfl rfl (Nat.le_of_ble_eq_true rfl) (.inr ⟨ot_ow_r (by show 1 ≤ jv_n G3 + 1; omega) (ot_ow_n ot_ow_nil), ot_ow_r (Nat.le_refl _) (ot_ow1 (by show 1 ≤ jv_n G3 + 1; omega)), by show jv_n H3 < _; rw [a3.1]; omega⟩) ?_
  refine jv_putR0 (fun _ => ⟨rfl, ot_finX4⟩) dX4_init_49 flX4_27 rfl (a := 1) (n := 0) (by rw [jv_k_up, a3.2.1 1 (by omega), jv_k_old (by omega)]; exact kg3) (by show jv_n G3 + 1 ≤ jv_n H3; rw [a3.1]; omega) ot_nobj ?_
  rw [← e3]
  refine jv_aload0 dX4_init_52 ?_
  refine jv_new dX4_init_53 clX2 klX4_31 (by omega) (ot_ow2 (by omega)) (ot_ow1 (by omega)) ?_
  refine jv_dup dX4_init_56 rfl ?_
  refine jv_callIN (a := jv_n G4 + 1) (As := []) (rest := [.ref (jv_n G4 + 1), .ref 1]) dX4_init_57 okX2_init rfl rfl inX2_init nlX4_33 (by omega) c4 (by decide) rfl rfl (Nat.le_of_ble_eq_true rfl) (.inr ⟨ot_ow_r (by show 1 ≤ jv_n G4 + 1; omega) (ot_ow_n ot_ow_nil), ot_ow_r (Nat.le_refl _) (ot_ow1 (by show 1 ≤ jv_n G4 + 1; omega)), by rw [a4.1]; omega⟩) ?_
  refine jv_putR0 (fun _ => ⟨rfl, ot_finX4⟩) dX4_init_60 flX4_34 rfl (a := 1) (n := 0) (by rw [a4.2.1 1 (by omega), jv_k_old (by omega)]; exact kg4) (by show jv_n G4 + 1 ≤ jv_n H4; rw [a4.1]; omega) ot_nobj ?_
  rw [← e4]
  refine jv_aload0 dX4_init_63 ?_
  refine jv_bipush dX4_init_64 jv_c_bipush_8 ?_
  refine jv_newA dX4_init_66 rfl (by decide) klX4_38 (by omega) (ot_ow2 (by omega)) (ot_ow1 (by omega)) ?_
  refine jv_putR0 (fun _ => ⟨rfl, ot_finX4⟩) dX4_init_69 flX4_40 rfl (a := 1) (n := 0) (by rw [jv_k_old (by omega)]; exact kg5) (Nat.le_refl _) ot_narr ?_
  rw [← e5]
  rw [← ei5]
  rw [← ej5]
  refine jv_aload0 dX4_init_72 ?_
  refine jv_iconst dX4_init_73 jv_c_iconst_5 ?_
  refine jv_newI dX4_init_74 rfl (by decide) ac_int (by omega) (ot_ow2 (by omega)) (ot_ow1 (by omega)) ?_
  refine jv_putR0 (fun _ => ⟨rfl, ot_finX4⟩) dX4_init_76 flX4_44 rfl (a := 1) (n := 0) (by rw [jv_k_old (by omega)]; exact kg6) (Nat.le_refl _) ot_narr ?_
  rw [← e6]
  rw [← ei6]
  rw [← ej6]
  refine jv_aload0 dX4_init_79 ?_
  refine jv_iconst dX4_init_80 jv_c_iconst_0 ?_
  refine jv_putI dX4_init_81 flX4_48 rfl kg7 rfl rfl ?_
  rw [← ei7]
  rw [← e7]
  rw [← ej7]
  refine jv_iconst dX4_init_84 jv_c_iconst_0 ?_
  refine jv_istore1 dX4_init_85 rfl ?_
  refine jv_iload1 dX4_init_86 ?_
  refine jv_bipush dX4_init_87 jv_c_bipush_8 ?_
  refine jv_icmp_geN dX4_init_89 (tgt := 111) (by decide) (by decide) (by decide) (fun q => absurd q (by decide)) (fun _ => ?_)
  refine jv_aload0 dX4_init_92 ?_
  refine jv_getR dX4_init_93 flX4_40 rfl kg8 rs8 ?_
  refine jv_iload1 dX4_init_96 ?_
  refine jv_new dX4_init_97 clX1 klX4_38 (by omega) (ot_ow_r (by omega) (ot_ow_i ot_ow_nil)) (ot_ow_i (ot_ow1 (by omega))) ?_
  refine jv_dup dX4_init_100 rfl ?_
  refine jv_callIN (a := jv_n G8 + 1) (As := []) (rest := [.ref (jv_n G8 + 1), .int (nI 0), .ref 46]) dX4_init_101 okX1_init rfl rfl inX1_init nlX4_52 (by omega) c8 (by decide) rfl rfl (Nat.le_of_ble_eq_true rfl) (.inr ⟨ot_ow_r (by show 1 ≤ jv_n G8 + 1; omega) (ot_ow_i ot_ow_nil), ot_ow_r (Nat.le_refl _) (ot_ow_i (ot_ow1 (by show 46 ≤ jv_n G8 + 1; omega))), by rw [a8.1]; omega⟩) ?_
  refine jv_aast dX4_init_104 (a := 46) (n := 8) (nb := 0) (by rw [a8.2.1 46 (by omega), jv_k_old (by omega)]; exact k46_8) (by rw [a8.2.1 _ (Nat.le_refl _)]; exact jv_k_new) (vp_in_nI (by decide) (by decide)) (k := 0) (by decide) ?_
  rw [← e8]
  refine jv_iinc1N dX4_init_105 rfl ?_
  refine jv_goto dX4_init_108 (tgt := 86) (by decide) ?_
  refine jv_iload1 dX4_init_86 ?_
  refine jv_bipush dX4_init_87 jv_c_bipush_8 ?_
  refine jv_icmp_geN dX4_init_89 (tgt := 111) (by decide) (by decide) (by decide) (fun q => absurd q (by decide)) (fun _ => ?_)
  refine jv_aload0 dX4_init_92 ?_
  refine jv_getR dX4_init_93 flX4_40 rfl kg9 rs9 ?_
  refine jv_iload1 dX4_init_96 ?_
  refine jv_new dX4_init_97 clX1 klX4_38 (by omega) (ot_ow_r (by omega) (ot_ow_i ot_ow_nil)) (ot_ow_i (ot_ow1 (by omega))) ?_
  refine jv_dup dX4_init_100 rfl ?_
  refine jv_callIN (a := jv_n G9 + 1) (As := []) (rest := [.ref (jv_n G9 + 1), .int (nI 1), .ref 46]) dX4_init_101 okX1_init rfl rfl inX1_init nlX4_52 (by omega) c9 (by decide) rfl rfl (Nat.le_of_ble_eq_true rfl) (.inr ⟨ot_ow_r (by show 1 ≤ jv_n G9 + 1; omega) (ot_ow_i ot_ow_nil), ot_ow_r (Nat.le_refl _) (ot_ow_i (ot_ow1 (by show 46 ≤ jv_n G9 + 1; omega))), by rw [a9.1]; omega⟩) ?_
  refine jv_aast dX4_init_104 (a := 46) (n := 8) (nb := 0) (by rw [a9.2.1 46 (by omega), jv_k_old (by omega)]; exact k46_9) (by rw [a9.2.1 _ (Nat.le_refl _)]; exact jv_k_new) (vp_in_nI (by decide) (by decide)) (k := 1) (by decide) ?_
  rw [← e9]
  refine jv_iinc1N dX4_init_105 rfl ?_
  refine jv_goto dX4_init_108 (tgt := 86) (by decide) ?_
  refine jv_iload1 dX4_init_86 ?_
  refine jv_bipush dX4_init_87 jv_c_bipush_8 ?_
  refine jv_icmp_geN dX4_init_89 (tgt := 111) (by decide) (by decide) (by decide) (fun q => absurd q (by decide)) (fun _ => ?_)
  refine jv_aload0 dX4_init_92 ?_
  refine jv_getR dX4_init_93 flX4_40 rfl kg10 rs10 ?_
  refine jv_iload1 dX4_init_96 ?_
  refine jv_new dX4_init_97 clX1 klX4_38 (by omega) (ot_ow_r (by omega) (ot_ow_i ot_ow_nil)) (ot_ow_i (ot_ow1 (by omega))) ?_
  refine jv_dup dX4_init_100 rfl ?_
  refine jv_callIN (a := jv_n G10 + 1) (As := []) (rest := [.ref (jv_n G10 + 1), .int (nI 2), .ref 46]) dX4_init_101 okX1_init rfl rfl inX1_init nlX4_52 (by omega) c10 (by decide) rfl rfl (Nat.le_of_ble_eq_true rfl) (.inr ⟨ot_ow_r (by show 1 ≤ jv_n G10 + 1; omega) (ot_ow_i ot_ow_nil), ot_ow_r (Nat.le_refl _) (ot_ow_i (ot_ow1 (by show 46 ≤ jv_n G10 + 1; omega))), by rw [a10.1]; omega⟩) ?_
  refine jv_aast dX4_init_104 (a := 46) (n := 8) (nb := 0) (by rw [a10.2.1 46 (by omega), jv_k_old (by omega)]; exact k46_10) (by rw [a10.2.1 _ (Nat.le_refl _)]; exact jv_k_new) (vp_in_nI (by decide) (by decide)) (k := 2) (by decide) ?_
  rw [← e10]
  refine jv_iinc1N dX4_init_105 rfl ?_
  refine jv_goto dX4_init_108 (tgt := 86) (by decide) ?_
  refine jv_iload1 dX4_init_86 ?_
  refine jv_bipush dX4_init_87 jv_c_bipush_8 ?_
  refine jv_icmp_geN dX4_init_89 (tgt := 111) (by decide) (by decide) (by decide) (fun q => absurd q (by decide)) (fun _ => ?_)
  refine jv_aload0 dX4_init_92 ?_
  refine jv_getR dX4_init_93 flX4_40 rfl kg11 rs11 ?_
  refine jv_iload1 dX4_init_96 ?_
  refine jv_new dX4_init_97 clX1 klX4_38 (by omega) (ot_ow_r (by omega) (ot_ow_i ot_ow_nil)) (ot_ow_i (ot_ow1 (by omega))) ?_
  refine jv_dup dX4_init_100 rfl ?_
  refine jv_callIN (a := jv_n G11 + 1) (As := []) (rest := [.ref (jv_n G11 + 1), .int (nI 3), .ref 46]) dX4_init_101 okX1_init rfl rfl inX1_init nlX4_52 (by omega) c11 (by decide) rfl rfl (Nat.le_of_ble_eq_true rfl) (.inr ⟨ot_ow_r (by show 1 ≤ jv_n G11 + 1; omega) (ot_ow_i ot_ow_nil), ot_ow_r (Nat.le_refl _) (ot_ow_i (ot_ow1 (by show 46 ≤ jv_n G11 + 1; omega))), by rw [a11.1]; omega⟩) ?_
  refine jv_aast dX4_init_104 (a := 46) (n := 8) (nb := 0) (by rw [a11.2.1 46 (by omega), jv_k_old (by omega)]; exact k46_11) (by rw [a11.2.1 _ (Nat.le_refl _)]; exact jv_k_new) (vp_in_nI (by decide) (by decide)) (k := 3) (by decide) ?_
  rw [← e11]
  refine jv_iinc1N dX4_init_105 rfl ?_
  refine jv_goto dX4_init_108 (tgt := 86) (by decide) ?_
  refine jv_iload1 dX4_init_86 ?_
  refine jv_bipush dX4_init_87 jv_c_bipush_8 ?_
  refine jv_icmp_geN dX4_init_89 (tgt := 111) (by decide) (by decide) (by decide) (fun q => absurd q (by decide)) (fun _ => ?_)
  refine jv_aload0 dX4_init_92 ?_
  refine jv_getR dX4_init_93 flX4_40 rfl kg12 rs12 ?_
  refine jv_iload1 dX4_init_96 ?_
  refine jv_new dX4_init_97 clX1 klX4_38 (by omega) (ot_ow_r (by omega) (ot_ow_i ot_ow_nil)) (ot_ow_i (ot_ow1 (by omega))) ?_
  refine jv_dup dX4_init_100 rfl ?_
  refine jv_callIN (a := jv_n G12 + 1) (As := []) (rest := [.ref (jv_n G12 + 1), .int (nI 4), .ref 46]) dX4_init_101 okX1_init rfl rfl inX1_init nlX4_52 (by omega) c12 (by decide) rfl rfl (Nat.le_of_ble_eq_true rfl) (.inr ⟨ot_ow_r (by show 1 ≤ jv_n G12 + 1; omega) (ot_ow_i ot_ow_nil), ot_ow_r (Nat.le_refl _) (ot_ow_i (ot_ow1 (by show 46 ≤ jv_n G12 + 1; omega))), by rw [a12.1]; omega⟩) ?_
  refine jv_aast dX4_init_104 (a := 46) (n := 8) (nb := 0) (by rw [a12.2.1 46 (by omega), jv_k_old (by omega)]; exact k46_12) (by rw [a12.2.1 _ (Nat.le_refl _)]; exact jv_k_new) (vp_in_nI (by decide) (by decide)) (k := 4) (by decide) ?_
  rw [← e12]
  refine jv_iinc1N dX4_init_105 rfl ?_
  refine jv_goto dX4_init_108 (tgt := 86) (by decide) ?_
  refine jv_iload1 dX4_init_86 ?_
  refine jv_bipush dX4_init_87 jv_c_bipush_8 ?_
  refine jv_icmp_geN dX4_init_89 (tgt := 111) (by decide) (by decide) (by decide) (fun q => absurd q (by decide)) (fun _ => ?_)
  refine jv_aload0 dX4_init_92 ?_
  refine jv_getR dX4_init_93 flX4_40 rfl kg13 rs13 ?_
  refine jv_iload1 dX4_init_96 ?_
  refine jv_new dX4_init_97 clX1 klX4_38 (by omega) (ot_ow_r (by omega) (ot_ow_i ot_ow_nil)) (ot_ow_i (ot_ow1 (by omega))) ?_
  refine jv_dup dX4_init_100 rfl ?_
  refine jv_callIN (a := jv_n G13 + 1) (As := []) (rest := [.ref (jv_n G13 + 1), .int (nI 5), .ref 46]) dX4_init_101 okX1_init rfl rfl inX1_init nlX4_52 (by omega) c13 (by decide) rfl rfl (Nat.le_of_ble_eq_true rfl) (.inr ⟨ot_ow_r (by show 1 ≤ jv_n G13 + 1; omega) (ot_ow_i ot_ow_nil), ot_ow_r (Nat.le_refl _) (ot_ow_i (ot_ow1 (by show 46 ≤ jv_n G13 + 1; omega))), by rw [a13.1]; omega⟩) ?_
  refine jv_aast dX4_init_104 (a := 46) (n := 8) (nb := 0) (by rw [a13.2.1 46 (by omega), jv_k_old (by omega)]; exact k46_13) (by rw [a13.2.1 _ (Nat.le_refl _)]; exact jv_k_new) (vp_in_nI (by decide) (by decide)) (k := 5) (by decide) ?_
  rw [← e13]
  refine jv_iinc1N dX4_init_105 rfl ?_
  refine jv_goto dX4_init_108 (tgt := 86) (by decide) ?_
  refine jv_iload1 dX4_init_86 ?_
  refine jv_bipush dX4_init_87 jv_c_bipush_8 ?_
  refine jv_icmp_geN dX4_init_89 (tgt := 111) (by decide) (by decide) (by decide) (fun q => absurd q (by decide)) (fun _ => ?_)
  refine jv_aload0 dX4_init_92 ?_
  refine jv_getR dX4_init_93 flX4_40 rfl kg14 rs14 ?_
  refine jv_iload1 dX4_init_96 ?_
  refine jv_new dX4_init_97 clX1 klX4_38 (by omega) (ot_ow_r (by omega) (ot_ow_i ot_ow_nil)) (ot_ow_i (ot_ow1 (by omega))) ?_
  refine jv_dup dX4_init_100 rfl ?_
  refine jv_callIN (a := jv_n G14 + 1) (As := []) (rest := [.ref (jv_n G14 + 1), .int (nI 6), .ref 46]) dX4_init_101 okX1_init rfl rfl inX1_init nlX4_52 (by omega) c14 (by decide) rfl rfl (Nat.le_of_ble_eq_true rfl) (.inr ⟨ot_ow_r (by show 1 ≤ jv_n G14 + 1; omega) (ot_ow_i ot_ow_nil), ot_ow_r (Nat.le_refl _) (ot_ow_i (ot_ow1 (by show 46 ≤ jv_n G14 + 1; omega))), by rw [a14.1]; omega⟩) ?_
  refine jv_aast dX4_init_104 (a := 46) (n := 8) (nb := 0) (by rw [a14.2.1 46 (by omega), jv_k_old (by omega)]; exact k46_14) (by rw [a14.2.1 _ (Nat.le_refl _)]; exact jv_k_new) (vp_in_nI (by decide) (by decide)) (k := 6) (by decide) ?_
  rw [← e14]
  refine jv_iinc1N dX4_init_105 rfl ?_
  refine jv_goto dX4_init_108 (tgt := 86) (by decide) ?_
  refine jv_iload1 dX4_init_86 ?_
  refine jv_bipush dX4_init_87 jv_c_bipush_8 ?_
  refine jv_icmp_geN dX4_init_89 (tgt := 111) (by decide) (by decide) (by decide) (fun q => absurd q (by decide)) (fun _ => ?_)
  refine jv_aload0 dX4_init_92 ?_
  refine jv_getR dX4_init_93 flX4_40 rfl kg15 rs15 ?_
  refine jv_iload1 dX4_init_96 ?_
  refine jv_new dX4_init_97 clX1 klX4_38 (by omega) (ot_ow_r (by omega) (ot_ow_i ot_ow_nil)) (ot_ow_i (ot_ow1 (by omega))) ?_
  refine jv_dup dX4_init_100 rfl ?_
  refine jv_callIN (a := jv_n G15 + 1) (As := []) (rest := [.ref (jv_n G15 + 1), .int (nI 7), .ref 46]) dX4_init_101 okX1_init rfl rfl inX1_init nlX4_52 (by omega) c15 (by decide) rfl rfl (Nat.le_of_ble_eq_true rfl) (.inr ⟨ot_ow_r (by show 1 ≤ jv_n G15 + 1; omega) (ot_ow_i ot_ow_nil), ot_ow_r (Nat.le_refl _) (ot_ow_i (ot_ow1 (by show 46 ≤ jv_n G15 + 1; omega))), by rw [a15.1]; omega⟩) ?_
  refine jv_aast dX4_init_104 (a := 46) (n := 8) (nb := 0) (by rw [a15.2.1 46 (by omega), jv_k_old (by omega)]; exact k46_15) (by rw [a15.2.1 _ (Nat.le_refl _)]; exact jv_k_new) (vp_in_nI (by decide) (by decide)) (k := 7) (by decide) ?_
  rw [← e15]
  refine jv_iinc1N dX4_init_105 rfl ?_
  refine jv_goto dX4_init_108 (tgt := 86) (by decide) ?_
  refine jv_iload1 dX4_init_86 ?_
  refine jv_bipush dX4_init_87 jv_c_bipush_8 ?_
  refine jv_icmp_geN dX4_init_89 (tgt := 111) (by decide) (by decide) (by decide) (fun _ => ?_) (fun q => absurd (by decide) q)
  exact jv_vret dX4_init_111 rfl rfl rfl rfl
