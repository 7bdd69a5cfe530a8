/-! ===== the reference's other two: kept and tried ===== -/
theorem ot_ow_cons {n : Nat} {v : Value} {L : List Value} (h : ∀ r : Nat, v = .ref r → r ≤ n ∨ 1000000 ≤ r) (h2 : jv_ow n L) : jv_ow n (v :: L) := fun x hx r e => by
  rcases List.mem_cons.mp hx with rfl | hx
  · exact h r e
  · exact h2 x hx r e
theorem ot_ow_nil {n : Nat} : jv_ow n [] := fun x hx => absurd hx (List.not_mem_nil)
theorem ot_ow_r {n m : Nat} {L : List Value} (h : m ≤ n) (h2 : jv_ow n L) : jv_ow n (.ref m :: L) := ot_ow_cons (fun r e => by cases e; exact .inl h) h2
theorem ot_ow_i {n : Nat} {x : Int32} {L : List Value} (h2 : jv_ow n L) : jv_ow n (.int x :: L) := ot_ow_cons (fun r e => by cases e) h2
theorem ot_ow_l {n : Nat} {x : Int64} {L : List Value} (h2 : jv_ow n L) : jv_ow n (.long x :: L) := ot_ow_cons (fun r e => by cases e) h2
theorem ot_ow_n {n : Nat} {L : List Value} (h2 : jv_ow n L) : jv_ow n (.null :: L) := ot_ow_cons (fun r e => by cases e) h2
/-- a new one comes to stand at the end, and the field f of the first holds it -/
def ot_born (G : jv_Gr) (I : jv_I) (J : jv_J) (G3 : jv_Gr) (I3 : jv_I) (J3 : jv_J) (f : Nat) : Prop := (jv_n G3 = jv_n G + 30 ∧ jv_s G3 ≤ jv_s G + 870) ∧ (∀ b, b ≤ jv_n G → jv_k G3 b = jv_k G b) ∧ (∀ b i, b ≤ jv_n G → (b ≠ 64 ∨ i ≠ f) → jv_r G3 b i = jv_r G b i) ∧ jv_r G3 64 f = jv_n G + 1 ∧ ot_MG G3 (jv_n G + 1) ∧ (∀ b, b ≤ jv_n G → I3 b = I b) ∧ (∀ b, b ≤ jv_n G → J3 b = J b)
theorem ot_born_of {G : jv_Gr} {I : jv_I} {J : jv_J} {G2 : jv_Gr} {I2 : jv_I} {J2 : jv_J} {f : Nat} (h64 : 64 ≤ jv_n G) (ha : ot_al (jv_nw G (5 + 10, 0) 35) G2 (jv_n G + 1) 29 21) (hi : ot_ai (jv_zI I (jv_n G + 1)) I2 (jv_n G + 1) 29 true) (hj : ∀ b, b ≤ jv_n G + 1 → J2 b = J b) (hf : ∀ j, j < 21 → ot_mfld j ≠ f) (hsz : jv_s G2 ≤ jv_s (jv_nw G (5 + 10, 0) 35) + 829) : ot_born G I J (jv_sr G2 64 f (jv_n G + 1)) I2 J2 f := by
  have hg := ot_MG_al ha jv_k_new
  refine ⟨?_, fun b hb => ?_, fun b i hb hbi => ?_, ?_, ?_, fun b hb => ?_, fun b hb => hj b (by omega)⟩
  · have hs2 : jv_s (jv_nw G (5 + 10, 0) 35) = jv_s G + 35 := rfl
    refine ⟨?_, ?_⟩
    · show jv_n G2 = _; rw [ha.1]
    · show jv_s G2 ≤ _; omega
  · rw [jv_k_up, ha.2.1 b (by omega), jv_k_old hb]
  · rw [jv_r_sr]
    by_cases e : b = 64
    · rw [if_pos e, if_neg (by omega), ha.2.2.1 b (by omega), jv_r_old hb]
    · rw [if_neg e, ha.2.2.1 b (by omega), jv_r_old hb]
  · rw [jv_r_sr, if_pos rfl, if_pos rfl]
  · obtain ⟨a, b, c, e⟩ := hg
    exact ⟨a, b, fun j hj => by rw [jv_r_sr, if_neg (by omega)]; exact c j hj, fun s hs => by rw [jv_r_sr, if_neg (by omega)]; exact e s hs⟩
  · rw [hi.1 b (by omega)]; funext j; unfold jv_zI; rw [if_neg (by omega)]
section OTG4
variable {G G3 : jv_Gr} {I I3 : jv_I} {J J3 : jv_J} {Y Z : ot_Y} {E : ot_E} {K : Option ot_Y}
theorem ot_M_n (h : ot_M G I J Y Z E K) : 93 ≤ jv_n G := by have := h.n; unfold ot_NM at this; omega
/-- tried has come -/
theorem ot_M_tried (h : ot_M G I J Y Z E K) (h0 : jv_r G 64 24 = 0) (hb : ot_born G I J G3 I3 J3 24) : ot_M G3 I3 J3 Y Z E K := by
  have hn := ot_M_n h
  obtain ⟨a, b, c, d, e, k, t, n⟩ := h
  obtain ⟨b1, b2, b3, b4, b5, b6, b7⟩ := hb
  have r23 : jv_r G3 64 23 = jv_r G 64 23 := b3 64 23 (by omega) (.inr (by decide))
  unfold ot_NM at n
  refine ⟨ot_MG_ext a b2 b3 ot_mfld_24 (by omega) (by decide), ot_MR_ext b b6 (by omega), c, ot_NR_ext d b6 b7 hn, e, ?_, ?_, ?_⟩
  · cases K with
    | none => exact r23.trans k
    | some YK =>
      obtain ⟨k1, k2, k3, k4⟩ := k
      show (jv_r G3 64 23 = 94 ∨ jv_r G3 64 23 = 124) ∧ ot_MG G3 (jv_r G3 64 23) ∧ ot_MR I3 (jv_r G3 64 23) YK ∧ ot_YW YK
      rw [r23]
      exact ⟨k1, ot_MG_ext k2 b2 b3 ot_mfld_24 (by omega) (by omega), ot_MR_ext k3 b6 (by omega), k4⟩
  · right
    rw [b4]
    refine ⟨by omega, b5, ?_⟩
    rw [r23]; omega
  · unfold ot_NM
    rw [r23, b4]; omega
/-- kept has come, and holds the yard -/
theorem ot_M_kept {I4 : jv_I} {Y2 : ot_Y} (h : ot_M G I J Y Z E none) (hb : ot_born G I J G3 I3 J3 23) (hR : ot_MR I4 (jv_n G + 1) Y2) (hW : ot_YW Y2) (hf : ot_fr I3 I4 (jv_n G + 1) (jv_n G + 30)) : ot_M G3 I4 J3 Y Z E (some Y2) := by
  have hn := ot_M_n h
  obtain ⟨a, b, c, d, e, k, t, n⟩ := h
  obtain ⟨b1, b2, b3, b4, b5, b6, b7⟩ := hb
  have r24 : jv_r G3 64 24 = jv_r G 64 24 := b3 64 24 (by omega) (.inr (by decide))
  have k0 : jv_r G 64 23 = 0 := k
  have b8 : ∀ q, q ≤ jv_n G → I4 q = I q := fun q hq => (hf q (by omega)).trans (b6 q hq)
  unfold ot_NM at n
  refine ⟨ot_MG_ext a b2 b3 ot_mfld_23 (by omega) (by decide), ot_MR_ext b b8 (by omega), c, ot_NR_ext d b8 b7 hn, e, ?_, ?_, ?_⟩
  · show (jv_r G3 64 23 = 94 ∨ jv_r G3 64 23 = 124) ∧ ot_MG G3 (jv_r G3 64 23) ∧ ot_MR I4 (jv_r G3 64 23) Y2 ∧ ot_YW Y2
    rw [b4]
    exact ⟨by omega, b5, hR, hW⟩
  · rcases t with t | ⟨t1, t2, t3⟩
    · left; rw [r24]; exact t
    · right
      rw [r24, b4]
      exact ⟨t1, ot_MG_ext t2 b2 b3 ot_mfld_23 (by omega) (by omega), by omega⟩
  · unfold ot_NM
    rw [r24, b4]; omega
/-- kept is written anew -/
theorem ot_M_kept2 {I4 : jv_I} {Y1 Y2 : ot_Y} (h : ot_M G I J Y Z E (some Y1)) (hR : ot_MR I4 (jv_r G 64 23) Y2) (hW : ot_YW Y2) (hf : ot_fr I I4 (jv_r G 64 23) (jv_r G 64 23 + 29)) : ot_M G I4 J Y Z E (some Y2) := by
  obtain ⟨a, b, c, d, e, k, t, n⟩ := h
  obtain ⟨k1, k2, k3, k4⟩ := k
  exact ⟨a, ot_MR_fr b hf (by omega), c, ot_NR_ext (n := 93) d (fun q hq => hf q (by omega)) (fun _ _ => rfl) (by decide), e, ⟨k1, k2, hR, hW⟩, t, n⟩
/-- tried may be written as one likes -/
theorem ot_M_try {I4 : jv_I} {J4 : jv_J} {q : Nat} (h : ot_M G I J Y Z E K) (hq : jv_r G 64 24 = q) (h0 : q ≠ 0) (hf : ot_fr I I4 q (q + 29)) (hj : ∀ b, b ≤ 93 → J4 b = J b) : ot_M G I4 J4 Y Z E K := by
  obtain ⟨a, b, c, d, e, k, t, n⟩ := h
  have t2 := t.resolve_left (by omega)
  obtain ⟨t1, tg, tn⟩ := t2
  refine ⟨a, ot_MR_fr b hf (by omega), c, ot_NR_ext (n := 93) d (fun u hu => hf u (by omega)) hj (by decide), e, ?_, t, n⟩
  cases K with
  | none => exact k
  | some YK =>
    obtain ⟨k1, k2, k3, k4⟩ := k
    exact ⟨k1, k2, ot_MR_fr k3 hf (by omega), k4⟩
theorem ot_born_lo {f : Nat} (hn : 93 ≤ jv_n G) (hb : ot_born G I J G3 I3 J3 f) : ot_lo I I3 J J3 ∧ ot_gx G G3 := ⟨fun q hq => ⟨hb.2.2.2.2.2.1 q (by omega), hb.2.2.2.2.2.2 q (by omega)⟩, fun q hq => ⟨hb.2.1 q (by omega), fun i => hb.2.2.1 q i (by omega) (.inl (by omega))⟩⟩
end OTG4
set_option maxRecDepth 20000 in
theorem om_mk_fresh {G : jv_Gr} {I : jv_I} {J : jv_J} {Y Z : ot_Y} {E : ot_E} {K : Option ot_Y} (h : ot_M G I J Y Z E K) : ∃ G3 I3 J3, ot_born G I J G3 I3 J3 24 ∧ ∀ (r : Option Value) (G4 : jv_Gr) (I4 : jv_I) (J4 : jv_J), jv_V 4 mX5_fresh 18 [.ref 64] [] G3 I3 J3 r G4 I4 J4 → jv_V 4 mX5_fresh 7 [.ref 64] [] G I J r G4 I4 J4 := by
  have hn := ot_M_n h
  have hn2 : jv_n G ≤ 153 := by have := h.n; unfold ot_NM at this; omega
  obtain ⟨G2, I2, J2, hC, ha, hi, hj, hsz⟩ := om_init (G := jv_nw G (5 + 10, 0) 35) (I := jv_zI I (jv_n G + 1)) (J := J) (m := jv_n G + 1) (by omega) (by omega) rfl jv_k_new
  refine ⟨jv_sr G2 64 24 (jv_n G + 1), I2, J2, ot_born_of (by omega) ha hi hj ot_mfld_24 hsz, fun r G4 I4 J4 hV => ?_⟩
  have hk : jv_k G2 64 = (5 + 10, 0) := by rw [ha.2.1 64 (by omega), jv_k_old (by omega)]; exact mk h.g
  refine jv_aload0 dX5_fresh_7 ?_
  refine jv_new dX5_fresh_8 clX5 klX5_8 (by omega) (ot_ow1 (by omega)) (ot_ow1 (by omega)) ?_
  refine jv_dup dX5_fresh_11 rfl ?_
  refine jv_callI (a := jv_n G + 1) (As := []) (rest := [.ref (jv_n G + 1), .ref 64]) dX5_fresh_12 okX5_init rfl rfl inX5_init mlX5_240 (by omega) hC (by decide) rfl rfl (Nat.le_of_ble_eq_true rfl) (.inr ⟨ot_ow1 (by show 64 ≤ jv_n G + 1; omega), ot_ow_r (Nat.le_refl _) (ot_ow1 (by show 64 ≤ jv_n G + 1; omega)), by rw [ha.1]; omega⟩) ?_
  refine jv_putR0 (fun q => absurd q (by decide)) dX5_fresh_15 flX5_236 rfl hk (by rw [ha.1]; omega) ot_nobj ?_
  exact hV
set_option maxRecDepth 20000 in
theorem om_mk_image {G : jv_Gr} {I : jv_I} {J : jv_J} {Y Z : ot_Y} {E : ot_E} {K : Option ot_Y} (h : ot_M G I J Y Z E K) : ∃ G3 I3 J3, ot_born G I J G3 I3 J3 23 ∧ ∀ (r : Option Value) (G4 : jv_Gr) (I4 : jv_I) (J4 : jv_J), jv_V 4 mX5_image 18 [.ref 64] [] G3 I3 J3 r G4 I4 J4 → jv_V 4 mX5_image 7 [.ref 64] [] G I J r G4 I4 J4 := by
  have hn := ot_M_n h
  have hn2 : jv_n G ≤ 153 := by have := h.n; unfold ot_NM at this; omega
  obtain ⟨G2, I2, J2, hC, ha, hi, hj, hsz⟩ := om_init (G := jv_nw G (5 + 10, 0) 35) (I := jv_zI I (jv_n G + 1)) (J := J) (m := jv_n G + 1) (by omega) (by omega) rfl jv_k_new
  refine ⟨jv_sr G2 64 23 (jv_n G + 1), I2, J2, ot_born_of (by omega) ha hi hj ot_mfld_23 hsz, fun r G4 I4 J4 hV => ?_⟩
  have hk : jv_k G2 64 = (5 + 10, 0) := by rw [ha.2.1 64 (by omega), jv_k_old (by omega)]; exact mk h.g
  refine jv_aload0 dX5_image_7 ?_
  refine jv_new dX5_image_8 clX5 klX5_8 (by omega) (ot_ow1 (by omega)) (ot_ow1 (by omega)) ?_
  refine jv_dup dX5_image_11 rfl ?_
  refine jv_callI (a := jv_n G + 1) (As := []) (rest := [.ref (jv_n G + 1), .ref 64]) dX5_image_12 okX5_init rfl rfl inX5_init mlX5_240 (by omega) hC (by decide) rfl rfl (Nat.le_of_ble_eq_true rfl) (.inr ⟨ot_ow1 (by show 64 ≤ jv_n G + 1; omega), ot_ow_r (Nat.le_refl _) (ot_ow1 (by show 64 ≤ jv_n G + 1; omega)), by rw [ha.1]; omega⟩) ?_
  refine jv_putR0 (fun q => absurd q (by decide)) dX5_image_15 flX5_339 rfl hk (by rw [ha.1]; omega) ot_nobj ?_
  exact hV
set_option maxRecDepth 20000 in
theorem om_fresh {G : jv_Gr} {I : jv_I} {J : jv_J} {Y Z : ot_Y} {E : ot_E} {K : Option ot_Y} (h : ot_M G I J Y Z E K) : ∃ (G2 : jv_Gr) (I2 : jv_I) (J2 : jv_J) (q : Nat), jv_C 4 mX5_fresh [.ref 64] G I J (some (.ref q)) G2 I2 J2 ∧ ot_M G2 I2 J2 Y Z E K ∧ jv_r G2 64 24 = q ∧ (q = 94 ∨ q = 124) ∧ ot_MG G2 q ∧ ot_MR I2 q Y ∧ ot_lo I I2 J J2 ∧ ot_gx G G2 := by
  have key : ∀ (G3 : jv_Gr) (I3 : jv_I) (J3 : jv_J) (q : Nat), ot_M G3 I3 J3 Y Z E K → jv_r G3 64 24 = q → q ≠ 0 → ∃ I4, jv_V 4 mX5_fresh 18 [.ref 64] [] G3 I3 J3 (some (.ref q)) G3 I4 J3 ∧ ot_M G3 I4 J3 Y Z E K ∧ (q = 94 ∨ q = 124) ∧ ot_MG G3 q ∧ ot_MR I4 q Y ∧ ot_lo I3 I4 J3 J3 := by
    intro G3 I3 J3 q h3 hq h0
    have t := h3.t.resolve_left (by omega)
    rw [hq] at t
    obtain ⟨t1, t2, t3⟩ := t
    obtain ⟨I4, hT, hR, hF, _⟩ := om_takeFrom (J := J3) t2 h3.g h3.r h3.w (by omega)
    have hkq : jv_k G3 q = (5 + 10, 0) := mk t2
    refine ⟨I4, ?_, ot_M_try h3 hq h0 hF (fun _ _ => rfl), t1, t2, hR, ot_lo.fr hF (by omega)⟩
    refine jv_aload0 dX5_fresh_18 ?_
    refine jv_getR dX5_fresh_19 flX5_236 rfl (mk h3.g) hq ?_
    refine jv_aload0 dX5_fresh_22 ?_
    refine jv_v10 dX5_fresh_23 okX5_takeFrom inX5_takeFrom seX5_takeFrom mlX5_241 (ci := 5) (T := TX5) (N := 35) rfl hkq hT (by decide) (Nat.le_of_ble_eq_true rfl) ?_
    refine jv_aload0 dX5_fresh_26 ?_
    refine jv_getR dX5_fresh_27 flX5_236 rfl (mk h3.g) hq ?_
    exact jv_aret dX5_fresh_30 rfl rfl rfl rfl
  by_cases h0 : jv_r G 64 24 = 0
  · obtain ⟨G3, I3, J3, hb, hV⟩ := om_mk_fresh h
    have hn := ot_M_n h
    obtain ⟨l1, l2⟩ := ot_born_lo hn hb
    obtain ⟨I4, k1, k2, k3, k4, k5, k6⟩ := key G3 I3 J3 (jv_n G + 1) (ot_M_tried h h0 hb) hb.2.2.2.1 (by omega)
    refine ⟨G3, I4, J3, jv_n G + 1, ?_, k2, hb.2.2.2.1, k3, k4, k5, l1.tr k6, l2⟩
    refine jv_enter okX5_fresh (L := [.ref 64]) rfl (Nat.le_of_ble_eq_true rfl) ?_
    refine jv_aload0 dX5_fresh_0 ?_
    refine jv_getR dX5_fresh_1 flX5_236 rfl (mk h.g) h0 ?_
    refine jv_ifnonnull dX5_fresh_4 (tgt := 18) (by decide) (fun q => absurd rfl q) (fun _ => ?_)
    exact hV _ _ _ _ k1
  · obtain ⟨I4, k1, k2, k3, k4, k5, k6⟩ := key G I J _ h rfl h0
    refine ⟨G, I4, J, _, ?_, k2, rfl, k3, k4, k5, k6, ot_gx.rf⟩
    refine jv_enter okX5_fresh (L := [.ref 64]) rfl (Nat.le_of_ble_eq_true rfl) ?_
    refine jv_aload0 dX5_fresh_0 ?_
    refine jv_getR dX5_fresh_1 flX5_236 rfl (mk h.g) rfl ?_
    refine jv_ifnonnull dX5_fresh_4 (tgt := 18) (by decide) (fun _ => k1) (fun q => absurd q h0)
set_option maxRecDepth 20000 in
theorem pm_image {G : jv_Gr} {I : jv_I} {J : jv_J} {Y Z : ot_Y} {E : ot_E} {K : Option ot_Y} (h : ot_M G I J Y Z E K) : ot_mm 8 mX5_image [.ref 64] G I J (nI 1) Y Z E (some Y) := by
  have key : ∀ (G3 : jv_Gr) (I3 : jv_I) (J3 : jv_J) (q : Nat), ot_MG G3 64 → ot_MR I3 64 Y → jv_r G3 64 23 = q → (q = 94 ∨ q = 124) → ot_MG G3 q → ∃ I4, jv_V 4 mX5_image 18 [.ref 64] [] G3 I3 J3 (some (.int (nI 1))) G3 I4 J3 ∧ ot_MR I4 q Y ∧ ot_fr I3 I4 q (q + 29) := by
    intro G3 I3 J3 q h3g h3r hq t1 t2
    obtain ⟨I4, hT, hR, hF, _⟩ := om_takeFrom (J := J3) t2 h3g h3r h.w (by omega)
    have hkq : jv_k G3 q = (5 + 10, 0) := mk t2
    refine ⟨I4, ?_, hR, hF⟩
    refine jv_aload0 dX5_image_18 ?_
    refine jv_getR dX5_image_19 flX5_339 rfl (mk h3g) hq ?_
    refine jv_aload0 dX5_image_22 ?_
    refine jv_v10 dX5_image_23 okX5_takeFrom inX5_takeFrom seX5_takeFrom mlX5_241 (ci := 5) (T := TX5) (N := 35) rfl hkq hT (by decide) (Nat.le_of_ble_eq_true rfl) ?_
    refine jv_iconst dX5_image_26 jv_c_iconst_1 ?_
    exact jv_iret dX5_image_27 rfl rfl rfl rfl rfl
  have hn := ot_M_n h
  cases K with
  | none =>
    have h0 : jv_r G 64 23 = 0 := h.k
    obtain ⟨G3, I3, J3, hb, hV⟩ := om_mk_image h
    obtain ⟨l1, l2⟩ := ot_born_lo hn hb
    have hnn := h.n
    unfold ot_NM at hnn
    obtain ⟨I4, k1, k2, k3⟩ := key G3 I3 J3 (jv_n G + 1) (ot_MG_ext h.g hb.2.1 hb.2.2.1 ot_mfld_23 (by omega) (by decide)) (ot_MR_ext h.r hb.2.2.2.2.2.1 (by omega)) hb.2.2.2.1 (by omega) hb.2.2.2.2.1
    refine ⟨G3, I4, J3, ?_, ot_M_kept h hb k2 h.w k3, l1.tr (ot_lo.fr k3 (by omega)), l2⟩
    refine jv_C.mono (d := 4) ?_ (by decide)
    refine jv_enter okX5_image (L := [.ref 64]) rfl (Nat.le_of_ble_eq_true rfl) ?_
    refine jv_aload0 dX5_image_0 ?_
    refine jv_getR dX5_image_1 flX5_339 rfl (mk h.g) h0 ?_
    refine jv_ifnonnull dX5_image_4 (tgt := 18) (by decide) (fun q => absurd rfl q) (fun _ => ?_)
    exact hV _ _ _ _ k1
  | some YK =>
    have k := h.k
    obtain ⟨q1, q2, q3, q4⟩ := k
    obtain ⟨I4, k1, k2, k3⟩ := key G I J _ h.g h.r rfl q1 q2
    refine ⟨G, I4, J, ?_, ot_M_kept2 h k2 h.w k3, ot_lo.fr k3 (by omega), ot_gx.rf⟩
    refine jv_C.mono (d := 4) ?_ (by decide)
    refine jv_enter okX5_image (L := [.ref 64]) rfl (Nat.le_of_ble_eq_true rfl) ?_
    refine jv_aload0 dX5_image_0 ?_
    refine jv_getR dX5_image_1 flX5_339 rfl (mk h.g) rfl ?_
    refine jv_ifnonnull dX5_image_4 (tgt := 18) (by decide) (fun _ => k1) (fun q => absurd q (by omega))
