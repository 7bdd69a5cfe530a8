/-! ===== the face: group 13 (back, changes told) ===== -/
set_option maxRecDepth 20000 in
theorem om_backLoop {G : jv_Gr} {I : jv_I} {J : jv_J} {Y Z YK : ot_Y} {E : ot_E} {K : Option ot_Y} (h : ot_M G I J Y Z E K) (hW : ot_YW YK) {Ia : jv_I} (hc : Ia 64 13 = nI (YK 10 1)) (hsw : Ia 78 = I 78) : ∀ (n i : Nat) (A : jv_I), 9 ≤ i + n → i ≤ 8 → (∀ s, s < 8 → A 65 s = nI (ot_backZ Z (YK 10 1) i 0 s)) → (∀ q, q ≠ 65 → A q = Ia q) → ∃ I2, jv_V 8 mX5_back 24 [.ref 64, .int (nI i)] [] G A J (some (.int (nI 1))) G I2 J ∧ (∀ s, s < 8 → I2 65 s = nI (ot_backZ Z (YK 10 1) 8 0 s)) ∧ (∀ q, q ≠ 65 → I2 q = Ia q) := by
  intro n
  have bc := yw_c h.w
  have bk := yw_c hW
  induction n with
  | zero => intro i A b1 b2; omega
  | succ n ih =>
    intro i A b1 b2 hv hF
    have hA64 : A 64 13 = nI (YK 10 1) := by rw [hF 64 (by decide)]; exact hc
    by_cases hi : i < 8
    · obtain ⟨z1, z2, z3⟩ := h.z.1 i hi
      have e0 : ot_backZ Z (YK 10 1) i 0 i = Z 0 i := ot_backZ_ge (Nat.le_refl i)
      by_cases hz2 : Z 0 i = 2
      · have hz3 := z3 hz2
        have hsh : A (64 + 14) i = nI (Z 3 i) := by
          show A 78 i = _
          rw [hF 78 (by decide), hsw]; exact nr_shown h.s hi hz2
        by_cases hk : Z 3 i < YK 10 1
        · have es := ot_backZ_n (Z := Z) (c := YK 10 1) (n := i) (by omega)
          obtain ⟨I2, hV, p1, p2⟩ := ih (i + 1) A (by omega) (by omega) (by rw [es]; exact hv) hF
          refine ⟨I2, ?_, p1, p2⟩
          refine jv_iload1 dX5_back_24 ?_
          refine jv_bipush dX5_back_25 jv_c_bipush_8 ?_
          refine jv_icmp_geN dX5_back_27 (tgt := 66) (by decide) (by omega) (by omega) (fun hc27 => by omega) (fun hc27 => ?_)
          refine jv_aload0 dX5_back_30 ?_
          refine jv_getR dX5_back_31 flX5_7 rfl (mk h.g) (mr_shelf h.g) ?_
          refine jv_iload1 dX5_back_34 ?_
          refine jv_ialdN dX5_back_35 (mk_shelf h.g) (by omega) (by decide) (show A 65 i = nI 2 from (hv i hi).trans (by rw [e0, hz2])) ?_
          refine jv_iconst dX5_back_36 jv_c_iconst_2 ?_
          refine jv_icmp_neN dX5_back_37 (tgt := 60) (by decide) (by omega) (by omega) (fun hc37 => by omega) (fun hc37 => ?_)
          refine jv_aload0 dX5_back_40 ?_
          refine jv_getR dX5_back_41 flX5_28 rfl (mk h.g) (mr_shown h.g) ?_
          refine jv_iload1 dX5_back_44 ?_
          refine jv_ialdN dX5_back_45 (mk_shown h.g) (by omega) (by decide) hsh ?_
          refine jv_aload0 dX5_back_46 ?_
          refine jv_getI dX5_back_47 flX5_91 rfl (mk h.g) (show A 64 13 = nI (YK 10 1) from hA64) ?_
          refine jv_icmp_ltN dX5_back_50 (tgt := 60) (by decide) (by omega) (by omega) (fun hc50 => ?_) (fun hc50 => by omega)
          refine jv_iinc1N dX5_back_60 rfl ?_
          refine jv_goto dX5_back_63 (tgt := 24) (by decide) ?_
          exact hV
        · have es := ot_backZ_s (Z := Z) (c := YK 10 1) (n := i) ⟨hz2, hk⟩
          obtain ⟨I2, hV, p1, p2⟩ := ih (i + 1) (jv_up A (64 + 1) i (nI 0)) (by omega) (by omega) (fun s hs => by
            rw [es, jv_up_def, if_pos rfl]
            dsimp only
            by_cases e : s = i
            · rw [if_pos e, if_pos ⟨rfl, e⟩]
            · rw [if_neg e, if_neg (by omega)]; exact hv s hs) (fun q hq => by rw [jv_up_ne _ _ _ (by omega)]; exact hF q hq)
          refine ⟨I2, ?_, p1, p2⟩
          refine jv_iload1 dX5_back_24 ?_
          refine jv_bipush dX5_back_25 jv_c_bipush_8 ?_
          refine jv_icmp_geN dX5_back_27 (tgt := 66) (by decide) (by omega) (by omega) (fun hc27 => by omega) (fun hc27 => ?_)
          refine jv_aload0 dX5_back_30 ?_
          refine jv_getR dX5_back_31 flX5_7 rfl (mk h.g) (mr_shelf h.g) ?_
          refine jv_iload1 dX5_back_34 ?_
          refine jv_ialdN dX5_back_35 (mk_shelf h.g) (by omega) (by decide) (show A 65 i = nI 2 from (hv i hi).trans (by rw [e0, hz2])) ?_
          refine jv_iconst dX5_back_36 jv_c_iconst_2 ?_
          refine jv_icmp_neN dX5_back_37 (tgt := 60) (by decide) (by omega) (by omega) (fun hc37 => by omega) (fun hc37 => ?_)
          refine jv_aload0 dX5_back_40 ?_
          refine jv_getR dX5_back_41 flX5_28 rfl (mk h.g) (mr_shown h.g) ?_
          refine jv_iload1 dX5_back_44 ?_
          refine jv_ialdN dX5_back_45 (mk_shown h.g) (by omega) (by decide) hsh ?_
          refine jv_aload0 dX5_back_46 ?_
          refine jv_getI dX5_back_47 flX5_91 rfl (mk h.g) (show A 64 13 = nI (YK 10 1) from hA64) ?_
          refine jv_icmp_ltN dX5_back_50 (tgt := 60) (by decide) (by omega) (by omega) (fun hc50 => by omega) (fun hc50 => ?_)
          refine jv_aload0 dX5_back_53 ?_
          refine jv_getR dX5_back_54 flX5_7 rfl (mk h.g) (mr_shelf h.g) ?_
          refine jv_iload1 dX5_back_57 ?_
          refine jv_iconst dX5_back_58 jv_c_iconst_0 ?_
          refine jv_iastN dX5_back_59 (mk_shelf h.g) (by omega) (by decide) ?_
          refine jv_iinc1N dX5_back_60 rfl ?_
          refine jv_goto dX5_back_63 (tgt := 24) (by decide) ?_
          exact hV
      · have es := ot_backZ_n (Z := Z) (c := YK 10 1) (n := i) (by omega)
        obtain ⟨I2, hV, p1, p2⟩ := ih (i + 1) A (by omega) (by omega) (by rw [es]; exact hv) hF
        refine ⟨I2, ?_, p1, p2⟩
        refine jv_iload1 dX5_back_24 ?_
        refine jv_bipush dX5_back_25 jv_c_bipush_8 ?_
        refine jv_icmp_geN dX5_back_27 (tgt := 66) (by decide) (by omega) (by omega) (fun hc27 => by omega) (fun hc27 => ?_)
        refine jv_aload0 dX5_back_30 ?_
        refine jv_getR dX5_back_31 flX5_7 rfl (mk h.g) (mr_shelf h.g) ?_
        refine jv_iload1 dX5_back_34 ?_
        refine jv_ialdN dX5_back_35 (mk_shelf h.g) (by omega) (by decide) (show A 65 i = nI (Z 0 i) from (hv i hi).trans (by rw [e0])) ?_
        refine jv_iconst dX5_back_36 jv_c_iconst_2 ?_
        refine jv_icmp_neN dX5_back_37 (tgt := 60) (by decide) (by omega) (by omega) (fun hc37 => ?_) (fun hc37 => by omega)
        refine jv_iinc1N dX5_back_60 rfl ?_
        refine jv_goto dX5_back_63 (tgt := 24) (by decide) ?_
        exact hV
    · have ei : i = 8 := by omega
      subst ei
      refine ⟨A, ?_, hv, hF⟩
      refine jv_iload1 dX5_back_24 ?_
      refine jv_bipush dX5_back_25 jv_c_bipush_8 ?_
      refine jv_icmp_geN dX5_back_27 (tgt := 66) (by decide) (by omega) (by omega) (fun hc27 => ?_) (fun hc27 => by omega)
      refine jv_iconst dX5_back_66 jv_c_iconst_1 ?_
      exact jv_iret dX5_back_67 rfl rfl rfl rfl rfl
set_option maxRecDepth 20000 in
theorem pm_back {G : jv_Gr} {I : jv_I} {J : jv_J} {Y Z : ot_Y} {E : ot_E} {K : Option ot_Y} (h : ot_M G I J Y Z E K) : ot_mm 8 mX5_back [.ref 64] G I J (ot_ka K) (ot_ky K Y) (ot_kz K Z) E K := by
  cases K with
  | none =>
    obtain ⟨I2, hC, h2, h3⟩ := om_refuse5 h
    refine ⟨G, I2, J, ?_, h2, h3, ot_gx.rf⟩
    refine jv_enter okX5_back (L := [.ref 64, .null]) rfl (Nat.le_of_ble_eq_true rfl) ?_
    refine jv_aload0 dX5_back_0 ?_
    refine jv_getR dX5_back_1 flX5_339 rfl (mk h.g) h.k ?_
    refine jv_ifnonnull dX5_back_4 (tgt := 14) (by decide) (fun q => absurd rfl q) (fun _ => ?_)
    refine jv_aload0 dX5_back_7 ?_
    refine jv_bipush dX5_back_8 jv_c_bipush_m5 ?_
    refine jv_v11 dX5_back_10 okX5_refuse inX5_refuse seX5_refuse mlX5_104 (ci := 5) (T := TX5) (N := 35) rfl (mk h.g) hC (by decide) (Nat.le_of_ble_eq_true rfl) ?_
    exact jv_iret dX5_back_13 rfl rfl rfl rfl rfl
  | some YK =>
    obtain ⟨k1, k2, k3, k4⟩ := id h.k
    obtain ⟨Ia, hA, hR2, hF, f1, f2, f3⟩ := om_takeFrom (J := J) h.g k2 k3 k4 (by omega)
    obtain ⟨I2, hV, p1, p2⟩ := om_backLoop h k4 hR2.1.2.1 (f1 78 (by omega) (by omega)) 9 0 Ia (by omega) (by omega) (fun s hs => by
      rw [ot_backZ_z, f1 65 (by omega) (by omega)]; exact nr_tag h.s hs) (fun _ _ => rfl)
    have hs2 : ot_M G I2 J YK (ot_backZ Z (YK 10 1) 8) E (some YK) := by
      refine ⟨h.g, ?_, k4, ⟨fun s hs => ?_, ⟨?_, fun i hi => ?_⟩, fun j hj => ?_⟩, ot_ZW_back h.z, ⟨k1, k2, ?_, k4⟩, h.t, h.n⟩
      · obtain ⟨b1, b2, b3, b4⟩ := hR2
        unfold ot_MR
        rw [p2 64 (by omega), p2 (64 + 17) (by omega), p2 (64 + 18) (by omega), p2 (64 + 19) (by omega), p2 (64 + 20) (by omega), p2 (64 + 21) (by omega), p2 (64 + 22) (by omega), p2 (64 + 23) (by omega), p2 (64 + 24) (by omega), p2 (64 + 25) (by omega), p2 (64 + 26) (by omega)]
        exact ⟨b1, b2, b3, b4⟩
      · obtain ⟨d1, d2, d3⟩ := h.s.1 s hs
        rw [p2 66 (by decide), p2 67 (by decide), p2 78 (by decide), f1 66 (by omega) (by omega), f1 67 (by omega) (by omega), f1 78 (by omega) (by omega), ot_backZ_hi (show 1 ≠ 0 by decide), ot_backZ_hi (show 2 ≠ 0 by decide), ot_backZ_hi (show 3 ≠ 0 by decide)]
        have ht : ot_backZ Z (YK 10 1) 8 0 s ≠ 0 → Z 0 s = ot_backZ Z (YK 10 1) 8 0 s := fun q => by
          unfold ot_backZ at q ⊢
          split
          · rename_i e; rw [if_pos e] at q; exact absurd rfl q
          · rfl
        exact ⟨p1 s hs, fun q => d2 ((ht (by omega)).trans q), fun q => d3 ((ht (by omega)).trans q)⟩
      · rw [p2 64 (by decide), f3 7 (by decide) (by decide) (by decide) (by decide), ot_backZ_hi (by decide)]; exact nr_tsize h.s
      · rw [ot_backZ_hi (by decide)] at hi ⊢; rw [p2 79 (by decide), f1 79 (by omega) (by omega)]; exact nr_tape h.s hi
      · rw [p2 80 (by decide), f1 80 (by omega) (by omega), ot_backZ_hi (by decide)]; exact nr_ref h.s hj
      · exact ot_MR_fr (lo := 65) (hi := 65) (ot_MR_fr (lo := 64) (hi := 93) k3 hF (by omega)) (fun q hq => p2 q (by omega)) (by omega)
    refine ⟨G, I2, J, ?_, hs2, fun q hq => ⟨(p2 q (by omega)).trans (hF q (by omega)), rfl⟩, ot_gx.rf⟩
    refine jv_enter okX5_back (L := [.ref 64, .null]) rfl (Nat.le_of_ble_eq_true rfl) ?_
    refine jv_aload0 dX5_back_0 ?_
    refine jv_getR dX5_back_1 flX5_339 rfl (mk h.g) rfl ?_
    refine jv_ifnonnull dX5_back_4 (tgt := 14) (by decide) (fun _ => ?_) (fun q => absurd q (by omega))
    refine jv_aload0 dX5_back_14 ?_
    refine jv_aload0 dX5_back_15 ?_
    refine jv_getR dX5_back_16 flX5_339 rfl (mk h.g) rfl ?_
    refine jv_v10 dX5_back_19 okX5_takeFrom inX5_takeFrom seX5_takeFrom mlX5_241 (ci := 5) (T := TX5) (N := 35) rfl (mk h.g) hA (by decide) (Nat.le_of_ble_eq_true rfl) ?_
    refine jv_iconst dX5_back_22 jv_c_iconst_0 ?_
    refine jv_istore1 dX5_back_23 rfl ?_
    exact hV
def ot_ca (v : Int64) : Nat := v.toInt.toNat / 100
def ot_cb (v : Int64) : Nat := v.toInt.toNat % 100
def ot_okc (Y : ot_Y) (v : Int64) : Bool := decide (0 ≤ v.toInt ∧ ot_ca v < Y 10 0 ∧ ot_cb v < Y 10 0 ∧ ot_ca v ≠ ot_cb v) && ot_reachB Y (ot_ca v) (ot_cb v)
def ot_goS (Y : ot_Y) (v : Int64) : ot_Y := if ot_okc Y v = true then ot_swap Y (ot_ca v) (ot_cb v) else Y
theorem ot_okc_iff {Y : ot_Y} {v : Int64} : ot_okc Y v = true ↔ (0 ≤ v.toInt ∧ ot_ca v < Y 10 0 ∧ ot_cb v < Y 10 0 ∧ ot_ca v ≠ ot_cb v) ∧ ot_reachB Y (ot_ca v) (ot_cb v) = true := by
  unfold ot_okc; rw [Bool.and_eq_true, decide_eq_true_eq]
theorem ot_YW_goS {Y : ot_Y} (hW : ot_YW Y) (v : Int64) : ot_YW (ot_goS Y v) ∧ (ot_goS Y v) 10 0 = Y 10 0 ∧ (ot_goS Y v) 10 1 = Y 10 1 := by
  unfold ot_goS
  by_cases h : ot_okc Y v = true
  · rw [if_pos h]
    have := ot_okc_iff.mp h
    exact ⟨ot_YW_swap hW this.1.2.1 this.1.2.2.1, rfl, rfl⟩
  · rw [if_neg h]; exact ⟨hW, rfl, rfl⟩
theorem ot_toI_lN {v : Int64} {x : Nat} (h : v.toInt = x) (hx : x < 2 ^ 31) : v.toInt32 = nI x := by
  apply Int32.toInt_inj.mp
  rw [nI_toInt hx, Int64.toInt_toInt32, h]
  apply Int.bmod_eq_of_le <;> omega
set_option maxRecDepth 20000 in
theorem ot_changeM {G : jv_Gr} {I : jv_I} {J : jv_J} {y : Nat} {Y : ot_Y} (hG : ot_YG G y) (hR : ot_YR I y Y) (hW : ot_YW Y) (v : Int64) : ∃ I2, jv_C 3 mX3_changeAsTold [.ref y, .long v] G I J (some (.int (jv_b (ot_okc Y v = true)))) G I2 J ∧ ot_YR I2 y (ot_goS Y v) ∧ ∀ q, q ≠ y + 3 → q ≠ y + 4 → I2 q = I q := by
  have bn := yw_n hW
  have bc := yw_c hW
  have bw := yw_w hW
  by_cases hlt : v < lN 0
  · have hn : ¬ ot_okc Y v = true := fun q => by
      have := (ot_okc_iff.mp q).1.1
      rw [Int64.lt_iff_toInt_lt, lN_toInt (by decide)] at hlt
      omega
    unfold ot_goS
    rw [if_neg hn]
    refine ⟨I, ?_, hR, fun _ _ _ => rfl⟩
    refine jv_enter okX3_changeAsTold (L := [.ref y, .long v, .null, .null, .null]) rfl (Nat.le_of_ble_eq_true rfl) ?_
    refine jv_lload1 dX3_changeAsTold_0 ?_
    refine jv_lconst dX3_changeAsTold_1 (v := lN 0) rfl ?_
    refine jv_lcmp dX3_changeAsTold_2 ?_
    refine jv_if_lt dX3_changeAsTold_3 (tgt := 14) (by decide) (fun h3 => ?_) (fun h3 => absurd ((lg_cmp_lt v (lN 0)).mpr hlt) h3)
    refine jv_iconst dX3_changeAsTold_14 jv_c_iconst_0 ?_
    exact jv_iret dX3_changeAsTold_15 rfl (by decide) (ot_b0 hn) rfl rfl
  have h0 : 0 ≤ v.toInt := by rw [Int64.lt_iff_toInt_lt, lN_toInt (by decide)] at hlt; omega
  by_cases hge : v < lN 1400
  · rw [Int64.lt_iff_toInt_lt, lN_toInt (by decide)] at hge
    obtain ⟨x, hx⟩ : ∃ x : Nat, v.toInt = x := ⟨v.toInt.toNat, by omega⟩
    have hca : ot_ca v = x / 100 := by unfold ot_ca; rw [hx]; rfl
    have hcb : ot_cb v = x % 100 := by unfold ot_cb; rw [hx]; rfl
    have ea := nI_toInt (show x / 100 < 2 ^ 31 by omega)
    have eb := nI_toInt (show x % 100 < 2 ^ 31 by omega)
    have hge : v < lN 1400 := by rw [Int64.lt_iff_toInt_lt, lN_toInt (by decide)]; exact hge
    have hx14 : x < 1400 := by rw [Int64.lt_iff_toInt_lt, lN_toInt (by decide)] at hge; omega
    by_cases hk : ot_okc Y v = true
    · have hok := ot_okc_iff.mp hk
      unfold ot_goS
      rw [if_pos hk]
      rw [hca, hcb] at hok ⊢
      obtain ⟨I2, hE, hR2, hF⟩ := ot_exchangeM (J := J) hG hR hW hok.1.2.1 hok.1.2.2.1
      refine ⟨I2, ?_, hR2, hF⟩
      refine jv_enter okX3_changeAsTold (L := [.ref y, .long v, .null, .null, .null]) rfl (Nat.le_of_ble_eq_true rfl) ?_
      refine jv_lload1 dX3_changeAsTold_0 ?_
      refine jv_lconst dX3_changeAsTold_1 (v := lN 0) rfl ?_
      refine jv_lcmp dX3_changeAsTold_2 ?_
      refine jv_if_lt dX3_changeAsTold_3 (tgt := 14) (by decide) (fun h3 => absurd ((lg_cmp_lt v (lN 0)).mp h3) hlt) (fun h3 => ?_)
      refine jv_lload1 dX3_changeAsTold_6 ?_
      refine jv_ldc2 dX3_changeAsTold_7 cnX3_88 ?_
      refine jv_lcmp dX3_changeAsTold_10 ?_
      refine jv_if_lt dX3_changeAsTold_11 (tgt := 16) (by decide) (fun h11 => ?_) (fun h11 => absurd ((lg_cmp_lt v _).mpr hge) h11)
      refine jv_lload1 dX3_changeAsTold_16 ?_
      refine jv_l2i dX3_changeAsTold_17 (ot_toI_lN hx (by omega)) ?_
      refine jv_bipush dX3_changeAsTold_18 jv_c_bipush_100 ?_
      refine jv_idivN dX3_changeAsTold_20 (by omega) (by omega) (by omega) ?_
      refine jv_istore3 dX3_changeAsTold_21 rfl ?_
      refine jv_lload1 dX3_changeAsTold_22 ?_
      refine jv_l2i dX3_changeAsTold_23 (ot_toI_lN hx (by omega)) ?_
      refine jv_bipush dX3_changeAsTold_24 jv_c_bipush_100 ?_
      refine jv_iremN dX3_changeAsTold_26 (by omega) (by omega) (by omega) ?_
      refine jv_istore4 dX3_changeAsTold_27 rfl ?_
      refine jv_aload0 dX3_changeAsTold_29 ?_
      refine jv_iload3 dX3_changeAsTold_30 ?_
      refine jv_v11 dX3_changeAsTold_31 okX3_hasChild inX3_hasChild seX3_hasChild mlX3_90 (ci := 3) (T := TX3) (N := 15) rfl (yk hG) (ot_hasChild hG hR hW _) (by decide) (Nat.le_of_ble_eq_true rfl) ?_
      refine jv_if_eqB dX3_changeAsTold_34 (tgt := 62) (by decide) (fun h34 => absurd (by omega) h34) (fun h34 => ?_)
      refine jv_aload0 dX3_changeAsTold_37 ?_
      refine jv_iload4 dX3_changeAsTold_38 ?_
      refine jv_v11 dX3_changeAsTold_40 okX3_hasChild inX3_hasChild seX3_hasChild mlX3_90 (ci := 3) (T := TX3) (N := 15) rfl (yk hG) (ot_hasChild hG hR hW _) (by decide) (Nat.le_of_ble_eq_true rfl) ?_
      refine jv_if_eqB dX3_changeAsTold_43 (tgt := 62) (by decide) (fun h43 => absurd (by omega) h43) (fun h43 => ?_)
      refine jv_iload3 dX3_changeAsTold_46 ?_
      refine jv_iload4 dX3_changeAsTold_47 ?_
      refine jv_icmp_eqN dX3_changeAsTold_49 (tgt := 62) (by decide) (by omega) (by omega) (fun h49 => absurd h49 hok.1.2.2.2) (fun h49 => ?_)
      refine jv_aload0 dX3_changeAsTold_52 ?_
      refine jv_iload3 dX3_changeAsTold_53 ?_
      refine jv_iload4 dX3_changeAsTold_54 ?_
      refine jv_v21 dX3_changeAsTold_56 okX3_inReach inX3_inReach seX3_inReach mlX3_93 (ci := 3) (T := TX3) (N := 15) rfl (yk hG) (ot_inReachM hG hR hW hok.1.2.1 hok.1.2.2.1) (by decide) (Nat.le_of_ble_eq_true rfl) ?_
      refine jv_if_neB dX3_changeAsTold_59 (tgt := 64) (by decide) (fun h59 => ?_) (fun h59 => absurd (ot_reachB_iff.mp hok.2) h59)
      refine jv_aload0 dX3_changeAsTold_64 ?_
      refine jv_iload3 dX3_changeAsTold_65 ?_
      refine jv_iload4 dX3_changeAsTold_66 ?_
      refine jv_v20 dX3_changeAsTold_68 okX3_exchange inX3_exchange seX3_exchange mlX3_76 (ci := 3) (T := TX3) (N := 15) rfl (yk hG) hE (by decide) (Nat.le_of_ble_eq_true rfl) ?_
      refine jv_iconst dX3_changeAsTold_71 jv_c_iconst_1 ?_
      exact jv_iret dX3_changeAsTold_72 rfl (by decide) (ot_b1 hk) rfl rfl
    · unfold ot_goS
      rw [if_neg hk]
      refine ⟨I, ?_, hR, fun _ _ _ => rfl⟩
      refine jv_enter okX3_changeAsTold (L := [.ref y, .long v, .null, .null, .null]) rfl (Nat.le_of_ble_eq_true rfl) ?_
      refine jv_lload1 dX3_changeAsTold_0 ?_
      refine jv_lconst dX3_changeAsTold_1 (v := lN 0) rfl ?_
      refine jv_lcmp dX3_changeAsTold_2 ?_
      refine jv_if_lt dX3_changeAsTold_3 (tgt := 14) (by decide) (fun h3 => absurd ((lg_cmp_lt v (lN 0)).mp h3) hlt) (fun h3 => ?_)
      refine jv_lload1 dX3_changeAsTold_6 ?_
      refine jv_ldc2 dX3_changeAsTold_7 cnX3_88 ?_
      refine jv_lcmp dX3_changeAsTold_10 ?_
      refine jv_if_lt dX3_changeAsTold_11 (tgt := 16) (by decide) (fun h11 => ?_) (fun h11 => absurd ((lg_cmp_lt v _).mpr hge) h11)
      refine jv_lload1 dX3_changeAsTold_16 ?_
      refine jv_l2i dX3_changeAsTold_17 (ot_toI_lN hx (by omega)) ?_
      refine jv_bipush dX3_changeAsTold_18 jv_c_bipush_100 ?_
      refine jv_idivN dX3_changeAsTold_20 (by omega) (by omega) (by omega) ?_
      refine jv_istore3 dX3_changeAsTold_21 rfl ?_
      refine jv_lload1 dX3_changeAsTold_22 ?_
      refine jv_l2i dX3_changeAsTold_23 (ot_toI_lN hx (by omega)) ?_
      refine jv_bipush dX3_changeAsTold_24 jv_c_bipush_100 ?_
      refine jv_iremN dX3_changeAsTold_26 (by omega) (by omega) (by omega) ?_
      refine jv_istore4 dX3_changeAsTold_27 rfl ?_
      refine jv_aload0 dX3_changeAsTold_29 ?_
      refine jv_iload3 dX3_changeAsTold_30 ?_
      refine jv_v11 dX3_changeAsTold_31 okX3_hasChild inX3_hasChild seX3_hasChild mlX3_90 (ci := 3) (T := TX3) (N := 15) rfl (yk hG) (ot_hasChild hG hR hW _) (by decide) (Nat.le_of_ble_eq_true rfl) ?_
      refine jv_if_eqB dX3_changeAsTold_34 (tgt := 62) (by decide) (fun h34 => ?_) (fun h34 => ?_)
      · refine jv_iconst dX3_changeAsTold_62 jv_c_iconst_0 ?_
        exact jv_iret dX3_changeAsTold_63 rfl (by decide) (ot_b0 hk) rfl rfl
      · refine jv_aload0 dX3_changeAsTold_37 ?_
        refine jv_iload4 dX3_changeAsTold_38 ?_
        refine jv_v11 dX3_changeAsTold_40 okX3_hasChild inX3_hasChild seX3_hasChild mlX3_90 (ci := 3) (T := TX3) (N := 15) rfl (yk hG) (ot_hasChild hG hR hW _) (by decide) (Nat.le_of_ble_eq_true rfl) ?_
        refine jv_if_eqB dX3_changeAsTold_43 (tgt := 62) (by decide) (fun h43 => ?_) (fun h43 => ?_)
        · refine jv_iconst dX3_changeAsTold_62 jv_c_iconst_0 ?_
          exact jv_iret dX3_changeAsTold_63 rfl (by decide) (ot_b0 hk) rfl rfl
        · refine jv_iload3 dX3_changeAsTold_46 ?_
          refine jv_iload4 dX3_changeAsTold_47 ?_
          refine jv_icmp_eqN dX3_changeAsTold_49 (tgt := 62) (by decide) (by omega) (by omega) (fun h49 => ?_) (fun h49 => ?_)
          · refine jv_iconst dX3_changeAsTold_62 jv_c_iconst_0 ?_
            exact jv_iret dX3_changeAsTold_63 rfl (by decide) (ot_b0 hk) rfl rfl
          · refine jv_aload0 dX3_changeAsTold_52 ?_
            refine jv_iload3 dX3_changeAsTold_53 ?_
            refine jv_iload4 dX3_changeAsTold_54 ?_
            refine jv_v21 dX3_changeAsTold_56 okX3_inReach inX3_inReach seX3_inReach mlX3_93 (ci := 3) (T := TX3) (N := 15) rfl (yk hG) (ot_inReachM hG hR hW (show x / 100 < Y 10 0 by omega) (show x % 100 < Y 10 0 by omega)) (by decide) (Nat.le_of_ble_eq_true rfl) ?_
            refine jv_if_neB dX3_changeAsTold_59 (tgt := 64) (by decide) (fun h59 => absurd (ot_okc_iff.mpr ⟨⟨by omega, by omega, by omega, by omega⟩, by rw [hca, hcb]; exact ot_reachB_iff.mpr h59⟩) hk) (fun h59 => ?_)
            refine jv_iconst dX3_changeAsTold_62 jv_c_iconst_0 ?_
            exact jv_iret dX3_changeAsTold_63 rfl (by decide) (ot_b0 hk) rfl rfl
  · have hn : ¬ ot_okc Y v = true := fun q => by
      have := (ot_okc_iff.mp q).1
      rw [Int64.lt_iff_toInt_lt, lN_toInt (by decide)] at hge
      unfold ot_ca at this
      omega
    unfold ot_goS
    rw [if_neg hn]
    refine ⟨I, ?_, hR, fun _ _ _ => rfl⟩
    refine jv_enter okX3_changeAsTold (L := [.ref y, .long v, .null, .null, .null]) rfl (Nat.le_of_ble_eq_true rfl) ?_
    refine jv_lload1 dX3_changeAsTold_0 ?_
    refine jv_lconst dX3_changeAsTold_1 (v := lN 0) rfl ?_
    refine jv_lcmp dX3_changeAsTold_2 ?_
    refine jv_if_lt dX3_changeAsTold_3 (tgt := 14) (by decide) (fun h3 => absurd ((lg_cmp_lt v (lN 0)).mp h3) hlt) (fun h3 => ?_)
    refine jv_lload1 dX3_changeAsTold_6 ?_
    refine jv_ldc2 dX3_changeAsTold_7 cnX3_88 ?_
    refine jv_lcmp dX3_changeAsTold_10 ?_
    refine jv_if_lt dX3_changeAsTold_11 (tgt := 16) (by decide) (fun h11 => absurd ((lg_cmp_lt v _).mp h11) hge) (fun h11 => ?_)
    refine jv_iconst dX3_changeAsTold_14 jv_c_iconst_0 ?_
    exact jv_iret dX3_changeAsTold_15 rfl (by decide) (ot_b0 hn) rfl rfl
def ot_goY (Y : ot_Y) (f : Nat → Int64) : Nat → ot_Y
  | 0 => Y
  | n + 1 => ot_goS (ot_goY Y f n) (f n)
def ot_goN (Y : ot_Y) (f : Nat → Int64) (n : Nat) : Nat := ot_fst (fun i => !ot_okc (ot_goY Y f i) (f i)) n
def ot_goA (Y : ot_Y) (f : Nat → Int64) (n : Nat) : Int32 := if ot_goN Y f n = n then -1 else nI (ot_goN Y f n)
theorem ot_goY_ok {Y : ot_Y} (hW : ot_YW Y) (f : Nat → Int64) : ∀ n, ot_YW (ot_goY Y f n) ∧ (ot_goY Y f n) 10 0 = Y 10 0 ∧ (ot_goY Y f n) 10 1 = Y 10 1
  | 0 => ⟨hW, rfl, rfl⟩
  | n + 1 => by
    obtain ⟨a, b, c⟩ := ot_goY_ok hW f n
    obtain ⟨a2, b2, c2⟩ := ot_YW_goS a (f n)
    exact ⟨a2, b2.trans b, c2.trans c⟩
theorem ot_goN_all {Y : ot_Y} {f : Nat → Int64} {n : Nat} (h : ∀ j, j < n → ot_okc (ot_goY Y f j) (f j) = true) : ot_goN Y f n = n := ot_fst_none n (fun j hj => by rw [h j hj]; rfl)
theorem ot_goN_at {Y : ot_Y} {f : Nat → Int64} {n i : Nat} (hi : i < n) (h : ∀ j, j < i → ot_okc (ot_goY Y f j) (f j) = true) (hn : ¬ ot_okc (ot_goY Y f i) (f i) = true) : ot_goN Y f n = i := ot_fst_some n hi (by rw [Bool.not_eq_true] at hn; rw [hn]; rfl) (fun j hj => by rw [h j hj]; rfl)
theorem ot_l100 {v : Int64} {x : Nat} (h : v.toInt = x) : (v / 100).toInt = ((x / 100 : Nat) : Int) ∧ (v % 100).toInt = ((x % 100 : Nat) : Int) := by
  have hx : x < 2 ^ 63 := by have := v.toInt_lt; omega
  constructor
  · rw [Int64.toInt_div, h, show (100 : Int64).toInt = 100 by decide, Int.tdiv_eq_ediv_of_nonneg (by omega)]
    rw [Int.bmod_eq_of_le (by omega) (by omega)]
    omega
  · rw [Int64.toInt_mod, h, show (100 : Int64).toInt = 100 by decide, Int.tmod_eq_emod_of_nonneg (by omega)]
    omega
theorem ot_lrem {v : Int64} {x : Nat} (h : v.toInt = x) : v - v / 100 * 100 = v % 100 := by
  have hx : x < 2 ^ 63 := by have := v.toInt_lt; omega
  obtain ⟨l1, l2⟩ := ot_l100 h
  apply Int64.toInt_inj.mp
  rw [Int64.toInt_sub, Int64.toInt_mul, l1, l2, h, show (100 : Int64).toInt = 100 by decide]
  rw [Int.bmod_eq_of_le (n := ((x / 100 : Nat) : Int) * 100) (by omega) (by omega), Int.bmod_eq_of_le (by omega) (by omega)]
  omega
set_option maxRecDepth 20000 in
theorem oc_firstWrong {G : jv_Gr} {I : jv_I} {J : jv_J} {Y Z : ot_Y} {E : ot_E} {K : Option ot_Y} (h : ot_C G I J Y Z E K) {t x : Nat} (ht : t < 8) (h1s : Z 0 t = 1) (hx : x ≤ 40) : ∃ I2, jv_C 4 mX4_firstWrong [.ref 1, .int (nI t), .int (nI x)] G I J (some (.int (ot_goA Y (E t) x))) G I2 J ∧ ot_YR I2 26 (ot_goY Y (E t) (ot_goN Y (E t) x)) ∧ ot_fr I I2 26 37 := by
  have he : ∀ i, i < 40 → J (49 + 2 * t) i = E t i := (h.s.1 t ht).2.2 h1s
  have loop : ∀ (n i : Nat) (A : jv_I), x + 1 ≤ i + n → i ≤ x → ot_YR A 26 (ot_goY Y (E t) i) → ot_fr I A 26 37 → (∀ j, j < i → ot_okc (ot_goY Y (E t) j) (E t j) = true) → ∃ I2, jv_V 4 mX4_firstWrong 13 [.ref 1, .int (nI t), .int (nI x), .int (nI i)] [] G A J (some (.int (ot_goA Y (E t) x))) G I2 J ∧ ot_YR I2 26 (ot_goY Y (E t) (ot_goN Y (E t) x)) ∧ ot_fr I I2 26 37 := by
    intro n
    induction n with
    | zero => intro i A b1 b2; omega
    | succ n ih =>
      intro i A b1 b2 hR hF ha
      by_cases hi : i < x
      · obtain ⟨A2, hCh, hR2, hF2⟩ := ot_changeM (J := J) (cg_draft h.g) hR (ot_goY_ok h.w (E t) i).1 (E t i)
        by_cases hok : ot_okc (ot_goY Y (E t) i) (E t i) = true
        · obtain ⟨I2, hV, p1, p2⟩ := ih (i + 1) A2 (by omega) (by omega) hR2 (hF.tr (ot_fr.pl hF2)) (fun j hj => by
            by_cases e : j = i
            · rw [e]; exact hok
            · exact ha j (by omega))
          refine ⟨I2, ?_, p1, p2⟩
          refine jv_iload3 dX4_firstWrong_13 ?_
          refine jv_iload2 dX4_firstWrong_14 ?_
          refine jv_icmp_geN dX4_firstWrong_15 (tgt := 47) (by decide) (by omega) (by omega) (fun hc15 => by omega) (fun hc15 => ?_)
          refine jv_aload0 dX4_firstWrong_18 ?_
          refine jv_getR dX4_firstWrong_19 flX4_19 rfl (ck h.g) (cr_draft h.g) ?_
          refine jv_aload0 dX4_firstWrong_22 ?_
          refine jv_getR dX4_firstWrong_23 flX4_40 rfl (ck h.g) (cr_shelves h.g) ?_
          refine jv_iload1 dX4_firstWrong_26 ?_
          refine jv_aald2N dX4_firstWrong_27 (ck_shelves h.g) (by omega) (by decide) (cr_shelf h.g ht) ?_
          refine jv_getR dX4_firstWrong_28 flX4_87 rfl (sk h.g ht) (sr_elements h.g ht) ?_
          refine jv_iload3 dX4_firstWrong_31 ?_
          refine jv_laldN dX4_firstWrong_32 (sk_elements h.g ht) (by omega) (by decide) (he i (by omega)) ?_
          refine jv_v11 dX4_firstWrong_33 okX3_changeAsTold inX3_changeAsTold seX3_changeAsTold mlX4_319 (ci := 3) (T := TX3) (N := 15) rfl (yk (cg_draft h.g)) hCh (by decide) (Nat.le_of_ble_eq_true rfl) ?_
          refine jv_if_neB dX4_firstWrong_36 (tgt := 41) (by decide) (fun h36 => ?_) (fun h36 => absurd hok h36)
          refine jv_iinc3N dX4_firstWrong_41 rfl ?_
          refine jv_goto dX4_firstWrong_44 (tgt := 13) (by decide) ?_
          exact hV
        · have eN := ot_goN_at hi ha hok
          refine ⟨A2, ?_, by rw [eN]; unfold ot_goS at hR2; rw [if_neg hok] at hR2; exact hR2, hF.tr (ot_fr.pl hF2)⟩
          refine jv_iload3 dX4_firstWrong_13 ?_
          refine jv_iload2 dX4_firstWrong_14 ?_
          refine jv_icmp_geN dX4_firstWrong_15 (tgt := 47) (by decide) (by omega) (by omega) (fun hc15 => by omega) (fun hc15 => ?_)
          refine jv_aload0 dX4_firstWrong_18 ?_
          refine jv_getR dX4_firstWrong_19 flX4_19 rfl (ck h.g) (cr_draft h.g) ?_
          refine jv_aload0 dX4_firstWrong_22 ?_
          refine jv_getR dX4_firstWrong_23 flX4_40 rfl (ck h.g) (cr_shelves h.g) ?_
          refine jv_iload1 dX4_firstWrong_26 ?_
          refine jv_aald2N dX4_firstWrong_27 (ck_shelves h.g) (by omega) (by decide) (cr_shelf h.g ht) ?_
          refine jv_getR dX4_firstWrong_28 flX4_87 rfl (sk h.g ht) (sr_elements h.g ht) ?_
          refine jv_iload3 dX4_firstWrong_31 ?_
          refine jv_laldN dX4_firstWrong_32 (sk_elements h.g ht) (by omega) (by decide) (he i (by omega)) ?_
          refine jv_v11 dX4_firstWrong_33 okX3_changeAsTold inX3_changeAsTold seX3_changeAsTold mlX4_319 (ci := 3) (T := TX3) (N := 15) rfl (yk (cg_draft h.g)) hCh (by decide) (Nat.le_of_ble_eq_true rfl) ?_
          refine jv_if_neB dX4_firstWrong_36 (tgt := 41) (by decide) (fun h36 => absurd h36 hok) (fun h36 => ?_)
          refine jv_iload3 dX4_firstWrong_39 ?_
          exact jv_iret dX4_firstWrong_40 rfl rfl (by unfold ot_goA; rw [eN, if_neg (by omega)]) rfl rfl
      · have ei : i = x := by omega
        subst ei
        have eN := ot_goN_all ha
        refine ⟨A, ?_, by rw [eN]; exact hR, hF⟩
        refine jv_iload3 dX4_firstWrong_13 ?_
        refine jv_iload2 dX4_firstWrong_14 ?_
        refine jv_icmp_geN dX4_firstWrong_15 (tgt := 47) (by decide) (by omega) (by omega) (fun hc15 => ?_) (fun hc15 => by omega)
        refine jv_iconst dX4_firstWrong_47 jv_c_iconst_m1 ?_
        exact jv_iret dX4_firstWrong_48 rfl rfl (by unfold ot_goA; rw [eN, if_pos rfl]) rfl rfl
  obtain ⟨I2, hA, hR2, hF⟩ := ot_takeOverM (J := J) (cg_draft h.g) (cg_now h.g) h.r h.w (by omega)
  obtain ⟨I3, hV, p1, p2⟩ := loop (x + 1) 0 I2 (by omega) (by omega) hR2 hF (fun j hj => absurd hj (by omega))
  refine ⟨I3, ?_, p1, p2⟩
  refine jv_enter okX4_firstWrong (L := [.ref 1, .int (nI t), .int (nI x), .null]) rfl (Nat.le_of_ble_eq_true rfl) ?_
  refine jv_aload0 dX4_firstWrong_0 ?_
  refine jv_getR dX4_firstWrong_1 flX4_19 rfl (ck h.g) (cr_draft h.g) ?_
  refine jv_aload0 dX4_firstWrong_4 ?_
  refine jv_getR dX4_firstWrong_5 flX4_10 rfl (ck h.g) (cr_now h.g) ?_
  refine jv_v10 dX4_firstWrong_8 okX3_takeOver inX3_takeOver seX3_takeOver mlX4_159 (ci := 3) (T := TX3) (N := 15) rfl (yk (cg_draft h.g)) hA (by decide) (Nat.le_of_ble_eq_true rfl) ?_
  refine jv_iconst dX4_firstWrong_11 jv_c_iconst_0 ?_
  refine jv_istore3 dX4_firstWrong_12 rfl ?_
  exact hV
set_option maxRecDepth 20000 in
theorem om_goesBy {G : jv_Gr} {I : jv_I} {J : jv_J} {m : Nat} {Y : ot_Y} {r x : Nat} {f : Nat → Int64} (hG : ot_MG G m) (hR : ot_MR I m Y) (hW : ot_YW Y) (hrk : jv_k G r = (1, 40)) (he : ∀ i, i < 40 → J r i = f i) (hx : x ≤ 40) : ∃ I2, jv_C 4 mX5_goesBy [.ref m, .ref r, .int (nI x)] G I J (some (.int (ot_goA Y f x))) G I2 J ∧ ot_MR I2 m (ot_goY Y f (ot_goN Y f x)) ∧ ∀ q, q ≠ m + 19 → I2 q = I q := by
  have bn := yw_n hW
  have bc := yw_c hW
  have bw := yw_w hW
  have loop : ∀ (n i : Nat) (A : jv_I) (s4 s5 : Value), x + 1 ≤ i + n → i ≤ x → ot_MR A m (ot_goY Y f i) → (∀ q, q ≠ m + 19 → A q = I q) → (∀ j, j < i → ot_okc (ot_goY Y f j) (f j) = true) → ∃ I2, jv_V 4 mX5_goesBy 2 [.ref m, .ref r, .int (nI x), .int (nI i), s4, s5] [] G A J (some (.int (ot_goA Y f x))) G I2 J ∧ ot_MR I2 m (ot_goY Y f (ot_goN Y f x)) ∧ ∀ q, q ≠ m + 19 → I2 q = I q := by
    intro n
    induction n with
    | zero => intro i A s4 s5 b1 b2; omega
    | succ n ih =>
      intro i A s4 s5 b1 b2 hR2 hF ha
      have eT := ot_goY_ok hW f i
      have hYW := eT.1
      by_cases hi : i < x
      · by_cases hlt : f i < lN 0
        · have hok : ¬ ot_okc (ot_goY Y f i) (f i) = true := fun q => by
            have := (ot_okc_iff.mp q).1.1
            rw [Int64.lt_iff_toInt_lt, lN_toInt (by decide)] at hlt
            omega
          have eN := ot_goN_at hi ha hok
          refine ⟨A, ?_, by rw [eN]; exact hR2, hF⟩
          refine jv_iload3 dX5_goesBy_2 ?_
          refine jv_iload2 dX5_goesBy_3 ?_
          refine jv_icmp_geN dX5_goesBy_4 (tgt := 85) (by decide) (by omega) (by omega) (fun hc4 => by omega) (fun hc4 => ?_)
          refine jv_aload1 dX5_goesBy_7 ?_
          refine jv_iload3 dX5_goesBy_8 ?_
          refine jv_laldN dX5_goesBy_9 hrk (by omega) (by decide) (he i (by omega)) ?_
          refine jv_lconst dX5_goesBy_10 (v := lN 0) rfl ?_
          refine jv_lcmp dX5_goesBy_11 ?_
          refine jv_if_lt dX5_goesBy_12 (tgt := 36) (by decide) (fun h12 => ?_) (fun h12 => absurd ((lg_cmp_lt (f i) (lN 0)).mpr hlt) h12)
          refine jv_iload3 dX5_goesBy_36 ?_
          exact jv_iret dX5_goesBy_37 rfl rfl (by unfold ot_goA; rw [eN, if_neg (by omega)]) rfl rfl
        · have h0 : 0 ≤ (f i).toInt := by rw [Int64.lt_iff_toInt_lt, lN_toInt (by decide)] at hlt; omega
          obtain ⟨u, hu⟩ : ∃ u : Nat, (f i).toInt = u := ⟨(f i).toInt.toNat, by omega⟩
          obtain ⟨l1, l2⟩ := ot_l100 hu
          have hrem := ot_lrem hu
          have hca : ot_ca (f i) = u / 100 := by unfold ot_ca; rw [hu]; rfl
          have hcb : ot_cb (f i) = u % 100 := by unfold ot_cb; rw [hu]; rfl
          by_cases hok : ot_okc (ot_goY Y f i) (f i) = true
          · have hok2 := ot_okc_iff.mp hok
            rw [hca, hcb] at hok2
            have h2t : (0 ≤ (f i / 100).toInt ∧ (f i / 100).toInt < (ot_goY Y f i) 10 0) ∧ (0 ≤ (f i % 100).toInt ∧ (f i % 100).toInt < (ot_goY Y f i) 10 0) ∧ f i / 100 ≠ f i % 100 := by
              rw [l1, l2]
              refine ⟨⟨by omega, by have := hok2.1.2.1; omega⟩, ⟨by omega, by have := hok2.1.2.2.1; omega⟩, fun z => hok2.1.2.2.2 ?_⟩
              have := congrArg Int64.toInt z
              rw [l1, l2] at this
              omega
            obtain ⟨A2, hS, hR3, hF3⟩ := om_swaps (J := J) hG hR2 hYW hok2.1.2.1 hok2.1.2.2.1
            have hlu : u / 100 < 14 := by have := hok2.1.2.1; rw [eT.2.1] at this; omega
            obtain ⟨I2, hV, p1, p2⟩ := ih (i + 1) A2 (.int (nI (u / 100))) (.int (nI (u % 100))) (by omega) (by omega) (by show ot_MR A2 m (ot_goS _ _); unfold ot_goS; rw [if_pos hok, hca, hcb]; exact hR3) (fun q hq => (hF3 q hq).trans (hF q hq)) (fun j hj => by
              by_cases e : j = i
              · rw [e]; exact hok
              · exact ha j (by omega))
            refine ⟨I2, ?_, p1, p2⟩
            refine jv_iload3 dX5_goesBy_2 ?_
            refine jv_iload2 dX5_goesBy_3 ?_
            refine jv_icmp_geN dX5_goesBy_4 (tgt := 85) (by decide) (by omega) (by omega) (fun hc4 => by omega) (fun hc4 => ?_)
            refine jv_aload1 dX5_goesBy_7 ?_
            refine jv_iload3 dX5_goesBy_8 ?_
            refine jv_laldN dX5_goesBy_9 hrk (by omega) (by decide) (he i (by omega)) ?_
            refine jv_lconst dX5_goesBy_10 (v := lN 0) rfl ?_
            refine jv_lcmp dX5_goesBy_11 ?_
            refine jv_if_lt dX5_goesBy_12 (tgt := 36) (by decide) (fun h12 => absurd ((lg_cmp_lt (f i) (lN 0)).mp h12) hlt) (fun h12 => ?_)
            refine jv_aload0 dX5_goesBy_15 ?_
            refine jv_aload1 dX5_goesBy_16 ?_
            refine jv_iload3 dX5_goesBy_17 ?_
            refine jv_laldN dX5_goesBy_18 hrk (by omega) (by decide) (he i (by omega)) ?_
            refine jv_ldc2 dX5_goesBy_19 cnX5_320 ?_
            refine jv_ldiv dX5_goesBy_22 (by decide) ?_
            refine jv_aload1 dX5_goesBy_23 ?_
            refine jv_iload3 dX5_goesBy_24 ?_
            refine jv_laldN dX5_goesBy_25 hrk (by omega) (by decide) (he i (by omega)) ?_
            refine jv_ldc2 dX5_goesBy_26 cnX5_320 ?_
            refine jv_lrem dX5_goesBy_29 (by decide) ?_
            rw [show f i - f i / 100 * 100 = f i % 100 from hrem]
            refine jv_v21 dX5_goesBy_30 okX5_areTwo inX5_areTwo seX5_areTwo mlX5_144 (ci := 5) (T := TX5) (N := 35) rfl (mk hG) (om_areTwo hG hR2 hYW (f i / 100) (f i % 100)) (by decide) (Nat.le_of_ble_eq_true rfl) ?_
            refine jv_if_neB dX5_goesBy_33 (tgt := 38) (by decide) (fun h33 => ?_) (fun h33 => absurd h2t h33)
            refine jv_aload1 dX5_goesBy_38 ?_
            refine jv_iload3 dX5_goesBy_39 ?_
            refine jv_laldN dX5_goesBy_40 hrk (by omega) (by decide) (he i (by omega)) ?_
            refine jv_ldc2 dX5_goesBy_41 cnX5_320 ?_
            refine jv_ldiv dX5_goesBy_44 (by decide) ?_
            refine jv_l2i dX5_goesBy_45 (ot_toI_lN l1 (by omega)) ?_
            refine jv_istore4 dX5_goesBy_46 rfl ?_
            refine jv_aload1 dX5_goesBy_48 ?_
            refine jv_iload3 dX5_goesBy_49 ?_
            refine jv_laldN dX5_goesBy_50 hrk (by omega) (by decide) (he i (by omega)) ?_
            refine jv_ldc2 dX5_goesBy_51 cnX5_320 ?_
            refine jv_lrem dX5_goesBy_54 (by decide) ?_
            rw [show f i - f i / 100 * 100 = f i % 100 from hrem]
            refine jv_l2i dX5_goesBy_55 (ot_toI_lN l2 (by omega)) ?_
            refine jv_istore5 dX5_goesBy_56 rfl ?_
            refine jv_aload0 dX5_goesBy_58 ?_
            refine jv_iload4 dX5_goesBy_59 ?_
            refine jv_iload5 dX5_goesBy_61 ?_
            refine jv_v21 dX5_goesBy_63 okX5_mayChange inX5_mayChange seX5_mayChange mlX5_290 (ci := 5) (T := TX5) (N := 35) rfl (mk hG) (om_mayChange hG hR2 hYW hok2.1.2.1 hok2.1.2.2.1) (by decide) (Nat.le_of_ble_eq_true rfl) ?_
            refine jv_if_neB dX5_goesBy_66 (tgt := 71) (by decide) (fun h66 => ?_) (fun h66 => absurd (ot_reachB_iff.mp hok2.2) h66)
            refine jv_aload0 dX5_goesBy_71 ?_
            refine jv_iload4 dX5_goesBy_72 ?_
            refine jv_iload5 dX5_goesBy_74 ?_
            refine jv_v20 dX5_goesBy_76 okX5_swaps inX5_swaps seX5_swaps mlX5_222 (ci := 5) (T := TX5) (N := 35) rfl (mk hG) hS (by decide) (Nat.le_of_ble_eq_true rfl) ?_
            refine jv_iinc3N dX5_goesBy_79 rfl ?_
            refine jv_goto dX5_goesBy_82 (tgt := 2) (by decide) ?_
            exact hV
          · have eN := ot_goN_at hi ha hok
            refine ⟨A, ?_, by rw [eN]; exact hR2, hF⟩
            refine jv_iload3 dX5_goesBy_2 ?_
            refine jv_iload2 dX5_goesBy_3 ?_
            refine jv_icmp_geN dX5_goesBy_4 (tgt := 85) (by decide) (by omega) (by omega) (fun hc4 => by omega) (fun hc4 => ?_)
            refine jv_aload1 dX5_goesBy_7 ?_
            refine jv_iload3 dX5_goesBy_8 ?_
            refine jv_laldN dX5_goesBy_9 hrk (by omega) (by decide) (he i (by omega)) ?_
            refine jv_lconst dX5_goesBy_10 (v := lN 0) rfl ?_
            refine jv_lcmp dX5_goesBy_11 ?_
            refine jv_if_lt dX5_goesBy_12 (tgt := 36) (by decide) (fun h12 => absurd ((lg_cmp_lt (f i) (lN 0)).mp h12) hlt) (fun h12 => ?_)
            refine jv_aload0 dX5_goesBy_15 ?_
            refine jv_aload1 dX5_goesBy_16 ?_
            refine jv_iload3 dX5_goesBy_17 ?_
            refine jv_laldN dX5_goesBy_18 hrk (by omega) (by decide) (he i (by omega)) ?_
            refine jv_ldc2 dX5_goesBy_19 cnX5_320 ?_
            refine jv_ldiv dX5_goesBy_22 (by decide) ?_
            refine jv_aload1 dX5_goesBy_23 ?_
            refine jv_iload3 dX5_goesBy_24 ?_
            refine jv_laldN dX5_goesBy_25 hrk (by omega) (by decide) (he i (by omega)) ?_
            refine jv_ldc2 dX5_goesBy_26 cnX5_320 ?_
            refine jv_lrem dX5_goesBy_29 (by decide) ?_
            rw [show f i - f i / 100 * 100 = f i % 100 from hrem]
            refine jv_v21 dX5_goesBy_30 okX5_areTwo inX5_areTwo seX5_areTwo mlX5_144 (ci := 5) (T := TX5) (N := 35) rfl (mk hG) (om_areTwo hG hR2 hYW (f i / 100) (f i % 100)) (by decide) (Nat.le_of_ble_eq_true rfl) ?_
            refine jv_if_neB dX5_goesBy_33 (tgt := 38) (by decide) (fun h33 => ?_) (fun h33 => ?_)
            · have h3a : u / 100 < Y 10 0 ∧ u % 100 < Y 10 0 ∧ u / 100 ≠ u % 100 := by
                obtain ⟨x1, x2, x3⟩ := h33
                rw [l1] at x1
                rw [l2] at x2
                rw [eT.2.1] at x1 x2
                refine ⟨by omega, by omega, fun z => x3 (Int64.toInt_inj.mp (by rw [l1, l2, z]))⟩
              refine jv_aload1 dX5_goesBy_38 ?_
              refine jv_iload3 dX5_goesBy_39 ?_
              refine jv_laldN dX5_goesBy_40 hrk (by omega) (by decide) (he i (by omega)) ?_
              refine jv_ldc2 dX5_goesBy_41 cnX5_320 ?_
              refine jv_ldiv dX5_goesBy_44 (by decide) ?_
              refine jv_l2i dX5_goesBy_45 (ot_toI_lN l1 (by omega)) ?_
              refine jv_istore4 dX5_goesBy_46 rfl ?_
              refine jv_aload1 dX5_goesBy_48 ?_
              refine jv_iload3 dX5_goesBy_49 ?_
              refine jv_laldN dX5_goesBy_50 hrk (by omega) (by decide) (he i (by omega)) ?_
              refine jv_ldc2 dX5_goesBy_51 cnX5_320 ?_
              refine jv_lrem dX5_goesBy_54 (by decide) ?_
              rw [show f i - f i / 100 * 100 = f i % 100 from hrem]
              refine jv_l2i dX5_goesBy_55 (ot_toI_lN l2 (by omega)) ?_
              refine jv_istore5 dX5_goesBy_56 rfl ?_
              refine jv_aload0 dX5_goesBy_58 ?_
              refine jv_iload4 dX5_goesBy_59 ?_
              refine jv_iload5 dX5_goesBy_61 ?_
              refine jv_v21 dX5_goesBy_63 okX5_mayChange inX5_mayChange seX5_mayChange mlX5_290 (ci := 5) (T := TX5) (N := 35) rfl (mk hG) (om_mayChange hG hR2 hYW (a := u / 100) (b := u % 100) (by omega) (by omega)) (by decide) (Nat.le_of_ble_eq_true rfl) ?_
              refine jv_if_neB dX5_goesBy_66 (tgt := 71) (by decide) (fun h66 => absurd (ot_okc_iff.mpr ⟨by rw [hca, hcb, eT.2.1]; exact ⟨by omega, h3a⟩, by rw [hca, hcb]; exact ot_reachB_iff.mpr h66⟩) hok) (fun h66 => ?_)
              refine jv_iload3 dX5_goesBy_69 ?_
              exact jv_iret dX5_goesBy_70 rfl rfl (by unfold ot_goA; rw [eN, if_neg (by omega)]) rfl rfl
            · refine jv_iload3 dX5_goesBy_36 ?_
              exact jv_iret dX5_goesBy_37 rfl rfl (by unfold ot_goA; rw [eN, if_neg (by omega)]) rfl rfl
      · have ei : i = x := by omega
        subst ei
        have eN := ot_goN_all ha
        refine ⟨A, ?_, by rw [eN]; exact hR2, hF⟩
        refine jv_iload3 dX5_goesBy_2 ?_
        refine jv_iload2 dX5_goesBy_3 ?_
        refine jv_icmp_geN dX5_goesBy_4 (tgt := 85) (by decide) (by omega) (by omega) (fun hc4 => ?_) (fun hc4 => by omega)
        refine jv_iconst dX5_goesBy_85 jv_c_iconst_m1 ?_
        exact jv_iret dX5_goesBy_86 rfl rfl (by unfold ot_goA; rw [eN, if_pos rfl]) rfl rfl
  obtain ⟨I3, hV, p1, p2⟩ := loop (x + 1) 0 I .null .null (by omega) (by omega) hR (fun _ _ => rfl) (fun j hj => absurd hj (by omega))
  refine ⟨I3, ?_, p1, p2⟩
  refine jv_enter okX5_goesBy (L := [.ref m, .ref r, .int (nI x), .null, .null, .null]) rfl (Nat.le_of_ble_eq_true rfl) ?_
  refine jv_iconst dX5_goesBy_0 jv_c_iconst_0 ?_
  refine jv_istore3 dX5_goesBy_1 rfl ?_
  exact hV
