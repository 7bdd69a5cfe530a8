/-! ===== most: the reference's search, and the face ===== -/
def ot_mq (m : Nat) (I A : jv_I) : Prop := (∀ b, b ≠ m → b ≠ m + 19 → A b = I b) ∧ ∀ j, j ≠ 32 → A m j = I m j
theorem ot_MR_seek {I A : jv_I} {m : Nat} {Y : ot_Y} {w : Nat → Nat} (h : ot_MR I m Y) (hF : ot_mq m I A) (hw : ∀ c, c < Y 10 0 → A (m + 19) c = nI (w c)) : ot_MR A m (ot_put Y 2 w) := by
  obtain ⟨h1, h2, h3, h4⟩ := h
  have hq : ∀ b, b ≠ m → b ≠ m + 19 → A b = I b := hF.1
  refine ⟨?_, fun c hc => ?_, fun k hk => ?_, fun i hi => ?_⟩
  · rw [hF.2 9 (by decide), hF.2 13 (by decide), hF.2 17 (by decide), hF.2 22 (by decide)]; exact h1
  · have := h2 c hc
    refine ⟨?_, ?_, hw c hc⟩
    · rw [hq (m + 17) (by omega) (by omega)]; exact this.1
    · rw [hq (m + 18) (by omega) (by omega)]; exact this.2.1
  · rw [hq (m + 20) (by omega) (by omega), hq (m + 21) (by omega) (by omega), hq (m + 22) (by omega) (by omega)]; exact h3 k hk
  · rw [hq (m + 23) (by omega) (by omega), hq (m + 24) (by omega) (by omega), hq (m + 25) (by omega) (by omega), hq (m + 26) (by omega) (by omega)]; exact h4 i hi
theorem ot_bit_also {x : Int32} {c : Nat} (hc : c < 14) : ot_bit (x ||| (nI 1 <<< (nI c &&& 31))) = ot_also (ot_bit x) c := by
  funext j
  show ot_bit (x ||| ot_sh c) j = _
  rw [ot_bit_or, ot_bit_sh hc]
  rfl
theorem ot_value_put (Y : ot_Y) (w : Nat → Nat) (k : Nat) : ot_value (ot_put Y 2 w) k = ot_valS Y (fun c => ot_side Y k (w c)) := rfl
theorem ot_sok_leaf {Y : ot_Y} (hW : ot_YW Y) {g w : Nat → Nat} {u : Nat → Bool} {v : Nat} (h : ot_sk (Y 10 0) g u (Y 10 0) w) : ot_sok Y g u w v (if v < ot_valS Y (fun c => g (w c)) then ot_valS Y (fun c => g (w c)) else v) := by
  have hl := ot_sk_leaf h
  refine ⟨by split <;> omega, fun s _ hs => ?_, ?_⟩
  · rw [ot_valS_cong hW (s := s) (t := fun c => g (w c)) (fun c hc => hs c hc (hl.1 c hc))]
    split <;> omega
  · split
    · exact .inr ⟨_, hl.2.2.2, rfl⟩
    · exact .inl rfl
set_option maxRecDepth 20000 in
theorem om_seek {G : jv_Gr} {I : jv_I} {J : jv_J} {q : Nat} {Y : ot_Y} (hG : ot_MG G q) (hR : ot_MR I q Y) (hW : ot_YW Y) {k : Nat} (hk : k < Y 10 1) : ∀ (f p : Nat) (x : Int32) (w : Nat → Nat) (A : jv_I) (v : Nat), Y 10 0 ≤ p + f → p ≤ Y 10 0 → ot_sk (Y 10 0) (ot_side Y k) (ot_bit x) p w → ot_mq q I A → (∀ c, c < Y 10 0 → ot_bit x c = true → A (q + 19) c = nI (w c)) → A q 32 = nI v → v ≤ 1980 → ∃ (A2 : jv_I) (v2 : Nat), jv_C (f + 8) mX5_seekMost [.ref q, .int (nI k), .int (nI p), .int x] G A J none G A2 J ∧ ot_sok Y (ot_side Y k) (ot_bit x) w v v2 ∧ v2 ≤ 1980 ∧ A2 q 32 = nI v2 ∧ (∀ c, c < Y 10 0 → ot_bit x c = true → A2 (q + 19) c = nI (w c)) ∧ ot_mq q I A2 := by
  have bn := yw_n hW
  have bc := yw_c hW
  have bw := yw_w hW
  intro f
  induction f with
  | zero =>
    intro p x w A v b1 b2 hsk hF hP hmv hv
    have hsk2 := hsk
    rw [show p = Y 10 0 by omega] at hsk2
    have hl := ot_sk_leaf hsk2
    have hRw := ot_MR_seek hR hF (fun c hc => hP c hc (hl.1 c hc))
    have hWw := ot_YW_places hW hl.2.1 hl.2.2.1
    have cv := om_valueOf (J := J) hG hRw hWw (k := k) hk
    have hvl := ot_value_le hWw k
    have hfin := ot_sok_leaf hW (v := v) hsk2
    rw [ot_value_put] at cv hvl
    have hch : A q 9 = nI (Y 10 0) := (hF.2 9 (by decide)).trans (mi_children hR)
    by_cases hlt : v < ot_valS Y (fun c => ot_side Y k (w c))
    · rw [if_pos hlt] at hfin
      refine ⟨jv_up A q 32 (nI (ot_valS Y (fun c => ot_side Y k (w c)))), ot_valS Y (fun c => ot_side Y k (w c)), ?_, hfin, hvl, by rw [jv_up_def, if_pos rfl, if_pos rfl], fun c hc hb => by rw [jv_up_ne _ _ _ (by omega)]; exact hP c hc hb, fun b b1 b2 => by rw [jv_up_ne _ _ _ b1]; exact hF.1 b b1 b2, fun j hj => by rw [jv_up_def, if_pos rfl, if_neg hj]; exact hF.2 j hj⟩
      refine jv_enter okX5_seekMost (L := [.ref q, .int (nI k), .int (nI p), .int x, .null]) rfl (Nat.le_of_ble_eq_true rfl) ?_
      refine jv_iload2 dX5_seekMost_0 ?_
      refine jv_aload0 dX5_seekMost_1 ?_
      refine jv_getI dX5_seekMost_2 flX5_80 rfl (mk hG) hch ?_
      refine jv_icmp_neN dX5_seekMost_5 (tgt := 38) (by decide) (by omega) (by omega) (fun hc5 => by omega) (fun hc5 => ?_)
      refine jv_aload0 dX5_seekMost_8 ?_
      refine jv_iload1 dX5_seekMost_9 ?_
      refine jv_v11 dX5_seekMost_10 okX5_valueOf inX5_valueOf seX5_valueOf mlX5_278 (ci := 5) (T := TX5) (N := 35) rfl (mk hG) cv (by omega) (Nat.le_of_ble_eq_true rfl) ?_
      refine jv_istore4 dX5_seekMost_13 rfl ?_
      refine jv_aload0 dX5_seekMost_15 ?_
      refine jv_iload4 dX5_seekMost_16 ?_
      refine jv_aload0 dX5_seekMost_18 ?_
      refine jv_getI dX5_seekMost_19 flX5_298 rfl (mk hG) hmv ?_
      refine jv_icmp_leN dX5_seekMost_22 (tgt := 30) (by decide) (by omega) (by omega) (fun hc22 => by omega) (fun hc22 => ?_)
      refine jv_iload4 dX5_seekMost_25 ?_
      refine jv_goto dX5_seekMost_27 (tgt := 34) (by decide) ?_
      refine jv_putI dX5_seekMost_34 flX5_298 rfl (mk hG) rfl rfl ?_
      exact jv_vret dX5_seekMost_37 rfl rfl rfl rfl
    · rw [if_neg hlt] at hfin
      refine ⟨jv_up A q 32 (nI v), v, ?_, hfin, hv, by rw [jv_up_def, if_pos rfl, if_pos rfl], fun c hc hb => by rw [jv_up_ne _ _ _ (by omega)]; exact hP c hc hb, fun b b1 b2 => by rw [jv_up_ne _ _ _ b1]; exact hF.1 b b1 b2, fun j hj => by rw [jv_up_def, if_pos rfl, if_neg hj]; exact hF.2 j hj⟩
      refine jv_enter okX5_seekMost (L := [.ref q, .int (nI k), .int (nI p), .int x, .null]) rfl (Nat.le_of_ble_eq_true rfl) ?_
      refine jv_iload2 dX5_seekMost_0 ?_
      refine jv_aload0 dX5_seekMost_1 ?_
      refine jv_getI dX5_seekMost_2 flX5_80 rfl (mk hG) hch ?_
      refine jv_icmp_neN dX5_seekMost_5 (tgt := 38) (by decide) (by omega) (by omega) (fun hc5 => by omega) (fun hc5 => ?_)
      refine jv_aload0 dX5_seekMost_8 ?_
      refine jv_iload1 dX5_seekMost_9 ?_
      refine jv_v11 dX5_seekMost_10 okX5_valueOf inX5_valueOf seX5_valueOf mlX5_278 (ci := 5) (T := TX5) (N := 35) rfl (mk hG) cv (by omega) (Nat.le_of_ble_eq_true rfl) ?_
      refine jv_istore4 dX5_seekMost_13 rfl ?_
      refine jv_aload0 dX5_seekMost_15 ?_
      refine jv_iload4 dX5_seekMost_16 ?_
      refine jv_aload0 dX5_seekMost_18 ?_
      refine jv_getI dX5_seekMost_19 flX5_298 rfl (mk hG) hmv ?_
      refine jv_icmp_leN dX5_seekMost_22 (tgt := 30) (by decide) (by omega) (by omega) (fun hc22 => ?_) (fun hc22 => by omega)
      refine jv_aload0 dX5_seekMost_30 ?_
      refine jv_getI dX5_seekMost_31 flX5_298 rfl (mk hG) hmv ?_
      refine jv_putI dX5_seekMost_34 flX5_298 rfl (mk hG) rfl rfl ?_
      exact jv_vret dX5_seekMost_37 rfl rfl rfl rfl
  | succ f ihf =>
    intro p x w A v b1 b2 hsk hF hP hmv hv
    by_cases hp : p < Y 10 0
    · have loop : ∀ (m c y : Nat) (A : jv_I), Y 10 0 + 1 ≤ c + m → c ≤ Y 10 0 → ot_soj Y (ot_side Y k) (ot_bit x) p w v c y → y ≤ 1980 → A q 32 = nI y → (∀ c, c < Y 10 0 → ot_bit x c = true → A (q + 19) c = nI (w c)) → ot_mq q I A → ∃ (A2 : jv_I) (v2 : Nat), jv_V (f + 1 + 8) mX5_seekMost 41 [.ref q, .int (nI k), .int (nI p), .int x, .int (nI c)] [] G A J none G A2 J ∧ ot_sok Y (ot_side Y k) (ot_bit x) w v v2 ∧ v2 ≤ 1980 ∧ A2 q 32 = nI v2 ∧ (∀ c, c < Y 10 0 → ot_bit x c = true → A2 (q + 19) c = nI (w c)) ∧ ot_mq q I A2 := by
        intro m
        induction m with
        | zero => intro c y A q1 q2; omega
        | succ m ih =>
          intro c y A q1 q2 hso hy hmv hP hF
          have hch : A q 9 = nI (Y 10 0) := (hF.2 9 (by decide)).trans (mi_children hR)
          by_cases hc : c < Y 10 0
          · by_cases hb : ot_bit x c = true
            · obtain ⟨A2, v2, hV, hQ⟩ := ih (c + 1) y A (by omega) (by omega) (ot_soj_skip hso hb) hy hmv hP hF
              refine ⟨A2, v2, ?_, hQ⟩
              refine jv_iload4 dX5_seekMost_41 ?_
              refine jv_aload0 dX5_seekMost_43 ?_
              refine jv_getI dX5_seekMost_44 flX5_80 rfl (mk hG) hch ?_
              refine jv_icmp_geN dX5_seekMost_47 (tgt := 87) (by decide) (by omega) (by omega) (fun hc47 => by omega) (fun hc47 => ?_)
              refine jv_iload3 dX5_seekMost_50 ?_
              refine jv_iload4 dX5_seekMost_51 ?_
              refine jv_s21 dX5_seekMost_53 okX5_has stX5_has mlX5_281 (om_has x (by omega)) (by omega) (Nat.le_of_ble_eq_true rfl) ?_
              refine jv_if_neB dX5_seekMost_56 (tgt := 81) (by decide) (fun h56 => ?_) (fun h56 => absurd hb h56)
              refine jv_iinc4N dX5_seekMost_81 rfl ?_
              refine jv_goto dX5_seekMost_84 (tgt := 41) (by decide) ?_
              exact hV
            · have hb0 : ot_bit x c = false := by simpa using hb
              have ex := ot_bit_also (x := x) (show c < 14 by omega)
              have hsk2 := ot_sk_step hsk hc hb0
              rw [← ex] at hsk2
              obtain ⟨A3, y3, c1, s1, hy3, hm3, hP3, hF3⟩ := ihf (p + 1) (x ||| (nI 1 <<< (nI c &&& 31))) (ot_set1 w c p) (jv_up A (q + 19) c (nI p)) y (by omega) (by omega) hsk2 ⟨fun b h1 h2 => by rw [jv_up_ne _ _ _ h2]; exact hF.1 b h1 h2, fun j hj => by rw [jv_up_ne _ _ _ (by omega)]; exact hF.2 j hj⟩ (fun e he hbe => by
                rw [jv_up_def, if_pos rfl]
                unfold ot_set1
                by_cases ee : e = c
                · rw [if_pos ee, if_pos ee]
                · rw [if_neg ee, if_neg ee]
                  rw [ex] at hbe
                  unfold ot_also at hbe
                  exact hP e he (by simpa [ee] using hbe)) (by rw [jv_up_ne _ _ _ (by omega)]; exact hmv) hy
              rw [ex] at s1 hP3
              obtain ⟨A2, v2, hV, hQ⟩ := ih (c + 1) y3 A3 (by omega) (by omega) (ot_soj_next hso hb0 (fun _ _ _ => rfl) s1) hy3 hm3 (fun e he hbe => by
                rw [hP3 e he (by unfold ot_also; rw [hbe]; rfl)]
                unfold ot_set1
                rw [if_neg (fun z => by rw [z, hb0] at hbe; cases hbe)]) hF3
              refine ⟨A2, v2, ?_, hQ⟩
              refine jv_iload4 dX5_seekMost_41 ?_
              refine jv_aload0 dX5_seekMost_43 ?_
              refine jv_getI dX5_seekMost_44 flX5_80 rfl (mk hG) hch ?_
              refine jv_icmp_geN dX5_seekMost_47 (tgt := 87) (by decide) (by omega) (by omega) (fun hc47 => by omega) (fun hc47 => ?_)
              refine jv_iload3 dX5_seekMost_50 ?_
              refine jv_iload4 dX5_seekMost_51 ?_
              refine jv_s21 dX5_seekMost_53 okX5_has stX5_has mlX5_281 (om_has x (by omega)) (by omega) (Nat.le_of_ble_eq_true rfl) ?_
              refine jv_if_neB dX5_seekMost_56 (tgt := 81) (by decide) (fun h56 => absurd h56 hb) (fun h56 => ?_)
              refine jv_aload0 dX5_seekMost_59 ?_
              refine jv_getR dX5_seekMost_60 flX5_43 rfl (mk hG) (mr_place hG) ?_
              refine jv_iload4 dX5_seekMost_63 ?_
              refine jv_iload2 dX5_seekMost_65 ?_
              refine jv_iastN dX5_seekMost_66 (mk_place hG) (by omega) (by decide) ?_
              refine jv_aload0 dX5_seekMost_67 ?_
              refine jv_iload1 dX5_seekMost_68 ?_
              refine jv_iload2 dX5_seekMost_69 ?_
              refine jv_iconst dX5_seekMost_70 jv_c_iconst_1 ?_
              refine jv_iaddN dX5_seekMost_71 ?_
              refine jv_iload3 dX5_seekMost_72 ?_
              refine jv_iconst dX5_seekMost_73 jv_c_iconst_1 ?_
              refine jv_iload4 dX5_seekMost_74 ?_
              refine jv_ishl dX5_seekMost_76 ?_
              refine jv_ior dX5_seekMost_77 ?_
              refine jv_v30 dX5_seekMost_78 okX5_seekMost inX5_seekMost seX5_seekMost mlX5_301 (ci := 5) (T := TX5) (N := 35) rfl (mk hG) c1 (by omega) (Nat.le_of_ble_eq_true rfl) ?_
              refine jv_iinc4N dX5_seekMost_81 rfl ?_
              refine jv_goto dX5_seekMost_84 (tgt := 41) (by decide) ?_
              exact hV
          · refine ⟨A, y, ?_, ot_sok_of hsk hp (by rw [← show c = Y 10 0 by omega]; exact hso), hy, hmv, hP, hF⟩
            refine jv_iload4 dX5_seekMost_41 ?_
            refine jv_aload0 dX5_seekMost_43 ?_
            refine jv_getI dX5_seekMost_44 flX5_80 rfl (mk hG) hch ?_
            refine jv_icmp_geN dX5_seekMost_47 (tgt := 87) (by decide) (by omega) (by omega) (fun hc47 => ?_) (fun hc47 => by omega)
            exact jv_vret dX5_seekMost_87 rfl rfl rfl rfl
      have hch : A q 9 = nI (Y 10 0) := (hF.2 9 (by decide)).trans (mi_children hR)
      obtain ⟨A2, v2, hV, hQ⟩ := loop (Y 10 0 + 1) 0 v A (by omega) (by omega) (ot_soj_0 _ _ _ _ _ _) hv hmv hP hF
      refine ⟨A2, v2, ?_, hQ⟩
      refine jv_enter okX5_seekMost (L := [.ref q, .int (nI k), .int (nI p), .int x, .null]) rfl (Nat.le_of_ble_eq_true rfl) ?_
      refine jv_iload2 dX5_seekMost_0 ?_
      refine jv_aload0 dX5_seekMost_1 ?_
      refine jv_getI dX5_seekMost_2 flX5_80 rfl (mk hG) hch ?_
      refine jv_icmp_neN dX5_seekMost_5 (tgt := 38) (by decide) (by omega) (by omega) (fun hc5 => ?_) (fun hc5 => by omega)
      refine jv_iconst dX5_seekMost_38 jv_c_iconst_0 ?_
      refine jv_istore4 dX5_seekMost_39 rfl ?_
      exact hV
    · skip
      have hsk2 := hsk
      rw [show p = Y 10 0 by omega] at hsk2
      have hl := ot_sk_leaf hsk2
      have hRw := ot_MR_seek hR hF (fun c hc => hP c hc (hl.1 c hc))
      have hWw := ot_YW_places hW hl.2.1 hl.2.2.1
      have cv := om_valueOf (J := J) hG hRw hWw (k := k) hk
      have hvl := ot_value_le hWw k
      have hfin := ot_sok_leaf hW (v := v) hsk2
      rw [ot_value_put] at cv hvl
      have hch : A q 9 = nI (Y 10 0) := (hF.2 9 (by decide)).trans (mi_children hR)
      by_cases hlt : v < ot_valS Y (fun c => ot_side Y k (w c))
      · rw [if_pos hlt] at hfin
        refine ⟨jv_up A q 32 (nI (ot_valS Y (fun c => ot_side Y k (w c)))), ot_valS Y (fun c => ot_side Y k (w c)), ?_, hfin, hvl, by rw [jv_up_def, if_pos rfl, if_pos rfl], fun c hc hb => by rw [jv_up_ne _ _ _ (by omega)]; exact hP c hc hb, fun b b1 b2 => by rw [jv_up_ne _ _ _ b1]; exact hF.1 b b1 b2, fun j hj => by rw [jv_up_def, if_pos rfl, if_neg hj]; exact hF.2 j hj⟩
        refine jv_enter okX5_seekMost (L := [.ref q, .int (nI k), .int (nI p), .int x, .null]) rfl (Nat.le_of_ble_eq_true rfl) ?_
        refine jv_iload2 dX5_seekMost_0 ?_
        refine jv_aload0 dX5_seekMost_1 ?_
        refine jv_getI dX5_seekMost_2 flX5_80 rfl (mk hG) hch ?_
        refine jv_icmp_neN dX5_seekMost_5 (tgt := 38) (by decide) (by omega) (by omega) (fun hc5 => by omega) (fun hc5 => ?_)
        refine jv_aload0 dX5_seekMost_8 ?_
        refine jv_iload1 dX5_seekMost_9 ?_
        refine jv_v11 dX5_seekMost_10 okX5_valueOf inX5_valueOf seX5_valueOf mlX5_278 (ci := 5) (T := TX5) (N := 35) rfl (mk hG) cv (by omega) (Nat.le_of_ble_eq_true rfl) ?_
        refine jv_istore4 dX5_seekMost_13 rfl ?_
        refine jv_aload0 dX5_seekMost_15 ?_
        refine jv_iload4 dX5_seekMost_16 ?_
        refine jv_aload0 dX5_seekMost_18 ?_
        refine jv_getI dX5_seekMost_19 flX5_298 rfl (mk hG) hmv ?_
        refine jv_icmp_leN dX5_seekMost_22 (tgt := 30) (by decide) (by omega) (by omega) (fun hc22 => by omega) (fun hc22 => ?_)
        refine jv_iload4 dX5_seekMost_25 ?_
        refine jv_goto dX5_seekMost_27 (tgt := 34) (by decide) ?_
        refine jv_putI dX5_seekMost_34 flX5_298 rfl (mk hG) rfl rfl ?_
        exact jv_vret dX5_seekMost_37 rfl rfl rfl rfl
      · rw [if_neg hlt] at hfin
        refine ⟨jv_up A q 32 (nI v), v, ?_, hfin, hv, by rw [jv_up_def, if_pos rfl, if_pos rfl], fun c hc hb => by rw [jv_up_ne _ _ _ (by omega)]; exact hP c hc hb, fun b b1 b2 => by rw [jv_up_ne _ _ _ b1]; exact hF.1 b b1 b2, fun j hj => by rw [jv_up_def, if_pos rfl, if_neg hj]; exact hF.2 j hj⟩
        refine jv_enter okX5_seekMost (L := [.ref q, .int (nI k), .int (nI p), .int x, .null]) rfl (Nat.le_of_ble_eq_true rfl) ?_
        refine jv_iload2 dX5_seekMost_0 ?_
        refine jv_aload0 dX5_seekMost_1 ?_
        refine jv_getI dX5_seekMost_2 flX5_80 rfl (mk hG) hch ?_
        refine jv_icmp_neN dX5_seekMost_5 (tgt := 38) (by decide) (by omega) (by omega) (fun hc5 => by omega) (fun hc5 => ?_)
        refine jv_aload0 dX5_seekMost_8 ?_
        refine jv_iload1 dX5_seekMost_9 ?_
        refine jv_v11 dX5_seekMost_10 okX5_valueOf inX5_valueOf seX5_valueOf mlX5_278 (ci := 5) (T := TX5) (N := 35) rfl (mk hG) cv (by omega) (Nat.le_of_ble_eq_true rfl) ?_
        refine jv_istore4 dX5_seekMost_13 rfl ?_
        refine jv_aload0 dX5_seekMost_15 ?_
        refine jv_iload4 dX5_seekMost_16 ?_
        refine jv_aload0 dX5_seekMost_18 ?_
        refine jv_getI dX5_seekMost_19 flX5_298 rfl (mk hG) hmv ?_
        refine jv_icmp_leN dX5_seekMost_22 (tgt := 30) (by decide) (by omega) (by omega) (fun hc22 => ?_) (fun hc22 => by omega)
        refine jv_aload0 dX5_seekMost_30 ?_
        refine jv_getI dX5_seekMost_31 flX5_298 rfl (mk hG) hmv ?_
        refine jv_putI dX5_seekMost_34 flX5_298 rfl (mk hG) rfl rfl ?_
        exact jv_vret dX5_seekMost_37 rfl rfl rfl rfl
def ot_rc8 (Y : ot_Y) (k : Int32) : Nat := if 0 ≤ k.toInt ∧ k.toInt < Y 10 1 then (if Y 10 0 ≤ 8 then 0 else 5) else 2
theorem ot_rc8_split {Y : ot_Y} {k : Int32} {motive : Nat → Prop} (h1 : (0 ≤ k.toInt ∧ k.toInt < Y 10 1) → Y 10 0 ≤ 8 → motive 0) (h2 : (0 ≤ k.toInt ∧ k.toInt < Y 10 1) → ¬ Y 10 0 ≤ 8 → motive 5) (h3 : ¬ (0 ≤ k.toInt ∧ k.toInt < Y 10 1) → motive 2) : motive (ot_rc8 Y k) := by
  unfold ot_rc8
  split
  · rename_i a
    split
    · rename_i b; exact h1 a b
    · rename_i b; exact h2 a b
  · rename_i a; exact h3 a
set_option maxRecDepth 20000 in
theorem pc_most {G : jv_Gr} {I : jv_I} {J : jv_J} {Y Z : ot_Y} {E : ot_E} {K : Option ot_Y} (h : ot_C G I J Y Z E K) (k : Int32) : ∃ x : Nat, ((0 ≤ k.toInt ∧ k.toInt < Y 10 1) → Y 10 0 ≤ 8 → ot_isMost Y (ot_side Y (ot_n k)) x) ∧ ot_cc 18 mX4_most [.ref 1, .int k] G I J (ot_ans (ot_rc8 Y k) (nI x)) Y (ot_zr Z (ot_rc8 Y k)) E K := by
  have bn := yw_n h.w
  have bc := yw_c h.w
  have bw := yw_w h.w
  refine ot_rc8_split (motive := fun rc => ∃ x : Nat, ((0 ≤ k.toInt ∧ k.toInt < Y 10 1) → Y 10 0 ≤ 8 → ot_isMost Y (ot_side Y (ot_n k)) x) ∧ ot_cc 18 mX4_most [.ref 1, .int k] G I J (ot_ans rc (nI x)) Y (ot_zr Z rc) E K) (fun hv h8 => ?_) (fun hv h8 => ?_) (fun hv => ?_)
  · obtain ⟨j, hj, rfl⟩ := ot_of hv (by omega)
    rw [ot_n_nI (show j < 2 ^ 30 by omega)]
    obtain ⟨I2, x, hA, hm, _, hF⟩ := oc_greatestValue h hj h8
    refine ⟨x, fun _ _ => hm, ?_⟩
    rw [ot_ans_0]
    refine ⟨I2, J, ?_, ot_C_394041 h hF, fun q hq => ⟨hF q (by omega) (by omega) (by omega), rfl⟩⟩
    refine jv_enter okX4_most (L := [.ref 1, .int (nI j)]) rfl (Nat.le_of_ble_eq_true rfl) ?_
    refine jv_aload0 dX4_most_0 ?_
    refine jv_getR dX4_most_1 flX4_10 rfl (ck h.g) (cr_now h.g) ?_
    refine jv_iload1 dX4_most_4 ?_
    refine jv_v11 dX4_most_5 okX3_hasCount inX3_hasCount seX3_hasCount mlX4_101 (ci := 3) (T := TX3) (N := 15) rfl (yk (cg_now h.g)) (ot_hasCount (cg_now h.g) h.r h.w _) (by decide) (Nat.le_of_ble_eq_true rfl) ?_
    refine jv_if_neB dX4_most_8 (tgt := 18) (by decide) (fun hq8 => ?_) (fun hq8 => absurd hv hq8)
    refine jv_aload0 dX4_most_18 ?_
    refine jv_getR dX4_most_19 flX4_10 rfl (ck h.g) (cr_now h.g) ?_
    refine jv_getI dX4_most_22 flX4_128 rfl (yk (cg_now h.g)) (yi_children h.r) ?_
    refine jv_bipush dX4_most_25 jv_c_bipush_8 ?_
    refine jv_icmp_leN dX4_most_27 (tgt := 37) (by decide) (by omega) (by omega) (fun hc27 => ?_) (fun hc27 => by omega)
    refine jv_aload0 dX4_most_37 ?_
    refine jv_getR dX4_most_38 flX4_27 rfl (ck h.g) (cr_finder h.g) ?_
    refine jv_iload1 dX4_most_41 ?_
    refine jv_v11 dX4_most_42 okX0_greatestValue inX0_greatestValue seX0_greatestValue mlX4_250 (ci := 0) (T := TX0) (N := 6) rfl (fk h.g) hA (by decide) (Nat.le_of_ble_eq_true rfl) ?_
    exact jv_iret dX4_most_45 rfl rfl rfl rfl rfl
  · refine ⟨0, fun _ h => absurd h h8, ?_⟩
    obtain ⟨I2, hC, h2, h3⟩ := oc_refuse5 h
    refine ⟨I2, J, ?_, h2, h3⟩
    refine jv_enter okX4_most (L := [.ref 1, .int k]) rfl (Nat.le_of_ble_eq_true rfl) ?_
    refine jv_aload0 dX4_most_0 ?_
    refine jv_getR dX4_most_1 flX4_10 rfl (ck h.g) (cr_now h.g) ?_
    refine jv_iload1 dX4_most_4 ?_
    refine jv_v11 dX4_most_5 okX3_hasCount inX3_hasCount seX3_hasCount mlX4_101 (ci := 3) (T := TX3) (N := 15) rfl (yk (cg_now h.g)) (ot_hasCount (cg_now h.g) h.r h.w _) (by decide) (Nat.le_of_ble_eq_true rfl) ?_
    refine jv_if_neB dX4_most_8 (tgt := 18) (by decide) (fun hq8 => ?_) (fun hq8 => absurd hv hq8)
    refine jv_aload0 dX4_most_18 ?_
    refine jv_getR dX4_most_19 flX4_10 rfl (ck h.g) (cr_now h.g) ?_
    refine jv_getI dX4_most_22 flX4_128 rfl (yk (cg_now h.g)) (yi_children h.r) ?_
    refine jv_bipush dX4_most_25 jv_c_bipush_8 ?_
    refine jv_icmp_leN dX4_most_27 (tgt := 37) (by decide) (by omega) (by omega) (fun hc27 => by omega) (fun hc27 => ?_)
    refine jv_aload0 dX4_most_30 ?_
    refine jv_bipush dX4_most_31 jv_c_bipush_m5 ?_
    refine jv_v11 dX4_most_33 okX4_refuse inX4_refuse seX4_refuse mlX4_61 (ci := 4) (T := TX4) (N := 8) rfl (ck h.g) hC (by decide) (Nat.le_of_ble_eq_true rfl) ?_
    exact jv_iret dX4_most_36 rfl rfl rfl rfl rfl
  · refine ⟨0, fun h => absurd h hv, ?_⟩
    obtain ⟨I2, hC, h2, h3⟩ := oc_refuse2 h
    refine ⟨I2, J, ?_, h2, h3⟩
    refine jv_enter okX4_most (L := [.ref 1, .int k]) rfl (Nat.le_of_ble_eq_true rfl) ?_
    refine jv_aload0 dX4_most_0 ?_
    refine jv_getR dX4_most_1 flX4_10 rfl (ck h.g) (cr_now h.g) ?_
    refine jv_iload1 dX4_most_4 ?_
    refine jv_v11 dX4_most_5 okX3_hasCount inX3_hasCount seX3_hasCount mlX4_101 (ci := 3) (T := TX3) (N := 15) rfl (yk (cg_now h.g)) (ot_hasCount (cg_now h.g) h.r h.w _) (by decide) (Nat.le_of_ble_eq_true rfl) ?_
    refine jv_if_neB dX4_most_8 (tgt := 18) (by decide) (fun hq8 => absurd hq8 hv) (fun hq8 => ?_)
    refine jv_aload0 dX4_most_11 ?_
    refine jv_bipush dX4_most_12 jv_c_bipush_m2 ?_
    refine jv_v11 dX4_most_14 okX4_refuse inX4_refuse seX4_refuse mlX4_61 (ci := 4) (T := TX4) (N := 8) rfl (ck h.g) hC (by decide) (Nat.le_of_ble_eq_true rfl) ?_
    exact jv_iret dX4_most_17 rfl rfl rfl rfl rfl
set_option maxRecDepth 20000 in
theorem pm_most {G : jv_Gr} {I : jv_I} {J : jv_J} {Y Z : ot_Y} {E : ot_E} {K : Option ot_Y} (h : ot_M G I J Y Z E K) (k : Int32) : ∃ x : Nat, ((0 ≤ k.toInt ∧ k.toInt < Y 10 1) → Y 10 0 ≤ 8 → ot_isMost Y (ot_side Y (ot_n k)) x) ∧ ot_mm 18 mX5_most [.ref 64, .int k] G I J (ot_ans (ot_rc8 Y k) (nI x)) Y (ot_zr Z (ot_rc8 Y k)) E K := by
  have bn := yw_n h.w
  have bc := yw_c h.w
  have bw := yw_w h.w
  refine ot_rc8_split (motive := fun rc => ∃ x : Nat, ((0 ≤ k.toInt ∧ k.toInt < Y 10 1) → Y 10 0 ≤ 8 → ot_isMost Y (ot_side Y (ot_n k)) x) ∧ ot_mm 18 mX5_most [.ref 64, .int k] G I J (ot_ans rc (nI x)) Y (ot_zr Z rc) E K) (fun hv h8 => ?_) (fun hv h8 => ?_) (fun hv => ?_)
  · obtain ⟨j, hj, rfl⟩ := ot_of hv (by omega)
    rw [ot_n_nI (show j < 2 ^ 30 by omega)]
    obtain ⟨G3, I3, J3, q, hFr, hM, hq, hqq, hqG, hqR, hql, hqx⟩ := om_fresh h
    have hFn : jv_n G3 < 1000000 := by have := hM.n; unfold ot_NM at this; omega
    have hGn := ot_M_n h
    have hsk : ot_sk (Y 10 0) (ot_side Y j) (ot_bit (nI 0)) 0 (Y 2) := by
      rw [show ot_bit (nI 0) = fun _ => false from funext (fun b => ot_bit_0 b)]
      exact ot_sk_0 _ _ _
    obtain ⟨I4, x, cS0, hs, hx, hm4, _, hF4⟩ := om_seek (J := J3) hqG hqR h.w hj (Y 10 0) 0 (nI 0) (Y 2) (jv_up I3 q 32 (nI 0)) 0 (by omega) (by omega) hsk ⟨fun b h1 _ => jv_up_ne _ _ _ h1, fun b hb => by rw [jv_up_def, if_pos rfl, if_neg hb]⟩ (fun c _ hb => by rw [ot_bit_0] at hb; cases hb) (by rw [jv_up_def, if_pos rfl, if_pos rfl]) (by omega)
    have cS := cS0.mono (show Y 10 0 + 8 ≤ 16 by omega)
    have hf : ot_fr I3 I4 q (q + 29) := fun u hu => hF4.1 u (by omega) (by omega)
    have hT := ot_M_try hM hq (by omega) hf (fun _ _ => rfl)
    have hl3 := hql.tr (ot_lo.fr (J := J3) hf (by omega))
    refine ⟨x, fun _ _ => ot_isMost_m (fun c _ => ot_bit_0 c) hs, ?_⟩
    rw [ot_ans_0]
    refine ⟨G3, I4, J3, ?_, hT, hl3, hqx⟩
    refine jv_enter okX5_most (L := [.ref 64, .int (nI j), .null]) rfl (Nat.le_of_ble_eq_true rfl) ?_
    refine jv_aload0 dX5_most_0 ?_
    refine jv_iload1 dX5_most_1 ?_
    refine jv_v11 dX5_most_2 okX5_isCount inX5_isCount seX5_isCount mlX5_94 (ci := 5) (T := TX5) (N := 35) rfl (mk h.g) (om_isCount h.g h.r h.w _) (by decide) (Nat.le_of_ble_eq_true rfl) ?_
    refine jv_if_neB dX5_most_5 (tgt := 15) (by decide) (fun hq8 => ?_) (fun hq8 => absurd hv hq8)
    refine jv_aload0 dX5_most_15 ?_
    refine jv_getI dX5_most_16 flX5_80 rfl (mk h.g) (mi_children h.r) ?_
    refine jv_bipush dX5_most_19 jv_c_bipush_8 ?_
    refine jv_icmp_leN dX5_most_21 (tgt := 31) (by decide) (by omega) (by omega) (fun hc21 => ?_) (fun hc21 => by omega)
    refine jv_aload0 dX5_most_31 ?_
    refine jv_callV (a := 64) (As := []) (rest := []) dX5_most_32 okX5_fresh inX5_fresh seX5_fresh mlX5_245 (ci := 5) (T := TX5) (N := 35) rfl (mk h.g) hFr (by decide) rfl rfl (Nat.le_of_ble_eq_true rfl) (.inr ⟨(ot_ow_r (by omega) (ot_ow_i (ot_ow_n ot_ow_nil))), ot_ow_nil, hFn⟩) ?_
    refine jv_astore2 dX5_most_35 rfl ?_
    refine jv_aload2 dX5_most_36 ?_
    refine jv_iconst dX5_most_37 jv_c_iconst_0 ?_
    refine jv_putI dX5_most_38 flX5_298 rfl (mk hqG) rfl rfl ?_
    refine jv_aload2 dX5_most_41 ?_
    refine jv_iload1 dX5_most_42 ?_
    refine jv_iconst dX5_most_43 jv_c_iconst_0 ?_
    refine jv_iconst dX5_most_44 jv_c_iconst_0 ?_
    refine jv_v30 dX5_most_45 okX5_seekMost inX5_seekMost seX5_seekMost mlX5_301 (ci := 5) (T := TX5) (N := 35) rfl (mk hqG) cS (by decide) (Nat.le_of_ble_eq_true rfl) ?_
    refine jv_aload2 dX5_most_48 ?_
    refine jv_getI dX5_most_49 flX5_298 rfl (mk hqG) hm4 ?_
    exact jv_iret dX5_most_52 rfl rfl rfl rfl rfl
  · refine ⟨0, fun _ h => absurd h h8, ?_⟩
    obtain ⟨I2, hC, h2, h3⟩ := om_refuse5 h
    refine ⟨G, I2, J, ?_, h2, h3, ot_gx.rf⟩
    refine jv_enter okX5_most (L := [.ref 64, .int k, .null]) rfl (Nat.le_of_ble_eq_true rfl) ?_
    refine jv_aload0 dX5_most_0 ?_
    refine jv_iload1 dX5_most_1 ?_
    refine jv_v11 dX5_most_2 okX5_isCount inX5_isCount seX5_isCount mlX5_94 (ci := 5) (T := TX5) (N := 35) rfl (mk h.g) (om_isCount h.g h.r h.w _) (by decide) (Nat.le_of_ble_eq_true rfl) ?_
    refine jv_if_neB dX5_most_5 (tgt := 15) (by decide) (fun hq8 => ?_) (fun hq8 => absurd hv hq8)
    refine jv_aload0 dX5_most_15 ?_
    refine jv_getI dX5_most_16 flX5_80 rfl (mk h.g) (mi_children h.r) ?_
    refine jv_bipush dX5_most_19 jv_c_bipush_8 ?_
    refine jv_icmp_leN dX5_most_21 (tgt := 31) (by decide) (by omega) (by omega) (fun hc21 => by omega) (fun hc21 => ?_)
    refine jv_aload0 dX5_most_24 ?_
    refine jv_bipush dX5_most_25 jv_c_bipush_m5 ?_
    refine jv_v11 dX5_most_27 okX5_refuse inX5_refuse seX5_refuse mlX5_104 (ci := 5) (T := TX5) (N := 35) rfl (mk h.g) hC (by decide) (Nat.le_of_ble_eq_true rfl) ?_
    exact jv_iret dX5_most_30 rfl rfl rfl rfl rfl
  · refine ⟨0, fun h => absurd h hv, ?_⟩
    obtain ⟨I2, hC, h2, h3⟩ := om_refuse2 h
    refine ⟨G, I2, J, ?_, h2, h3, ot_gx.rf⟩
    refine jv_enter okX5_most (L := [.ref 64, .int k, .null]) rfl (Nat.le_of_ble_eq_true rfl) ?_
    refine jv_aload0 dX5_most_0 ?_
    refine jv_iload1 dX5_most_1 ?_
    refine jv_v11 dX5_most_2 okX5_isCount inX5_isCount seX5_isCount mlX5_94 (ci := 5) (T := TX5) (N := 35) rfl (mk h.g) (om_isCount h.g h.r h.w _) (by decide) (Nat.le_of_ble_eq_true rfl) ?_
    refine jv_if_neB dX5_most_5 (tgt := 15) (by decide) (fun hq8 => absurd hq8 hv) (fun hq8 => ?_)
    refine jv_aload0 dX5_most_8 ?_
    refine jv_bipush dX5_most_9 jv_c_bipush_m2 ?_
    refine jv_v11 dX5_most_11 okX5_refuse inX5_refuse seX5_refuse mlX5_104 (ci := 5) (T := TX5) (N := 35) rfl (mk h.g) hC (by decide) (Nat.le_of_ble_eq_true rfl) ?_
    exact jv_iret dX5_most_14 rfl rfl rfl rfl rfl
