/-! ===== the reference: changes of its state ===== -/
theorem ot_MR_places {I I2 : jv_I} {m : Nat} {Y : ot_Y} {f : Nat → Nat} (h : ot_MR I m Y) (hq : ∀ q, q ≠ m + 19 → I2 q = I q) (hw : ∀ c, c < Y 10 0 → I2 (m + 19) c = nI (f c)) : ot_MR I2 m (ot_put Y 2 f) := by
  obtain ⟨h1, h2, h3, h4⟩ := h
  refine ⟨?_, fun c hc => ?_, fun k hk => ?_, fun i hi => ?_⟩
  · rw [hq m (by omega)]; exact h1
  · have := h2 c hc
    refine ⟨?_, ?_, hw c hc⟩
    · rw [hq (m + 17) (by omega)]; exact this.1
    · rw [hq (m + 18) (by omega)]; exact this.2.1
  · rw [hq (m + 20) (by omega), hq (m + 21) (by omega), hq (m + 22) (by omega)]; exact h3 k hk
  · rw [hq (m + 23) (by omega), hq (m + 24) (by omega), hq (m + 25) (by omega), hq (m + 26) (by omega)]; exact h4 i hi
set_option maxRecDepth 20000 in
theorem om_swaps0 {G : jv_Gr} {I : jv_I} {J : jv_J} {m : Nat} {Y : ot_Y} (hG : ot_MG G m) (hR : ot_MR I m Y) (hW : ot_YW Y) {a b : Nat} (ha : a < Y 10 0) (hb : b < Y 10 0) : jv_C 1 mX5_swaps [.ref m, .int (nI a), .int (nI b)] G I J none G (jv_up (jv_up I (m + 19) a (nI (Y 2 b))) (m + 19) b (nI (Y 2 a))) J := by
  refine jv_enter okX5_swaps (L := [.ref m, .int (nI a), .int (nI b), .null]) rfl (Nat.le_of_ble_eq_true rfl) ?_
  have bn := yw_n hW
  have bc := yw_c hW
  have bw := yw_w hW
  refine jv_aload0 dX5_swaps_0 ?_
  refine jv_getR dX5_swaps_1 flX5_43 rfl (mk hG) (mr_place hG) ?_
  refine jv_iload1 dX5_swaps_4 ?_
  refine jv_ialdN dX5_swaps_5 (mk_place hG) (by omega) (by decide) (me_place hR (by omega)) ?_
  refine jv_istore3 dX5_swaps_6 rfl ?_
  refine jv_aload0 dX5_swaps_7 ?_
  refine jv_getR dX5_swaps_8 flX5_43 rfl (mk hG) (mr_place hG) ?_
  refine jv_iload1 dX5_swaps_11 ?_
  refine jv_aload0 dX5_swaps_12 ?_
  refine jv_getR dX5_swaps_13 flX5_43 rfl (mk hG) (mr_place hG) ?_
  refine jv_iload2 dX5_swaps_16 ?_
  refine jv_ialdN dX5_swaps_17 (mk_place hG) (by omega) (by decide) (me_place hR (by omega)) ?_
  refine jv_iastN dX5_swaps_18 (mk_place hG) (by omega) (by decide) ?_
  refine jv_aload0 dX5_swaps_19 ?_
  refine jv_getR dX5_swaps_20 flX5_43 rfl (mk hG) (mr_place hG) ?_
  refine jv_iload2 dX5_swaps_23 ?_
  refine jv_iload3 dX5_swaps_24 ?_
  refine jv_iastN dX5_swaps_25 (mk_place hG) (by omega) (by decide) ?_
  exact jv_vret dX5_swaps_26 rfl rfl rfl rfl
theorem om_swaps {G : jv_Gr} {I : jv_I} {J : jv_J} {m : Nat} {Y : ot_Y} (hG : ot_MG G m) (hR : ot_MR I m Y) (hW : ot_YW Y) {a b : Nat} (ha : a < Y 10 0) (hb : b < Y 10 0) : ∃ I2, jv_C 1 mX5_swaps [.ref m, .int (nI a), .int (nI b)] G I J none G I2 J ∧ ot_MR I2 m (ot_swap Y a b) ∧ ∀ q, q ≠ m + 19 → I2 q = I q := by
  refine ⟨_, om_swaps0 hG hR hW ha hb, ot_MR_places hR (fun q h => ?_) (fun c hc => ?_), fun q h => ?_⟩
  · rw [jv_up_ne _ _ _ h, jv_up_ne _ _ _ h]
  · have e := me_place hR hc
    unfold ot_swapF
    rw [jv_up_def, if_pos rfl]
    by_cases c1 : c = b
    · rw [if_pos c1, if_pos c1]
    · rw [if_neg c1, if_neg c1, jv_up_def, if_pos rfl]
      by_cases c2 : c = a
      · rw [if_pos c2, if_pos c2]
      · rw [if_neg c2, if_neg c2]; exact e
  · rw [jv_up_ne _ _ _ h, jv_up_ne _ _ _ h]
set_option maxRecDepth 20000 in
theorem om_moves {G : jv_Gr} {I : jv_I} {J : jv_J} {m : Nat} {Y : ot_Y} (hG : ot_MG G m) (hR : ot_MR I m Y) (hW : ot_YW Y) {c p : Nat} (hc : c < Y 10 0) (hp : p < Y 10 0) : ∃ I2, jv_C 1 mX5_moves [.ref m, .int (nI c), .int (nI p)] G I J none G I2 J ∧ ot_MR I2 m (ot_move Y c p) ∧ ∀ q, q ≠ m + 19 → I2 q = I q := by
  have bn := yw_n hW
  have bc := yw_c hW
  have bw := yw_w hW
  have qc := (yw_child hW hc).2.2.2
  have loop : ∀ (n i : Nat) (A : jv_I), Y 10 0 + 1 ≤ i + n → i ≤ Y 10 0 → (∀ e, e < Y 10 0 → A (m + 19) e = nI (if e < i then (fun e => if Y 2 c < Y 2 e ∧ Y 2 e ≤ p then Y 2 e - 1 else if Y 2 e < Y 2 c ∧ p ≤ Y 2 e then Y 2 e + 1 else Y 2 e) e else Y 2 e)) → (∀ q, q ≠ m + 19 → A q = I q) → ∃ I2, jv_V 1 mX5_moves 10 [.ref m, .int (nI c), .int (nI p), .int (nI (Y 2 c)), .int (nI i)] [] G A J none G I2 J ∧ ot_MR I2 m (ot_move Y c p) ∧ ∀ q, q ≠ m + 19 → I2 q = I q := by
    intro n
    induction n with
    | zero => intro i A b1 b2; omega
    | succ n ih =>
      intro i A b1 b2 hv hF
      have hn : A m 9 = nI (Y 10 0) := by rw [hF m (by omega)]; exact mi_children hR
      by_cases hi : i < Y 10 0
      · have qi := (yw_child hW hi).2.2.2
        have hpl : A (m + 19) i = nI (Y 2 i) := by rw [hv i hi, if_neg (by omega)]
        by_cases k1 : Y 2 c < Y 2 i ∧ Y 2 i ≤ p
        · obtain ⟨I2, hV, hR2, hF2⟩ := ih (i + 1) (jv_up A (m + 19) i (nI (Y 2 i - 1))) (by omega) (by omega) (fun e he => by
            rw [jv_up_def, if_pos rfl]
            by_cases h : e = i
            · subst h
              rw [if_pos rfl, if_pos (by omega)]
              show _ = nI (if _ then _ else _)
              rw [if_pos k1]
            · rw [if_neg h, hv e he]
              by_cases h2 : e < i
              · rw [if_pos h2, if_pos (by omega)]
              · rw [if_neg h2, if_neg (by omega)]) (fun q hq => by rw [jv_up_ne _ _ _ hq]; exact hF q hq)
          refine ⟨I2, ?_, hR2, hF2⟩
          refine jv_iload4 dX5_moves_10 ?_
          refine jv_aload0 dX5_moves_12 ?_
          refine jv_getI dX5_moves_13 flX5_80 rfl (mk hG) hn ?_
          refine jv_icmp_geN dX5_moves_16 (tgt := 94) (by decide) (by omega) (by omega) (fun h16 => by omega) (fun h16 => ?_)
          refine jv_aload0 dX5_moves_19 ?_
          refine jv_getR dX5_moves_20 flX5_43 rfl (mk hG) (mr_place hG) ?_
          refine jv_iload4 dX5_moves_23 ?_
          refine jv_ialdN dX5_moves_25 (mk_place hG) (by omega) (by decide) hpl ?_
          refine jv_iload3 dX5_moves_26 ?_
          refine jv_icmp_leN dX5_moves_27 (tgt := 55) (by decide) (by omega) (by omega) (fun h27 => by omega) (fun h27 => ?_)
          refine jv_aload0 dX5_moves_30 ?_
          refine jv_getR dX5_moves_31 flX5_43 rfl (mk hG) (mr_place hG) ?_
          refine jv_iload4 dX5_moves_34 ?_
          refine jv_ialdN dX5_moves_36 (mk_place hG) (by omega) (by decide) hpl ?_
          refine jv_iload2 dX5_moves_37 ?_
          refine jv_icmp_gtN dX5_moves_38 (tgt := 55) (by decide) (by omega) (by omega) (fun h38 => by omega) (fun h38 => ?_)
          refine jv_aload0 dX5_moves_41 ?_
          refine jv_getR dX5_moves_42 flX5_43 rfl (mk hG) (mr_place hG) ?_
          refine jv_iload4 dX5_moves_45 ?_
          refine jv_dup2 dX5_moves_47 rfl rfl ?_
          refine jv_ialdN dX5_moves_48 (mk_place hG) (by omega) (by decide) hpl ?_
          refine jv_iconst dX5_moves_49 jv_c_iconst_1 ?_
          refine jv_isubN dX5_moves_50 (by omega) ?_
          refine jv_iastN dX5_moves_51 (mk_place hG) (by omega) (by decide) ?_
          refine jv_goto dX5_moves_52 (tgt := 88) (by decide) ?_
          refine jv_iinc4N dX5_moves_88 rfl ?_
          refine jv_goto dX5_moves_91 (tgt := 10) (by decide) ?_
          exact hV
        · by_cases k2 : Y 2 i < Y 2 c ∧ p ≤ Y 2 i
          · obtain ⟨I2, hV, hR2, hF2⟩ := ih (i + 1) (jv_up A (m + 19) i (nI (Y 2 i + 1))) (by omega) (by omega) (fun e he => by
              rw [jv_up_def, if_pos rfl]
              by_cases h : e = i
              · subst h
                rw [if_pos rfl, if_pos (by omega)]
                show _ = nI (if _ then _ else _)
                rw [if_neg k1, if_pos k2]
              · rw [if_neg h, hv e he]
                by_cases h2 : e < i
                · rw [if_pos h2, if_pos (by omega)]
                · rw [if_neg h2, if_neg (by omega)]) (fun q hq => by rw [jv_up_ne _ _ _ hq]; exact hF q hq)
            refine ⟨I2, ?_, hR2, hF2⟩
            refine jv_iload4 dX5_moves_10 ?_
            refine jv_aload0 dX5_moves_12 ?_
            refine jv_getI dX5_moves_13 flX5_80 rfl (mk hG) hn ?_
            refine jv_icmp_geN dX5_moves_16 (tgt := 94) (by decide) (by omega) (by omega) (fun h16 => by omega) (fun h16 => ?_)
            refine jv_aload0 dX5_moves_19 ?_
            refine jv_getR dX5_moves_20 flX5_43 rfl (mk hG) (mr_place hG) ?_
            refine jv_iload4 dX5_moves_23 ?_
            refine jv_ialdN dX5_moves_25 (mk_place hG) (by omega) (by decide) hpl ?_
            refine jv_iload3 dX5_moves_26 ?_
            refine jv_icmp_leN dX5_moves_27 (tgt := 55) (by decide) (by omega) (by omega) (fun h27 => ?_) (fun h27 => by omega)
            refine jv_aload0 dX5_moves_55 ?_
            refine jv_getR dX5_moves_56 flX5_43 rfl (mk hG) (mr_place hG) ?_
            refine jv_iload4 dX5_moves_59 ?_
            refine jv_ialdN dX5_moves_61 (mk_place hG) (by omega) (by decide) hpl ?_
            refine jv_iload3 dX5_moves_62 ?_
            refine jv_icmp_geN dX5_moves_63 (tgt := 88) (by decide) (by omega) (by omega) (fun h63 => by omega) (fun h63 => ?_)
            refine jv_aload0 dX5_moves_66 ?_
            refine jv_getR dX5_moves_67 flX5_43 rfl (mk hG) (mr_place hG) ?_
            refine jv_iload4 dX5_moves_70 ?_
            refine jv_ialdN dX5_moves_72 (mk_place hG) (by omega) (by decide) hpl ?_
            refine jv_iload2 dX5_moves_73 ?_
            refine jv_icmp_ltN dX5_moves_74 (tgt := 88) (by decide) (by omega) (by omega) (fun h74 => by omega) (fun h74 => ?_)
            refine jv_aload0 dX5_moves_77 ?_
            refine jv_getR dX5_moves_78 flX5_43 rfl (mk hG) (mr_place hG) ?_
            refine jv_iload4 dX5_moves_81 ?_
            refine jv_dup2 dX5_moves_83 rfl rfl ?_
            refine jv_ialdN dX5_moves_84 (mk_place hG) (by omega) (by decide) hpl ?_
            refine jv_iconst dX5_moves_85 jv_c_iconst_1 ?_
            refine jv_iaddN dX5_moves_86 ?_
            refine jv_iastN dX5_moves_87 (mk_place hG) (by omega) (by decide) ?_
            refine jv_iinc4N dX5_moves_88 rfl ?_
            refine jv_goto dX5_moves_91 (tgt := 10) (by decide) ?_
            exact hV
          · obtain ⟨I2, hV, hR2, hF2⟩ := ih (i + 1) A (by omega) (by omega) (fun e he => by
              rw [hv e he]
              by_cases h : e = i
              · subst h
                rw [if_neg (by omega), if_pos (by omega)]
                show _ = nI (if _ then _ else _)
                rw [if_neg k1, if_neg k2]
              · by_cases h2 : e < i
                · rw [if_pos h2, if_pos (by omega)]
                · rw [if_neg h2, if_neg (by omega)]) hF
            refine ⟨I2, ?_, hR2, hF2⟩
            refine jv_iload4 dX5_moves_10 ?_
            refine jv_aload0 dX5_moves_12 ?_
            refine jv_getI dX5_moves_13 flX5_80 rfl (mk hG) hn ?_
            refine jv_icmp_geN dX5_moves_16 (tgt := 94) (by decide) (by omega) (by omega) (fun h16 => by omega) (fun h16 => ?_)
            refine jv_aload0 dX5_moves_19 ?_
            refine jv_getR dX5_moves_20 flX5_43 rfl (mk hG) (mr_place hG) ?_
            refine jv_iload4 dX5_moves_23 ?_
            refine jv_ialdN dX5_moves_25 (mk_place hG) (by omega) (by decide) hpl ?_
            refine jv_iload3 dX5_moves_26 ?_
            refine jv_icmp_leN dX5_moves_27 (tgt := 55) (by decide) (by omega) (by omega) (fun h27 => ?_) (fun h27 => ?_)
            · refine jv_aload0 dX5_moves_55 ?_
              refine jv_getR dX5_moves_56 flX5_43 rfl (mk hG) (mr_place hG) ?_
              refine jv_iload4 dX5_moves_59 ?_
              refine jv_ialdN dX5_moves_61 (mk_place hG) (by omega) (by decide) hpl ?_
              refine jv_iload3 dX5_moves_62 ?_
              refine jv_icmp_geN dX5_moves_63 (tgt := 88) (by decide) (by omega) (by omega) (fun h63 => ?_) (fun h63 => ?_)
              · refine jv_iinc4N dX5_moves_88 rfl ?_
                refine jv_goto dX5_moves_91 (tgt := 10) (by decide) ?_
                exact hV
              · refine jv_aload0 dX5_moves_66 ?_
                refine jv_getR dX5_moves_67 flX5_43 rfl (mk hG) (mr_place hG) ?_
                refine jv_iload4 dX5_moves_70 ?_
                refine jv_ialdN dX5_moves_72 (mk_place hG) (by omega) (by decide) hpl ?_
                refine jv_iload2 dX5_moves_73 ?_
                refine jv_icmp_ltN dX5_moves_74 (tgt := 88) (by decide) (by omega) (by omega) (fun h74 => ?_) (fun h74 => by omega)
                refine jv_iinc4N dX5_moves_88 rfl ?_
                refine jv_goto dX5_moves_91 (tgt := 10) (by decide) ?_
                exact hV
            · refine jv_aload0 dX5_moves_30 ?_
              refine jv_getR dX5_moves_31 flX5_43 rfl (mk hG) (mr_place hG) ?_
              refine jv_iload4 dX5_moves_34 ?_
              refine jv_ialdN dX5_moves_36 (mk_place hG) (by omega) (by decide) hpl ?_
              refine jv_iload2 dX5_moves_37 ?_
              refine jv_icmp_gtN dX5_moves_38 (tgt := 55) (by decide) (by omega) (by omega) (fun h38 => ?_) (fun h38 => by omega)
              refine jv_aload0 dX5_moves_55 ?_
              refine jv_getR dX5_moves_56 flX5_43 rfl (mk hG) (mr_place hG) ?_
              refine jv_iload4 dX5_moves_59 ?_
              refine jv_ialdN dX5_moves_61 (mk_place hG) (by omega) (by decide) hpl ?_
              refine jv_iload3 dX5_moves_62 ?_
              refine jv_icmp_geN dX5_moves_63 (tgt := 88) (by decide) (by omega) (by omega) (fun h63 => ?_) (fun h63 => ?_)
              · refine jv_iinc4N dX5_moves_88 rfl ?_
                refine jv_goto dX5_moves_91 (tgt := 10) (by decide) ?_
                exact hV
              · refine jv_aload0 dX5_moves_66 ?_
                refine jv_getR dX5_moves_67 flX5_43 rfl (mk hG) (mr_place hG) ?_
                refine jv_iload4 dX5_moves_70 ?_
                refine jv_ialdN dX5_moves_72 (mk_place hG) (by omega) (by decide) hpl ?_
                refine jv_iload2 dX5_moves_73 ?_
                refine jv_icmp_ltN dX5_moves_74 (tgt := 88) (by decide) (by omega) (by omega) (fun h74 => ?_) (fun h74 => by omega)
                refine jv_iinc4N dX5_moves_88 rfl ?_
                refine jv_goto dX5_moves_91 (tgt := 10) (by decide) ?_
                exact hV
      · refine ⟨jv_up A (m + 19) c (nI p), ?_, ?_, fun q hq => by rw [jv_up_ne _ _ _ hq]; exact hF q hq⟩
        · refine jv_iload4 dX5_moves_10 ?_
          refine jv_aload0 dX5_moves_12 ?_
          refine jv_getI dX5_moves_13 flX5_80 rfl (mk hG) hn ?_
          refine jv_icmp_geN dX5_moves_16 (tgt := 94) (by decide) (by omega) (by omega) (fun h16 => ?_) (fun h16 => by omega)
          refine jv_aload0 dX5_moves_94 ?_
          refine jv_getR dX5_moves_95 flX5_43 rfl (mk hG) (mr_place hG) ?_
          refine jv_iload1 dX5_moves_98 ?_
          refine jv_iload2 dX5_moves_99 ?_
          refine jv_iastN dX5_moves_100 (mk_place hG) (by omega) (by decide) ?_
          exact jv_vret dX5_moves_101 rfl rfl rfl rfl
        · refine ot_MR_places hR (fun q hq => by rw [jv_up_ne _ _ _ hq]; exact hF q hq) (fun e he => ?_)
          rw [jv_up_def, if_pos rfl]
          unfold ot_moveF
          by_cases h : e = c
          · rw [if_pos h, if_pos h]
          · rw [if_neg h, if_neg h, hv e he, if_pos (by omega)]
  obtain ⟨I2, hV, hR2, hF2⟩ := loop (Y 10 0 + 1) 0 I (by omega) (by omega) (fun e he => by rw [if_neg (by omega)]; exact me_place hR he) (fun _ _ => rfl)
  refine ⟨I2, ?_, hR2, hF2⟩
  refine jv_enter okX5_moves (L := [.ref m, .int (nI c), .int (nI p), .null, .null]) rfl (Nat.le_of_ble_eq_true rfl) ?_
  refine jv_aload0 dX5_moves_0 ?_
  refine jv_getR dX5_moves_1 flX5_43 rfl (mk hG) (mr_place hG) ?_
  refine jv_iload1 dX5_moves_4 ?_
  refine jv_ialdN dX5_moves_5 (mk_place hG) (by omega) (by decide) (me_place hR (by omega)) ?_
  refine jv_istore3 dX5_moves_6 rfl ?_
  refine jv_iconst dX5_moves_7 jv_c_iconst_0 ?_
  refine jv_istore4 dX5_moves_8 rfl ?_
  exact hV
set_option maxRecDepth 20000 in
theorem om_turns {G : jv_Gr} {I : jv_I} {J : jv_J} {m : Nat} {Y : ot_Y} (hG : ot_MG G m) (hR : ot_MR I m Y) (hW : ot_YW Y) : ∃ I2, jv_C 1 mX5_turns [.ref m] G I J none G I2 J ∧ ot_MR I2 m (ot_turn Y) ∧ ∀ q, q ≠ m + 19 → I2 q = I q := by
  have bn := yw_n hW
  have bc := yw_c hW
  have bw := yw_w hW
  have loop : ∀ (n i : Nat) (A : jv_I), Y 10 0 + 1 ≤ i + n → i ≤ Y 10 0 → (∀ e, e < Y 10 0 → A (m + 19) e = nI (if e < i then Y 10 0 - 1 - Y 2 e else Y 2 e)) → (∀ q, q ≠ m + 19 → A q = I q) → ∃ I2, jv_V 1 mX5_turns 2 [.ref m, .int (nI i)] [] G A J none G I2 J ∧ ot_MR I2 m (ot_turn Y) ∧ ∀ q, q ≠ m + 19 → I2 q = I q := by
    intro n
    induction n with
    | zero => intro i A b1 b2; omega
    | succ n ih =>
      intro i A b1 b2 hv hF
      have hn : A m 9 = nI (Y 10 0) := by rw [hF m (by omega)]; exact mi_children hR
      by_cases hi : i < Y 10 0
      · have qi := (yw_child hW hi).2.2.2
        have hpl : A (m + 19) i = nI (Y 2 i) := by rw [hv i hi, if_neg (by omega)]
        obtain ⟨I2, hV, hR2, hF2⟩ := ih (i + 1) (jv_up A (m + 19) i (nI (Y 10 0 - 1 - Y 2 i))) (by omega) (by omega) (fun e he => by
            rw [jv_up_def, if_pos rfl]
            by_cases h : e = i
            · subst h
              rw [if_pos rfl, if_pos (by omega)]
            · rw [if_neg h, hv e he]
              by_cases h2 : e < i
              · rw [if_pos h2, if_pos (by omega)]
              · rw [if_neg h2, if_neg (by omega)]) (fun q hq => by rw [jv_up_ne _ _ _ hq]; exact hF q hq)
        refine ⟨I2, ?_, hR2, hF2⟩
        refine jv_iload1 dX5_turns_2 ?_
        refine jv_aload0 dX5_turns_3 ?_
        refine jv_getI dX5_turns_4 flX5_80 rfl (mk hG) hn ?_
        refine jv_icmp_geN dX5_turns_7 (tgt := 35) (by decide) (by omega) (by omega) (fun h7 => by omega) (fun h7 => ?_)
        refine jv_aload0 dX5_turns_10 ?_
        refine jv_getR dX5_turns_11 flX5_43 rfl (mk hG) (mr_place hG) ?_
        refine jv_iload1 dX5_turns_14 ?_
        refine jv_aload0 dX5_turns_15 ?_
        refine jv_getI dX5_turns_16 flX5_80 rfl (mk hG) hn ?_
        refine jv_iconst dX5_turns_19 jv_c_iconst_1 ?_
        refine jv_isubN dX5_turns_20 (by omega) ?_
        refine jv_aload0 dX5_turns_21 ?_
        refine jv_getR dX5_turns_22 flX5_43 rfl (mk hG) (mr_place hG) ?_
        refine jv_iload1 dX5_turns_25 ?_
        refine jv_ialdN dX5_turns_26 (mk_place hG) (by omega) (by decide) hpl ?_
        refine jv_isubN dX5_turns_27 (by omega) ?_
        refine jv_iastN dX5_turns_28 (mk_place hG) (by omega) (by decide) ?_
        refine jv_iinc1N dX5_turns_29 rfl ?_
        refine jv_goto dX5_turns_32 (tgt := 2) (by decide) ?_
        exact hV
      · refine ⟨A, ?_, ?_, hF⟩
        · refine jv_iload1 dX5_turns_2 ?_
          refine jv_aload0 dX5_turns_3 ?_
          refine jv_getI dX5_turns_4 flX5_80 rfl (mk hG) hn ?_
          refine jv_icmp_geN dX5_turns_7 (tgt := 35) (by decide) (by omega) (by omega) (fun h7 => ?_) (fun h7 => by omega)
          exact jv_vret dX5_turns_35 rfl rfl rfl rfl
        · exact ot_MR_places hR hF (fun e he => by rw [hv e he, if_pos (by omega)])
  obtain ⟨I2, hV, hR2, hF2⟩ := loop (Y 10 0 + 1) 0 I (by omega) (by omega) (fun e he => by rw [if_neg (by omega)]; exact me_place hR he) (fun _ _ => rfl)
  refine ⟨I2, ?_, hR2, hF2⟩
  refine jv_enter okX5_turns (L := [.ref m, .null]) rfl (Nat.le_of_ble_eq_true rfl) ?_
  refine jv_iconst dX5_turns_0 jv_c_iconst_0 ?_
  refine jv_istore1 dX5_turns_1 rfl ?_
  exact hV
set_option maxRecDepth 20000 in
theorem om_standing {G : jv_Gr} {I : jv_I} {J : jv_J} {m : Nat} {Y : ot_Y} (hG : ot_MG G m) (hR : ot_MR I m Y) (hW : ot_YW Y) {e : Nat} (he : e < Y 10 0) : jv_C 1 mX5_standing [.ref m, .int (nI (Y 2 e))] G I J (some (.int (nI e))) G I J := by
  refine jv_enter okX5_standing (L := [.ref m, .int (nI (Y 2 e)), .null]) rfl (Nat.le_of_ble_eq_true rfl) ?_
  have bn := yw_n hW
  have bc := yw_c hW
  have bw := yw_w hW
  have qe := (yw_child hW he).2.2.2
  have loop : ∀ (n i : Nat) , e + 1 ≤ i + n → i ≤ e → jv_V 1 mX5_standing 2 [.ref m, .int (nI (Y 2 e)), .int (nI i)] [] G I J (some (.int (nI e))) G I J := by
    intro n
    induction n with
    | zero => intro i  h1 h2; omega
    | succ n ih =>
      intro i  h1 h2 
      refine jv_aload0 dX5_standing_2 ?_
      refine jv_getR dX5_standing_3 flX5_43 rfl (mk hG) (mr_place hG) ?_
      refine jv_iload2 dX5_standing_6 ?_
      refine jv_ialdN dX5_standing_7 (mk_place hG) (by omega) (by decide) (me_place hR (by omega)) ?_
      refine jv_iload1 dX5_standing_8 ?_
      refine jv_icmp_eqN dX5_standing_9 (tgt := 18) (by decide) (by have := (yw_child hW (show i < Y 10 0 by omega)).2.2.2; omega) (by omega) (fun h9 => ?_) (fun h9 => ?_)
      · refine jv_iload2 dX5_standing_18 ?_
        exact jv_iret dX5_standing_19 rfl rfl (by rw [yw_inj hW (show i < Y 10 0 by omega) he h9]) rfl rfl
      · refine jv_iinc2N dX5_standing_12 rfl ?_
        refine jv_goto dX5_standing_15 (tgt := 2) (by decide) ?_
        exact ih (i + 1) (by omega) (by have : i ≠ e := fun z => h9 (by rw [z]); omega)
  refine jv_iconst dX5_standing_0 jv_c_iconst_0 ?_
  refine jv_istore2 dX5_standing_1 rfl ?_
  exact loop (e + 1) 0 (by omega) (by omega)
theorem ot_absM {a b : Nat} (ha : a < 2 ^ 30) (hb : b < 2 ^ 30) (h : 0 ≤ nI a - nI b) : nI a - nI b = nI (ot_dist a b) := by rw [← ot_absI ha hb, if_pos h]
theorem ot_absM2 {a b : Nat} (ha : a < 2 ^ 30) (hb : b < 2 ^ 30) (h : ¬ 0 ≤ nI a - nI b) : -(nI a - nI b) = nI (ot_dist a b) := by rw [← ot_absI ha hb, if_neg h]; simp
set_option maxRecDepth 20000 in
theorem om_mayChange {G : jv_Gr} {I : jv_I} {J : jv_J} {m : Nat} {Y : ot_Y} (hG : ot_MG G m) (hR : ot_MR I m Y) (hW : ot_YW Y) {a b : Nat} (ha : a < Y 10 0) (hb : b < Y 10 0) : jv_C 1 mX5_mayChange [.ref m, .int (nI a), .int (nI b)] G I J (some (.int (jv_b (ot_dist (Y 2 a) (Y 2 b) ≤ Y 1 a ∧ ot_dist (Y 2 a) (Y 2 b) ≤ Y 1 b)))) G I J := by
  refine jv_enter okX5_mayChange (L := [.ref m, .int (nI a), .int (nI b), .null]) rfl (Nat.le_of_ble_eq_true rfl) ?_
  have bn := yw_n hW
  have bc := yw_c hW
  have bw := yw_w hW
  have qa := yw_child hW ha
  have qb := yw_child hW hb
  have hd := ot_dist_le (a := Y 2 a) (b := Y 2 b) (m := 14) (by omega) (by omega)
  have Jn : jv_V 1 mX5_mayChange 24 [.ref m, .int (nI a), .int (nI b), .int (nI (Y 2 a) - nI (Y 2 b))] [.int (nI (ot_dist (Y 2 a) (Y 2 b)))] G I J (some (.int (jv_b (ot_dist (Y 2 a) (Y 2 b) ≤ Y 1 a ∧ ot_dist (Y 2 a) (Y 2 b) ≤ Y 1 b)))) G I J := by
    refine jv_istore3 dX5_mayChange_24 rfl ?_
    refine jv_iload3 dX5_mayChange_25 ?_
    refine jv_aload0 dX5_mayChange_26 ?_
    refine jv_getR dX5_mayChange_27 flX5_40 rfl (mk hG) (mr_step hG) ?_
    refine jv_iload1 dX5_mayChange_30 ?_
    refine jv_ialdN dX5_mayChange_31 (mk_step hG) (by omega) (by decide) (me_step hR (by omega)) ?_
    refine jv_icmp_gtN dX5_mayChange_32 (tgt := 49) (by decide) (by omega) (by omega) (fun h32 => ?_) (fun h32 => ?_)
    · refine jv_iconst dX5_mayChange_49 jv_c_iconst_0 ?_
      exact jv_iret dX5_mayChange_50 rfl (by decide) (ot_b0 (by omega)) rfl rfl
    · refine jv_iload3 dX5_mayChange_35 ?_
      refine jv_aload0 dX5_mayChange_36 ?_
      refine jv_getR dX5_mayChange_37 flX5_40 rfl (mk hG) (mr_step hG) ?_
      refine jv_iload2 dX5_mayChange_40 ?_
      refine jv_ialdN dX5_mayChange_41 (mk_step hG) (by omega) (by decide) (me_step hR (by omega)) ?_
      refine jv_icmp_gtN dX5_mayChange_42 (tgt := 49) (by decide) (by omega) (by omega) (fun h42 => ?_) (fun h42 => ?_)
      · refine jv_iconst dX5_mayChange_49 jv_c_iconst_0 ?_
        exact jv_iret dX5_mayChange_50 rfl (by decide) (ot_b0 (by omega)) rfl rfl
      · refine jv_iconst dX5_mayChange_45 jv_c_iconst_1 ?_
        refine jv_goto dX5_mayChange_46 (tgt := 50) (by decide) ?_
        exact jv_iret dX5_mayChange_50 rfl (by decide) (ot_b1 ⟨by omega, by omega⟩) rfl rfl
  refine jv_aload0 dX5_mayChange_0 ?_
  refine jv_getR dX5_mayChange_1 flX5_43 rfl (mk hG) (mr_place hG) ?_
  refine jv_iload1 dX5_mayChange_4 ?_
  refine jv_ialdN dX5_mayChange_5 (mk_place hG) (by omega) (by decide) (me_place hR (by omega)) ?_
  refine jv_aload0 dX5_mayChange_6 ?_
  refine jv_getR dX5_mayChange_7 flX5_43 rfl (mk hG) (mr_place hG) ?_
  refine jv_iload2 dX5_mayChange_10 ?_
  refine jv_ialdN dX5_mayChange_11 (mk_place hG) (by omega) (by decide) (me_place hR (by omega)) ?_
  refine jv_isub dX5_mayChange_12 ?_
  refine jv_istore3 dX5_mayChange_13 rfl ?_
  refine jv_iload3 dX5_mayChange_14 ?_
  refine jv_if_ge dX5_mayChange_15 (tgt := 23) (by decide) (fun h15 => ?_) (fun h15 => ?_)
  · refine jv_iload3 dX5_mayChange_23 ?_
    rw [ot_absM (by omega) (by omega) h15]
    rw [ot_absM (by omega) (by omega) h15] at Jn
    exact Jn
  · refine jv_iload3 dX5_mayChange_18 ?_
    refine jv_ineg dX5_mayChange_19 ?_
    refine jv_goto dX5_mayChange_20 (tgt := 24) (by decide) ?_
    rw [ot_absM2 (by omega) (by omega) h15]
    exact Jn
set_option maxRecDepth 20000 in
theorem om_evenOf {G : jv_Gr} {I : jv_I} {J : jv_J} {m : Nat} {Y : ot_Y} (hG : ot_MG G m) (hR : ot_MR I m Y) (hW : ot_YW Y) {k : Nat} (hk : k < Y 10 1) : jv_C 6 mX5_evenOf [.ref m, .int (nI k)] G I J (some (.int (nI (ot_even Y k)))) G I J := by
  refine jv_enter okX5_evenOf (L := [.ref m, .int (nI k), .null, .null, .null, .null]) rfl (Nat.le_of_ble_eq_true rfl) ?_
  have bn := yw_n hW
  have bc := yw_c hW
  have bw := yw_w hW
  have hq := yw_count hW hk
  have b1 : (ot_strongOf Y k 0) ≤ 40000 := ot_strongOf_le hW k 0
  have b2 : ∀ i, (fun t => ot_strongOf Y k (t + 1)) i ≤ 40000 := fun i => ot_strongOf_le hW k (i + 1)
  have loop : ∀ (n i : Nat) (sv : Value), (Y 4 k - 1) + 1 ≤ i + n → i ≤ (Y 4 k - 1) → jv_V 6 mX5_evenOf 12 [.ref m, .int (nI k), .int (nI (ot_min (fun t => ot_strongOf Y k (t + 1)) (ot_strongOf Y k 0) i)), .int (nI (ot_max (fun t => ot_strongOf Y k (t + 1)) (ot_strongOf Y k 0) i)), .int (nI (i + 1)), sv] [] G I J (some (.int (nI (ot_even Y k)))) G I J := by
    intro n
    induction n with
    | zero => intro i sv h1 h2; omega
    | succ n ih =>
      intro i sv h1 h2 
      refine jv_iload4 dX5_evenOf_12 ?_
      refine jv_aload0 dX5_evenOf_14 ?_
      refine jv_getR dX5_evenOf_15 flX5_49 rfl (mk hG) (mr_by hG) ?_
      refine jv_iload1 dX5_evenOf_18 ?_
      refine jv_ialdN dX5_evenOf_19 (mk_by hG) (by omega) (by decide) (me_by hR (by omega)) ?_
      refine jv_icmp_geN dX5_evenOf_20 (tgt := 64) (by decide) (by omega) (by omega) (fun h20 => ?_) (fun h20 => ?_)
      · refine jv_iload3 dX5_evenOf_64 ?_
        refine jv_iload2 dX5_evenOf_65 ?_
        refine jv_isubN dX5_evenOf_66 (by have := ot_min_le (f := (fun t => ot_strongOf Y k (t + 1))) (b := (ot_strongOf Y k 0)) i; have := ot_max_ge (f := (fun t => ot_strongOf Y k (t + 1))) (b := (ot_strongOf Y k 0)) i; omega) ?_
        exact jv_iret dX5_evenOf_67 rfl rfl (by rw [show i = Y 4 k - 1 by omega]; rfl) rfl rfl
      · have mg := ot_min_le (f := (fun t => ot_strongOf Y k (t + 1))) (b := (ot_strongOf Y k 0)) i
        have mM := ot_max_le b1 b2 i
        have b3 := b2 i
        have b3 : (ot_strongOf Y k (i + 1)) ≤ 40000 := b3
        have J3 : ∀ la, la = ot_min (fun t => ot_strongOf Y k (t + 1)) (ot_strongOf Y k 0) (i + 1) → ∀ xa, xa = ot_max (fun t => ot_strongOf Y k (t + 1)) (ot_strongOf Y k 0) (i + 1) → jv_V 6 mX5_evenOf 57 [.ref m, .int (nI k), .int (nI la), .int (nI (ot_max (fun t => ot_strongOf Y k (t + 1)) (ot_strongOf Y k 0) i)), .int (nI (i + 1)), .int (nI (ot_strongOf Y k (i + 1)))] [.int (nI xa)] G I J (some (.int (nI (ot_even Y k)))) G I J := by
          intro la hla xa hxa
          subst hla
          subst hxa
          refine jv_istore3 dX5_evenOf_57 rfl ?_
          refine jv_iinc4N dX5_evenOf_58 rfl ?_
          refine jv_goto dX5_evenOf_61 (tgt := 12) (by decide) ?_
          exact ih (i + 1) _ (by omega) (by omega)
        have J2 : ∀ la, la = ot_min (fun t => ot_strongOf Y k (t + 1)) (ot_strongOf Y k 0) (i + 1) → jv_V 6 mX5_evenOf 44 [.ref m, .int (nI k), .int (nI (ot_min (fun t => ot_strongOf Y k (t + 1)) (ot_strongOf Y k 0) i)), .int (nI (ot_max (fun t => ot_strongOf Y k (t + 1)) (ot_strongOf Y k 0) i)), .int (nI (i + 1)), .int (nI (ot_strongOf Y k (i + 1)))] [.int (nI la)] G I J (some (.int (nI (ot_even Y k)))) G I J := by
          intro la hla
          refine jv_istore2 dX5_evenOf_44 rfl ?_
          refine jv_iload5 dX5_evenOf_45 ?_
          refine jv_iload3 dX5_evenOf_47 ?_
          refine jv_icmp_leN dX5_evenOf_48 (tgt := 56) (by decide) (by omega) (by omega) (fun h48 => ?_) (fun h48 => ?_)
          · refine jv_iload3 dX5_evenOf_56 ?_
            exact J3 la hla _ (by rw [ot_max, if_neg (show ¬ (ot_max (fun t => ot_strongOf Y k (t + 1)) (ot_strongOf Y k 0) i) < (ot_strongOf Y k (i + 1)) by omega)])
          · refine jv_iload5 dX5_evenOf_51 ?_
            refine jv_goto dX5_evenOf_53 (tgt := 57) (by decide) ?_
            exact J3 la hla _ (by rw [ot_max, if_pos (show (ot_max (fun t => ot_strongOf Y k (t + 1)) (ot_strongOf Y k 0) i) < (ot_strongOf Y k (i + 1)) by omega)])
        refine jv_aload0 dX5_evenOf_23 ?_
        refine jv_iload1 dX5_evenOf_24 ?_
        refine jv_iload4 dX5_evenOf_25 ?_
        refine jv_v21 dX5_evenOf_27 okX5_strengthOf inX5_strengthOf seX5_strengthOf mlX5_272 (ci := 5) (T := TX5) (N := 35) rfl (mk hG) (om_strengthOf hG hR hW hk (by omega)) (by decide) (Nat.le_of_ble_eq_true rfl) ?_
        refine jv_istore5 dX5_evenOf_30 rfl ?_
        refine jv_iload5 dX5_evenOf_32 ?_
        refine jv_iload2 dX5_evenOf_34 ?_
        refine jv_icmp_geN dX5_evenOf_35 (tgt := 43) (by decide) (by omega) (by omega) (fun h35 => ?_) (fun h35 => ?_)
        · refine jv_iload2 dX5_evenOf_43 ?_
          exact J2 _ (by rw [ot_min, if_neg (show ¬ (ot_strongOf Y k (i + 1)) < (ot_min (fun t => ot_strongOf Y k (t + 1)) (ot_strongOf Y k 0) i) by omega)])
        · refine jv_iload5 dX5_evenOf_38 ?_
          refine jv_goto dX5_evenOf_40 (tgt := 44) (by decide) ?_
          exact J2 _ (by rw [ot_min, if_pos (show (ot_strongOf Y k (i + 1)) < (ot_min (fun t => ot_strongOf Y k (t + 1)) (ot_strongOf Y k 0) i) by omega)])
  refine jv_aload0 dX5_evenOf_0 ?_
  refine jv_iload1 dX5_evenOf_1 ?_
  refine jv_iconst dX5_evenOf_2 jv_c_iconst_0 ?_
  refine jv_v21 dX5_evenOf_3 okX5_strengthOf inX5_strengthOf seX5_strengthOf mlX5_272 (ci := 5) (T := TX5) (N := 35) rfl (mk hG) (om_strengthOf hG hR hW hk (by omega)) (by decide) (Nat.le_of_ble_eq_true rfl) ?_
  refine jv_istore2 dX5_evenOf_6 rfl ?_
  refine jv_iload2 dX5_evenOf_7 ?_
  refine jv_istore3 dX5_evenOf_8 rfl ?_
  refine jv_iconst dX5_evenOf_9 jv_c_iconst_1 ?_
  refine jv_istore4 dX5_evenOf_10 rfl ?_
  exact loop (Y 4 k - 1 + 1) 0 _ (by omega) (by omega)
