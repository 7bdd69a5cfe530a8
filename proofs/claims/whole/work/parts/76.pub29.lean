/-! ===== the face: friendsOf, groups, conflict ===== -/
theorem ot_tiedW {Y : ot_Y} (hW : ot_YW Y) : ot_tied Y := ⟨yw_n hW, fun i hi => ⟨(yw_wish hW hi).1, (yw_wish hW hi).2.1⟩⟩
theorem ot_if1 (b : Bool) : (if b = true then nI 1 else nI 0) = 0 ↔ ¬ b = true := by cases b <;> decide
theorem ot_if2 (b : Bool) : (if b = true then nI 1 else nI 0) = nI 1 ↔ b = true := by cases b <;> decide
theorem ot_fs_y {Y : ot_Y} {i : Nat} {x : Int32} (h1 : Y 8 i = 1) (h2 : ot_bit x (Y 6 i) = true ∨ ot_bit x (Y 7 i) = true) : x ||| ((nI 1 <<< (nI (Y 6 i) &&& 31)) ||| (nI 1 <<< (nI (Y 7 i) &&& 31))) = ot_fs Y i x := by
  unfold ot_fs; rw [if_pos ⟨h1, h2⟩]; rfl
theorem ot_fs_n {Y : ot_Y} {i : Nat} {x : Int32} (h : ¬ (Y 8 i = 1 ∧ (ot_bit x (Y 6 i) = true ∨ ot_bit x (Y 7 i) = true))) : x = ot_fs Y i x := by
  unfold ot_fs; rw [if_neg h]
set_option maxRecDepth 20000 in
theorem ot_hangM {G : jv_Gr} {I : jv_I} {J : jv_J} {y : Nat} {Y : ot_Y} (hG : ot_YG G y) (hR : ot_YR I y Y) (hW : ot_YW Y) {c : Nat} (hc : c < Y 10 0) : jv_C 1 mX3_hangingWith [.ref y, .int (nI c)] G I J (some (.int (ot_friends Y c))) G I J := by
  have bn := yw_n hW
  have bc := yw_c hW
  have bw := yw_w hW
  have hT := ot_tiedW hW
  refine jv_enter okX3_hangingWith (L := [.ref y, .int (nI c), .null, .null, .null, .null, .null]) rfl (Nat.le_of_ble_eq_true rfl) ?_
  have outer : ∀ (m r : Nat) (X : Int32) (s4 s5 s6 : Value), Y 10 0 ≤ r + m → r + 1 ≤ Y 10 0 → X = (ot_fx Y r (ot_sh c)) → jv_V 1 mX3_hangingWith 6 [.ref y, .int (nI c), .int X, .int (nI (r + 1)), s4, s5, s6] [] G I J (some (.int (ot_friends Y c))) G I J := by
    intro m
    induction m with
    | zero => intro r X s4 s5 s6 b1 b2; omega
    | succ m ih =>
      intro r X s4 s5 s6 b1 b2 ex
      by_cases hr : r + 1 < Y 10 0
      · have inner : ∀ (m2 i : Nat) (acc : Int32) (s6 : Value), Y 10 2 + 1 ≤ i + m2 → i ≤ Y 10 2 → acc = ot_frr Y i X → jv_V 1 mX3_hangingWith 20 [.ref y, .int (nI c), .int acc, .int (nI (r + 1)), .int X, .int (nI i), s6] [] G I J (some (.int (ot_friends Y c))) G I J := by
          intro m2
          induction m2 with
          | zero => intro i acc s6 q1 q2; omega
          | succ m2 ih2 =>
            intro i acc s6 q1 q2 ea
            by_cases hi : i < Y 10 2
            · have hq := yw_wish hW hi
              refine jv_iload5 dX3_hangingWith_20 ?_
              refine jv_aload0 dX3_hangingWith_22 ?_
              refine jv_getI dX3_hangingWith_23 flX3_40 rfl (yk hG) (yi_wishes hR) ?_
              refine jv_icmp_geN dX3_hangingWith_26 (tgt := 79) (by decide) (by omega) (by omega) (fun hc26 => by omega) (fun hc26 => ?_)
              refine jv_iconst dX3_hangingWith_29 jv_c_iconst_1 ?_
              refine jv_aload0 dX3_hangingWith_30 ?_
              refine jv_getR dX3_hangingWith_31 flX3_43 rfl (yk hG) (yr_firsts hG) ?_
              refine jv_iload5 dX3_hangingWith_34 ?_
              refine jv_ialdN dX3_hangingWith_36 (yk_firsts hG) (by omega) (by decide) (ye_firsts hR (by omega)) ?_
              refine jv_ishl dX3_hangingWith_37 ?_
              refine jv_iconst dX3_hangingWith_38 jv_c_iconst_1 ?_
              refine jv_aload0 dX3_hangingWith_39 ?_
              refine jv_getR dX3_hangingWith_40 flX3_46 rfl (yk hG) (yr_seconds hG) ?_
              refine jv_iload5 dX3_hangingWith_43 ?_
              refine jv_ialdN dX3_hangingWith_45 (yk_seconds hG) (by omega) (by decide) (ye_seconds hR (by omega)) ?_
              refine jv_ishl dX3_hangingWith_46 ?_
              refine jv_ior dX3_hangingWith_47 ?_
              refine jv_istore6 dX3_hangingWith_48 rfl ?_
              refine jv_aload0 dX3_hangingWith_50 ?_
              refine jv_getR dX3_hangingWith_51 flX3_49 rfl (yk hG) (yr_together hG) ?_
              refine jv_iload5 dX3_hangingWith_54 ?_
              refine jv_ialdN dX3_hangingWith_56 (yk_together hG) (by omega) (by decide) (ye_together hR (by omega)) ?_
              refine jv_iconst dX3_hangingWith_57 jv_c_iconst_1 ?_
              refine jv_icmp_neN dX3_hangingWith_58 (tgt := 73) (by decide) (by omega) (by omega) (fun h58 => ?_) (fun h58 => ?_)
              · refine jv_iinc5N dX3_hangingWith_73 rfl ?_
                refine jv_goto dX3_hangingWith_76 (tgt := 20) (by decide) ?_
                exact ih2 (i + 1) _ _ (by omega) (by omega) (by rw [ot_frr, ← ea]; exact ot_fs_n (fun z => h58 z.1))
              · refine jv_iload2 dX3_hangingWith_61 ?_
                refine jv_iload6 dX3_hangingWith_62 ?_
                refine jv_iand dX3_hangingWith_64 ?_
                refine jv_if_eq dX3_hangingWith_65 (tgt := 73) (by decide) (fun h65 => ?_) (fun h65 => ?_)
                · refine jv_iinc5N dX3_hangingWith_73 rfl ?_
                  refine jv_goto dX3_hangingWith_76 (tgt := 20) (by decide) ?_
                  exact ih2 (i + 1) _ _ (by omega) (by omega) (by rw [ot_frr, ← ea]; exact ot_fs_n (fun z => (ot_two_bit acc (by omega) (by omega)).mp h65 z.2))
                · refine jv_iload2 dX3_hangingWith_68 ?_
                  refine jv_iload6 dX3_hangingWith_69 ?_
                  refine jv_ior dX3_hangingWith_71 ?_
                  refine jv_istore2 dX3_hangingWith_72 rfl ?_
                  refine jv_iinc5N dX3_hangingWith_73 rfl ?_
                  refine jv_goto dX3_hangingWith_76 (tgt := 20) (by decide) ?_
                  exact ih2 (i + 1) _ _ (by omega) (by omega) (by rw [ot_frr, ← ea]; exact ot_fs_y h58 (Classical.byContradiction (fun z => h65 ((ot_two_bit acc (by omega) (by omega)).mpr z))))
            · skip
              refine jv_iload5 dX3_hangingWith_20 ?_
              refine jv_aload0 dX3_hangingWith_22 ?_
              refine jv_getI dX3_hangingWith_23 flX3_40 rfl (yk hG) (yi_wishes hR) ?_
              refine jv_icmp_geN dX3_hangingWith_26 (tgt := 79) (by decide) (by omega) (by omega) (fun hc26 => ?_) (fun hc26 => by omega)
              refine jv_iload2 dX3_hangingWith_79 ?_
              refine jv_iload4 dX3_hangingWith_80 ?_
              refine jv_icmp_ne dX3_hangingWith_82 (tgt := 88) (by decide) (fun h82 => ?_) (fun h82 => ?_)
              · refine jv_iinc3N dX3_hangingWith_88 rfl ?_
                refine jv_goto dX3_hangingWith_91 (tgt := 6) (by decide) ?_
                exact ih (r + 1) _ _ _ _ (by omega) (by omega) (by rw [ea, show i = Y 10 2 by omega, ex]; rfl)
              · refine jv_goto dX3_hangingWith_85 (tgt := 94) (by decide) ?_
                refine jv_iload2 dX3_hangingWith_94 ?_
                exact jv_iret dX3_hangingWith_95 rfl rfl (by rw [h82, ex]; exact ot_friends_of (by omega) (by have h9 : ot_frr Y (Y 10 2) X = X := (by rw [← show i = Y 10 2 by omega]; exact ea.symm.trans h82); rw [ex] at h9; exact h9)) rfl rfl
        refine jv_iload3 dX3_hangingWith_6 ?_
        refine jv_aload0 dX3_hangingWith_7 ?_
        refine jv_getI dX3_hangingWith_8 flX3_9 rfl (yk hG) (yi_children hR) ?_
        refine jv_icmp_geN dX3_hangingWith_11 (tgt := 94) (by decide) (by omega) (by omega) (fun hc11 => by omega) (fun hc11 => ?_)
        refine jv_iload2 dX3_hangingWith_14 ?_
        refine jv_istore4 dX3_hangingWith_15 rfl ?_
        refine jv_iconst dX3_hangingWith_17 jv_c_iconst_0 ?_
        refine jv_istore5 dX3_hangingWith_18 rfl ?_
        exact inner (Y 10 2 + 1) 0 X _ (by omega) (by omega) rfl
      · skip
        refine jv_iload3 dX3_hangingWith_6 ?_
        refine jv_aload0 dX3_hangingWith_7 ?_
        refine jv_getI dX3_hangingWith_8 flX3_9 rfl (yk hG) (yi_children hR) ?_
        refine jv_icmp_geN dX3_hangingWith_11 (tgt := 94) (by decide) (by omega) (by omega) (fun hc11 => ?_) (fun hc11 => by omega)
        refine jv_iload2 dX3_hangingWith_94 ?_
        exact jv_iret dX3_hangingWith_95 rfl rfl (by rw [ex, show r = Y 10 0 - 1 by omega]; exact ot_friends_of (by omega) (ot_fx_last hT hc)) rfl rfl
  refine jv_iconst dX3_hangingWith_0 jv_c_iconst_1 ?_
  refine jv_iload1 dX3_hangingWith_1 ?_
  refine jv_ishl dX3_hangingWith_2 ?_
  refine jv_istore2 dX3_hangingWith_3 rfl ?_
  refine jv_iconst dX3_hangingWith_4 jv_c_iconst_1 ?_
  refine jv_istore3 dX3_hangingWith_5 rfl ?_
  exact outer (Y 10 0) 0 _ _ _ _ (by omega) (by omega) rfl
set_option maxRecDepth 20000 in
theorem om_has {G : jv_Gr} {I : jv_I} {J : jv_J} (x : Int32) {c : Nat} (hc : c < 14) : jv_C 1 mX5_has [.int x, .int (nI c)] G I J (some (.int (jv_b (ot_bit x c = true)))) G I J := by
  refine jv_enter okX5_has (L := [.int x, .int (nI c)]) rfl (Nat.le_of_ble_eq_true rfl) ?_
  by_cases hb : ot_bit x c = true
  · skip
    refine jv_iload0 dX5_has_0 ?_
    refine jv_iload1 dX5_has_1 ?_
    refine jv_ishr dX5_has_2 ?_
    refine jv_iconst dX5_has_3 jv_c_iconst_1 ?_
    refine jv_iand dX5_has_4 ?_
    rw [ot_has_bit x hc, if_pos hb]
    refine jv_if_eq dX5_has_5 (tgt := 12) (by decide) (fun h5 => absurd h5 (by decide)) (fun h5 => ?_)
    refine jv_iconst dX5_has_8 jv_c_iconst_1 ?_
    refine jv_goto dX5_has_9 (tgt := 13) (by decide) ?_
    exact jv_iret dX5_has_13 rfl (by decide) (ot_b1 hb) rfl rfl
  · skip
    refine jv_iload0 dX5_has_0 ?_
    refine jv_iload1 dX5_has_1 ?_
    refine jv_ishr dX5_has_2 ?_
    refine jv_iconst dX5_has_3 jv_c_iconst_1 ?_
    refine jv_iand dX5_has_4 ?_
    rw [ot_has_bit x hc, if_neg hb]
    refine jv_if_eq dX5_has_5 (tgt := 12) (by decide) (fun h5 => ?_) (fun h5 => absurd rfl h5)
    refine jv_iconst dX5_has_12 jv_c_iconst_0 ?_
    exact jv_iret dX5_has_13 rfl (by decide) (ot_b0 hb) rfl rfl
set_option maxRecDepth 20000 in
theorem om_friends {G : jv_Gr} {I : jv_I} {J : jv_J} {m : Nat} {Y : ot_Y} (hG : ot_MG G m) (hR : ot_MR I m Y) (hW : ot_YW Y) {c : Nat} (hc : c < Y 10 0) : jv_C 2 mX5_friends [.ref m, .int (nI c)] G I J (some (.int (ot_friends Y c))) G I J := by
  have bn := yw_n hW
  have bc := yw_c hW
  have bw := yw_w hW
  refine jv_enter okX5_friends (L := [.ref m, .int (nI c), .null, .null, .null]) rfl (Nat.le_of_ble_eq_true rfl) ?_
  have outer : ∀ (n r : Nat) (X : Int32) (s4 : Value), Y 10 0 + 1 ≤ r + n → r ≤ Y 10 0 → X = (ot_fx Y r (ot_sh c)) → jv_V 2 mX5_friends 6 [.ref m, .int (nI c), .int X, .int (nI r), s4] [] G I J (some (.int (ot_friends Y c))) G I J := by
    intro n
    induction n with
    | zero => intro r X s4 b1 b2; omega
    | succ n ih =>
      intro r X s4 b1 b2 ex
      by_cases hr : r < Y 10 0
      · have inner : ∀ (m2 i : Nat) (acc : Int32), Y 10 2 + 1 ≤ i + m2 → i ≤ Y 10 2 → acc = ot_frr Y i X → jv_V 2 mX5_friends 17 [.ref m, .int (nI c), .int acc, .int (nI r), .int (nI i)] [] G I J (some (.int (ot_friends Y c))) G I J := by
          intro m2
          induction m2 with
          | zero => intro i acc q1 q2; omega
          | succ m2 ih2 =>
            intro i acc q1 q2 ea
            by_cases hi : i < Y 10 2
            · have hq := yw_wish hW hi
              refine jv_iload4 dX5_friends_17 ?_
              refine jv_aload0 dX5_friends_19 ?_
              refine jv_getI dX5_friends_20 flX5_141 rfl (mk hG) (mi_wishes hR) ?_
              refine jv_icmp_geN dX5_friends_23 (tgt := 93) (by decide) (by omega) (by omega) (fun hc23 => by omega) (fun hc23 => ?_)
              refine jv_aload0 dX5_friends_26 ?_
              refine jv_getR dX5_friends_27 flX5_61 rfl (mk hG) (mr_together hG) ?_
              refine jv_iload4 dX5_friends_30 ?_
              refine jv_ialdN dX5_friends_32 (mk_together hG) (by omega) (by decide) (me_together hR (by omega)) ?_
              refine jv_iconst dX5_friends_33 jv_c_iconst_1 ?_
              refine jv_icmp_neN dX5_friends_34 (tgt := 87) (by decide) (by omega) (by omega) (fun h34 => ?_) (fun h34 => ?_)
              · refine jv_iinc4N dX5_friends_87 rfl ?_
                refine jv_goto dX5_friends_90 (tgt := 17) (by decide) ?_
                exact ih2 (i + 1) _ (by omega) (by omega) (by rw [ot_frr, ← ea]; exact ot_fs_n (fun z => h34 z.1))
              · refine jv_iload2 dX5_friends_37 ?_
                refine jv_aload0 dX5_friends_38 ?_
                refine jv_getR dX5_friends_39 flX5_55 rfl (mk hG) (mr_one hG) ?_
                refine jv_iload4 dX5_friends_42 ?_
                refine jv_ialdN dX5_friends_44 (mk_one hG) (by omega) (by decide) (me_one hR (by omega)) ?_
                refine jv_s21 dX5_friends_45 okX5_has stX5_has mlX5_281 (om_has acc (by omega)) (by decide) (Nat.le_of_ble_eq_true rfl) ?_
                refine jv_if_neB dX5_friends_48 (tgt := 65) (by decide) (fun h48 => ?_) (fun h48 => ?_)
                · refine jv_iload2 dX5_friends_65 ?_
                  refine jv_iconst dX5_friends_66 jv_c_iconst_1 ?_
                  refine jv_aload0 dX5_friends_67 ?_
                  refine jv_getR dX5_friends_68 flX5_55 rfl (mk hG) (mr_one hG) ?_
                  refine jv_iload4 dX5_friends_71 ?_
                  refine jv_ialdN dX5_friends_73 (mk_one hG) (by omega) (by decide) (me_one hR (by omega)) ?_
                  refine jv_ishl dX5_friends_74 ?_
                  refine jv_iconst dX5_friends_75 jv_c_iconst_1 ?_
                  refine jv_aload0 dX5_friends_76 ?_
                  refine jv_getR dX5_friends_77 flX5_58 rfl (mk hG) (mr_other hG) ?_
                  refine jv_iload4 dX5_friends_80 ?_
                  refine jv_ialdN dX5_friends_82 (mk_other hG) (by omega) (by decide) (me_other hR (by omega)) ?_
                  refine jv_ishl dX5_friends_83 ?_
                  refine jv_ior dX5_friends_84 ?_
                  refine jv_ior dX5_friends_85 ?_
                  refine jv_istore2 dX5_friends_86 rfl ?_
                  refine jv_iinc4N dX5_friends_87 rfl ?_
                  refine jv_goto dX5_friends_90 (tgt := 17) (by decide) ?_
                  exact ih2 (i + 1) _ (by omega) (by omega) (by rw [ot_frr, ← ea]; exact ot_fs_y h34 (.inl h48))
                · refine jv_iload2 dX5_friends_51 ?_
                  refine jv_aload0 dX5_friends_52 ?_
                  refine jv_getR dX5_friends_53 flX5_58 rfl (mk hG) (mr_other hG) ?_
                  refine jv_iload4 dX5_friends_56 ?_
                  refine jv_ialdN dX5_friends_58 (mk_other hG) (by omega) (by decide) (me_other hR (by omega)) ?_
                  refine jv_s21 dX5_friends_59 okX5_has stX5_has mlX5_281 (om_has acc (by omega)) (by decide) (Nat.le_of_ble_eq_true rfl) ?_
                  refine jv_if_eqB dX5_friends_62 (tgt := 87) (by decide) (fun h62 => ?_) (fun h62 => ?_)
                  · refine jv_iinc4N dX5_friends_87 rfl ?_
                    refine jv_goto dX5_friends_90 (tgt := 17) (by decide) ?_
                    exact ih2 (i + 1) _ (by omega) (by omega) (by rw [ot_frr, ← ea]; exact ot_fs_n (fun z => z.2.elim h48 h62))
                  · refine jv_iload2 dX5_friends_65 ?_
                    refine jv_iconst dX5_friends_66 jv_c_iconst_1 ?_
                    refine jv_aload0 dX5_friends_67 ?_
                    refine jv_getR dX5_friends_68 flX5_55 rfl (mk hG) (mr_one hG) ?_
                    refine jv_iload4 dX5_friends_71 ?_
                    refine jv_ialdN dX5_friends_73 (mk_one hG) (by omega) (by decide) (me_one hR (by omega)) ?_
                    refine jv_ishl dX5_friends_74 ?_
                    refine jv_iconst dX5_friends_75 jv_c_iconst_1 ?_
                    refine jv_aload0 dX5_friends_76 ?_
                    refine jv_getR dX5_friends_77 flX5_58 rfl (mk hG) (mr_other hG) ?_
                    refine jv_iload4 dX5_friends_80 ?_
                    refine jv_ialdN dX5_friends_82 (mk_other hG) (by omega) (by decide) (me_other hR (by omega)) ?_
                    refine jv_ishl dX5_friends_83 ?_
                    refine jv_ior dX5_friends_84 ?_
                    refine jv_ior dX5_friends_85 ?_
                    refine jv_istore2 dX5_friends_86 rfl ?_
                    refine jv_iinc4N dX5_friends_87 rfl ?_
                    refine jv_goto dX5_friends_90 (tgt := 17) (by decide) ?_
                    exact ih2 (i + 1) _ (by omega) (by omega) (by rw [ot_frr, ← ea]; exact ot_fs_y h34 (.inr h62))
            · skip
              refine jv_iload4 dX5_friends_17 ?_
              refine jv_aload0 dX5_friends_19 ?_
              refine jv_getI dX5_friends_20 flX5_141 rfl (mk hG) (mi_wishes hR) ?_
              refine jv_icmp_geN dX5_friends_23 (tgt := 93) (by decide) (by omega) (by omega) (fun hc23 => ?_) (fun hc23 => by omega)
              refine jv_iinc3N dX5_friends_93 rfl ?_
              refine jv_goto dX5_friends_96 (tgt := 6) (by decide) ?_
              exact ih (r + 1) _ _ (by omega) (by omega) (by rw [ea, show i = Y 10 2 by omega, ex]; rfl)
        refine jv_iload3 dX5_friends_6 ?_
        refine jv_aload0 dX5_friends_7 ?_
        refine jv_getI dX5_friends_8 flX5_80 rfl (mk hG) (mi_children hR) ?_
        refine jv_icmp_geN dX5_friends_11 (tgt := 99) (by decide) (by omega) (by omega) (fun hc11 => by omega) (fun hc11 => ?_)
        refine jv_iconst dX5_friends_14 jv_c_iconst_0 ?_
        refine jv_istore4 dX5_friends_15 rfl ?_
        exact inner (Y 10 2 + 1) 0 X (by omega) (by omega) rfl
      · skip
        refine jv_iload3 dX5_friends_6 ?_
        refine jv_aload0 dX5_friends_7 ?_
        refine jv_getI dX5_friends_8 flX5_80 rfl (mk hG) (mi_children hR) ?_
        refine jv_icmp_geN dX5_friends_11 (tgt := 99) (by decide) (by omega) (by omega) (fun hc11 => ?_) (fun hc11 => by omega)
        refine jv_iload2 dX5_friends_99 ?_
        exact jv_iret dX5_friends_100 rfl rfl (by rw [ex, show r = Y 10 0 by omega]; rfl) rfl rfl
  refine jv_iconst dX5_friends_0 jv_c_iconst_1 ?_
  refine jv_iload1 dX5_friends_1 ?_
  refine jv_ishl dX5_friends_2 ?_
  refine jv_istore2 dX5_friends_3 rfl ?_
  refine jv_iconst dX5_friends_4 jv_c_iconst_0 ?_
  refine jv_istore3 dX5_friends_5 rfl ?_
  exact outer (Y 10 0 + 1) 0 _ _ (by omega) (by omega) rfl
set_option maxRecDepth 20000 in
theorem pc_friendsOf {G : jv_Gr} {I : jv_I} {J : jv_J} {Y Z : ot_Y} {E : ot_E} {K : Option ot_Y} (h : ot_C G I J Y Z E K) (c : Int32) : ot_cc 8 mX4_friendsOf [.ref 1, .int c] G I J (ot_ans (ot_rc (0 ≤ c.toInt ∧ c.toInt < Y 10 0)) (ot_friends Y (ot_n c))) Y (ot_zr Z (ot_rc (0 ≤ c.toInt ∧ c.toInt < Y 10 0))) E K := by
  have bn := yw_n h.w
  have bc := yw_c h.w
  have bw := yw_w h.w
  refine ot_rc_split (motive := fun rc => ot_cc 8 mX4_friendsOf [.ref 1, .int c] G I J (ot_ans rc (ot_friends Y (ot_n c))) Y (ot_zr Z rc) E K) (fun hv => ?_) (fun hv => ?_)
  · obtain ⟨j, hj, rfl⟩ := ot_of hv (by omega)
    rw [ot_n_nI (show j < 2 ^ 30 by omega)]
    rw [ot_ans_0]
    refine ⟨I, J, ?_, h, ot_hi.rf⟩
    refine jv_enter okX4_friendsOf (L := [.ref 1, .int (nI j)]) rfl (Nat.le_of_ble_eq_true rfl) ?_
    refine jv_aload0 dX4_friendsOf_0 ?_
    refine jv_getR dX4_friendsOf_1 flX4_10 rfl (ck h.g) (cr_now h.g) ?_
    refine jv_iload1 dX4_friendsOf_4 ?_
    refine jv_v11 dX4_friendsOf_5 okX3_hasChild inX3_hasChild seX3_hasChild mlX4_166 (ci := 3) (T := TX3) (N := 15) rfl (yk (cg_now h.g)) (ot_hasChild (cg_now h.g) h.r h.w _) (by decide) (Nat.le_of_ble_eq_true rfl) ?_
    refine jv_if_eqB dX4_friendsOf_8 (tgt := 22) (by decide) (fun hq8 => absurd hv hq8) (fun hq8 => ?_)
    refine jv_aload0 dX4_friendsOf_11 ?_
    refine jv_getR dX4_friendsOf_12 flX4_10 rfl (ck h.g) (cr_now h.g) ?_
    refine jv_iload1 dX4_friendsOf_15 ?_
    refine jv_v11 dX4_friendsOf_16 okX3_hangingWith inX3_hangingWith seX3_hangingWith mlX4_229 (ci := 3) (T := TX3) (N := 15) rfl (yk (cg_now h.g)) (ot_hangM (cg_now h.g) h.r h.w hj) (by decide) (Nat.le_of_ble_eq_true rfl) ?_
    refine jv_goto dX4_friendsOf_19 (tgt := 28) (by decide) ?_
    exact jv_iret dX4_friendsOf_28 rfl rfl rfl rfl rfl
  · obtain ⟨I2, hC, h2, h3⟩ := oc_refuse2 h
    refine ⟨I2, J, ?_, h2, h3⟩
    refine jv_enter okX4_friendsOf (L := [.ref 1, .int c]) rfl (Nat.le_of_ble_eq_true rfl) ?_
    refine jv_aload0 dX4_friendsOf_0 ?_
    refine jv_getR dX4_friendsOf_1 flX4_10 rfl (ck h.g) (cr_now h.g) ?_
    refine jv_iload1 dX4_friendsOf_4 ?_
    refine jv_v11 dX4_friendsOf_5 okX3_hasChild inX3_hasChild seX3_hasChild mlX4_166 (ci := 3) (T := TX3) (N := 15) rfl (yk (cg_now h.g)) (ot_hasChild (cg_now h.g) h.r h.w _) (by decide) (Nat.le_of_ble_eq_true rfl) ?_
    refine jv_if_eqB dX4_friendsOf_8 (tgt := 22) (by decide) (fun hq8 => ?_) (fun hq8 => absurd hq8 hv)
    refine jv_aload0 dX4_friendsOf_22 ?_
    refine jv_bipush dX4_friendsOf_23 jv_c_bipush_m2 ?_
    refine jv_v11 dX4_friendsOf_25 okX4_refuse inX4_refuse seX4_refuse mlX4_61 (ci := 4) (T := TX4) (N := 8) rfl (ck h.g) hC (by decide) (Nat.le_of_ble_eq_true rfl) ?_
    exact jv_iret dX4_friendsOf_28 rfl rfl rfl rfl rfl
set_option maxRecDepth 20000 in
theorem pm_friendsOf {G : jv_Gr} {I : jv_I} {J : jv_J} {Y Z : ot_Y} {E : ot_E} {K : Option ot_Y} (h : ot_M G I J Y Z E K) (c : Int32) : ot_mm 8 mX5_friendsOf [.ref 64, .int c] G I J (ot_ans (ot_rc (0 ≤ c.toInt ∧ c.toInt < Y 10 0)) (ot_friends Y (ot_n c))) Y (ot_zr Z (ot_rc (0 ≤ c.toInt ∧ c.toInt < Y 10 0))) E K := by
  have bn := yw_n h.w
  have bc := yw_c h.w
  have bw := yw_w h.w
  refine ot_rc_split (motive := fun rc => ot_mm 8 mX5_friendsOf [.ref 64, .int c] G I J (ot_ans rc (ot_friends Y (ot_n c))) Y (ot_zr Z rc) E K) (fun hv => ?_) (fun hv => ?_)
  · obtain ⟨j, hj, rfl⟩ := ot_of hv (by omega)
    rw [ot_n_nI (show j < 2 ^ 30 by omega)]
    rw [ot_ans_0]
    refine ⟨G, I, J, ?_, h, ot_lo.rf, ot_gx.rf⟩
    refine jv_enter okX5_friendsOf (L := [.ref 64, .int (nI j)]) rfl (Nat.le_of_ble_eq_true rfl) ?_
    refine jv_aload0 dX5_friendsOf_0 ?_
    refine jv_iload1 dX5_friendsOf_1 ?_
    refine jv_i2l dX5_friendsOf_2 rfl ?_
    refine jv_v11 dX5_friendsOf_3 okX5_isChild inX5_isChild seX5_isChild mlX5_87 (ci := 5) (T := TX5) (N := 35) rfl (mk h.g) (om_isChildI h.g h.r h.w _) (by decide) (Nat.le_of_ble_eq_true rfl) ?_
    refine jv_if_eqB dX5_friendsOf_6 (tgt := 17) (by decide) (fun hq8 => absurd hv hq8) (fun hq8 => ?_)
    refine jv_aload0 dX5_friendsOf_9 ?_
    refine jv_iload1 dX5_friendsOf_10 ?_
    refine jv_v11 dX5_friendsOf_11 okX5_friends inX5_friends seX5_friends mlX5_284 (ci := 5) (T := TX5) (N := 35) rfl (mk h.g) (om_friends h.g h.r h.w hj) (by decide) (Nat.le_of_ble_eq_true rfl) ?_
    refine jv_goto dX5_friendsOf_14 (tgt := 23) (by decide) ?_
    exact jv_iret dX5_friendsOf_23 rfl rfl rfl rfl rfl
  · obtain ⟨I2, hC, h2, h3⟩ := om_refuse2 h
    refine ⟨G, I2, J, ?_, h2, h3, ot_gx.rf⟩
    refine jv_enter okX5_friendsOf (L := [.ref 64, .int c]) rfl (Nat.le_of_ble_eq_true rfl) ?_
    refine jv_aload0 dX5_friendsOf_0 ?_
    refine jv_iload1 dX5_friendsOf_1 ?_
    refine jv_i2l dX5_friendsOf_2 rfl ?_
    refine jv_v11 dX5_friendsOf_3 okX5_isChild inX5_isChild seX5_isChild mlX5_87 (ci := 5) (T := TX5) (N := 35) rfl (mk h.g) (om_isChildI h.g h.r h.w _) (by decide) (Nat.le_of_ble_eq_true rfl) ?_
    refine jv_if_eqB dX5_friendsOf_6 (tgt := 17) (by decide) (fun hq8 => ?_) (fun hq8 => absurd hq8 hv)
    refine jv_aload0 dX5_friendsOf_17 ?_
    refine jv_bipush dX5_friendsOf_18 jv_c_bipush_m2 ?_
    refine jv_v11 dX5_friendsOf_20 okX5_refuse inX5_refuse seX5_refuse mlX5_104 (ci := 5) (T := TX5) (N := 35) rfl (mk h.g) hC (by decide) (Nat.le_of_ble_eq_true rfl) ?_
    exact jv_iret dX5_friendsOf_23 rfl rfl rfl rfl rfl
set_option maxRecDepth 20000 in
theorem pc_groups {G : jv_Gr} {I : jv_I} {J : jv_J} {Y Z : ot_Y} {E : ot_E} {K : Option ot_Y} (h : ot_C G I J Y Z E K)  : ot_cc 8 mX4_groups [.ref 1] G I J (nI (ot_groups Y (Y 10 0))) Y Z E K := by
  have bn := yw_n h.w
  have bc := yw_c h.w
  have bw := yw_w h.w
  have hT := ot_tiedW h.w
  refine ⟨I, J, ?_, h, ot_hi.rf⟩
  refine jv_enter okX4_groups (L := [.ref 1, .null, .null, .null]) rfl (Nat.le_of_ble_eq_true rfl) ?_
  have loop : ∀ (n i : Nat) (acc : Nat) (x : Int32), Y 10 0 + 1 ≤ i + n → i ≤ Y 10 0 → acc = ot_groups Y i → x = ot_seen Y i → jv_V 8 mX4_groups 6 [.ref 1, .int (nI acc), .int x, .int (nI i)] [] G I J (some (.int (nI (ot_groups Y (Y 10 0))))) G I J := by
    intro n
    induction n with
    | zero => intro i acc x h1 h2; omega
    | succ n ih =>
      intro i acc x h1 h2 ea ex
      refine jv_iload3 dX4_groups_6 ?_
      refine jv_aload0 dX4_groups_7 ?_
      refine jv_getR dX4_groups_8 flX4_10 rfl (ck h.g) (cr_now h.g) ?_
      refine jv_getI dX4_groups_11 flX4_128 rfl (yk (cg_now h.g)) (yi_children h.r) ?_
      refine jv_icmp_geN dX4_groups_14 (tgt := 45) (by decide) (by omega) (by omega) (fun h14 => ?_) (fun h14 => ?_)
      · refine jv_iload1 dX4_groups_45 ?_
        exact jv_iret dX4_groups_46 rfl rfl (by rw [ea, show i = Y 10 0 by omega]) rfl rfl
      · refine jv_iload2 dX4_groups_17 ?_
        refine jv_iload3 dX4_groups_18 ?_
        refine jv_ishr dX4_groups_19 ?_
        refine jv_iconst dX4_groups_20 jv_c_iconst_1 ?_
        refine jv_iand dX4_groups_21 ?_
        rw [ot_has_bit x (by omega)]
        refine jv_if_ne dX4_groups_22 (tgt := 39) (by decide) (fun h22 => ?_) (fun h22 => ?_)
        · rw [ot_if1, Classical.not_not] at h22
          refine jv_iinc3N dX4_groups_39 rfl ?_
          refine jv_goto dX4_groups_42 (tgt := 6) (by decide) ?_
          exact ih (i + 1) _ _ (by omega) (by omega) (by rw [ot_groups, ot_sum, ← ot_groups, if_pos (by rw [← ex]; exact h22), Nat.add_zero]; exact ea) (by rw [ot_seen_same hT (by omega) (by rw [← ex]; exact h22)]; exact ex)
        · rw [ot_if1] at h22
          refine jv_iinc1N dX4_groups_25 rfl ?_
          refine jv_iload2 dX4_groups_28 ?_
          refine jv_aload0 dX4_groups_29 ?_
          refine jv_getR dX4_groups_30 flX4_10 rfl (ck h.g) (cr_now h.g) ?_
          refine jv_iload3 dX4_groups_33 ?_
          refine jv_v11 dX4_groups_34 okX3_hangingWith inX3_hangingWith seX3_hangingWith mlX4_229 (ci := 3) (T := TX3) (N := 15) rfl (yk (cg_now h.g)) (ot_hangM (cg_now h.g) h.r h.w (by omega)) (by decide) (Nat.le_of_ble_eq_true rfl) ?_
          refine jv_ior dX4_groups_37 ?_
          refine jv_istore2 dX4_groups_38 rfl ?_
          refine jv_iinc3N dX4_groups_39 rfl ?_
          refine jv_goto dX4_groups_42 (tgt := 6) (by decide) ?_
          exact ih (i + 1) _ _ (by omega) (by omega) (by rw [ot_groups, ot_sum, ← ot_groups, if_neg (by rw [← ex]; exact h22), ea]) (by rw [ot_seen, ex])
  refine jv_iconst dX4_groups_0 jv_c_iconst_0 ?_
  refine jv_istore1 dX4_groups_1 rfl ?_
  refine jv_iconst dX4_groups_2 jv_c_iconst_0 ?_
  refine jv_istore2 dX4_groups_3 rfl ?_
  refine jv_iconst dX4_groups_4 jv_c_iconst_0 ?_
  refine jv_istore3 dX4_groups_5 rfl ?_
  exact loop (Y 10 0 + 1) 0 0 _ (by omega) (by omega) rfl rfl
set_option maxRecDepth 20000 in
theorem pm_groups {G : jv_Gr} {I : jv_I} {J : jv_J} {Y Z : ot_Y} {E : ot_E} {K : Option ot_Y} (h : ot_M G I J Y Z E K)  : ot_mm 8 mX5_groups [.ref 64] G I J (nI (ot_groups Y (Y 10 0))) Y Z E K := by
  have bn := yw_n h.w
  have bc := yw_c h.w
  have bw := yw_w h.w
  refine ⟨G, I, J, ?_, h, ot_lo.rf, ot_gx.rf⟩
  refine jv_enter okX5_groups (L := [.ref 64, .null, .null, .null]) rfl (Nat.le_of_ble_eq_true rfl) ?_
  have loop : ∀ (n i : Nat) (acc : Nat) (x : Int32), Y 10 0 + 1 ≤ i + n → i ≤ Y 10 0 → acc = ot_groups Y i → x = ot_seen Y i → jv_V 8 mX5_groups 6 [.ref 64, .int (nI acc), .int x, .int (nI i)] [] G I J (some (.int (nI (ot_groups Y (Y 10 0))))) G I J := by
    intro n
    induction n with
    | zero => intro i acc x h1 h2; omega
    | succ n ih =>
      intro i acc x h1 h2 ea ex
      refine jv_iload3 dX5_groups_6 ?_
      refine jv_aload0 dX5_groups_7 ?_
      refine jv_getI dX5_groups_8 flX5_80 rfl (mk h.g) (mi_children h.r) ?_
      refine jv_icmp_geN dX5_groups_11 (tgt := 44) (by decide) (by omega) (by omega) (fun h14 => ?_) (fun h14 => ?_)
      · refine jv_iload1 dX5_groups_44 ?_
        exact jv_iret dX5_groups_45 rfl rfl (by rw [ea, show i = Y 10 0 by omega]) rfl rfl
      · refine jv_iload1 dX5_groups_14 ?_
        refine jv_iload2 dX5_groups_15 ?_
        refine jv_iload3 dX5_groups_16 ?_
        refine jv_s21 dX5_groups_17 okX5_has stX5_has mlX5_281 (om_has x (by omega)) (by decide) (Nat.le_of_ble_eq_true rfl) ?_
        refine jv_if_eqB dX5_groups_20 (tgt := 27) (by decide) (fun h22 => ?_) (fun h22 => ?_)
        · refine jv_iconst dX5_groups_27 jv_c_iconst_1 ?_
          refine jv_iaddN dX5_groups_28 ?_
          refine jv_istore1 dX5_groups_29 rfl ?_
          refine jv_iload2 dX5_groups_30 ?_
          refine jv_aload0 dX5_groups_31 ?_
          refine jv_iload3 dX5_groups_32 ?_
          refine jv_v11 dX5_groups_33 okX5_friends inX5_friends seX5_friends mlX5_284 (ci := 5) (T := TX5) (N := 35) rfl (mk h.g) (om_friends h.g h.r h.w (by omega)) (by decide) (Nat.le_of_ble_eq_true rfl) ?_
          refine jv_ior dX5_groups_36 ?_
          refine jv_istore2 dX5_groups_37 rfl ?_
          refine jv_iinc3N dX5_groups_38 rfl ?_
          refine jv_goto dX5_groups_41 (tgt := 6) (by decide) ?_
          exact ih (i + 1) _ _ (by omega) (by omega) (by rw [ot_groups, ot_sum, ← ot_groups, if_neg (by rw [← ex]; exact h22), ea]) (by rw [ot_seen, ex])
        · refine jv_iconst dX5_groups_23 jv_c_iconst_0 ?_
          refine jv_goto dX5_groups_24 (tgt := 28) (by decide) ?_
          refine jv_iaddN dX5_groups_28 ?_
          refine jv_istore1 dX5_groups_29 rfl ?_
          refine jv_iload2 dX5_groups_30 ?_
          refine jv_aload0 dX5_groups_31 ?_
          refine jv_iload3 dX5_groups_32 ?_
          refine jv_v11 dX5_groups_33 okX5_friends inX5_friends seX5_friends mlX5_284 (ci := 5) (T := TX5) (N := 35) rfl (mk h.g) (om_friends h.g h.r h.w (by omega)) (by decide) (Nat.le_of_ble_eq_true rfl) ?_
          refine jv_ior dX5_groups_36 ?_
          refine jv_istore2 dX5_groups_37 rfl ?_
          refine jv_iinc3N dX5_groups_38 rfl ?_
          refine jv_goto dX5_groups_41 (tgt := 6) (by decide) ?_
          exact ih (i + 1) _ _ (by omega) (by omega) (by rw [ot_groups, ot_sum, ← ot_groups, if_pos (by rw [← ex]; exact h22), ea]) (by rw [ot_seen, ex])
  refine jv_iconst dX5_groups_0 jv_c_iconst_0 ?_
  refine jv_istore1 dX5_groups_1 rfl ?_
  refine jv_iconst dX5_groups_2 jv_c_iconst_0 ?_
  refine jv_istore2 dX5_groups_3 rfl ?_
  refine jv_iconst dX5_groups_4 jv_c_iconst_0 ?_
  refine jv_istore3 dX5_groups_5 rfl ?_
  exact loop (Y 10 0 + 1) 0 0 _ (by omega) (by omega) rfl rfl
def ot_conflict (Y : ot_Y) : Int32 := if ot_fst (ot_odd Y) (Y 10 2) < Y 10 2 then nI (ot_fst (ot_odd Y) (Y 10 2)) else -1
theorem ot_conf_y {Y : ot_Y} {i : Nat} (hi : i < Y 10 2) (hn : ∀ j, j < i → ot_odd Y j = false) (h : ot_odd Y i = true) : nI i = ot_conflict Y := by
  have e := ot_fst_some (Y 10 2) hi h hn
  unfold ot_conflict
  rw [if_pos (by rw [e]; exact hi), e]
theorem ot_conf_n {Y : ot_Y} (hn : ∀ j, j < Y 10 2 → ot_odd Y j = false) : (-1 : Int32) = ot_conflict Y := by
  have e := ot_fst_none (Y 10 2) hn
  unfold ot_conflict
  rw [if_neg (by rw [e]; exact Nat.lt_irrefl _)]
theorem ot_odd_0 {Y : ot_Y} {i : Nat} (h : ¬ Y 8 i = 0) : ot_odd Y i = false := by unfold ot_odd; rw [decide_eq_false h]; rfl
theorem ot_odd_1 {Y : ot_Y} {i : Nat} (h : ¬ ot_bit (ot_friends Y (Y 6 i)) (Y 7 i) = true) : ot_odd Y i = false := by
  unfold ot_odd
  rw [Bool.not_eq_true] at h
  rw [h]; simp
theorem ot_odd_2 {Y : ot_Y} {i : Nat} (h0 : Y 8 i = 0) (h : ot_bit (ot_friends Y (Y 6 i)) (Y 7 i) = true) : ot_odd Y i = true := by unfold ot_odd; rw [h, decide_eq_true h0]; rfl
theorem ot_less1 {p : Nat → Bool} {i : Nat} (hn : ∀ j, j < i → p j = false) (h : p i = false) : ∀ j, j < i + 1 → p j = false := fun j hj => by
  by_cases e : j = i
  · rw [e]; exact h
  · exact hn j (by omega)
set_option maxRecDepth 20000 in
theorem pc_conflict {G : jv_Gr} {I : jv_I} {J : jv_J} {Y Z : ot_Y} {E : ot_E} {K : Option ot_Y} (h : ot_C G I J Y Z E K)  : ot_cc 8 mX4_conflict [.ref 1] G I J (ot_conflict Y) Y Z E K := by
  have bn := yw_n h.w
  have bc := yw_c h.w
  have bw := yw_w h.w
  refine ⟨I, J, ?_, h, ot_hi.rf⟩
  refine jv_enter okX4_conflict (L := [.ref 1, .null]) rfl (Nat.le_of_ble_eq_true rfl) ?_
  have loop : ∀ (n i : Nat) , Y 10 2 + 1 ≤ i + n → i ≤ Y 10 2 → (∀ j, j < i → ot_odd Y j = false) → jv_V 8 mX4_conflict 2 [.ref 1, .int (nI i)] [] G I J (some (.int (ot_conflict Y))) G I J := by
    intro n
    induction n with
    | zero => intro i  h1 h2; omega
    | succ n ih =>
      intro i  h1 h2 hn
      refine jv_iload1 dX4_conflict_2 ?_
      refine jv_aload0 dX4_conflict_3 ?_
      refine jv_getR dX4_conflict_4 flX4_10 rfl (ck h.g) (cr_now h.g) ?_
      refine jv_getI dX4_conflict_7 flX4_144 rfl (yk (cg_now h.g)) (yi_wishes h.r) ?_
      refine jv_icmp_geN dX4_conflict_10 (tgt := 65) (by decide) (by omega) (by omega) (fun h10 => ?_) (fun h10 => ?_)
      · refine jv_iconst dX4_conflict_65 jv_c_iconst_m1 ?_
        exact jv_iret dX4_conflict_66 rfl rfl (ot_conf_n (by rw [show Y 10 2 = i by omega]; exact hn)) rfl rfl
      · have hw := yw_wish h.w (show i < Y 10 2 by omega)
        refine jv_aload0 dX4_conflict_13 ?_
        refine jv_getR dX4_conflict_14 flX4_10 rfl (ck h.g) (cr_now h.g) ?_
        refine jv_getR dX4_conflict_17 flX4_196 rfl (yk (cg_now h.g)) (yr_together (cg_now h.g)) ?_
        refine jv_iload1 dX4_conflict_20 ?_
        refine jv_ialdN dX4_conflict_21 (yk_together (cg_now h.g)) (by omega) (by decide) (ye_together h.r (by omega)) ?_
        refine jv_if_neN dX4_conflict_22 (tgt := 59) (by decide) (by omega) (fun h22 => ?_) (fun h22 => ?_)
        · refine jv_iinc1N dX4_conflict_59 rfl ?_
          refine jv_goto dX4_conflict_62 (tgt := 2) (by decide) ?_
          exact ih (i + 1) (by omega) (by omega) (ot_less1 hn (ot_odd_0 h22))
        · refine jv_aload0 dX4_conflict_25 ?_
          refine jv_getR dX4_conflict_26 flX4_10 rfl (ck h.g) (cr_now h.g) ?_
          refine jv_aload0 dX4_conflict_29 ?_
          refine jv_getR dX4_conflict_30 flX4_10 rfl (ck h.g) (cr_now h.g) ?_
          refine jv_getR dX4_conflict_33 flX4_190 rfl (yk (cg_now h.g)) (yr_firsts (cg_now h.g)) ?_
          refine jv_iload1 dX4_conflict_36 ?_
          refine jv_ialdN dX4_conflict_37 (yk_firsts (cg_now h.g)) (by omega) (by decide) (ye_firsts h.r (by omega)) ?_
          refine jv_v11 dX4_conflict_38 okX3_hangingWith inX3_hangingWith seX3_hangingWith mlX4_229 (ci := 3) (T := TX3) (N := 15) rfl (yk (cg_now h.g)) (ot_hangM (cg_now h.g) h.r h.w hw.1) (by decide) (Nat.le_of_ble_eq_true rfl) ?_
          refine jv_aload0 dX4_conflict_41 ?_
          refine jv_getR dX4_conflict_42 flX4_10 rfl (ck h.g) (cr_now h.g) ?_
          refine jv_getR dX4_conflict_45 flX4_193 rfl (yk (cg_now h.g)) (yr_seconds (cg_now h.g)) ?_
          refine jv_iload1 dX4_conflict_48 ?_
          refine jv_ialdN dX4_conflict_49 (yk_seconds (cg_now h.g)) (by omega) (by decide) (ye_seconds h.r (by omega)) ?_
          refine jv_ishr dX4_conflict_50 ?_
          refine jv_iconst dX4_conflict_51 jv_c_iconst_1 ?_
          refine jv_iand dX4_conflict_52 ?_
          refine jv_iconst dX4_conflict_53 jv_c_iconst_1 ?_
          rw [ot_has_bit _ (by omega)]
          refine jv_icmp_ne dX4_conflict_54 (tgt := 59) (by decide) (fun h54 => ?_) (fun h54 => ?_)
          · rw [ot_if2] at h54
            refine jv_iinc1N dX4_conflict_59 rfl ?_
            refine jv_goto dX4_conflict_62 (tgt := 2) (by decide) ?_
            exact ih (i + 1) (by omega) (by omega) (ot_less1 hn (ot_odd_1 h54))
          · rw [ot_if2] at h54
            refine jv_iload1 dX4_conflict_57 ?_
            exact jv_iret dX4_conflict_58 rfl rfl (ot_conf_y (by omega) hn (ot_odd_2 h22 h54)) rfl rfl
  refine jv_iconst dX4_conflict_0 jv_c_iconst_0 ?_
  refine jv_istore1 dX4_conflict_1 rfl ?_
  exact loop (Y 10 2 + 1) 0 (by omega) (by omega) (fun j hj => by omega)
set_option maxRecDepth 20000 in
theorem pm_conflict {G : jv_Gr} {I : jv_I} {J : jv_J} {Y Z : ot_Y} {E : ot_E} {K : Option ot_Y} (h : ot_M G I J Y Z E K)  : ot_mm 8 mX5_conflict [.ref 64] G I J (ot_conflict Y) Y Z E K := by
  have bn := yw_n h.w
  have bc := yw_c h.w
  have bw := yw_w h.w
  refine ⟨G, I, J, ?_, h, ot_lo.rf, ot_gx.rf⟩
  refine jv_enter okX5_conflict (L := [.ref 64, .null]) rfl (Nat.le_of_ble_eq_true rfl) ?_
  have loop : ∀ (n i : Nat) , Y 10 2 + 1 ≤ i + n → i ≤ Y 10 2 → (∀ j, j < i → ot_odd Y j = false) → jv_V 8 mX5_conflict 2 [.ref 64, .int (nI i)] [] G I J (some (.int (ot_conflict Y))) G I J := by
    intro n
    induction n with
    | zero => intro i  h1 h2; omega
    | succ n ih =>
      intro i  h1 h2 hn
      refine jv_iload1 dX5_conflict_2 ?_
      refine jv_aload0 dX5_conflict_3 ?_
      refine jv_getI dX5_conflict_4 flX5_141 rfl (mk h.g) (mi_wishes h.r) ?_
      refine jv_icmp_geN dX5_conflict_7 (tgt := 49) (by decide) (by omega) (by omega) (fun h10 => ?_) (fun h10 => ?_)
      · refine jv_iconst dX5_conflict_49 jv_c_iconst_m1 ?_
        exact jv_iret dX5_conflict_50 rfl rfl (ot_conf_n (by rw [show Y 10 2 = i by omega]; exact hn)) rfl rfl
      · have hw := yw_wish h.w (show i < Y 10 2 by omega)
        refine jv_aload0 dX5_conflict_10 ?_
        refine jv_getR dX5_conflict_11 flX5_61 rfl (mk h.g) (mr_together h.g) ?_
        refine jv_iload1 dX5_conflict_14 ?_
        refine jv_ialdN dX5_conflict_15 (mk_together h.g) (by omega) (by decide) (me_together h.r (by omega)) ?_
        refine jv_if_neN dX5_conflict_16 (tgt := 43) (by decide) (by omega) (fun h22 => ?_) (fun h22 => ?_)
        · refine jv_iinc1N dX5_conflict_43 rfl ?_
          refine jv_goto dX5_conflict_46 (tgt := 2) (by decide) ?_
          exact ih (i + 1) (by omega) (by omega) (ot_less1 hn (ot_odd_0 h22))
        · refine jv_aload0 dX5_conflict_19 ?_
          refine jv_aload0 dX5_conflict_20 ?_
          refine jv_getR dX5_conflict_21 flX5_55 rfl (mk h.g) (mr_one h.g) ?_
          refine jv_iload1 dX5_conflict_24 ?_
          refine jv_ialdN dX5_conflict_25 (mk_one h.g) (by omega) (by decide) (me_one h.r (by omega)) ?_
          refine jv_v11 dX5_conflict_26 okX5_friends inX5_friends seX5_friends mlX5_284 (ci := 5) (T := TX5) (N := 35) rfl (mk h.g) (om_friends h.g h.r h.w hw.1) (by decide) (Nat.le_of_ble_eq_true rfl) ?_
          refine jv_aload0 dX5_conflict_29 ?_
          refine jv_getR dX5_conflict_30 flX5_58 rfl (mk h.g) (mr_other h.g) ?_
          refine jv_iload1 dX5_conflict_33 ?_
          refine jv_ialdN dX5_conflict_34 (mk_other h.g) (by omega) (by decide) (me_other h.r (by omega)) ?_
          refine jv_s21 dX5_conflict_35 okX5_has stX5_has mlX5_281 (om_has _ (by omega)) (by decide) (Nat.le_of_ble_eq_true rfl) ?_
          refine jv_if_eqB dX5_conflict_38 (tgt := 43) (by decide) (fun h54 => ?_) (fun h54 => ?_)
          · refine jv_iinc1N dX5_conflict_43 rfl ?_
            refine jv_goto dX5_conflict_46 (tgt := 2) (by decide) ?_
            exact ih (i + 1) (by omega) (by omega) (ot_less1 hn (ot_odd_1 h54))
          · refine jv_iload1 dX5_conflict_41 ?_
            exact jv_iret dX5_conflict_42 rfl rfl (ot_conf_y (by omega) hn (ot_odd_2 h22 h54)) rfl rfl
  refine jv_iconst dX5_conflict_0 jv_c_iconst_0 ?_
  refine jv_istore1 dX5_conflict_1 rfl ?_
  exact loop (Y 10 2 + 1) 0 (by omega) (by omega) (fun j hj => by omega)
