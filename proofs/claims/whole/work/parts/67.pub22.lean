/-! ===== far ===== -/
def ot_fl (w : Nat → Option Nat) : Nat → Option Nat → Option Nat
  | 0, s => s
  | p + 1, s => match w p with
    | none => ot_fl w p s
    | some d => match ot_fl w p s with
      | none => some d
      | some e => if d < e then some d else some e
def ot_fw (Y : ot_Y) (k c o p : Nat) : Option Nat := if ot_sideOf (ot_move Y c p) k c = ot_sideOf (ot_move Y c p) k o then some (ot_dist p (Y 2 c)) else none
def ot_mn (x y : Option Nat) : Option Nat := match x, y with
  | none, y => y
  | some a, none => some a
  | some a, some b => if b < a then some b else some a
theorem ot_fl_mn (w : Nat → Option Nat) : ∀ n s, ot_fl w n s = ot_mn s (ot_fl w n none)
  | 0, s => by cases s <;> rfl
  | n + 1, s => by
    rw [ot_fl, ot_fl, ot_fl_mn w n s]
    cases w n with
    | none => rfl
    | some d =>
      cases ot_fl w n none with
      | none =>
        cases s with
        | none => rfl
        | some a =>
          simp only [ot_mn]
      | some e =>
        cases s with
        | none => rfl
        | some a =>
          by_cases h1 : e < a <;> by_cases h2 : d < e <;> by_cases h3 : d < a <;> simp [ot_mn, h1, h2, h3] <;> omega
theorem ot_fl_le {w : Nat → Option Nat} {m : Nat} (hw : ∀ p d, w p = some d → d ≤ m) : ∀ n d, ot_fl w n none = some d → d ≤ m
  | 0, d, h => by cases h
  | n + 1, d, h => by
    rw [ot_fl] at h
    cases e : w n with
    | none => rw [e] at h; exact ot_fl_le hw n d h
    | some x =>
      rw [e] at h
      have hx := hw n x e
      cases e2 : ot_fl w n none with
      | none => rw [e2] at h; cases h; exact hx
      | some y =>
        rw [e2] at h
        have hy := ot_fl_le hw n y e2
        dsimp only at h
        split at h <;> cases h <;> assumption
theorem ot_fw_le {Y : ot_Y} (hW : ot_YW Y) {k c o : Nat} (hc : c < Y 10 0) {p d : Nat} (hp : p < Y 10 0) (h : ot_fw Y k c o p = some d) : d ≤ 14 := by
  unfold ot_fw at h
  split at h
  · cases h
    have := (yw_child hW hc).2.2.2
    have := yw_n hW
    exact ot_dist_le (by omega) (by omega)
  · cases h
set_option maxRecDepth 20000 in
theorem oc_shortMove {G : jv_Gr} {I : jv_I} {J : jv_J} {Y Z : ot_Y} {E : ot_E} {K : Option ot_Y} (h : ot_C G I J Y Z E K) {k c o : Nat} (hk : k < Y 10 1) (hc : c < Y 10 0) (ho : o < Y 10 0) : ∃ I2, jv_C 6 mX0_shortestMoveOf [.ref 38, .int (nI k), .int (nI c), .int (nI o)] G I J (some (.int (ot_o (ot_fl (ot_fw Y k c o) (Y 10 0) none)))) G I2 J ∧ ot_YR I2 2 Y ∧ (∀ q, q ≠ 2 + 3 → q ≠ 2 + 4 → I2 q = I q) := by
  have bn := yw_n h.w
  have bc := yw_c h.w
  have bw := yw_w h.w
  have hhome := (yw_child h.w hc).2.2.2
  have loop : ∀ (m i : Nat) (A : jv_I) (p0 : Nat) (acc : Option Nat) (s7 : Value), Y 10 0 + 1 ≤ i + m → i ≤ Y 10 0 → p0 < Y 10 0 → ot_YR A 2 (ot_move Y c p0) → (∀ q, q ≠ 2 + 3 → q ≠ 2 + 4 → A q = I q) → acc = (ot_fl (ot_fw Y k c o) i none) → ∃ I2, jv_V 6 mX0_shortestMoveOf 17 [.ref 38, .int (nI k), .int (nI c), .int (nI o), .int (nI (Y 2 c)), .int (ot_o acc), .int (nI i), s7] [] G A J (some (.int (ot_o (ot_fl (ot_fw Y k c o) (Y 10 0) none)))) G I2 J ∧ ot_YR I2 2 Y ∧ (∀ q, q ≠ 2 + 3 → q ≠ 2 + 4 → I2 q = I q) := by
    intro m
    induction m with
    | zero => intro i A p0 acc s7 b1 b2; omega
    | succ m ih =>
      intro i A p0 acc s7 b1 b2 hp0 hR hF ea
      have hW0 := ot_YW_move h.w hc hp0
      by_cases hi : i < Y 10 0
      · obtain ⟨A1, c1, hR1, hF1⟩ := ot_shiftM (J := J) (cg_now h.g) hR hW0 (c := c) (t := i) hc hi
        have hR1 := ot_YR_mm h.w hc hp0 hi hR1
        have hW1 := ot_YW_move h.w hc hi
        have hF2 : ∀ q, q ≠ 2 + 3 → q ≠ 2 + 4 → A1 q = I q := fun q x1 x2 => (hF1 q x1 x2).trans (hF q x1 x2)
        have c2 := ot_sameSideM (J := J) (cg_now h.g) hR1 hW1 (k := k) (c := c) (e := o) hk hc ho
        have hd14 := ot_dist_le (show i ≤ 14 by omega) (show Y 2 c ≤ 14 by omega)
        by_cases hs : ot_sideOf (ot_move Y c i) k c = ot_sideOf (ot_move Y c i) k o
        · have ew : ot_fw Y k c o i = some (ot_dist i (Y 2 c)) := by unfold ot_fw; rw [if_pos hs]
          cases acc with
          | none =>
            obtain ⟨I2, hV, p1, p2⟩ := ih (i + 1) A1 i (some (ot_dist i (Y 2 c))) (.int (nI (ot_dist i (Y 2 c)))) (by omega) (by omega) hi hR1 hF2 (by rw [ot_fl, ew, ← ea])
            refine ⟨I2, ?_, p1, p2⟩
            refine jv_iload6 dX0_shortestMoveOf_17 ?_
            refine jv_aload0 dX0_shortestMoveOf_19 ?_
            refine jv_getR dX0_shortestMoveOf_20 flX0_27 rfl (fk h.g) (fr_yard h.g) ?_
            refine jv_getI dX0_shortestMoveOf_23 flX0_31 rfl (yk (cg_now h.g)) (show A 2 0 = nI (Y 10 0) from hR.1.1) ?_
            refine jv_icmp_geN dX0_shortestMoveOf_26 (tgt := 85) (by decide) (by omega) (by omega) (fun hc26 => by omega) (fun hc26 => ?_)
            refine jv_aload0 dX0_shortestMoveOf_29 ?_
            refine jv_getR dX0_shortestMoveOf_30 flX0_27 rfl (fk h.g) (fr_yard h.g) ?_
            refine jv_iload2 dX0_shortestMoveOf_33 ?_
            refine jv_iload6 dX0_shortestMoveOf_34 ?_
            refine jv_v20 dX0_shortestMoveOf_36 okX3_shift inX3_shift seX3_shift mlX0_96 (ci := 3) (T := TX3) (N := 15) rfl (yk (cg_now h.g)) c1 (by decide) (Nat.le_of_ble_eq_true rfl) ?_
            refine jv_iload6 dX0_shortestMoveOf_39 ?_
            refine jv_iload4 dX0_shortestMoveOf_41 ?_
            refine jv_isub dX0_shortestMoveOf_43 ?_
            refine jv_mabs dX0_shortestMoveOf_44 mlX0_117 st_abs ini_math co_abs (Nat.le_of_ble_eq_true rfl) (by decide) ?_
            rw [ot_absI (show i < 2 ^ 30 by omega) (show Y 2 c < 2 ^ 30 by omega)]
            refine jv_istore7 dX0_shortestMoveOf_47 rfl ?_
            refine jv_aload0 dX0_shortestMoveOf_49 ?_
            refine jv_getR dX0_shortestMoveOf_50 flX0_27 rfl (fk h.g) (fr_yard h.g) ?_
            refine jv_iload1 dX0_shortestMoveOf_53 ?_
            refine jv_iload2 dX0_shortestMoveOf_54 ?_
            refine jv_iload3 dX0_shortestMoveOf_55 ?_
            refine jv_v31 dX0_shortestMoveOf_56 okX3_sameSide inX3_sameSide seX3_sameSide mlX0_121 (ci := 3) (T := TX3) (N := 15) rfl (yk (cg_now h.g)) c2 (by decide) (Nat.le_of_ble_eq_true rfl) ?_
            refine jv_if_eqB dX0_shortestMoveOf_59 (tgt := 79) (by decide) (fun h59 => absurd hs h59) (fun h59 => ?_)
            refine jv_iload5 dX0_shortestMoveOf_62 ?_
            refine jv_iconst dX0_shortestMoveOf_64 jv_c_iconst_m1 ?_
            refine jv_icmp_eq dX0_shortestMoveOf_65 (tgt := 75) (by decide) (fun h65 => ?_) (fun h65 => absurd rfl h65)
            refine jv_iload7 dX0_shortestMoveOf_75 ?_
            refine jv_istore5 dX0_shortestMoveOf_77 rfl ?_
            refine jv_iinc6N dX0_shortestMoveOf_79 rfl ?_
            refine jv_goto dX0_shortestMoveOf_82 (tgt := 17) (by decide) ?_
            exact hV
          | some e =>
            have he : e ≤ 14 := by
              have : ∀ n, n ≤ Y 10 0 → ∀ d, ot_fl (ot_fw Y k c o) n none = some d → d ≤ 14 := fun n hn d hd => by
                have q : ot_fl (ot_fw Y k c o) n none = ot_fl (fun p => if p < Y 10 0 then ot_fw Y k c o p else none) n none := by
                  clear hd
                  induction n with
                  | zero => rfl
                  | succ n ihn => rw [ot_fl, ot_fl, ihn (by omega)]; rw [if_pos (show n < Y 10 0 by omega)]
                rw [q] at hd
                refine ot_fl_le (fun p d hpd => ?_) n d hd
                split at hpd
                · rename_i hp; exact ot_fw_le h.w hc hp hpd
                · cases hpd
              exact this i b2 e ea.symm
            by_cases hlt : ot_dist i (Y 2 c) < e
            · obtain ⟨I2, hV, p1, p2⟩ := ih (i + 1) A1 i (some (ot_dist i (Y 2 c))) (.int (nI (ot_dist i (Y 2 c)))) (by omega) (by omega) hi hR1 hF2 (by rw [ot_fl, ew, ← ea]; dsimp only; rw [if_pos hlt])
              refine ⟨I2, ?_, p1, p2⟩
              refine jv_iload6 dX0_shortestMoveOf_17 ?_
              refine jv_aload0 dX0_shortestMoveOf_19 ?_
              refine jv_getR dX0_shortestMoveOf_20 flX0_27 rfl (fk h.g) (fr_yard h.g) ?_
              refine jv_getI dX0_shortestMoveOf_23 flX0_31 rfl (yk (cg_now h.g)) (show A 2 0 = nI (Y 10 0) from hR.1.1) ?_
              refine jv_icmp_geN dX0_shortestMoveOf_26 (tgt := 85) (by decide) (by omega) (by omega) (fun hc26 => by omega) (fun hc26 => ?_)
              refine jv_aload0 dX0_shortestMoveOf_29 ?_
              refine jv_getR dX0_shortestMoveOf_30 flX0_27 rfl (fk h.g) (fr_yard h.g) ?_
              refine jv_iload2 dX0_shortestMoveOf_33 ?_
              refine jv_iload6 dX0_shortestMoveOf_34 ?_
              refine jv_v20 dX0_shortestMoveOf_36 okX3_shift inX3_shift seX3_shift mlX0_96 (ci := 3) (T := TX3) (N := 15) rfl (yk (cg_now h.g)) c1 (by decide) (Nat.le_of_ble_eq_true rfl) ?_
              refine jv_iload6 dX0_shortestMoveOf_39 ?_
              refine jv_iload4 dX0_shortestMoveOf_41 ?_
              refine jv_isub dX0_shortestMoveOf_43 ?_
              refine jv_mabs dX0_shortestMoveOf_44 mlX0_117 st_abs ini_math co_abs (Nat.le_of_ble_eq_true rfl) (by decide) ?_
              rw [ot_absI (show i < 2 ^ 30 by omega) (show Y 2 c < 2 ^ 30 by omega)]
              refine jv_istore7 dX0_shortestMoveOf_47 rfl ?_
              refine jv_aload0 dX0_shortestMoveOf_49 ?_
              refine jv_getR dX0_shortestMoveOf_50 flX0_27 rfl (fk h.g) (fr_yard h.g) ?_
              refine jv_iload1 dX0_shortestMoveOf_53 ?_
              refine jv_iload2 dX0_shortestMoveOf_54 ?_
              refine jv_iload3 dX0_shortestMoveOf_55 ?_
              refine jv_v31 dX0_shortestMoveOf_56 okX3_sameSide inX3_sameSide seX3_sameSide mlX0_121 (ci := 3) (T := TX3) (N := 15) rfl (yk (cg_now h.g)) c2 (by decide) (Nat.le_of_ble_eq_true rfl) ?_
              refine jv_if_eqB dX0_shortestMoveOf_59 (tgt := 79) (by decide) (fun h59 => absurd hs h59) (fun h59 => ?_)
              refine jv_iload5 dX0_shortestMoveOf_62 ?_
              refine jv_iconst dX0_shortestMoveOf_64 jv_c_iconst_m1 ?_
              refine jv_icmp_eq dX0_shortestMoveOf_65 (tgt := 75) (by decide) (fun h65 => absurd h65 (ot_nI_n1 (by omega))) (fun h65 => ?_)
              refine jv_iload7 dX0_shortestMoveOf_68 ?_
              refine jv_iload5 dX0_shortestMoveOf_70 ?_
              refine jv_icmp_geN dX0_shortestMoveOf_72 (tgt := 79) (by decide) (by omega) (by omega) (fun h72 => by omega) (fun h72 => ?_)
              refine jv_iload7 dX0_shortestMoveOf_75 ?_
              refine jv_istore5 dX0_shortestMoveOf_77 rfl ?_
              refine jv_iinc6N dX0_shortestMoveOf_79 rfl ?_
              refine jv_goto dX0_shortestMoveOf_82 (tgt := 17) (by decide) ?_
              exact hV
            · obtain ⟨I2, hV, p1, p2⟩ := ih (i + 1) A1 i (some e) (.int (nI (ot_dist i (Y 2 c)))) (by omega) (by omega) hi hR1 hF2 (by rw [ot_fl, ew, ← ea]; dsimp only; rw [if_neg hlt])
              refine ⟨I2, ?_, p1, p2⟩
              refine jv_iload6 dX0_shortestMoveOf_17 ?_
              refine jv_aload0 dX0_shortestMoveOf_19 ?_
              refine jv_getR dX0_shortestMoveOf_20 flX0_27 rfl (fk h.g) (fr_yard h.g) ?_
              refine jv_getI dX0_shortestMoveOf_23 flX0_31 rfl (yk (cg_now h.g)) (show A 2 0 = nI (Y 10 0) from hR.1.1) ?_
              refine jv_icmp_geN dX0_shortestMoveOf_26 (tgt := 85) (by decide) (by omega) (by omega) (fun hc26 => by omega) (fun hc26 => ?_)
              refine jv_aload0 dX0_shortestMoveOf_29 ?_
              refine jv_getR dX0_shortestMoveOf_30 flX0_27 rfl (fk h.g) (fr_yard h.g) ?_
              refine jv_iload2 dX0_shortestMoveOf_33 ?_
              refine jv_iload6 dX0_shortestMoveOf_34 ?_
              refine jv_v20 dX0_shortestMoveOf_36 okX3_shift inX3_shift seX3_shift mlX0_96 (ci := 3) (T := TX3) (N := 15) rfl (yk (cg_now h.g)) c1 (by decide) (Nat.le_of_ble_eq_true rfl) ?_
              refine jv_iload6 dX0_shortestMoveOf_39 ?_
              refine jv_iload4 dX0_shortestMoveOf_41 ?_
              refine jv_isub dX0_shortestMoveOf_43 ?_
              refine jv_mabs dX0_shortestMoveOf_44 mlX0_117 st_abs ini_math co_abs (Nat.le_of_ble_eq_true rfl) (by decide) ?_
              rw [ot_absI (show i < 2 ^ 30 by omega) (show Y 2 c < 2 ^ 30 by omega)]
              refine jv_istore7 dX0_shortestMoveOf_47 rfl ?_
              refine jv_aload0 dX0_shortestMoveOf_49 ?_
              refine jv_getR dX0_shortestMoveOf_50 flX0_27 rfl (fk h.g) (fr_yard h.g) ?_
              refine jv_iload1 dX0_shortestMoveOf_53 ?_
              refine jv_iload2 dX0_shortestMoveOf_54 ?_
              refine jv_iload3 dX0_shortestMoveOf_55 ?_
              refine jv_v31 dX0_shortestMoveOf_56 okX3_sameSide inX3_sameSide seX3_sameSide mlX0_121 (ci := 3) (T := TX3) (N := 15) rfl (yk (cg_now h.g)) c2 (by decide) (Nat.le_of_ble_eq_true rfl) ?_
              refine jv_if_eqB dX0_shortestMoveOf_59 (tgt := 79) (by decide) (fun h59 => absurd hs h59) (fun h59 => ?_)
              refine jv_iload5 dX0_shortestMoveOf_62 ?_
              refine jv_iconst dX0_shortestMoveOf_64 jv_c_iconst_m1 ?_
              refine jv_icmp_eq dX0_shortestMoveOf_65 (tgt := 75) (by decide) (fun h65 => absurd h65 (ot_nI_n1 (by omega))) (fun h65 => ?_)
              refine jv_iload7 dX0_shortestMoveOf_68 ?_
              refine jv_iload5 dX0_shortestMoveOf_70 ?_
              refine jv_icmp_geN dX0_shortestMoveOf_72 (tgt := 79) (by decide) (by omega) (by omega) (fun h72 => ?_) (fun h72 => by omega)
              refine jv_iinc6N dX0_shortestMoveOf_79 rfl ?_
              refine jv_goto dX0_shortestMoveOf_82 (tgt := 17) (by decide) ?_
              exact hV
        · have ew : ot_fw Y k c o i = none := by unfold ot_fw; rw [if_neg hs]
          obtain ⟨I2, hV, p1, p2⟩ := ih (i + 1) A1 i acc (.int (nI (ot_dist i (Y 2 c)))) (by omega) (by omega) hi hR1 hF2 (by rw [ot_fl, ew]; exact ea)
          refine ⟨I2, ?_, p1, p2⟩
          refine jv_iload6 dX0_shortestMoveOf_17 ?_
          refine jv_aload0 dX0_shortestMoveOf_19 ?_
          refine jv_getR dX0_shortestMoveOf_20 flX0_27 rfl (fk h.g) (fr_yard h.g) ?_
          refine jv_getI dX0_shortestMoveOf_23 flX0_31 rfl (yk (cg_now h.g)) (show A 2 0 = nI (Y 10 0) from hR.1.1) ?_
          refine jv_icmp_geN dX0_shortestMoveOf_26 (tgt := 85) (by decide) (by omega) (by omega) (fun hc26 => by omega) (fun hc26 => ?_)
          refine jv_aload0 dX0_shortestMoveOf_29 ?_
          refine jv_getR dX0_shortestMoveOf_30 flX0_27 rfl (fk h.g) (fr_yard h.g) ?_
          refine jv_iload2 dX0_shortestMoveOf_33 ?_
          refine jv_iload6 dX0_shortestMoveOf_34 ?_
          refine jv_v20 dX0_shortestMoveOf_36 okX3_shift inX3_shift seX3_shift mlX0_96 (ci := 3) (T := TX3) (N := 15) rfl (yk (cg_now h.g)) c1 (by decide) (Nat.le_of_ble_eq_true rfl) ?_
          refine jv_iload6 dX0_shortestMoveOf_39 ?_
          refine jv_iload4 dX0_shortestMoveOf_41 ?_
          refine jv_isub dX0_shortestMoveOf_43 ?_
          refine jv_mabs dX0_shortestMoveOf_44 mlX0_117 st_abs ini_math co_abs (Nat.le_of_ble_eq_true rfl) (by decide) ?_
          rw [ot_absI (show i < 2 ^ 30 by omega) (show Y 2 c < 2 ^ 30 by omega)]
          refine jv_istore7 dX0_shortestMoveOf_47 rfl ?_
          refine jv_aload0 dX0_shortestMoveOf_49 ?_
          refine jv_getR dX0_shortestMoveOf_50 flX0_27 rfl (fk h.g) (fr_yard h.g) ?_
          refine jv_iload1 dX0_shortestMoveOf_53 ?_
          refine jv_iload2 dX0_shortestMoveOf_54 ?_
          refine jv_iload3 dX0_shortestMoveOf_55 ?_
          refine jv_v31 dX0_shortestMoveOf_56 okX3_sameSide inX3_sameSide seX3_sameSide mlX0_121 (ci := 3) (T := TX3) (N := 15) rfl (yk (cg_now h.g)) c2 (by decide) (Nat.le_of_ble_eq_true rfl) ?_
          refine jv_if_eqB dX0_shortestMoveOf_59 (tgt := 79) (by decide) (fun h59 => ?_) (fun h59 => absurd h59 hs)
          refine jv_iinc6N dX0_shortestMoveOf_79 rfl ?_
          refine jv_goto dX0_shortestMoveOf_82 (tgt := 17) (by decide) ?_
          exact hV
      · obtain ⟨A1, c3, hR1, hF1⟩ := ot_shiftM (J := J) (cg_now h.g) hR hW0 (c := c) (t := Y 2 c) hc hhome
        have hR1 := (ot_YR_home h.w hc).mp (ot_YR_mm h.w hc hp0 hhome hR1)
        refine ⟨A1, ?_, hR1, fun q x1 x2 => (hF1 q x1 x2).trans (hF q x1 x2)⟩
        refine jv_iload6 dX0_shortestMoveOf_17 ?_
        refine jv_aload0 dX0_shortestMoveOf_19 ?_
        refine jv_getR dX0_shortestMoveOf_20 flX0_27 rfl (fk h.g) (fr_yard h.g) ?_
        refine jv_getI dX0_shortestMoveOf_23 flX0_31 rfl (yk (cg_now h.g)) (show A 2 0 = nI (Y 10 0) from hR.1.1) ?_
        refine jv_icmp_geN dX0_shortestMoveOf_26 (tgt := 85) (by decide) (by omega) (by omega) (fun hc26 => ?_) (fun hc26 => by omega)
        refine jv_aload0 dX0_shortestMoveOf_85 ?_
        refine jv_getR dX0_shortestMoveOf_86 flX0_27 rfl (fk h.g) (fr_yard h.g) ?_
        refine jv_iload2 dX0_shortestMoveOf_89 ?_
        refine jv_iload4 dX0_shortestMoveOf_90 ?_
        refine jv_v20 dX0_shortestMoveOf_92 okX3_shift inX3_shift seX3_shift mlX0_96 (ci := 3) (T := TX3) (N := 15) rfl (yk (cg_now h.g)) c3 (by decide) (Nat.le_of_ble_eq_true rfl) ?_
        refine jv_iload5 dX0_shortestMoveOf_95 ?_
        exact jv_iret dX0_shortestMoveOf_97 rfl rfl (by rw [ea, show i = Y 10 0 by omega]) rfl rfl
  obtain ⟨I2, hV, p1, p2⟩ := loop (Y 10 0 + 1) 0 I (Y 2 c) none .null (by omega) (by omega) hhome ((ot_YR_home h.w hc).mpr h.r) (fun _ _ _ => rfl) rfl
  refine ⟨I2, ?_, p1, p2⟩
  refine jv_enter okX0_shortestMoveOf (L := [.ref 38, .int (nI k), .int (nI c), .int (nI o), .null, .null, .null, .null]) rfl (Nat.le_of_ble_eq_true rfl) ?_
  refine jv_aload0 dX0_shortestMoveOf_0 ?_
  refine jv_getR dX0_shortestMoveOf_1 flX0_27 rfl (fk h.g) (fr_yard h.g) ?_
  refine jv_getR dX0_shortestMoveOf_4 flX0_93 rfl (yk (cg_now h.g)) (yr_where (cg_now h.g)) ?_
  refine jv_iload2 dX0_shortestMoveOf_7 ?_
  refine jv_ialdN dX0_shortestMoveOf_8 (yk_where (cg_now h.g)) (by omega) (by decide) (ye_where h.r (by omega)) ?_
  refine jv_istore4 dX0_shortestMoveOf_9 rfl ?_
  refine jv_iconst dX0_shortestMoveOf_11 jv_c_iconst_m1 ?_
  refine jv_istore5 dX0_shortestMoveOf_12 rfl ?_
  refine jv_iconst dX0_shortestMoveOf_14 jv_c_iconst_0 ?_
  refine jv_istore6 dX0_shortestMoveOf_15 rfl ?_
  exact hV
theorem ot_fl_14 {Y : ot_Y} (hW : ot_YW Y) {k c o d : Nat} (hc : c < Y 10 0) (hd : ot_fl (ot_fw Y k c o) (Y 10 0) none = some d) : d ≤ 14 := by
  have q : ∀ n, n ≤ Y 10 0 → ot_fl (ot_fw Y k c o) n none = ot_fl (fun p => if p < Y 10 0 then ot_fw Y k c o p else none) n none := fun n hn => by
    induction n with
    | zero => rfl
    | succ n ihn => rw [ot_fl, ot_fl, ihn (by omega)]; rw [if_pos (show n < Y 10 0 by omega)]
  rw [q _ (Nat.le_refl _)] at hd
  refine ot_fl_le (fun p d hpd => ?_) _ d hd
  split at hpd
  · rename_i hp; exact ot_fw_le hW hc hp hpd
  · cases hpd
def ot_far (Y : ot_Y) (k a b : Nat) : Option Nat := ot_fl (ot_fw Y k b a) (Y 10 0) (ot_fl (ot_fw Y k a b) (Y 10 0) none)
theorem ot_n1lt {y : Nat} (hy : y < 2 ^ 30) : (-1 : Int32) < nI y := by
  rw [Int32.lt_iff_toInt_lt, nI_toInt (by omega), show (-1 : Int32).toInt = -1 by decide]; omega
theorem ot_max1 {y : Nat} (hy : y < 2 ^ 30) : (if (-1 : Int32) < nI y then nI y else -1) = ot_o (ot_mn none (some y)) := by rw [if_pos (ot_n1lt hy)]; rfl
theorem ot_max2 {x : Nat} (hx : x < 2 ^ 30) : (if nI x < -1 then -1 else nI x) = ot_o (ot_mn (some x) none) := by
  rw [if_neg (fun q => absurd (Int32.lt_trans q (ot_n1lt hx)) (Int32.lt_irrefl))]; rfl
theorem ot_min2 {x y : Nat} (hx : x < 2 ^ 30) (hy : y < 2 ^ 30) : (if nI y < nI x then nI y else nI x) = ot_o (ot_mn (some x) (some y)) := by
  show _ = ot_o (if y < x then some y else some x)
  by_cases h : y < x
  · rw [if_pos h, if_pos ((nI_ltI (by omega) (by omega)).mpr h)]; rfl
  · rw [if_neg h, if_neg (fun q => h ((nI_ltI (by omega) (by omega)).mp q))]; rfl
set_option maxRecDepth 20000 in
theorem oc_far {G : jv_Gr} {I : jv_I} {J : jv_J} {Y Z : ot_Y} {E : ot_E} {K : Option ot_Y} (h : ot_C G I J Y Z E K) {k a b : Nat} (hk : k < Y 10 1) (ha : a < Y 10 0) (hb : b < Y 10 0) : ∃ I2, jv_C 7 mX0_shortestMove [.ref 38, .int (nI k), .int (nI a), .int (nI b)] G I J (some (.int (ot_o (ot_far Y k a b)))) G I2 J ∧ ot_YR I2 2 Y ∧ (∀ q, q ≠ 2 + 3 → q ≠ 2 + 4 → I2 q = I q) := by
  obtain ⟨A1, c1, hR1, hF1⟩ := oc_shortMove h hk ha hb
  have hf1 := ot_fr.pl hF1
  have h1 := ot_C_yard h hR1 h.w h.z hf1
  obtain ⟨A2, c2, hR2, hF2⟩ := oc_shortMove h1 hk hb ha
  refine ⟨A2, ?_, hR2, fun q x1 x2 => (hF2 q x1 x2).trans (hF1 q x1 x2)⟩
  refine jv_enter okX0_shortestMove (L := [.ref 38, .int (nI k), .int (nI a), .int (nI b), .null, .null]) rfl (Nat.le_of_ble_eq_true rfl) ?_
  cases e1 : (ot_fl (ot_fw Y k a b) (Y 10 0) none) with
  | none =>
    rw [e1] at c1
    cases e2 : (ot_fl (ot_fw Y k b a) (Y 10 0) none) with
    | none =>
      rw [e2] at c2
      have c1 : jv_C 6 mX0_shortestMoveOf _ G I J (some (.int (-1))) G A1 J := c1
      have c2 : jv_C 6 mX0_shortestMoveOf _ G A1 J (some (.int (-1))) G A2 J := c2
      refine jv_aload0 dX0_shortestMove_0 ?_
      refine jv_iload1 dX0_shortestMove_1 ?_
      refine jv_iload2 dX0_shortestMove_2 ?_
      refine jv_iload3 dX0_shortestMove_3 ?_
      refine jv_v31 dX0_shortestMove_4 okX0_shortestMoveOf inX0_shortestMoveOf seX0_shortestMoveOf mlX0_105 (ci := 0) (T := TX0) (N := 6) rfl (fk h.g) c1 (by decide) (Nat.le_of_ble_eq_true rfl) ?_
      refine jv_istore4 dX0_shortestMove_7 rfl ?_
      refine jv_aload0 dX0_shortestMove_9 ?_
      refine jv_iload1 dX0_shortestMove_10 ?_
      refine jv_iload3 dX0_shortestMove_11 ?_
      refine jv_iload2 dX0_shortestMove_12 ?_
      refine jv_v31 dX0_shortestMove_13 okX0_shortestMoveOf inX0_shortestMoveOf seX0_shortestMoveOf mlX0_105 (ci := 0) (T := TX0) (N := 6) rfl (fk h.g) c2 (by decide) (Nat.le_of_ble_eq_true rfl) ?_
      refine jv_istore5 dX0_shortestMove_16 rfl ?_
      refine jv_iload4 dX0_shortestMove_18 ?_
      refine jv_iconst dX0_shortestMove_20 jv_c_iconst_m1 ?_
      refine jv_icmp_eq dX0_shortestMove_21 (tgt := 30) (by decide) (fun h21 => ?_) (fun h21 => absurd rfl h21)
      refine jv_iload4 dX0_shortestMove_30 ?_
      refine jv_iload5 dX0_shortestMove_32 ?_
      refine jv_mmax dX0_shortestMove_34 mlX0_109 st_max ini_math co_max (Nat.le_of_ble_eq_true rfl) (by decide) ?_
      exact jv_iret dX0_shortestMove_37 rfl rfl (by unfold ot_far; rw [ot_fl_mn, e1, e2]; decide) rfl rfl
    | some y =>
      have hy := ot_fl_14 h.w hb e2
      rw [e2] at c2
      have c1 : jv_C 6 mX0_shortestMoveOf _ G I J (some (.int (-1))) G A1 J := c1
      have c2 : jv_C 6 mX0_shortestMoveOf _ G A1 J (some (.int (nI y))) G A2 J := c2
      refine jv_aload0 dX0_shortestMove_0 ?_
      refine jv_iload1 dX0_shortestMove_1 ?_
      refine jv_iload2 dX0_shortestMove_2 ?_
      refine jv_iload3 dX0_shortestMove_3 ?_
      refine jv_v31 dX0_shortestMove_4 okX0_shortestMoveOf inX0_shortestMoveOf seX0_shortestMoveOf mlX0_105 (ci := 0) (T := TX0) (N := 6) rfl (fk h.g) c1 (by decide) (Nat.le_of_ble_eq_true rfl) ?_
      refine jv_istore4 dX0_shortestMove_7 rfl ?_
      refine jv_aload0 dX0_shortestMove_9 ?_
      refine jv_iload1 dX0_shortestMove_10 ?_
      refine jv_iload3 dX0_shortestMove_11 ?_
      refine jv_iload2 dX0_shortestMove_12 ?_
      refine jv_v31 dX0_shortestMove_13 okX0_shortestMoveOf inX0_shortestMoveOf seX0_shortestMoveOf mlX0_105 (ci := 0) (T := TX0) (N := 6) rfl (fk h.g) c2 (by decide) (Nat.le_of_ble_eq_true rfl) ?_
      refine jv_istore5 dX0_shortestMove_16 rfl ?_
      refine jv_iload4 dX0_shortestMove_18 ?_
      refine jv_iconst dX0_shortestMove_20 jv_c_iconst_m1 ?_
      refine jv_icmp_eq dX0_shortestMove_21 (tgt := 30) (by decide) (fun h21 => ?_) (fun h21 => absurd rfl h21)
      refine jv_iload4 dX0_shortestMove_30 ?_
      refine jv_iload5 dX0_shortestMove_32 ?_
      refine jv_mmax dX0_shortestMove_34 mlX0_109 st_max ini_math co_max (Nat.le_of_ble_eq_true rfl) (by decide) ?_
      exact jv_iret dX0_shortestMove_37 rfl rfl (by unfold ot_far; rw [ot_fl_mn, e1, e2]; exact ot_max1 (by omega)) rfl rfl
  | some x =>
    have hx := ot_fl_14 h.w ha e1
    rw [e1] at c1
    have c1 : jv_C 6 mX0_shortestMoveOf _ G I J (some (.int (nI x))) G A1 J := c1
    cases e2 : (ot_fl (ot_fw Y k b a) (Y 10 0) none) with
    | none =>
      rw [e2] at c2
      have c2 : jv_C 6 mX0_shortestMoveOf _ G A1 J (some (.int (-1))) G A2 J := c2
      refine jv_aload0 dX0_shortestMove_0 ?_
      refine jv_iload1 dX0_shortestMove_1 ?_
      refine jv_iload2 dX0_shortestMove_2 ?_
      refine jv_iload3 dX0_shortestMove_3 ?_
      refine jv_v31 dX0_shortestMove_4 okX0_shortestMoveOf inX0_shortestMoveOf seX0_shortestMoveOf mlX0_105 (ci := 0) (T := TX0) (N := 6) rfl (fk h.g) c1 (by decide) (Nat.le_of_ble_eq_true rfl) ?_
      refine jv_istore4 dX0_shortestMove_7 rfl ?_
      refine jv_aload0 dX0_shortestMove_9 ?_
      refine jv_iload1 dX0_shortestMove_10 ?_
      refine jv_iload3 dX0_shortestMove_11 ?_
      refine jv_iload2 dX0_shortestMove_12 ?_
      refine jv_v31 dX0_shortestMove_13 okX0_shortestMoveOf inX0_shortestMoveOf seX0_shortestMoveOf mlX0_105 (ci := 0) (T := TX0) (N := 6) rfl (fk h.g) c2 (by decide) (Nat.le_of_ble_eq_true rfl) ?_
      refine jv_istore5 dX0_shortestMove_16 rfl ?_
      refine jv_iload4 dX0_shortestMove_18 ?_
      refine jv_iconst dX0_shortestMove_20 jv_c_iconst_m1 ?_
      refine jv_icmp_eq dX0_shortestMove_21 (tgt := 30) (by decide) (fun h21 => absurd h21 (ot_nI_n1 (by omega))) (fun h21 => ?_)
      refine jv_iload5 dX0_shortestMove_24 ?_
      refine jv_iconst dX0_shortestMove_26 jv_c_iconst_m1 ?_
      refine jv_icmp_ne dX0_shortestMove_27 (tgt := 38) (by decide) (fun h27 => absurd rfl h27) (fun h27 => ?_)
      refine jv_iload4 dX0_shortestMove_30 ?_
      refine jv_iload5 dX0_shortestMove_32 ?_
      refine jv_mmax dX0_shortestMove_34 mlX0_109 st_max ini_math co_max (Nat.le_of_ble_eq_true rfl) (by decide) ?_
      exact jv_iret dX0_shortestMove_37 rfl rfl (by unfold ot_far; rw [ot_fl_mn, e1, e2]; exact ot_max2 (by omega)) rfl rfl
    | some y =>
      have hy := ot_fl_14 h.w hb e2
      rw [e2] at c2
      have c2 : jv_C 6 mX0_shortestMoveOf _ G A1 J (some (.int (nI y))) G A2 J := c2
      refine jv_aload0 dX0_shortestMove_0 ?_
      refine jv_iload1 dX0_shortestMove_1 ?_
      refine jv_iload2 dX0_shortestMove_2 ?_
      refine jv_iload3 dX0_shortestMove_3 ?_
      refine jv_v31 dX0_shortestMove_4 okX0_shortestMoveOf inX0_shortestMoveOf seX0_shortestMoveOf mlX0_105 (ci := 0) (T := TX0) (N := 6) rfl (fk h.g) c1 (by decide) (Nat.le_of_ble_eq_true rfl) ?_
      refine jv_istore4 dX0_shortestMove_7 rfl ?_
      refine jv_aload0 dX0_shortestMove_9 ?_
      refine jv_iload1 dX0_shortestMove_10 ?_
      refine jv_iload3 dX0_shortestMove_11 ?_
      refine jv_iload2 dX0_shortestMove_12 ?_
      refine jv_v31 dX0_shortestMove_13 okX0_shortestMoveOf inX0_shortestMoveOf seX0_shortestMoveOf mlX0_105 (ci := 0) (T := TX0) (N := 6) rfl (fk h.g) c2 (by decide) (Nat.le_of_ble_eq_true rfl) ?_
      refine jv_istore5 dX0_shortestMove_16 rfl ?_
      refine jv_iload4 dX0_shortestMove_18 ?_
      refine jv_iconst dX0_shortestMove_20 jv_c_iconst_m1 ?_
      refine jv_icmp_eq dX0_shortestMove_21 (tgt := 30) (by decide) (fun h21 => absurd h21 (ot_nI_n1 (by omega))) (fun h21 => ?_)
      refine jv_iload5 dX0_shortestMove_24 ?_
      refine jv_iconst dX0_shortestMove_26 jv_c_iconst_m1 ?_
      refine jv_icmp_ne dX0_shortestMove_27 (tgt := 38) (by decide) (fun h27 => ?_) (fun h27 => absurd h27 (ot_nI_n1 (by omega)))
      refine jv_iload4 dX0_shortestMove_38 ?_
      refine jv_iload5 dX0_shortestMove_40 ?_
      refine jv_mmin dX0_shortestMove_42 mlX0_114 st_min ini_math co_min (Nat.le_of_ble_eq_true rfl) (by decide) ?_
      exact jv_iret dX0_shortestMove_45 rfl rfl (by unfold ot_far; rw [ot_fl_mn, e1, e2]; exact ot_min2 (by omega) (by omega)) rfl rfl
set_option maxRecDepth 20000 in
theorem pc_far {G : jv_Gr} {I : jv_I} {J : jv_J} {Y Z : ot_Y} {E : ot_E} {K : Option ot_Y} (h : ot_C G I J Y Z E K) (k : Int32) (a : Int32) (b : Int32) : ot_cc 9 mX4_far [.ref 1, .int k, .int a, .int b] G I J (ot_ans (ot_rc ((0 ≤ k.toInt ∧ k.toInt < Y 10 1) ∧ (0 ≤ a.toInt ∧ a.toInt < Y 10 0) ∧ (0 ≤ b.toInt ∧ b.toInt < Y 10 0) ∧ a ≠ b)) (ot_o (ot_far Y (ot_n k) (ot_n a) (ot_n b)))) Y (ot_zr Z (ot_rc ((0 ≤ k.toInt ∧ k.toInt < Y 10 1) ∧ (0 ≤ a.toInt ∧ a.toInt < Y 10 0) ∧ (0 ≤ b.toInt ∧ b.toInt < Y 10 0) ∧ a ≠ b))) E K := by
  have bn := yw_n h.w
  have bc := yw_c h.w
  have bw := yw_w h.w
  refine ot_rc_split (motive := fun rc => ot_cc 9 mX4_far [.ref 1, .int k, .int a, .int b] G I J (ot_ans rc (ot_o (ot_far Y (ot_n k) (ot_n a) (ot_n b)))) Y (ot_zr Z rc) E K) (fun hv => ?_) (fun hv => ?_)
  · obtain ⟨j, hj, rfl⟩ := ot_of hv.1 (by omega)
    rw [ot_n_nI (show j < 2 ^ 30 by omega)]
    obtain ⟨x, hx, rfl⟩ := ot_of hv.2.1 (by omega)
    rw [ot_n_nI (show x < 2 ^ 30 by omega)]
    obtain ⟨z, hz, rfl⟩ := ot_of hv.2.2.1 (by omega)
    rw [ot_n_nI (show z < 2 ^ 30 by omega)]
    obtain ⟨I2, hA, hR2, hF⟩ := oc_far h hj hx hz
    rw [ot_ans_0]
    have hf := ot_fr.pl hF
    refine ⟨I2, J, ?_, ot_C_yard h hR2 h.w h.z hf, ot_hi.fr hf (by decide)⟩
    refine jv_enter okX4_far (L := [.ref 1, .int (nI j), .int (nI x), .int (nI z)]) rfl (Nat.le_of_ble_eq_true rfl) ?_
    refine jv_aload0 dX4_far_0 ?_
    refine jv_getR dX4_far_1 flX4_10 rfl (ck h.g) (cr_now h.g) ?_
    refine jv_iload1 dX4_far_4 ?_
    refine jv_v11 dX4_far_5 okX3_hasCount inX3_hasCount seX3_hasCount mlX4_101 (ci := 3) (T := TX3) (N := 15) rfl (yk (cg_now h.g)) (ot_hasCount (cg_now h.g) h.r h.w _) (by decide) (Nat.le_of_ble_eq_true rfl) ?_
    refine jv_if_eqB dX4_far_8 (tgt := 20) (by decide) (fun hq8 => absurd hv.1 hq8) (fun hq8 => ?_)
    refine jv_aload0 dX4_far_11 ?_
    refine jv_iload2 dX4_far_12 ?_
    refine jv_iload3 dX4_far_13 ?_
    refine jv_v21 dX4_far_14 okX4_areTwo inX4_areTwo seX4_areTwo mlX4_141 (ci := 4) (T := TX4) (N := 8) rfl (ck h.g) (oc_areTwo h _ _) (by decide) (Nat.le_of_ble_eq_true rfl) ?_
    refine jv_if_neB dX4_far_17 (tgt := 27) (by decide) (fun hq17 => ?_) (fun hq17 => absurd hv.2 hq17)
    refine jv_aload0 dX4_far_27 ?_
    refine jv_getR dX4_far_28 flX4_27 rfl (ck h.g) (cr_finder h.g) ?_
    refine jv_iload1 dX4_far_31 ?_
    refine jv_iload2 dX4_far_32 ?_
    refine jv_iload3 dX4_far_33 ?_
    refine jv_v31 dX4_far_34 okX0_shortestMove inX0_shortestMove seX0_shortestMove mlX4_247 (ci := 0) (T := TX0) (N := 6) rfl (fk h.g) hA (by decide) (Nat.le_of_ble_eq_true rfl) ?_
    exact jv_iret dX4_far_37 rfl rfl rfl rfl rfl
  · obtain ⟨I2, hC, h2, h3⟩ := oc_refuse2 h
    refine ⟨I2, J, ?_, h2, h3⟩
    refine jv_enter okX4_far (L := [.ref 1, .int k, .int a, .int b]) rfl (Nat.le_of_ble_eq_true rfl) ?_
    refine jv_aload0 dX4_far_0 ?_
    refine jv_getR dX4_far_1 flX4_10 rfl (ck h.g) (cr_now h.g) ?_
    refine jv_iload1 dX4_far_4 ?_
    refine jv_v11 dX4_far_5 okX3_hasCount inX3_hasCount seX3_hasCount mlX4_101 (ci := 3) (T := TX3) (N := 15) rfl (yk (cg_now h.g)) (ot_hasCount (cg_now h.g) h.r h.w _) (by decide) (Nat.le_of_ble_eq_true rfl) ?_
    refine jv_if_eqB dX4_far_8 (tgt := 20) (by decide) (fun g8 => ?_) (fun g8 => ?_)
    · refine jv_aload0 dX4_far_20 ?_
      refine jv_bipush dX4_far_21 jv_c_bipush_m2 ?_
      refine jv_v11 dX4_far_23 okX4_refuse inX4_refuse seX4_refuse mlX4_61 (ci := 4) (T := TX4) (N := 8) rfl (ck h.g) hC (by decide) (Nat.le_of_ble_eq_true rfl) ?_
      exact jv_iret dX4_far_26 rfl rfl rfl rfl rfl
    · refine jv_aload0 dX4_far_11 ?_
      refine jv_iload2 dX4_far_12 ?_
      refine jv_iload3 dX4_far_13 ?_
      refine jv_v21 dX4_far_14 okX4_areTwo inX4_areTwo seX4_areTwo mlX4_141 (ci := 4) (T := TX4) (N := 8) rfl (ck h.g) (oc_areTwo h _ _) (by decide) (Nat.le_of_ble_eq_true rfl) ?_
      refine jv_if_neB dX4_far_17 (tgt := 27) (by decide) (fun g17 => ?_) (fun g17 => ?_)
      · exact absurd ⟨g8, g17⟩ hv
      · refine jv_aload0 dX4_far_20 ?_
        refine jv_bipush dX4_far_21 jv_c_bipush_m2 ?_
        refine jv_v11 dX4_far_23 okX4_refuse inX4_refuse seX4_refuse mlX4_61 (ci := 4) (T := TX4) (N := 8) rfl (ck h.g) hC (by decide) (Nat.le_of_ble_eq_true rfl) ?_
        exact jv_iret dX4_far_26 rfl rfl rfl rfl rfl
