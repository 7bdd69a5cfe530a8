/-! ===== the face: group 16 (place, safe) ===== -/
theorem ot_moveF_mm {f : Nat → Nat} {n c p q e : Nat} (hi : ∀ a b, a < n → b < n → f a = f b → a = b) (hb : ∀ a, a < n → f a < n) (hc : c < n) (he : e < n) (hp : p < n) (hq : q < n) : ot_moveF (ot_moveF f c p) c q e = ot_moveF f c q e := by
  have hcc : ot_moveF f c p c = p := by unfold ot_moveF; rw [if_pos rfl]
  by_cases h : e = c
  · subst h; unfold ot_moveF; rw [if_pos rfl, if_pos rfl]
  · have hne : f e ≠ f c := fun z => h (hi e c he hc z)
    have h1 : ∀ g : Nat → Nat, ∀ r, ot_moveF g c r e = if g c < g e ∧ g e ≤ r then g e - 1 else if g e < g c ∧ r ≤ g e then g e + 1 else g e := fun g r => by unfold ot_moveF; rw [if_neg h]
    rw [h1 (ot_moveF f c p) q, hcc, h1 f q, h1 f p]
    repeat' split
    all_goals omega
theorem ot_moveF_hm {f : Nat → Nat} {n c e : Nat} (hi : ∀ a b, a < n → b < n → f a = f b → a = b) (hc : c < n) (he : e < n) : ot_moveF f c (f c) e = f e := by
  unfold ot_moveF
  by_cases h : e = c
  · rw [if_pos h, h]
  · have hne : f e ≠ f c := fun z => h (hi e c he hc z)
    rw [if_neg h, if_neg (by omega), if_neg (by omega)]
theorem ot_YR_pls {I : jv_I} {y : Nat} {Y : ot_Y} {f g : Nat → Nat} (h : ot_YR I y (ot_put Y 2 f)) (e : ∀ c, c < Y 10 0 → f c = g c) : ot_YR I y (ot_put Y 2 g) := by
  obtain ⟨a, b, c, d⟩ := h
  refine ⟨a, fun x hx => ?_, c, d⟩
  have hx2 : x < Y 10 0 := hx
  have h3 := b x hx
  have e1 : ot_put Y 2 f 2 x = f x := rfl
  have e2 : ot_put Y 2 g 2 x = g x := rfl
  rw [e1, e x hx2] at h3
  exact h3
theorem ot_YR_mm {I : jv_I} {y : Nat} {Y : ot_Y} (hW : ot_YW Y) {c p q : Nat} (hc : c < Y 10 0) (hp : p < Y 10 0) (hq : q < Y 10 0) (h : ot_YR I y (ot_move (ot_move Y c p) c q)) : ot_YR I y (ot_move Y c q) := by
  have e : ot_move (ot_move Y c p) c q = ot_put Y 2 (ot_moveF (ot_moveF (Y 2) c p) c q) := by
    funext j i
    unfold ot_move ot_put
    by_cases hj : j = 2
    · rw [if_pos hj, if_pos hj, if_pos rfl]
    · rw [if_neg hj, if_neg hj, if_neg hj]
  rw [e] at h
  exact ot_YR_pls h (fun x hx => ot_moveF_mm (n := Y 10 0) (fun a b ha hb => yw_inj hW ha hb) (fun a ha => (yw_child hW ha).2.2.2) hc hx hp hq)
theorem ot_put_self (Y : ot_Y) : ot_put Y 2 (Y 2) = Y := by funext j i; unfold ot_put; by_cases h : j = 2; rw [if_pos h, h]; rw [if_neg h]
theorem ot_YR_home {I : jv_I} {y : Nat} {Y : ot_Y} (hW : ot_YW Y) {c : Nat} (hc : c < Y 10 0) : ot_YR I y (ot_move Y c (Y 2 c)) ↔ ot_YR I y Y := by
  have e : ∀ x, x < Y 10 0 → ot_moveF (Y 2) c (Y 2 c) x = Y 2 x := fun x hx => ot_moveF_hm (n := Y 10 0) (fun a b ha hb => yw_inj hW ha hb) hc hx
  constructor
  · intro h
    have := ot_YR_pls (g := Y 2) h e
    rw [ot_put_self] at this; exact this
  · intro h
    rw [← ot_put_self Y] at h
    exact ot_YR_pls h (fun x hx => (e x hx).symm)
def ot_pg (Y : ot_Y) (c p : Nat) : Nat := ot_valueAll (ot_move Y c p)
def ot_sg (Y : ot_Y) (a c p : Nat) : Nat := ot_times (ot_move Y c p) a c
theorem ot_gt1 {s : Nat} (h : s < 2 ^ 30) : ¬ nI s ≤ -1 := fun q => by
  rw [Int32.le_iff_toInt_le, nI_toInt (by omega), show (-1 : Int32).toInt = -1 by decide] at q
  omega
theorem ot_valueAll_b {Y : ot_Y} (hW : ot_YW Y) : ∀ n, n ≤ 6 → ot_sum (fun k => ot_value Y k) n ≤ n * 1980
  | 0, _ => Nat.le_refl _
  | n + 1, h => by have := ot_valueAll_b hW n (by omega); have := ot_value_le hW n; rw [ot_sum]; omega
set_option maxRecDepth 20000 in
theorem oc_bestPlace {G : jv_Gr} {I : jv_I} {J : jv_J} {Y Z : ot_Y} {E : ot_E} {K : Option ot_Y} (h : ot_C G I J Y Z E K) {c : Nat} (hc : c < Y 10 0) : ∃ I2, jv_C 7 mX0_bestPlace [.ref 38, .int (nI c)] G I J (some (.int (nI (ot_arg (ot_pg Y c) (Y 10 0))))) G I2 J ∧ ot_YR I2 2 Y ∧ (∀ q, q ≠ 2 + 3 → q ≠ 2 + 4 → I2 q = I q) := by
  have bn := yw_n h.w
  have bc := yw_c h.w
  have bw := yw_w h.w
  have bd : ∀ p, p < Y 10 0 → (ot_pg Y c) p ≤ 20000 := fun p hp => by have := ot_valueAll_b (ot_YW_move h.w hc hp) (Y 10 1) bc; have e : ot_pg Y c p = ot_sum (fun k => ot_value (ot_move Y c p) k) (Y 10 1) := rfl; rw [e]; omega
  have hhome := (yw_child h.w hc).2.2.2
  have loop : ∀ (m i : Nat) (A : jv_I) (p0 : Nat) (gr fo : Int32) (sv : Value), Y 10 0 + 1 ≤ i + m → i ≤ Y 10 0 → p0 < Y 10 0 → ot_YR A 2 (ot_move Y c p0) → (∀ q, q ≠ 2 + 3 → q ≠ 2 + 4 → A q = I q) → ((i = 0 ∧ gr = -1) ∨ (0 < i ∧ gr = nI ((ot_pg Y c) (ot_arg (ot_pg Y c) i)) ∧ fo = nI (ot_arg (ot_pg Y c) i))) → ∃ I2, jv_V 7 mX0_bestPlace 18 [.ref 38, .int (nI c), .int (nI (Y 2 c)), .int gr, .int fo, .int (nI i), sv] [] G A J (some (.int (nI (ot_arg (ot_pg Y c) (Y 10 0))))) G I2 J ∧ ot_YR I2 2 Y ∧ (∀ q, q ≠ 2 + 3 → q ≠ 2 + 4 → I2 q = I q) := by
    intro m
    induction m with
    | zero => intro i A p0 gr fo sv b1 b2; omega
    | succ m ih =>
      intro i A p0 gr fo sv b1 b2 hp0 hR hF hg
      have hW0 := ot_YW_move h.w hc hp0
      by_cases hi : i < Y 10 0
      · obtain ⟨A1, c1, hR1, hF1⟩ := ot_shiftM (J := J) (cg_now h.g) hR hW0 (c := c) (t := i) hc hi
        have hR1 := ot_YR_mm h.w hc hp0 hi hR1
        have hW1 := ot_YW_move h.w hc hi
        have hF2 : ∀ q, q ≠ 2 + 3 → q ≠ 2 + 4 → A1 q = I q := fun q x1 x2 => (hF1 q x1 x2).trans (hF q x1 x2)
        have c2 : jv_C 5 mX3_valueByAll [.ref 2] G A1 J (some (.int (nI (ot_pg Y c i)))) G A1 J := ot_valueAllM (J := J) (cg_now h.g) hR1 hW1
        have hbi := bd i hi
        rcases hg with ⟨e1, e2⟩ | ⟨e1, e2, e3⟩
        · subst e2
          obtain ⟨I2, hV, p1, p2⟩ := ih (i + 1) A1 i (nI ((ot_pg Y c) i)) (nI i) (.int (nI ((ot_pg Y c) i))) (by omega) (by omega) hi hR1 hF2 (.inr ⟨by omega, by subst e1; rw [ot_arg_one], by subst e1; rw [ot_arg_one]⟩)
          refine ⟨I2, ?_, p1, p2⟩
          refine jv_iload5 dX0_bestPlace_18 ?_
          refine jv_aload0 dX0_bestPlace_20 ?_
          refine jv_getR dX0_bestPlace_21 flX0_27 rfl (fk h.g) (fr_yard h.g) ?_
          refine jv_getI dX0_bestPlace_24 flX0_31 rfl (yk (cg_now h.g)) (show A 2 0 = nI (Y 10 0) from hR.1.1) ?_
          refine jv_icmp_geN dX0_bestPlace_27 (tgt := 68) (by decide) (by omega) (by omega) (fun hc27 => by omega) (fun hc27 => ?_)
          refine jv_aload0 dX0_bestPlace_30 ?_
          refine jv_getR dX0_bestPlace_31 flX0_27 rfl (fk h.g) (fr_yard h.g) ?_
          refine jv_iload1 dX0_bestPlace_34 ?_
          refine jv_iload5 dX0_bestPlace_35 ?_
          refine jv_v20 dX0_bestPlace_37 okX3_shift inX3_shift seX3_shift mlX0_96 (ci := 3) (T := TX3) (N := 15) rfl (yk (cg_now h.g)) c1 (by decide) (Nat.le_of_ble_eq_true rfl) ?_
          refine jv_aload0 dX0_bestPlace_40 ?_
          refine jv_getR dX0_bestPlace_41 flX0_27 rfl (fk h.g) (fr_yard h.g) ?_
          refine jv_v01 dX0_bestPlace_44 okX3_valueByAll inX3_valueByAll seX3_valueByAll mlX0_99 (ci := 3) (T := TX3) (N := 15) rfl (yk (cg_now h.g)) c2 (by decide) (Nat.le_of_ble_eq_true rfl) ?_
          refine jv_istore6 dX0_bestPlace_47 rfl ?_
          refine jv_iload6 dX0_bestPlace_49 ?_
          refine jv_iload3 dX0_bestPlace_51 ?_
          refine jv_icmp_le dX0_bestPlace_52 (tgt := 62) (by decide) (fun hle => absurd hle (ot_gt1 (by omega))) (fun hle => ?_)
          refine jv_iload6 dX0_bestPlace_55 ?_
          refine jv_istore3 dX0_bestPlace_57 rfl ?_
          refine jv_iload5 dX0_bestPlace_58 ?_
          refine jv_istore4 dX0_bestPlace_60 rfl ?_
          refine jv_iinc5N dX0_bestPlace_62 rfl ?_
          refine jv_goto dX0_bestPlace_65 (tgt := 18) (by decide) ?_
          exact hV
        · have hba := bd (ot_arg (ot_pg Y c) i) (by have := ot_arg_lt (ot_pg Y c) i e1; omega)
          by_cases hlt : (ot_pg Y c) (ot_arg (ot_pg Y c) i) < (ot_pg Y c) i
          · obtain ⟨I2, hV, p1, p2⟩ := ih (i + 1) A1 i (nI ((ot_pg Y c) i)) (nI i) (.int (nI ((ot_pg Y c) i))) (by omega) (by omega) hi hR1 hF2 (.inr ⟨by omega, by rw [ot_arg, if_pos hlt], by rw [ot_arg, if_pos hlt]⟩)
            refine ⟨I2, ?_, p1, p2⟩
            subst e2
            refine jv_iload5 dX0_bestPlace_18 ?_
            refine jv_aload0 dX0_bestPlace_20 ?_
            refine jv_getR dX0_bestPlace_21 flX0_27 rfl (fk h.g) (fr_yard h.g) ?_
            refine jv_getI dX0_bestPlace_24 flX0_31 rfl (yk (cg_now h.g)) (show A 2 0 = nI (Y 10 0) from hR.1.1) ?_
            refine jv_icmp_geN dX0_bestPlace_27 (tgt := 68) (by decide) (by omega) (by omega) (fun hc27 => by omega) (fun hc27 => ?_)
            refine jv_aload0 dX0_bestPlace_30 ?_
            refine jv_getR dX0_bestPlace_31 flX0_27 rfl (fk h.g) (fr_yard h.g) ?_
            refine jv_iload1 dX0_bestPlace_34 ?_
            refine jv_iload5 dX0_bestPlace_35 ?_
            refine jv_v20 dX0_bestPlace_37 okX3_shift inX3_shift seX3_shift mlX0_96 (ci := 3) (T := TX3) (N := 15) rfl (yk (cg_now h.g)) c1 (by decide) (Nat.le_of_ble_eq_true rfl) ?_
            refine jv_aload0 dX0_bestPlace_40 ?_
            refine jv_getR dX0_bestPlace_41 flX0_27 rfl (fk h.g) (fr_yard h.g) ?_
            refine jv_v01 dX0_bestPlace_44 okX3_valueByAll inX3_valueByAll seX3_valueByAll mlX0_99 (ci := 3) (T := TX3) (N := 15) rfl (yk (cg_now h.g)) c2 (by decide) (Nat.le_of_ble_eq_true rfl) ?_
            refine jv_istore6 dX0_bestPlace_47 rfl ?_
            refine jv_iload6 dX0_bestPlace_49 ?_
            refine jv_iload3 dX0_bestPlace_51 ?_
            refine jv_icmp_le dX0_bestPlace_52 (tgt := 62) (by decide) (fun hle => absurd ((nI_leI (by omega) (by omega)).mp hle) (by omega)) (fun hle => ?_)
            refine jv_iload6 dX0_bestPlace_55 ?_
            refine jv_istore3 dX0_bestPlace_57 rfl ?_
            refine jv_iload5 dX0_bestPlace_58 ?_
            refine jv_istore4 dX0_bestPlace_60 rfl ?_
            refine jv_iinc5N dX0_bestPlace_62 rfl ?_
            refine jv_goto dX0_bestPlace_65 (tgt := 18) (by decide) ?_
            exact hV
          · obtain ⟨I2, hV, p1, p2⟩ := ih (i + 1) A1 i gr fo (.int (nI ((ot_pg Y c) i))) (by omega) (by omega) hi hR1 hF2 (.inr ⟨by omega, by rw [ot_arg, if_neg hlt]; exact e2, by rw [ot_arg, if_neg hlt]; exact e3⟩)
            refine ⟨I2, ?_, p1, p2⟩
            subst e2
            refine jv_iload5 dX0_bestPlace_18 ?_
            refine jv_aload0 dX0_bestPlace_20 ?_
            refine jv_getR dX0_bestPlace_21 flX0_27 rfl (fk h.g) (fr_yard h.g) ?_
            refine jv_getI dX0_bestPlace_24 flX0_31 rfl (yk (cg_now h.g)) (show A 2 0 = nI (Y 10 0) from hR.1.1) ?_
            refine jv_icmp_geN dX0_bestPlace_27 (tgt := 68) (by decide) (by omega) (by omega) (fun hc27 => by omega) (fun hc27 => ?_)
            refine jv_aload0 dX0_bestPlace_30 ?_
            refine jv_getR dX0_bestPlace_31 flX0_27 rfl (fk h.g) (fr_yard h.g) ?_
            refine jv_iload1 dX0_bestPlace_34 ?_
            refine jv_iload5 dX0_bestPlace_35 ?_
            refine jv_v20 dX0_bestPlace_37 okX3_shift inX3_shift seX3_shift mlX0_96 (ci := 3) (T := TX3) (N := 15) rfl (yk (cg_now h.g)) c1 (by decide) (Nat.le_of_ble_eq_true rfl) ?_
            refine jv_aload0 dX0_bestPlace_40 ?_
            refine jv_getR dX0_bestPlace_41 flX0_27 rfl (fk h.g) (fr_yard h.g) ?_
            refine jv_v01 dX0_bestPlace_44 okX3_valueByAll inX3_valueByAll seX3_valueByAll mlX0_99 (ci := 3) (T := TX3) (N := 15) rfl (yk (cg_now h.g)) c2 (by decide) (Nat.le_of_ble_eq_true rfl) ?_
            refine jv_istore6 dX0_bestPlace_47 rfl ?_
            refine jv_iload6 dX0_bestPlace_49 ?_
            refine jv_iload3 dX0_bestPlace_51 ?_
            refine jv_icmp_le dX0_bestPlace_52 (tgt := 62) (by decide) (fun hle => ?_) (fun hle => absurd ((nI_leI (by omega) (by omega)).mpr (by omega)) hle)
            refine jv_iinc5N dX0_bestPlace_62 rfl ?_
            refine jv_goto dX0_bestPlace_65 (tgt := 18) (by decide) ?_
            exact hV
      · obtain ⟨A1, c3, hR1, hF1⟩ := ot_shiftM (J := J) (cg_now h.g) hR hW0 (c := c) (t := Y 2 c) hc hhome
        have hR1 := (ot_YR_home h.w hc).mp (ot_YR_mm h.w hc hp0 hhome hR1)
        obtain ⟨e1, e2, e3⟩ := hg.resolve_left (by omega)
        refine ⟨A1, ?_, hR1, fun q x1 x2 => (hF1 q x1 x2).trans (hF q x1 x2)⟩
        refine jv_iload5 dX0_bestPlace_18 ?_
        refine jv_aload0 dX0_bestPlace_20 ?_
        refine jv_getR dX0_bestPlace_21 flX0_27 rfl (fk h.g) (fr_yard h.g) ?_
        refine jv_getI dX0_bestPlace_24 flX0_31 rfl (yk (cg_now h.g)) (show A 2 0 = nI (Y 10 0) from hR.1.1) ?_
        refine jv_icmp_geN dX0_bestPlace_27 (tgt := 68) (by decide) (by omega) (by omega) (fun hc27 => ?_) (fun hc27 => by omega)
        refine jv_aload0 dX0_bestPlace_68 ?_
        refine jv_getR dX0_bestPlace_69 flX0_27 rfl (fk h.g) (fr_yard h.g) ?_
        refine jv_iload1 dX0_bestPlace_72 ?_
        refine jv_iload2 dX0_bestPlace_73 ?_
        refine jv_v20 dX0_bestPlace_74 okX3_shift inX3_shift seX3_shift mlX0_96 (ci := 3) (T := TX3) (N := 15) rfl (yk (cg_now h.g)) c3 (by decide) (Nat.le_of_ble_eq_true rfl) ?_
        refine jv_iload4 dX0_bestPlace_77 ?_
        exact jv_iret dX0_bestPlace_79 rfl rfl (by rw [e3, show i = Y 10 0 by omega]) rfl rfl
  obtain ⟨I2, hV, p1, p2⟩ := loop (Y 10 0 + 1) 0 I (Y 2 c) (-1) (nI (Y 2 c)) .null (by omega) (by omega) hhome ((ot_YR_home h.w hc).mpr h.r) (fun _ _ _ => rfl) (.inl ⟨rfl, rfl⟩)
  refine ⟨I2, ?_, p1, p2⟩
  refine jv_enter okX0_bestPlace (L := [.ref 38, .int (nI c), .null, .null, .null, .null, .null]) rfl (Nat.le_of_ble_eq_true rfl) ?_
  refine jv_aload0 dX0_bestPlace_0 ?_
  refine jv_getR dX0_bestPlace_1 flX0_27 rfl (fk h.g) (fr_yard h.g) ?_
  refine jv_getR dX0_bestPlace_4 flX0_93 rfl (yk (cg_now h.g)) (yr_where (cg_now h.g)) ?_
  refine jv_iload1 dX0_bestPlace_7 ?_
  refine jv_ialdN dX0_bestPlace_8 (yk_where (cg_now h.g)) (by omega) (by decide) (ye_where h.r (by omega)) ?_
  refine jv_istore2 dX0_bestPlace_9 rfl ?_
  refine jv_iconst dX0_bestPlace_10 jv_c_iconst_m1 ?_
  refine jv_istore3 dX0_bestPlace_11 rfl ?_
  refine jv_iload2 dX0_bestPlace_12 ?_
  refine jv_istore4 dX0_bestPlace_13 rfl ?_
  refine jv_iconst dX0_bestPlace_15 jv_c_iconst_0 ?_
  refine jv_istore5 dX0_bestPlace_16 rfl ?_
  exact hV
set_option maxRecDepth 20000 in
theorem oc_safestPlace {G : jv_Gr} {I : jv_I} {J : jv_J} {Y Z : ot_Y} {E : ot_E} {K : Option ot_Y} (h : ot_C G I J Y Z E K) {a c : Nat} (ha : a < Y 10 0) (hc : c < Y 10 0) : ∃ I2, jv_C 7 mX0_safestPlace [.ref 38, .int (nI a), .int (nI c)] G I J (some (.int (nI (ot_arg (ot_sg Y a c) (Y 10 0))))) G I2 J ∧ ot_YR I2 2 Y ∧ (∀ q, q ≠ 2 + 3 → q ≠ 2 + 4 → I2 q = I q) := by
  have bn := yw_n h.w
  have bc := yw_c h.w
  have bw := yw_w h.w
  have bd : ∀ p, p < Y 10 0 → (ot_sg Y a c) p ≤ 20000 := fun p hp => by have := ot_times_le (ot_move Y c p) a c; have e : (ot_move Y c p) 10 1 = Y 10 1 := rfl; have e2 : ot_sg Y a c p = ot_times (ot_move Y c p) a c := rfl; omega
  have hhome := (yw_child h.w hc).2.2.2
  have loop : ∀ (m i : Nat) (A : jv_I) (p0 : Nat) (gr fo : Int32) (sv : Value), Y 10 0 + 1 ≤ i + m → i ≤ Y 10 0 → p0 < Y 10 0 → ot_YR A 2 (ot_move Y c p0) → (∀ q, q ≠ 2 + 3 → q ≠ 2 + 4 → A q = I q) → ((i = 0 ∧ gr = -1) ∨ (0 < i ∧ gr = nI ((ot_sg Y a c) (ot_arg (ot_sg Y a c) i)) ∧ fo = nI (ot_arg (ot_sg Y a c) i))) → ∃ I2, jv_V 7 mX0_safestPlace 19 [.ref 38, .int (nI a), .int (nI c), .int (nI (Y 2 c)), .int gr, .int fo, .int (nI i), sv] [] G A J (some (.int (nI (ot_arg (ot_sg Y a c) (Y 10 0))))) G I2 J ∧ ot_YR I2 2 Y ∧ (∀ q, q ≠ 2 + 3 → q ≠ 2 + 4 → I2 q = I q) := by
    intro m
    induction m with
    | zero => intro i A p0 gr fo sv b1 b2; omega
    | succ m ih =>
      intro i A p0 gr fo sv b1 b2 hp0 hR hF hg
      have hW0 := ot_YW_move h.w hc hp0
      by_cases hi : i < Y 10 0
      · obtain ⟨A1, c1, hR1, hF1⟩ := ot_shiftM (J := J) (cg_now h.g) hR hW0 (c := c) (t := i) hc hi
        have hR1 := ot_YR_mm h.w hc hp0 hi hR1
        have hW1 := ot_YW_move h.w hc hi
        have hF2 : ∀ q, q ≠ 2 + 3 → q ≠ 2 + 4 → A1 q = I q := fun q x1 x2 => (hF1 q x1 x2).trans (hF q x1 x2)
        have c2 : jv_C 4 mX3_timesTogether [.ref 2, .int (nI a), .int (nI c)] G A1 J (some (.int (nI (ot_sg Y a c i)))) G A1 J := ot_timesM (J := J) (cg_now h.g) hR1 hW1 (a := a) (b := c) ha hc
        have hbi := bd i hi
        rcases hg with ⟨e1, e2⟩ | ⟨e1, e2, e3⟩
        · subst e2
          obtain ⟨I2, hV, p1, p2⟩ := ih (i + 1) A1 i (nI ((ot_sg Y a c) i)) (nI i) (.int (nI ((ot_sg Y a c) i))) (by omega) (by omega) hi hR1 hF2 (.inr ⟨by omega, by subst e1; rw [ot_arg_one], by subst e1; rw [ot_arg_one]⟩)
          refine ⟨I2, ?_, p1, p2⟩
          refine jv_iload6 dX0_safestPlace_19 ?_
          refine jv_aload0 dX0_safestPlace_21 ?_
          refine jv_getR dX0_safestPlace_22 flX0_27 rfl (fk h.g) (fr_yard h.g) ?_
          refine jv_getI dX0_safestPlace_25 flX0_31 rfl (yk (cg_now h.g)) (show A 2 0 = nI (Y 10 0) from hR.1.1) ?_
          refine jv_icmp_geN dX0_safestPlace_28 (tgt := 73) (by decide) (by omega) (by omega) (fun hc28 => by omega) (fun hc28 => ?_)
          refine jv_aload0 dX0_safestPlace_31 ?_
          refine jv_getR dX0_safestPlace_32 flX0_27 rfl (fk h.g) (fr_yard h.g) ?_
          refine jv_iload2 dX0_safestPlace_35 ?_
          refine jv_iload6 dX0_safestPlace_36 ?_
          refine jv_v20 dX0_safestPlace_38 okX3_shift inX3_shift seX3_shift mlX0_96 (ci := 3) (T := TX3) (N := 15) rfl (yk (cg_now h.g)) c1 (by decide) (Nat.le_of_ble_eq_true rfl) ?_
          refine jv_aload0 dX0_safestPlace_41 ?_
          refine jv_getR dX0_safestPlace_42 flX0_27 rfl (fk h.g) (fr_yard h.g) ?_
          refine jv_iload1 dX0_safestPlace_45 ?_
          refine jv_iload2 dX0_safestPlace_46 ?_
          refine jv_v21 dX0_safestPlace_47 okX3_timesTogether inX3_timesTogether seX3_timesTogether mlX0_102 (ci := 3) (T := TX3) (N := 15) rfl (yk (cg_now h.g)) c2 (by decide) (Nat.le_of_ble_eq_true rfl) ?_
          refine jv_istore7 dX0_safestPlace_50 rfl ?_
          refine jv_iload7 dX0_safestPlace_52 ?_
          refine jv_iload4 dX0_safestPlace_54 ?_
          refine jv_icmp_le dX0_safestPlace_56 (tgt := 67) (by decide) (fun hle => absurd hle (ot_gt1 (by omega))) (fun hle => ?_)
          refine jv_iload7 dX0_safestPlace_59 ?_
          refine jv_istore4 dX0_safestPlace_61 rfl ?_
          refine jv_iload6 dX0_safestPlace_63 ?_
          refine jv_istore5 dX0_safestPlace_65 rfl ?_
          refine jv_iinc6N dX0_safestPlace_67 rfl ?_
          refine jv_goto dX0_safestPlace_70 (tgt := 19) (by decide) ?_
          exact hV
        · have hba := bd (ot_arg (ot_sg Y a c) i) (by have := ot_arg_lt (ot_sg Y a c) i e1; omega)
          by_cases hlt : (ot_sg Y a c) (ot_arg (ot_sg Y a c) i) < (ot_sg Y a c) i
          · obtain ⟨I2, hV, p1, p2⟩ := ih (i + 1) A1 i (nI ((ot_sg Y a c) i)) (nI i) (.int (nI ((ot_sg Y a c) i))) (by omega) (by omega) hi hR1 hF2 (.inr ⟨by omega, by rw [ot_arg, if_pos hlt], by rw [ot_arg, if_pos hlt]⟩)
            refine ⟨I2, ?_, p1, p2⟩
            subst e2
            refine jv_iload6 dX0_safestPlace_19 ?_
            refine jv_aload0 dX0_safestPlace_21 ?_
            refine jv_getR dX0_safestPlace_22 flX0_27 rfl (fk h.g) (fr_yard h.g) ?_
            refine jv_getI dX0_safestPlace_25 flX0_31 rfl (yk (cg_now h.g)) (show A 2 0 = nI (Y 10 0) from hR.1.1) ?_
            refine jv_icmp_geN dX0_safestPlace_28 (tgt := 73) (by decide) (by omega) (by omega) (fun hc28 => by omega) (fun hc28 => ?_)
            refine jv_aload0 dX0_safestPlace_31 ?_
            refine jv_getR dX0_safestPlace_32 flX0_27 rfl (fk h.g) (fr_yard h.g) ?_
            refine jv_iload2 dX0_safestPlace_35 ?_
            refine jv_iload6 dX0_safestPlace_36 ?_
            refine jv_v20 dX0_safestPlace_38 okX3_shift inX3_shift seX3_shift mlX0_96 (ci := 3) (T := TX3) (N := 15) rfl (yk (cg_now h.g)) c1 (by decide) (Nat.le_of_ble_eq_true rfl) ?_
            refine jv_aload0 dX0_safestPlace_41 ?_
            refine jv_getR dX0_safestPlace_42 flX0_27 rfl (fk h.g) (fr_yard h.g) ?_
            refine jv_iload1 dX0_safestPlace_45 ?_
            refine jv_iload2 dX0_safestPlace_46 ?_
            refine jv_v21 dX0_safestPlace_47 okX3_timesTogether inX3_timesTogether seX3_timesTogether mlX0_102 (ci := 3) (T := TX3) (N := 15) rfl (yk (cg_now h.g)) c2 (by decide) (Nat.le_of_ble_eq_true rfl) ?_
            refine jv_istore7 dX0_safestPlace_50 rfl ?_
            refine jv_iload7 dX0_safestPlace_52 ?_
            refine jv_iload4 dX0_safestPlace_54 ?_
            refine jv_icmp_le dX0_safestPlace_56 (tgt := 67) (by decide) (fun hle => absurd ((nI_leI (by omega) (by omega)).mp hle) (by omega)) (fun hle => ?_)
            refine jv_iload7 dX0_safestPlace_59 ?_
            refine jv_istore4 dX0_safestPlace_61 rfl ?_
            refine jv_iload6 dX0_safestPlace_63 ?_
            refine jv_istore5 dX0_safestPlace_65 rfl ?_
            refine jv_iinc6N dX0_safestPlace_67 rfl ?_
            refine jv_goto dX0_safestPlace_70 (tgt := 19) (by decide) ?_
            exact hV
          · obtain ⟨I2, hV, p1, p2⟩ := ih (i + 1) A1 i gr fo (.int (nI ((ot_sg Y a c) i))) (by omega) (by omega) hi hR1 hF2 (.inr ⟨by omega, by rw [ot_arg, if_neg hlt]; exact e2, by rw [ot_arg, if_neg hlt]; exact e3⟩)
            refine ⟨I2, ?_, p1, p2⟩
            subst e2
            refine jv_iload6 dX0_safestPlace_19 ?_
            refine jv_aload0 dX0_safestPlace_21 ?_
            refine jv_getR dX0_safestPlace_22 flX0_27 rfl (fk h.g) (fr_yard h.g) ?_
            refine jv_getI dX0_safestPlace_25 flX0_31 rfl (yk (cg_now h.g)) (show A 2 0 = nI (Y 10 0) from hR.1.1) ?_
            refine jv_icmp_geN dX0_safestPlace_28 (tgt := 73) (by decide) (by omega) (by omega) (fun hc28 => by omega) (fun hc28 => ?_)
            refine jv_aload0 dX0_safestPlace_31 ?_
            refine jv_getR dX0_safestPlace_32 flX0_27 rfl (fk h.g) (fr_yard h.g) ?_
            refine jv_iload2 dX0_safestPlace_35 ?_
            refine jv_iload6 dX0_safestPlace_36 ?_
            refine jv_v20 dX0_safestPlace_38 okX3_shift inX3_shift seX3_shift mlX0_96 (ci := 3) (T := TX3) (N := 15) rfl (yk (cg_now h.g)) c1 (by decide) (Nat.le_of_ble_eq_true rfl) ?_
            refine jv_aload0 dX0_safestPlace_41 ?_
            refine jv_getR dX0_safestPlace_42 flX0_27 rfl (fk h.g) (fr_yard h.g) ?_
            refine jv_iload1 dX0_safestPlace_45 ?_
            refine jv_iload2 dX0_safestPlace_46 ?_
            refine jv_v21 dX0_safestPlace_47 okX3_timesTogether inX3_timesTogether seX3_timesTogether mlX0_102 (ci := 3) (T := TX3) (N := 15) rfl (yk (cg_now h.g)) c2 (by decide) (Nat.le_of_ble_eq_true rfl) ?_
            refine jv_istore7 dX0_safestPlace_50 rfl ?_
            refine jv_iload7 dX0_safestPlace_52 ?_
            refine jv_iload4 dX0_safestPlace_54 ?_
            refine jv_icmp_le dX0_safestPlace_56 (tgt := 67) (by decide) (fun hle => ?_) (fun hle => absurd ((nI_leI (by omega) (by omega)).mpr (by omega)) hle)
            refine jv_iinc6N dX0_safestPlace_67 rfl ?_
            refine jv_goto dX0_safestPlace_70 (tgt := 19) (by decide) ?_
            exact hV
      · obtain ⟨A1, c3, hR1, hF1⟩ := ot_shiftM (J := J) (cg_now h.g) hR hW0 (c := c) (t := Y 2 c) hc hhome
        have hR1 := (ot_YR_home h.w hc).mp (ot_YR_mm h.w hc hp0 hhome hR1)
        obtain ⟨e1, e2, e3⟩ := hg.resolve_left (by omega)
        refine ⟨A1, ?_, hR1, fun q x1 x2 => (hF1 q x1 x2).trans (hF q x1 x2)⟩
        refine jv_iload6 dX0_safestPlace_19 ?_
        refine jv_aload0 dX0_safestPlace_21 ?_
        refine jv_getR dX0_safestPlace_22 flX0_27 rfl (fk h.g) (fr_yard h.g) ?_
        refine jv_getI dX0_safestPlace_25 flX0_31 rfl (yk (cg_now h.g)) (show A 2 0 = nI (Y 10 0) from hR.1.1) ?_
        refine jv_icmp_geN dX0_safestPlace_28 (tgt := 73) (by decide) (by omega) (by omega) (fun hc28 => ?_) (fun hc28 => by omega)
        refine jv_aload0 dX0_safestPlace_73 ?_
        refine jv_getR dX0_safestPlace_74 flX0_27 rfl (fk h.g) (fr_yard h.g) ?_
        refine jv_iload2 dX0_safestPlace_77 ?_
        refine jv_iload3 dX0_safestPlace_78 ?_
        refine jv_v20 dX0_safestPlace_79 okX3_shift inX3_shift seX3_shift mlX0_96 (ci := 3) (T := TX3) (N := 15) rfl (yk (cg_now h.g)) c3 (by decide) (Nat.le_of_ble_eq_true rfl) ?_
        refine jv_iload5 dX0_safestPlace_82 ?_
        exact jv_iret dX0_safestPlace_84 rfl rfl (by rw [e3, show i = Y 10 0 by omega]) rfl rfl
  obtain ⟨I2, hV, p1, p2⟩ := loop (Y 10 0 + 1) 0 I (Y 2 c) (-1) (nI (Y 2 c)) .null (by omega) (by omega) hhome ((ot_YR_home h.w hc).mpr h.r) (fun _ _ _ => rfl) (.inl ⟨rfl, rfl⟩)
  refine ⟨I2, ?_, p1, p2⟩
  refine jv_enter okX0_safestPlace (L := [.ref 38, .int (nI a), .int (nI c), .null, .null, .null, .null, .null]) rfl (Nat.le_of_ble_eq_true rfl) ?_
  refine jv_aload0 dX0_safestPlace_0 ?_
  refine jv_getR dX0_safestPlace_1 flX0_27 rfl (fk h.g) (fr_yard h.g) ?_
  refine jv_getR dX0_safestPlace_4 flX0_93 rfl (yk (cg_now h.g)) (yr_where (cg_now h.g)) ?_
  refine jv_iload2 dX0_safestPlace_7 ?_
  refine jv_ialdN dX0_safestPlace_8 (yk_where (cg_now h.g)) (by omega) (by decide) (ye_where h.r (by omega)) ?_
  refine jv_istore3 dX0_safestPlace_9 rfl ?_
  refine jv_iconst dX0_safestPlace_10 jv_c_iconst_m1 ?_
  refine jv_istore4 dX0_safestPlace_11 rfl ?_
  refine jv_iload3 dX0_safestPlace_13 ?_
  refine jv_istore5 dX0_safestPlace_14 rfl ?_
  refine jv_iconst dX0_safestPlace_16 jv_c_iconst_0 ?_
  refine jv_istore6 dX0_safestPlace_17 rfl ?_
  exact hV
set_option maxRecDepth 20000 in
theorem pc_place {G : jv_Gr} {I : jv_I} {J : jv_J} {Y Z : ot_Y} {E : ot_E} {K : Option ot_Y} (h : ot_C G I J Y Z E K) (c : Int32) : ot_cc 9 mX4_place [.ref 1, .int c] G I J (ot_ans (ot_rc (0 ≤ c.toInt ∧ c.toInt < Y 10 0)) (nI (ot_arg (ot_pg Y (ot_n c)) (Y 10 0)))) Y (ot_zr Z (ot_rc (0 ≤ c.toInt ∧ c.toInt < Y 10 0))) E K := by
  have bn := yw_n h.w
  have bc := yw_c h.w
  have bw := yw_w h.w
  refine ot_rc_split (motive := fun rc => ot_cc 9 mX4_place [.ref 1, .int c] G I J (ot_ans rc (nI (ot_arg (ot_pg Y (ot_n c)) (Y 10 0)))) Y (ot_zr Z rc) E K) (fun hv => ?_) (fun hv => ?_)
  · obtain ⟨j, hj, rfl⟩ := ot_of hv (by omega)
    rw [ot_n_nI (show j < 2 ^ 30 by omega)]
    obtain ⟨I2, hA, hR2, hF⟩ := oc_bestPlace h hj
    have hf := ot_fr.pl hF
    refine ⟨I2, J, ?_, ot_C_yard h hR2 h.w h.z hf, ot_hi.fr hf (by decide)⟩
    refine jv_enter okX4_place (L := [.ref 1, .int (nI j)]) rfl (Nat.le_of_ble_eq_true rfl) ?_
    refine jv_aload0 dX4_place_0 ?_
    refine jv_getR dX4_place_1 flX4_10 rfl (ck h.g) (cr_now h.g) ?_
    refine jv_iload1 dX4_place_4 ?_
    refine jv_v11 dX4_place_5 okX3_hasChild inX3_hasChild seX3_hasChild mlX4_166 (ci := 3) (T := TX3) (N := 15) rfl (yk (cg_now h.g)) (ot_hasChild (cg_now h.g) h.r h.w _) (by decide) (Nat.le_of_ble_eq_true rfl) ?_
    refine jv_if_eqB dX4_place_8 (tgt := 22) (by decide) (fun hq8 => absurd hv hq8) (fun hq8 => ?_)
    refine jv_aload0 dX4_place_11 ?_
    refine jv_getR dX4_place_12 flX4_27 rfl (ck h.g) (cr_finder h.g) ?_
    refine jv_iload1 dX4_place_15 ?_
    refine jv_v11 dX4_place_16 okX0_bestPlace inX0_bestPlace seX0_bestPlace mlX4_235 (ci := 0) (T := TX0) (N := 6) rfl (fk h.g) hA (by decide) (Nat.le_of_ble_eq_true rfl) ?_
    refine jv_goto dX4_place_19 (tgt := 28) (by decide) ?_
    exact jv_iret dX4_place_28 rfl rfl rfl rfl rfl
  · obtain ⟨I2, hC, h2, h3⟩ := oc_refuse2 h
    refine ⟨I2, J, ?_, h2, h3⟩
    refine jv_enter okX4_place (L := [.ref 1, .int c]) rfl (Nat.le_of_ble_eq_true rfl) ?_
    refine jv_aload0 dX4_place_0 ?_
    refine jv_getR dX4_place_1 flX4_10 rfl (ck h.g) (cr_now h.g) ?_
    refine jv_iload1 dX4_place_4 ?_
    refine jv_v11 dX4_place_5 okX3_hasChild inX3_hasChild seX3_hasChild mlX4_166 (ci := 3) (T := TX3) (N := 15) rfl (yk (cg_now h.g)) (ot_hasChild (cg_now h.g) h.r h.w _) (by decide) (Nat.le_of_ble_eq_true rfl) ?_
    refine jv_if_eqB dX4_place_8 (tgt := 22) (by decide) (fun hq8 => ?_) (fun hq8 => absurd hq8 hv)
    refine jv_aload0 dX4_place_22 ?_
    refine jv_bipush dX4_place_23 jv_c_bipush_m2 ?_
    refine jv_v11 dX4_place_25 okX4_refuse inX4_refuse seX4_refuse mlX4_61 (ci := 4) (T := TX4) (N := 8) rfl (ck h.g) hC (by decide) (Nat.le_of_ble_eq_true rfl) ?_
    exact jv_iret dX4_place_28 rfl rfl rfl rfl rfl
set_option maxRecDepth 20000 in
theorem pc_safe {G : jv_Gr} {I : jv_I} {J : jv_J} {Y Z : ot_Y} {E : ot_E} {K : Option ot_Y} (h : ot_C G I J Y Z E K) (a : Int32) (b : Int32) : ot_cc 9 mX4_safe [.ref 1, .int a, .int b] G I J (ot_ans (ot_rc ((0 ≤ a.toInt ∧ a.toInt < Y 10 0) ∧ (0 ≤ b.toInt ∧ b.toInt < Y 10 0) ∧ a ≠ b)) (nI (ot_arg (ot_sg Y (ot_n a) (ot_n b)) (Y 10 0)))) Y (ot_zr Z (ot_rc ((0 ≤ a.toInt ∧ a.toInt < Y 10 0) ∧ (0 ≤ b.toInt ∧ b.toInt < Y 10 0) ∧ a ≠ b))) E K := by
  have bn := yw_n h.w
  have bc := yw_c h.w
  have bw := yw_w h.w
  refine ot_rc_split (motive := fun rc => ot_cc 9 mX4_safe [.ref 1, .int a, .int b] G I J (ot_ans rc (nI (ot_arg (ot_sg Y (ot_n a) (ot_n b)) (Y 10 0)))) Y (ot_zr Z rc) E K) (fun hv => ?_) (fun hv => ?_)
  · obtain ⟨x, hx, rfl⟩ := ot_of hv.1 (by omega)
    rw [ot_n_nI (show x < 2 ^ 30 by omega)]
    obtain ⟨z, hz, rfl⟩ := ot_of hv.2.1 (by omega)
    rw [ot_n_nI (show z < 2 ^ 30 by omega)]
    obtain ⟨I2, hA, hR2, hF⟩ := oc_safestPlace h hx hz
    have hf := ot_fr.pl hF
    refine ⟨I2, J, ?_, ot_C_yard h hR2 h.w h.z hf, ot_hi.fr hf (by decide)⟩
    refine jv_enter okX4_safe (L := [.ref 1, .int (nI x), .int (nI z)]) rfl (Nat.le_of_ble_eq_true rfl) ?_
    refine jv_aload0 dX4_safe_0 ?_
    refine jv_iload1 dX4_safe_1 ?_
    refine jv_iload2 dX4_safe_2 ?_
    refine jv_v21 dX4_safe_3 okX4_areTwo inX4_areTwo seX4_areTwo mlX4_141 (ci := 4) (T := TX4) (N := 8) rfl (ck h.g) (oc_areTwo h _ _) (by decide) (Nat.le_of_ble_eq_true rfl) ?_
    refine jv_if_eqB dX4_safe_6 (tgt := 21) (by decide) (fun hq8 => absurd hv hq8) (fun hq8 => ?_)
    refine jv_aload0 dX4_safe_9 ?_
    refine jv_getR dX4_safe_10 flX4_27 rfl (ck h.g) (cr_finder h.g) ?_
    refine jv_iload1 dX4_safe_13 ?_
    refine jv_iload2 dX4_safe_14 ?_
    refine jv_v21 dX4_safe_15 okX0_safestPlace inX0_safestPlace seX0_safestPlace mlX4_256 (ci := 0) (T := TX0) (N := 6) rfl (fk h.g) hA (by decide) (Nat.le_of_ble_eq_true rfl) ?_
    refine jv_goto dX4_safe_18 (tgt := 27) (by decide) ?_
    exact jv_iret dX4_safe_27 rfl rfl rfl rfl rfl
  · obtain ⟨I2, hC, h2, h3⟩ := oc_refuse2 h
    refine ⟨I2, J, ?_, h2, h3⟩
    refine jv_enter okX4_safe (L := [.ref 1, .int a, .int b]) rfl (Nat.le_of_ble_eq_true rfl) ?_
    refine jv_aload0 dX4_safe_0 ?_
    refine jv_iload1 dX4_safe_1 ?_
    refine jv_iload2 dX4_safe_2 ?_
    refine jv_v21 dX4_safe_3 okX4_areTwo inX4_areTwo seX4_areTwo mlX4_141 (ci := 4) (T := TX4) (N := 8) rfl (ck h.g) (oc_areTwo h _ _) (by decide) (Nat.le_of_ble_eq_true rfl) ?_
    refine jv_if_eqB dX4_safe_6 (tgt := 21) (by decide) (fun hq8 => ?_) (fun hq8 => absurd hq8 hv)
    refine jv_aload0 dX4_safe_21 ?_
    refine jv_bipush dX4_safe_22 jv_c_bipush_m2 ?_
    refine jv_v11 dX4_safe_24 okX4_refuse inX4_refuse seX4_refuse mlX4_61 (ci := 4) (T := TX4) (N := 8) rfl (ck h.g) hC (by decide) (Nat.le_of_ble_eq_true rfl) ?_
    exact jv_iret dX4_safe_27 rfl rfl rfl rfl rfl
