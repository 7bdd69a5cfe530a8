/-! ===== the face: group 18 (counting out) ===== -/
def ot_coX (k n : Nat) : Nat → Nat
  | 0 => 0
  | j + 1 => (ot_coX k n j + k - 1) % (n - j)
def ot_coR (k n : Nat) (r : Nat → Nat) : Nat → Nat → Nat
  | 0 => r
  | j + 1 => fun p => if ot_coX k n (j + 1) ≤ p ∧ p + 1 < n - j then ot_coR k n r j (p + 1) else ot_coR k n r j p
def ot_co (k n : Nat) (r : Nat → Nat) (j : Nat) : Nat := ot_coR k n r j (ot_coX k n (j + 1))
theorem ot_coX_lt {k n j : Nat} (h : j < n) : ot_coX k n (j + 1) < n - j := Nat.mod_lt _ (by omega)
theorem ot_coX_le (k n : Nat) : ∀ j, j ≤ n → ot_coX k n j ≤ n
  | 0, _ => Nat.zero_le _
  | j + 1, h => by have := ot_coX_lt (k := k) (show j < n by omega); omega
/-- every child leaves -/
theorem ot_co_all {k n : Nat} {r : Nat → Nat} {c : Nat} (h : ∃ p, p < n ∧ r p = c) : ∀ j, j ≤ n → (∃ i, i < j ∧ ot_co k n r i = c) ∨ ∃ p, p < n - j ∧ ot_coR k n r j p = c
  | 0, _ => .inr h
  | j + 1, hj => by
    rcases ot_co_all h j (by omega) with ⟨i, h1, h2⟩ | ⟨p, h1, h2⟩
    · exact .inl ⟨i, by omega, h2⟩
    · by_cases e : p = ot_coX k n (j + 1)
      · exact .inl ⟨j, by omega, by unfold ot_co; rw [← e]; exact h2⟩
      · have hx := ot_coX_lt (k := k) (show j < n by omega)
        right
        by_cases l : p < ot_coX k n (j + 1)
        · refine ⟨p, by omega, ?_⟩
          show (if ot_coX k n (j + 1) ≤ p ∧ p + 1 < n - j then _ else ot_coR k n r j p) = c
          rw [if_neg (by omega)]; exact h2
        · refine ⟨p - 1, by omega, ?_⟩
          show (if ot_coX k n (j + 1) ≤ p - 1 ∧ p - 1 + 1 < n - j then ot_coR k n r j (p - 1 + 1) else _) = c
          rw [if_pos (by omega), show p - 1 + 1 = p by omega]; exact h2
theorem ot_co_ex {k n : Nat} {r : Nat → Nat} {c : Nat} (h : ∃ p, p < n ∧ r p = c) : ∃ i, i < n ∧ ot_co k n r i = c := by
  rcases ot_co_all h n (Nat.le_refl n) with q | ⟨p, h1, _⟩
  · exact q
  · omega
set_option maxRecDepth 20000 in
theorem oc_ring {G : jv_Gr} {I : jv_I} {J : jv_J} {Y Z : ot_Y} {E : ot_E} {K : Option ot_Y} (h : ot_C G I J Y Z E K) {k : Nat} (hk1 : 1 ≤ k) (hk2 : k ≤ 20) : ∀ (m l : Nat) (A : jv_I) (s4 : Value), l + 1 ≤ m → l ≤ Y 10 0 → (∀ p, p < l → A 42 p = nI (ot_coR k (Y 10 0) (ot_at Y) (Y 10 0 - l) p)) → (∀ j, j < Y 10 0 - l → A 43 j = nI (ot_co k (Y 10 0) (ot_at Y) j)) → (∀ q, q ≠ 42 → q ≠ 43 → A q = I q) → ∃ I2, jv_V 3 mX0_countOut 28 [.ref 38, .int (nI k), .int (nI (ot_coX k (Y 10 0) (Y 10 0 - l))), .int (nI l), s4] [] G A J none G I2 J ∧ (∀ j, j < Y 10 0 → I2 43 j = nI (ot_co k (Y 10 0) (ot_at Y) j)) ∧ (∀ q, q ≠ 42 → q ≠ 43 → I2 q = I q) := by
  have bn := yw_n h.w
  have bc := yw_c h.w
  have bw := yw_w h.w
  have hch : I 2 0 = nI (Y 10 0) := h.r.1.1
  intro m
  induction m with
  | zero => intro l A s4 b1; omega
  | succ m ih =>
    intro l A s4 b1 b2 hring hlv hF
    have hchA : A 2 0 = nI (Y 10 0) := by rw [hF 2 (by decide) (by decide)]; exact hch
    have hxle := ot_coX_le k (Y 10 0) (Y 10 0 - l) (by omega)
    by_cases hl : 0 < l
    · have hxx : (ot_coX k (Y 10 0) (Y 10 0 - l) + k - 1) % l = (ot_coX k (Y 10 0) (Y 10 0 - l + 1)) := by
        show _ = (ot_coX k (Y 10 0) (Y 10 0 - l) + k - 1) % (Y 10 0 - (Y 10 0 - l))
        rw [show Y 10 0 - (Y 10 0 - l) = l by omega]
      have hxl : (ot_coX k (Y 10 0) (Y 10 0 - l + 1)) < l := by rw [← hxx]; exact Nat.mod_lt _ hl
      have inner : ∀ (m2 p : Nat) (B : jv_I), l ≤ p + m2 → (ot_coX k (Y 10 0) (Y 10 0 - l + 1)) ≤ p → p < l → (∀ q, q < l → B 42 q = nI (if (ot_coX k (Y 10 0) (Y 10 0 - l + 1)) ≤ q ∧ q < p then ot_coR k (Y 10 0) (ot_at Y) (Y 10 0 - l) (q + 1) else ot_coR k (Y 10 0) (ot_at Y) (Y 10 0 - l) q)) → (∀ j, j < Y 10 0 - l + 1 → B 43 j = nI (ot_co k (Y 10 0) (ot_at Y) j)) → (∀ q, q ≠ 42 → q ≠ 43 → B q = I q) → ∃ I2, jv_V 3 mX0_countOut 63 [.ref 38, .int (nI k), .int (nI (ot_coX k (Y 10 0) (Y 10 0 - l + 1))), .int (nI l), .int (nI p)] [] G B J none G I2 J ∧ (∀ j, j < Y 10 0 → I2 43 j = nI (ot_co k (Y 10 0) (ot_at Y) j)) ∧ (∀ q, q ≠ 42 → q ≠ 43 → I2 q = I q) := by
        intro m2
        induction m2 with
        | zero => intro p B q1 q2 q3; omega
        | succ m2 ih2 =>
          intro p B q1 q2 q3 hB1 hB2 hF
          have hchB : B 2 0 = nI (Y 10 0) := by rw [hF 2 (by decide) (by decide)]; exact hch
          by_cases hp : p + 1 < l
          · have hrd : B 42 (p + 1) = nI (ot_coR k (Y 10 0) (ot_at Y) (Y 10 0 - l) (p + 1)) := by rw [hB1 (p + 1) hp, if_neg (by omega)]
            obtain ⟨I2, hV, p1, p2⟩ := ih2 (p + 1) (jv_up B 42 p (nI (ot_coR k (Y 10 0) (ot_at Y) (Y 10 0 - l) (p + 1)))) (by omega) (by omega) hp (fun q hq => by
              rw [jv_up_def, if_pos rfl]
              by_cases e : q = p
              · subst e
                rw [if_pos rfl, if_pos (by omega)]
              · rw [if_neg e, hB1 q hq]
                by_cases e2 : (ot_coX k (Y 10 0) (Y 10 0 - l + 1)) ≤ q ∧ q < p
                · rw [if_pos e2, if_pos (by omega)]
                · rw [if_neg e2, if_neg (by omega)]) (fun j hj => by rw [jv_up_ne _ _ _ (by decide)]; exact hB2 j hj) (fun q x1 x2 => by rw [jv_up_ne _ _ _ x1]; exact hF q x1 x2)
            refine ⟨I2, ?_, p1, p2⟩
            refine jv_iload4 dX0_countOut_63 ?_
            refine jv_iconst dX0_countOut_65 jv_c_iconst_1 ?_
            refine jv_iaddN dX0_countOut_66 ?_
            refine jv_iload3 dX0_countOut_67 ?_
            refine jv_icmp_geN dX0_countOut_68 (tgt := 93) (by decide) (by omega) (by omega) (fun hc68 => by omega) (fun hc68 => ?_)
            refine jv_aload0 dX0_countOut_71 ?_
            refine jv_getR dX0_countOut_72 flX0_21 rfl (fk h.g) (fr_ring h.g) ?_
            refine jv_iload4 dX0_countOut_75 ?_
            refine jv_aload0 dX0_countOut_77 ?_
            refine jv_getR dX0_countOut_78 flX0_21 rfl (fk h.g) (fr_ring h.g) ?_
            refine jv_iload4 dX0_countOut_81 ?_
            refine jv_iconst dX0_countOut_83 jv_c_iconst_1 ?_
            refine jv_iaddN dX0_countOut_84 ?_
            refine jv_ialdN dX0_countOut_85 (fk_ring h.g) (by omega) (by decide) hrd ?_
            refine jv_iastN dX0_countOut_86 (fk_ring h.g) (by omega) (by decide) ?_
            refine jv_iinc4N dX0_countOut_87 rfl ?_
            refine jv_goto dX0_countOut_90 (tgt := 63) (by decide) ?_
            exact hV
          · have en : Y 10 0 - (l - 1) = Y 10 0 - l + 1 := by omega
            obtain ⟨I2, hV, p1, p2⟩ := ih (l - 1) B (.int (nI p)) (by omega) (by omega) (fun q hq => by
              rw [hB1 q (by omega), en]
              show _ = nI (if (ot_coX k (Y 10 0) (Y 10 0 - l + 1)) ≤ q ∧ q + 1 < Y 10 0 - (Y 10 0 - l) then ot_coR k (Y 10 0) (ot_at Y) (Y 10 0 - l) (q + 1) else ot_coR k (Y 10 0) (ot_at Y) (Y 10 0 - l) q)
              by_cases e2 : (ot_coX k (Y 10 0) (Y 10 0 - l + 1)) ≤ q
              · rw [if_pos ⟨e2, by omega⟩, if_pos ⟨e2, by omega⟩]
              · rw [if_neg (fun z => e2 z.1), if_neg (fun z => e2 z.1)]) (by rw [en]; exact hB2) hF
            rw [en] at hV
            refine ⟨I2, ?_, p1, p2⟩
            refine jv_iload4 dX0_countOut_63 ?_
            refine jv_iconst dX0_countOut_65 jv_c_iconst_1 ?_
            refine jv_iaddN dX0_countOut_66 ?_
            refine jv_iload3 dX0_countOut_67 ?_
            refine jv_icmp_geN dX0_countOut_68 (tgt := 93) (by decide) (by omega) (by omega) (fun hc68 => ?_) (fun hc68 => by omega)
            rw [show nI l = nI (l - 1 + 1) from congrArg nI (by omega)]
            refine jv_iinc3D dX0_countOut_93 rfl ?_
            refine jv_goto dX0_countOut_96 (tgt := 28) (by decide) ?_
            exact hV
      obtain ⟨I2, hV, p1, p2⟩ := inner l (ot_coX k (Y 10 0) (Y 10 0 - l + 1)) (jv_up A 43 (Y 10 0 - l) (nI (ot_coR k (Y 10 0) (ot_at Y) (Y 10 0 - l) (ot_coX k (Y 10 0) (Y 10 0 - l + 1))))) (by omega) (Nat.le_refl _) hxl (fun q hq => by rw [jv_up_ne _ _ _ (by decide), if_neg (by omega)]; exact hring q hq) (fun j hj => by
        rw [jv_up_def, if_pos rfl]
        by_cases e : j = Y 10 0 - l
        · rw [if_pos e, e]; rfl
        · rw [if_neg e]; exact hlv j (by omega)) (fun q x1 x2 => by rw [jv_up_ne _ _ _ x2]; exact hF q x1 x2)
      refine ⟨I2, ?_, p1, p2⟩
      refine jv_iload3 dX0_countOut_28 ?_
      refine jv_if_leN dX0_countOut_29 (tgt := 99) (by decide) (by omega) (fun hc29 => by omega) (fun hc29 => ?_)
      refine jv_iload2 dX0_countOut_32 ?_
      refine jv_iload1 dX0_countOut_33 ?_
      refine jv_iaddN dX0_countOut_34 ?_
      refine jv_iconst dX0_countOut_35 jv_c_iconst_1 ?_
      refine jv_isubN dX0_countOut_36 (by omega) ?_
      refine jv_iload3 dX0_countOut_37 ?_
      refine jv_iremN dX0_countOut_38 (by omega) (by omega) (by omega) ?_
      rw [show (ot_coX k (Y 10 0) (Y 10 0 - l) + k - 1) % l = (ot_coX k (Y 10 0) (Y 10 0 - l + 1)) from hxx]
      refine jv_istore2 dX0_countOut_39 rfl ?_
      refine jv_aload0 dX0_countOut_40 ?_
      refine jv_getR dX0_countOut_41 flX0_24 rfl (fk h.g) (fr_leaving h.g) ?_
      refine jv_aload0 dX0_countOut_44 ?_
      refine jv_getR dX0_countOut_45 flX0_27 rfl (fk h.g) (fr_yard h.g) ?_
      refine jv_getI dX0_countOut_48 flX0_31 rfl (yk (cg_now h.g)) hchA ?_
      refine jv_iload3 dX0_countOut_51 ?_
      refine jv_isubN dX0_countOut_52 (by omega) ?_
      refine jv_aload0 dX0_countOut_53 ?_
      refine jv_getR dX0_countOut_54 flX0_21 rfl (fk h.g) (fr_ring h.g) ?_
      refine jv_iload2 dX0_countOut_57 ?_
      refine jv_ialdN dX0_countOut_58 (fk_ring h.g) (by omega) (by decide) (hring _ (by omega)) ?_
      refine jv_iastN dX0_countOut_59 (fk_leaving h.g) (by omega) (by decide) ?_
      refine jv_iload2 dX0_countOut_60 ?_
      refine jv_istore4 dX0_countOut_61 rfl ?_
      exact hV
    · have e0 : l = 0 := by omega
      refine ⟨A, ?_, fun j hj => hlv j (by omega), hF⟩
      refine jv_iload3 dX0_countOut_28 ?_
      refine jv_if_leN dX0_countOut_29 (tgt := 99) (by decide) (by omega) (fun hc29 => ?_) (fun hc29 => by omega)
      exact jv_vret dX0_countOut_99 rfl rfl rfl rfl
set_option maxRecDepth 20000 in
theorem om_ring {G : jv_Gr} {I : jv_I} {J : jv_J} {Y Z : ot_Y} {E : ot_E} {K : Option ot_Y} (h : ot_M G I J Y Z E K) {k : Nat} (hk1 : 1 ≤ k) (hk2 : k ≤ 20) : ∀ (m l : Nat) (A : jv_I) (s4 : Value), l + 1 ≤ m → l ≤ Y 10 0 → (∀ p, p < l → A (64 + 28) p = nI (ot_coR k (Y 10 0) (ot_at Y) (Y 10 0 - l) p)) → (∀ j, j < Y 10 0 - l → A (64 + 29) j = nI (ot_co k (Y 10 0) (ot_at Y) j)) → (∀ q, q ≠ (64 + 28) → q ≠ (64 + 29) → A q = I q) → ∃ I2, jv_V 3 mX5_findOut 34 [.ref 64, .int (nI k), .int (nI (ot_coX k (Y 10 0) (Y 10 0 - l))), .int (nI l), s4] [] G A J none G I2 J ∧ (∀ j, j < Y 10 0 → I2 (64 + 29) j = nI (ot_co k (Y 10 0) (ot_at Y) j)) ∧ (∀ q, q ≠ (64 + 28) → q ≠ (64 + 29) → I2 q = I q) := by
  have bn := yw_n h.w
  have bc := yw_c h.w
  have bw := yw_w h.w
  have hch : I 64 9 = nI (Y 10 0) := h.r.1.1
  intro m
  induction m with
  | zero => intro l A s4 b1; omega
  | succ m ih =>
    intro l A s4 b1 b2 hring hlv hF
    have hchA : A 64 9 = nI (Y 10 0) := by rw [hF 64 (by decide) (by decide)]; exact hch
    have hxle := ot_coX_le k (Y 10 0) (Y 10 0 - l) (by omega)
    by_cases hl : 0 < l
    · have hxx : (ot_coX k (Y 10 0) (Y 10 0 - l) + k - 1) % l = (ot_coX k (Y 10 0) (Y 10 0 - l + 1)) := by
        show _ = (ot_coX k (Y 10 0) (Y 10 0 - l) + k - 1) % (Y 10 0 - (Y 10 0 - l))
        rw [show Y 10 0 - (Y 10 0 - l) = l by omega]
      have hxl : (ot_coX k (Y 10 0) (Y 10 0 - l + 1)) < l := by rw [← hxx]; exact Nat.mod_lt _ hl
      have inner : ∀ (m2 p : Nat) (B : jv_I), l ≤ p + m2 → (ot_coX k (Y 10 0) (Y 10 0 - l + 1)) ≤ p → p < l → (∀ q, q < l → B (64 + 28) q = nI (if (ot_coX k (Y 10 0) (Y 10 0 - l + 1)) ≤ q ∧ q < p then ot_coR k (Y 10 0) (ot_at Y) (Y 10 0 - l) (q + 1) else ot_coR k (Y 10 0) (ot_at Y) (Y 10 0 - l) q)) → (∀ j, j < Y 10 0 - l + 1 → B (64 + 29) j = nI (ot_co k (Y 10 0) (ot_at Y) j)) → (∀ q, q ≠ (64 + 28) → q ≠ (64 + 29) → B q = I q) → ∃ I2, jv_V 3 mX5_findOut 66 [.ref 64, .int (nI k), .int (nI (ot_coX k (Y 10 0) (Y 10 0 - l + 1))), .int (nI l), .int (nI p)] [] G B J none G I2 J ∧ (∀ j, j < Y 10 0 → I2 (64 + 29) j = nI (ot_co k (Y 10 0) (ot_at Y) j)) ∧ (∀ q, q ≠ (64 + 28) → q ≠ (64 + 29) → I2 q = I q) := by
        intro m2
        induction m2 with
        | zero => intro p B q1 q2 q3; omega
        | succ m2 ih2 =>
          intro p B q1 q2 q3 hB1 hB2 hF
          have hchB : B 64 9 = nI (Y 10 0) := by rw [hF 64 (by decide) (by decide)]; exact hch
          by_cases hp : p + 1 < l
          · have hrd : B (64 + 28) (p + 1) = nI (ot_coR k (Y 10 0) (ot_at Y) (Y 10 0 - l) (p + 1)) := by rw [hB1 (p + 1) hp, if_neg (by omega)]
            obtain ⟨I2, hV, p1, p2⟩ := ih2 (p + 1) (jv_up B (64 + 28) p (nI (ot_coR k (Y 10 0) (ot_at Y) (Y 10 0 - l) (p + 1)))) (by omega) (by omega) hp (fun q hq => by
              rw [jv_up_def, if_pos rfl]
              by_cases e : q = p
              · subst e
                rw [if_pos rfl, if_pos (by omega)]
              · rw [if_neg e, hB1 q hq]
                by_cases e2 : (ot_coX k (Y 10 0) (Y 10 0 - l + 1)) ≤ q ∧ q < p
                · rw [if_pos e2, if_pos (by omega)]
                · rw [if_neg e2, if_neg (by omega)]) (fun j hj => by rw [jv_up_ne _ _ _ (by decide)]; exact hB2 j hj) (fun q x1 x2 => by rw [jv_up_ne _ _ _ x1]; exact hF q x1 x2)
            refine ⟨I2, ?_, p1, p2⟩
            refine jv_iload4 dX5_findOut_66 ?_
            refine jv_iconst dX5_findOut_68 jv_c_iconst_1 ?_
            refine jv_iaddN dX5_findOut_69 ?_
            refine jv_iload3 dX5_findOut_70 ?_
            refine jv_icmp_geN dX5_findOut_71 (tgt := 96) (by decide) (by omega) (by omega) (fun hc71 => by omega) (fun hc71 => ?_)
            refine jv_aload0 dX5_findOut_74 ?_
            refine jv_getR dX5_findOut_75 flX5_74 rfl (mk h.g) (mr_ring h.g) ?_
            refine jv_iload4 dX5_findOut_78 ?_
            refine jv_aload0 dX5_findOut_80 ?_
            refine jv_getR dX5_findOut_81 flX5_74 rfl (mk h.g) (mr_ring h.g) ?_
            refine jv_iload4 dX5_findOut_84 ?_
            refine jv_iconst dX5_findOut_86 jv_c_iconst_1 ?_
            refine jv_iaddN dX5_findOut_87 ?_
            refine jv_ialdN dX5_findOut_88 (mk_ring h.g) (by omega) (by decide) hrd ?_
            refine jv_iastN dX5_findOut_89 (mk_ring h.g) (by omega) (by decide) ?_
            refine jv_iinc4N dX5_findOut_90 rfl ?_
            refine jv_goto dX5_findOut_93 (tgt := 66) (by decide) ?_
            exact hV
          · have en : Y 10 0 - (l - 1) = Y 10 0 - l + 1 := by omega
            obtain ⟨I2, hV, p1, p2⟩ := ih (l - 1) B (.int (nI p)) (by omega) (by omega) (fun q hq => by
              rw [hB1 q (by omega), en]
              show _ = nI (if (ot_coX k (Y 10 0) (Y 10 0 - l + 1)) ≤ q ∧ q + 1 < Y 10 0 - (Y 10 0 - l) then ot_coR k (Y 10 0) (ot_at Y) (Y 10 0 - l) (q + 1) else ot_coR k (Y 10 0) (ot_at Y) (Y 10 0 - l) q)
              by_cases e2 : (ot_coX k (Y 10 0) (Y 10 0 - l + 1)) ≤ q
              · rw [if_pos ⟨e2, by omega⟩, if_pos ⟨e2, by omega⟩]
              · rw [if_neg (fun z => e2 z.1), if_neg (fun z => e2 z.1)]) (by rw [en]; exact hB2) hF
            rw [en] at hV
            refine ⟨I2, ?_, p1, p2⟩
            refine jv_iload4 dX5_findOut_66 ?_
            refine jv_iconst dX5_findOut_68 jv_c_iconst_1 ?_
            refine jv_iaddN dX5_findOut_69 ?_
            refine jv_iload3 dX5_findOut_70 ?_
            refine jv_icmp_geN dX5_findOut_71 (tgt := 96) (by decide) (by omega) (by omega) (fun hc71 => ?_) (fun hc71 => by omega)
            rw [show nI l = nI (l - 1 + 1) from congrArg nI (by omega)]
            refine jv_iinc3D dX5_findOut_96 rfl ?_
            refine jv_goto dX5_findOut_99 (tgt := 34) (by decide) ?_
            exact hV
      obtain ⟨I2, hV, p1, p2⟩ := inner l (ot_coX k (Y 10 0) (Y 10 0 - l + 1)) (jv_up A (64 + 29) (Y 10 0 - l) (nI (ot_coR k (Y 10 0) (ot_at Y) (Y 10 0 - l) (ot_coX k (Y 10 0) (Y 10 0 - l + 1))))) (by omega) (Nat.le_refl _) hxl (fun q hq => by rw [jv_up_ne _ _ _ (by decide), if_neg (by omega)]; exact hring q hq) (fun j hj => by
        rw [jv_up_def, if_pos rfl]
        by_cases e : j = Y 10 0 - l
        · rw [if_pos e, e]; rfl
        · rw [if_neg e]; exact hlv j (by omega)) (fun q x1 x2 => by rw [jv_up_ne _ _ _ x2]; exact hF q x1 x2)
      refine ⟨I2, ?_, p1, p2⟩
      refine jv_iload3 dX5_findOut_34 ?_
      refine jv_if_leN dX5_findOut_35 (tgt := 102) (by decide) (by omega) (fun hc35 => by omega) (fun hc35 => ?_)
      refine jv_iload2 dX5_findOut_38 ?_
      refine jv_iload1 dX5_findOut_39 ?_
      refine jv_iaddN dX5_findOut_40 ?_
      refine jv_iconst dX5_findOut_41 jv_c_iconst_1 ?_
      refine jv_isubN dX5_findOut_42 (by omega) ?_
      refine jv_iload3 dX5_findOut_43 ?_
      refine jv_iremN dX5_findOut_44 (by omega) (by omega) (by omega) ?_
      rw [show (ot_coX k (Y 10 0) (Y 10 0 - l) + k - 1) % l = (ot_coX k (Y 10 0) (Y 10 0 - l + 1)) from hxx]
      refine jv_istore2 dX5_findOut_45 rfl ?_
      refine jv_aload0 dX5_findOut_46 ?_
      refine jv_getR dX5_findOut_47 flX5_77 rfl (mk h.g) (mr_outs h.g) ?_
      refine jv_aload0 dX5_findOut_50 ?_
      refine jv_getI dX5_findOut_51 flX5_80 rfl (mk h.g) hchA ?_
      refine jv_iload3 dX5_findOut_54 ?_
      refine jv_isubN dX5_findOut_55 (by omega) ?_
      refine jv_aload0 dX5_findOut_56 ?_
      refine jv_getR dX5_findOut_57 flX5_74 rfl (mk h.g) (mr_ring h.g) ?_
      refine jv_iload2 dX5_findOut_60 ?_
      refine jv_ialdN dX5_findOut_61 (mk_ring h.g) (by omega) (by decide) (hring _ (by omega)) ?_
      refine jv_iastN dX5_findOut_62 (mk_outs h.g) (by omega) (by decide) ?_
      refine jv_iload2 dX5_findOut_63 ?_
      refine jv_istore4 dX5_findOut_64 rfl ?_
      exact hV
    · have e0 : l = 0 := by omega
      refine ⟨A, ?_, fun j hj => hlv j (by omega), hF⟩
      refine jv_iload3 dX5_findOut_34 ?_
      refine jv_if_leN dX5_findOut_35 (tgt := 102) (by decide) (by omega) (fun hc35 => ?_) (fun hc35 => by omega)
      exact jv_vret dX5_findOut_102 rfl rfl rfl rfl
theorem ot_cpy_at {I : jv_I} {a b i n : Nat} (h : i < n) : jv_pa I b (va_cpy (I a) (I b) 0 0 n) b i = I a i := by
  show (if b = b then va_cpy (I a) (I b) 0 0 n else I b) i = I a i
  rw [if_pos rfl]
  unfold va_cpy
  rw [if_pos ⟨by omega, by omega⟩, Nat.zero_add, Nat.sub_zero]
theorem jv_pa_ne {I : jv_I} {b q : Nat} {f : Nat → Int32} (h : q ≠ b) : jv_pa I b f q = I q := if_neg h
theorem ot_who_at {I : jv_I} {y : Nat} {Y : ot_Y} (hR : ot_YR I y Y) (hW : ot_YW Y) {p : Nat} (hp : p < Y 10 0) : I (y + 4) p = nI (ot_at Y p) := by
  obtain ⟨e, he, rfl⟩ := ot_who hW hp
  rw [ot_at_eq hW he]; exact ye_who hR he
set_option maxRecDepth 20000 in
theorem oc_countOut {G : jv_Gr} {I : jv_I} {J : jv_J} {Y Z : ot_Y} {E : ot_E} {K : Option ot_Y} (h : ot_C G I J Y Z E K) {k : Nat} (hk1 : 1 ≤ k) (hk2 : k ≤ 20) : ∃ I2, jv_C 3 mX0_countOut [.ref 38, .int (nI k)] G I J none G I2 J ∧ (∀ j, j < Y 10 0 → I2 43 j = nI (ot_co k (Y 10 0) (ot_at Y) j)) ∧ (∀ q, q ≠ 42 → q ≠ 43 → I2 q = I q) := by
  have bn := yw_n h.w
  have bc := yw_c h.w
  have bw := yw_w h.w
  obtain ⟨I2, hV, p1, p2⟩ := oc_ring h hk1 hk2 (Y 10 0 + 1) (Y 10 0) (jv_pa I 42 (va_cpy (I 6) (I 42) 0 0 14)) .null (Nat.le_refl _) (Nat.le_refl _) (fun p hp => by rw [Nat.sub_self, ot_cpy_at (by omega)]; exact ot_who_at h.r h.w hp) (fun j hj => by omega) (fun q x1 x2 => jv_pa_ne x1)
  refine ⟨I2, ?_, p1, p2⟩
  refine jv_enter okX0_countOut (L := [.ref 38, .int (nI k), .null, .null, .null]) rfl (Nat.le_of_ble_eq_true rfl) ?_
  refine jv_aload0 dX0_countOut_0 ?_
  refine jv_getR dX0_countOut_1 flX0_27 rfl (fk h.g) (fr_yard h.g) ?_
  refine jv_getR dX0_countOut_4 flX0_133 rfl (yk (cg_now h.g)) (yr_who (cg_now h.g)) ?_
  refine jv_iconst dX0_countOut_7 jv_c_iconst_0 ?_
  refine jv_aload0 dX0_countOut_8 ?_
  refine jv_getR dX0_countOut_9 flX0_21 rfl (fk h.g) (fr_ring h.g) ?_
  refine jv_iconst dX0_countOut_12 jv_c_iconst_0 ?_
  refine jv_bipush dX0_countOut_13 jv_c_bipush_14 ?_
  refine jv_copyI dX0_countOut_15 mlX0_136 nat_copy st_copy ini_sys (yk_who (cg_now h.g)) (fk_ring h.g) rfl rfl rfl (by decide) (by decide) (by decide) (by decide) (Nat.le_of_ble_eq_true rfl) (by decide) ?_
  refine jv_iconst dX0_countOut_18 jv_c_iconst_0 ?_
  refine jv_istore2 dX0_countOut_19 rfl ?_
  refine jv_aload0 dX0_countOut_20 ?_
  refine jv_getR dX0_countOut_21 flX0_27 rfl (fk h.g) (fr_yard h.g) ?_
  refine jv_getI dX0_countOut_24 flX0_31 rfl (yk (cg_now h.g)) ((congrFun (jv_pa_ne (by decide)) 0).trans h.r.1.1) ?_
  refine jv_istore3 dX0_countOut_27 rfl ?_
  rw [Nat.sub_self] at hV
  exact hV
set_option maxRecDepth 20000 in
theorem om_findOut {G : jv_Gr} {I : jv_I} {J : jv_J} {Y Z : ot_Y} {E : ot_E} {K : Option ot_Y} (h : ot_M G I J Y Z E K) {k : Nat} (hk1 : 1 ≤ k) (hk2 : k ≤ 20) : ∃ I2, jv_C 3 mX5_findOut [.ref 64, .int (nI k)] G I J none G I2 J ∧ (∀ j, j < Y 10 0 → I2 (64 + 29) j = nI (ot_co k (Y 10 0) (ot_at Y) j)) ∧ (∀ q, q ≠ 64 + 28 → q ≠ 64 + 29 → I2 q = I q) := by
  have bn := yw_n h.w
  have bc := yw_c h.w
  have bw := yw_w h.w
  have fill : ∀ (m i : Nat) (A : jv_I), Y 10 0 + 1 ≤ i + m → i ≤ Y 10 0 → (∀ p, p < i → A (64 + 28) p = nI (ot_at Y p)) → (∀ q, q ≠ 64 + 28 → q ≠ 64 + 29 → A q = I q) → ∃ I2, jv_V 3 mX5_findOut 2 [.ref 64, .int (nI k), .int (nI i), .null, .null] [] G A J none G I2 J ∧ (∀ j, j < Y 10 0 → I2 (64 + 29) j = nI (ot_co k (Y 10 0) (ot_at Y) j)) ∧ (∀ q, q ≠ 64 + 28 → q ≠ 64 + 29 → I2 q = I q) := by
    intro m
    induction m with
    | zero => intro i A b1 b2; omega
    | succ m ih =>
      intro i A b1 b2 hv hF
      have hRA : ot_MR A 64 Y := by
        obtain ⟨r1, r2, r3, r4⟩ := h.r
        unfold ot_MR
        rw [hF 64 (by decide) (by decide), hF (64 + 17) (by decide) (by decide), hF (64 + 18) (by decide) (by decide), hF (64 + 19) (by decide) (by decide), hF (64 + 20) (by decide) (by decide), hF (64 + 21) (by decide) (by decide), hF (64 + 22) (by decide) (by decide), hF (64 + 23) (by decide) (by decide), hF (64 + 24) (by decide) (by decide), hF (64 + 25) (by decide) (by decide), hF (64 + 26) (by decide) (by decide)]
        exact ⟨r1, r2, r3, r4⟩
      have hA64 := hRA.1.1
      by_cases hi : i < Y 10 0
      · have cS : jv_C 1 mX5_standing [.ref 64, .int (nI i)] G A J (some (.int (nI (ot_at Y i)))) G A J := by
          obtain ⟨e, he, rfl⟩ := ot_who h.w hi
          rw [ot_at_eq h.w he]; exact om_standing h.g hRA h.w he
        obtain ⟨I2, hV, p1, p2⟩ := ih (i + 1) (jv_up A (64 + 28) i (nI (ot_at Y i))) (by omega) (by omega) (fun p hp => by
          rw [jv_up_def, if_pos rfl]
          by_cases e : p = i
          · rw [if_pos e, e]
          · rw [if_neg e]; exact hv p (by omega)) (fun q x1 x2 => by rw [jv_up_ne _ _ _ x1]; exact hF q x1 x2)
        refine ⟨I2, ?_, p1, p2⟩
        refine jv_iload2 dX5_findOut_2 ?_
        refine jv_aload0 dX5_findOut_3 ?_
        refine jv_getI dX5_findOut_4 flX5_80 rfl (mk h.g) (show A 64 9 = nI (Y 10 0) from hA64) ?_
        refine jv_icmp_geN dX5_findOut_7 (tgt := 27) (by decide) (by omega) (by omega) (fun hc7 => by omega) (fun hc7 => ?_)
        refine jv_aload0 dX5_findOut_10 ?_
        refine jv_getR dX5_findOut_11 flX5_74 rfl (mk h.g) (mr_ring h.g) ?_
        refine jv_iload2 dX5_findOut_14 ?_
        refine jv_aload0 dX5_findOut_15 ?_
        refine jv_iload2 dX5_findOut_16 ?_
        refine jv_v11 dX5_findOut_17 okX5_standing inX5_standing seX5_standing mlX5_254 (ci := 5) (T := TX5) (N := 35) rfl (mk h.g) cS (by decide) (Nat.le_of_ble_eq_true rfl) ?_
        refine jv_iastN dX5_findOut_20 (mk_ring h.g) (by omega) (by decide) ?_
        refine jv_iinc2N dX5_findOut_21 rfl ?_
        refine jv_goto dX5_findOut_24 (tgt := 2) (by decide) ?_
        exact hV
      · obtain ⟨I2, hV, p1, p2⟩ := om_ring h hk1 hk2 (Y 10 0 + 1) (Y 10 0) A .null (Nat.le_refl _) (Nat.le_refl _) (fun p hp => by rw [Nat.sub_self]; exact hv p (by omega)) (fun j hj => by omega) hF
        refine ⟨I2, ?_, p1, p2⟩
        refine jv_iload2 dX5_findOut_2 ?_
        refine jv_aload0 dX5_findOut_3 ?_
        refine jv_getI dX5_findOut_4 flX5_80 rfl (mk h.g) (show A 64 9 = nI (Y 10 0) from hA64) ?_
        refine jv_icmp_geN dX5_findOut_7 (tgt := 27) (by decide) (by omega) (by omega) (fun hc7 => ?_) (fun hc7 => by omega)
        refine jv_iconst dX5_findOut_27 jv_c_iconst_0 ?_
        refine jv_istore2 dX5_findOut_28 rfl ?_
        refine jv_aload0 dX5_findOut_29 ?_
        refine jv_getI dX5_findOut_30 flX5_80 rfl (mk h.g) (show A 64 9 = nI (Y 10 0) from hA64) ?_
        refine jv_istore3 dX5_findOut_33 rfl ?_
        rw [Nat.sub_self] at hV
        exact hV
  obtain ⟨I2, hV, p1, p2⟩ := fill (Y 10 0 + 1) 0 I (by omega) (by omega) (fun p hp => by omega) (fun _ _ _ => rfl)
  refine ⟨I2, ?_, p1, p2⟩
  refine jv_enter okX5_findOut (L := [.ref 64, .int (nI k), .null, .null, .null]) rfl (Nat.le_of_ble_eq_true rfl) ?_
  refine jv_iconst dX5_findOut_0 jv_c_iconst_0 ?_
  refine jv_istore2 dX5_findOut_1 rfl ?_
  exact hV
