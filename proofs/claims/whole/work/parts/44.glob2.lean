/-! ===== the whole state when the yard has changed ===== -/
section OTG2
variable {G : jv_Gr} {I I2 : jv_I} {J J2 : jv_J} {Y Y2 Z : ot_Y} {E : ot_E} {K : Option ot_Y}
theorem ot_ZW_y (h : ot_ZW Y Z) (hc : Y 10 1 ≤ Y2 10 1) : ot_ZW Y2 Z := ⟨fun s hs => ⟨(h.1 s hs).1, (h.1 s hs).2.1, fun q => Nat.lt_of_lt_of_le ((h.1 s hs).2.2 q) hc⟩, h.2⟩
theorem ot_C_yard (h : ot_C G I J Y Z E K) (hR : ot_YR I2 2 Y2) (hW : ot_YW Y2) (hZ : ot_ZW Y2 Z) (hf : ot_fr I I2 2 13) : ot_C G I2 J Y2 Z E K := by
  obtain ⟨a, b, c, d, e, f⟩ := h
  refine ⟨a, hR, hW, ?_, hZ, ?_⟩
  · obtain ⟨d1, ⟨d2, d3⟩, d4⟩ := d
    refine ⟨fun s hs => ?_, ⟨?_, fun i hi => ?_⟩, fun j hj => ?_⟩
    · rw [hf (48 + 2 * s) (by omega)]; exact d1 s hs
    · rw [hf 44 (by omega)]; exact d2
    · rw [hf 45 (by omega)]; exact d3 i hi
    · rw [hf 47 (by omega)]; exact d4 j hj
  · cases K with
    | none => exact (congrFun (hf 1 (by omega)) 7).trans f
    | some YK =>
      obtain ⟨f1, f2, f3⟩ := f
      exact ⟨(congrFun (hf 1 (by omega)) 7).trans f1, ot_YR_fr (lo := 2) (hi := 13) f2 hf (by omega), f3⟩
theorem ot_fr.pl {y : Nat} (h : ∀ q, q ≠ y + 3 → q ≠ y + 4 → I2 q = I q) : ot_fr I I2 y (y + 11) := fun q hq => h q (by omega) (by omega)
/-- the reference's frame: the yard's part and its scratch are free -/
def ot_mw (I I2 : jv_I) : Prop := (∀ q, q ≠ 64 → (q < 81 ∨ 93 < q) → I2 q = I q) ∧ I2 64 7 = I 64 7
theorem ot_mw.rf : ot_mw I I := ⟨fun _ _ _ => rfl, rfl⟩
theorem ot_mw.tr {I1 : jv_I} (h : ot_mw I I1) (h2 : ot_mw I1 I2) : ot_mw I I2 := ⟨fun q a b => (h2.1 q a b).trans (h.1 q a b), h2.2.trans h.2⟩
theorem ot_mf.mw (h : ot_mf I I2 64) : ot_mw I I2 := ⟨fun q a b => h.1 q a (by omega), h.2 7 (by decide) (by decide) (by decide) (by decide)⟩
theorem ot_mw.lo (h : ot_mw I I2) : ot_lo I I2 J J := fun q hq => ⟨h.1 q (by omega) (by omega), rfl⟩
theorem ot_M_yard (h : ot_M G I J Y Z E K) (hR : ot_MR I2 64 Y2) (hW : ot_YW Y2) (hZ : ot_ZW Y2 Z) (hf : ot_mw I I2) : ot_M G I2 J Y2 Z E K := by
  obtain ⟨a, b, c, d, e, f, g, n⟩ := h
  refine ⟨a, hR, hW, ?_, hZ, ?_, g, n⟩
  · obtain ⟨d1, ⟨d2, d3⟩, d4⟩ := d
    refine ⟨fun s hs => ?_, ⟨?_, fun i hi => ?_⟩, fun k hk => ?_⟩
    · rw [hf.1 65 (by omega) (by omega), hf.1 66 (by omega) (by omega), hf.1 67 (by omega) (by omega), hf.1 78 (by omega) (by omega)]; exact d1 s hs
    · exact hf.2.trans d2
    · rw [hf.1 79 (by omega) (by omega)]; exact d3 i hi
    · rw [hf.1 80 (by omega) (by omega)]; exact d4 k hk
  · cases K with
    | none => exact f
    | some YK =>
      obtain ⟨h1, h2, h3, h4⟩ := f
      exact ⟨h1, h2, ot_MR_fr (lo := 64) (hi := 93) h3 (fun q hq => hf.1 q (by omega) (by omega)) (by omega), h4⟩
/-- the answer's state: a refusal leaves the yard -/
def ot_pk {α : Sort _} (rc : Nat) (a b : α) : α := if rc = 0 then a else b
def ot_rc2 (P Q : Prop) [Decidable P] [Decidable Q] (n : Nat) : Nat := if P then (if Q then 0 else n) else 2
theorem ot_rc_split {P : Prop} [Decidable P] {motive : Nat → Prop} (h1 : P → motive 0) (h2 : ¬ P → motive 2) : motive (ot_rc P) := by
  unfold ot_rc
  by_cases h : P
  · rw [if_pos h]; exact h1 h
  · rw [if_neg h]; exact h2 h
theorem ot_rc2_split {P Q : Prop} [Decidable P] [Decidable Q] {n : Nat} {motive : Nat → Prop} (h1 : P → Q → motive 0) (h2 : P → ¬ Q → motive n) (h3 : ¬ P → motive 2) : motive (ot_rc2 P Q n) := by
  unfold ot_rc2
  by_cases h : P
  · rw [if_pos h]
    by_cases hq : Q
    · rw [if_pos hq]; exact h1 h hq
    · rw [if_neg hq]; exact h2 h hq
  · rw [if_neg h]; exact h3 h
end OTG2
