/-! ===== shelves ===== -/
def ot_zs (Z : ot_Y) (s tg so si sh : Nat) : ot_Y := fun j i => if i = s ∧ j ≤ 3 then (if j = 0 then tg else if j = 1 then so else if j = 2 then si else sh) else Z j i
def ot_es (E : ot_E) (s : Nat) (f : Nat → Int64) : ot_E := fun t => if t = s then f else E t
section OTS
variable {G : jv_Gr} {I I2 : jv_I} {J J2 : jv_J} {Y Z : ot_Y} {E : ot_E} {K : Option ot_Y} {s tg so si sh : Nat}
theorem ot_zs_hi {j : Nat} (hj : 4 ≤ j) : ot_zs Z s tg so si sh j = Z j := by funext i; unfold ot_zs; rw [if_neg (by omega)]
theorem ot_zs_ne {j t : Nat} (ht : t ≠ s) : ot_zs Z s tg so si sh j t = Z j t := by unfold ot_zs; rw [if_neg (by omega)]
theorem ot_zs_0 : ot_zs Z s tg so si sh 0 s = tg := by unfold ot_zs; rw [if_pos ⟨rfl, by decide⟩, if_pos rfl]
theorem ot_zs_1 : ot_zs Z s tg so si sh 1 s = so := by unfold ot_zs; rw [if_pos ⟨rfl, by decide⟩, if_neg (by decide), if_pos rfl]
theorem ot_zs_2 : ot_zs Z s tg so si sh 2 s = si := by unfold ot_zs; rw [if_pos ⟨rfl, by decide⟩, if_neg (by decide), if_neg (by decide), if_pos rfl]
theorem ot_zs_3 : ot_zs Z s tg so si sh 3 s = sh := by unfold ot_zs; rw [if_pos ⟨rfl, by decide⟩, if_neg (by decide), if_neg (by decide), if_neg (by decide)]
theorem ot_es_at {f : Nat → Int64} : ot_es E s f s = f := if_pos rfl
theorem ot_es_ne {f : Nat → Int64} {t : Nat} (ht : t ≠ s) : ot_es E s f t = E t := if_neg ht
theorem ot_ZW_zs (h : ot_ZW Y Z) (h1 : tg ≤ 2) (h2 : tg = 1 → so ≤ 4 ∧ si ≤ 40) (h3 : tg = 2 → sh < Y 10 1) : ot_ZW Y (ot_zs Z s tg so si sh) := by
  refine ⟨fun t ht => ?_, by rw [ot_zs_hi (by decide)]; exact h.2.1, by rw [ot_zs_hi (by decide), ot_zs_hi (by decide)]; exact h.2.2⟩
  by_cases e : t = s
  · subst e; rw [ot_zs_0, ot_zs_1, ot_zs_2, ot_zs_3]; exact ⟨h1, h2, h3⟩
  · rw [ot_zs_ne e, ot_zs_ne e, ot_zs_ne e, ot_zs_ne e]; exact h.1 t ht
theorem ot_thing_ne {t : Nat} (ht : t ≠ s) : ot_thing (ot_zs Z s tg so si sh) t = ot_thing Z t := by unfold ot_thing; rw [ot_zs_ne ht, ot_zs_ne ht, ot_zs_ne ht]
theorem ot_slen_ne {t : Nat} (ht : t ≠ s) : ot_slen (ot_zs Z s tg so si sh) t = ot_slen Z t := by unfold ot_slen; rw [ot_zs_ne ht, ot_zs_ne ht]
/-- one shelf has changed -/
theorem ot_C_shelf (h : ot_C G I J Y Z E K) (hs : s < 8) {f : Nat → Int64} (h1 : tg ≤ 2) (h2 : tg = 1 → so ≤ 4 ∧ si ≤ 40) (h3 : tg = 2 → sh < Y 10 1) (hf : ∀ q, q ≠ 48 + 2 * s → I2 q = I q) (hj : ∀ q, q ≠ 49 + 2 * s → J2 q = J q) (ht : I2 (48 + 2 * s) 0 = ot_thing (ot_zs Z s tg so si sh) s) (hl : I2 (48 + 2 * s) 1 = nI (ot_slen (ot_zs Z s tg so si sh) s)) (he : tg = 1 → ∀ i, i < 40 → J2 (49 + 2 * s) i = f i) : ot_C G I2 J2 Y (ot_zs Z s tg so si sh) (ot_es E s f) K := by
  obtain ⟨a, b, c, d, e, g⟩ := h
  refine ⟨a, ?_, c, ?_, ot_ZW_zs e h1 h2 h3, ?_⟩
  · exact ot_YR_fr (lo := 48) (hi := 63) b (fun q hq => hf q (by omega)) (by omega)
  · obtain ⟨d1, ⟨d2, d3⟩, d4⟩ := d
    refine ⟨fun t ht8 => ?_, ⟨?_, fun i hi => ?_⟩, fun j hj5 => ?_⟩
    · by_cases e2 : t = s
      · subst e2
        rw [ot_zs_0, ot_es_at]; exact ⟨ht, hl, he⟩
      · rw [hf (48 + 2 * t) (by omega), hj (49 + 2 * t) (by omega), ot_thing_ne e2, ot_slen_ne e2, ot_zs_ne e2, ot_es_ne e2]; exact d1 t ht8
    · rw [hf 44 (by omega), ot_zs_hi (by decide)]; exact d2
    · rw [ot_zs_hi (by decide)] at hi ⊢; rw [hf 45 (by omega)]; exact d3 i hi
    · rw [hf 47 (by omega), ot_zs_hi (by decide)]; exact d4 j hj5
  · cases K with
    | none => exact (congrFun (hf 1 (by omega)) 7).trans g
    | some YK =>
      obtain ⟨f1, f2, f3⟩ := g
      exact ⟨(congrFun (hf 1 (by omega)) 7).trans f1, ot_YR_fr (lo := 48) (hi := 63) f2 (fun q hq => hf q (by omega)) (by omega), f3⟩
/-- only the elements of a row -/
theorem ot_C_els (h : ot_C G I J Y Z E K) (hs : s < 8) {f : Nat → Int64} (hj : ∀ q, q ≠ 49 + 2 * s → J2 q = J q) (he : Z 0 s = 1 → ∀ i, i < 40 → J2 (49 + 2 * s) i = f i) : ot_C G I J2 Y Z (ot_es E s f) K := by
  obtain ⟨a, b, c, d, e, g⟩ := h
  refine ⟨a, b, c, ?_, e, g⟩
  obtain ⟨d1, d2, d4⟩ := d
  refine ⟨fun t ht8 => ?_, d2, d4⟩
  by_cases e2 : t = s
  · subst e2
    rw [ot_es_at]; exact ⟨(d1 t ht8).1, (d1 t ht8).2.1, he⟩
  · rw [hj (49 + 2 * t) (by omega), ot_es_ne e2]; exact d1 t ht8
theorem ot_M_shelf (h : ot_M G I J Y Z E K) (hs : s < 8) {f : Nat → Int64} (h1 : tg ≤ 2) (h2 : tg = 1 → so ≤ 4 ∧ si ≤ 40) (h3 : tg = 2 → sh < Y 10 1) (hf : ∀ q, q ≠ 65 → q ≠ 66 → q ≠ 67 → q ≠ 78 → I2 q = I q) (hg : ∀ q t, t ≠ s → I2 q t = I q t) (hj : ∀ q, q ≠ 64 + (5 + s) → J2 q = J q) (a1 : I2 65 s = nI tg) (a2 : tg = 1 → I2 66 s = nI so ∧ I2 67 s = nI si) (a3 : tg = 2 → I2 78 s = nI sh) (he : tg = 1 → ∀ i, i < 40 → J2 (64 + (5 + s)) i = f i) : ot_M G I2 J2 Y (ot_zs Z s tg so si sh) (ot_es E s f) K := by
  obtain ⟨a, b, c, d, e, g, t1, n⟩ := h
  refine ⟨a, ?_, c, ?_, ot_ZW_zs e h1 h2 h3, ot_KM_fr (lo := 65) (hi := 78) g (fun q hq => hf q (by omega) (by omega) (by omega) (by omega)) (by omega), t1, n⟩
  · obtain ⟨b1, b2, b3, b4⟩ := b
    unfold ot_MR
    rw [hf 64 (by omega) (by omega) (by omega) (by omega), hf (64 + 17) (by omega) (by omega) (by omega) (by omega), hf (64 + 18) (by omega) (by omega) (by omega) (by omega), hf (64 + 19) (by omega) (by omega) (by omega) (by omega), hf (64 + 20) (by omega) (by omega) (by omega) (by omega), hf (64 + 21) (by omega) (by omega) (by omega) (by omega), hf (64 + 22) (by omega) (by omega) (by omega) (by omega), hf (64 + 23) (by omega) (by omega) (by omega) (by omega), hf (64 + 24) (by omega) (by omega) (by omega) (by omega), hf (64 + 25) (by omega) (by omega) (by omega) (by omega), hf (64 + 26) (by omega) (by omega) (by omega) (by omega)]
    exact ⟨b1, b2, b3, b4⟩
  · obtain ⟨d1, ⟨d2, d3⟩, d4⟩ := d
    refine ⟨fun t ht8 => ?_, ⟨?_, fun i hi => ?_⟩, fun j hj5 => ?_⟩
    · by_cases e2 : t = s
      · subst e2
        rw [ot_zs_0, ot_zs_1, ot_zs_2, ot_zs_3, ot_es_at]; exact ⟨a1, fun q => ⟨(a2 q).1, (a2 q).2, he q⟩, a3⟩
      · rw [hg 65 t e2, hg 66 t e2, hg 67 t e2, hg 78 t e2, hj (64 + (5 + t)) (by omega), ot_zs_ne e2, ot_zs_ne e2, ot_zs_ne e2, ot_zs_ne e2, ot_es_ne e2]; exact d1 t ht8
    · rw [hf 64 (by omega) (by omega) (by omega) (by omega), ot_zs_hi (by decide)]; exact d2
    · rw [ot_zs_hi (by decide)] at hi ⊢; rw [hf 79 (by omega) (by omega) (by omega) (by omega)]; exact d3 i hi
    · rw [hf 80 (by omega) (by omega) (by omega) (by omega), ot_zs_hi (by decide)]; exact d4 j hj5
theorem ot_M_els (h : ot_M G I J Y Z E K) (hs : s < 8) {f : Nat → Int64} (hj : ∀ q, q ≠ 77 → q ≠ 64 + (5 + s) → J2 q = J q) (he : Z 0 s = 1 → ∀ i, i < 40 → J2 (64 + (5 + s)) i = f i) : ot_M G I J2 Y Z (ot_es E s f) K := by
  obtain ⟨a, b, c, d, e, g, t1, n⟩ := h
  refine ⟨a, b, c, ?_, e, g, t1, n⟩
  obtain ⟨d1, d2, d4⟩ := d
  refine ⟨fun t ht8 => ?_, d2, d4⟩
  by_cases e2 : t = s
  · subst e2
    rw [ot_es_at]; exact ⟨(d1 t ht8).1, fun q => ⟨((d1 t ht8).2.1 q).1, ((d1 t ht8).2.1 q).2.1, he q⟩, (d1 t ht8).2.2⟩
  · rw [hj (64 + (5 + t)) (by omega) (by omega), ot_es_ne e2]; exact d1 t ht8
/-- why a shelf's row can't be had -/
def ot_rt (Z : ot_Y) (v : Int32) : Nat := if 0 ≤ v.toInt ∧ v.toInt < 8 then (if Z 0 (ot_n v) = 2 then 3 else if Z 0 (ot_n v) = 1 then 0 else 4) else 2
theorem ot_rt_cases (hZ : ot_ZW Y Z) (v : Int32) : (ot_rt Z v = 0 ∧ ∃ t, t < 8 ∧ v = nI t ∧ Z 0 t = 1) ∨ (ot_rt Z v = 2 ∧ ¬ (0 ≤ v.toInt ∧ v.toInt < 8)) ∨ (ot_rt Z v = 3 ∧ ∃ t, t < 8 ∧ v = nI t ∧ Z 0 t = 2) ∨ (ot_rt Z v = 4 ∧ ∃ t, t < 8 ∧ v = nI t ∧ Z 0 t = 0) := by
  unfold ot_rt
  by_cases h : 0 ≤ v.toInt ∧ v.toInt < 8
  · obtain ⟨t, ht, rfl⟩ := ot_of (n := 8) h (by decide)
    rw [if_pos h, ot_n_nI (by omega)]
    obtain ⟨z1, z2, z3⟩ := hZ.1 t ht
    rcases (show Z 0 t = 0 ∨ Z 0 t = 1 ∨ Z 0 t = 2 by omega) with e | e | e
    · rw [e]; exact .inr (.inr (.inr ⟨rfl, t, ht, rfl, e⟩))
    · rw [e]; exact .inl ⟨rfl, t, ht, rfl, e⟩
    · rw [e]; exact .inr (.inr (.inl ⟨rfl, t, ht, rfl, e⟩))
  · rw [if_neg h]; exact .inr (.inl ⟨rfl, h⟩)
/-- why n elements of it can't be taken as told -/
def ot_tt (Z : ot_Y) (v n : Int32) : Nat := if 0 ≤ n.toInt ∧ n.toInt ≤ 40 then (if ot_rt Z v = 0 then (if Z 2 (ot_n v) < ot_n n then 2 else 0) else ot_rt Z v) else 2
theorem ot_tt_cases (hZ : ot_ZW Y Z) (v n : Int32) : (ot_tt Z v n = 0 ∧ ∃ t x, t < 8 ∧ v = nI t ∧ Z 0 t = 1 ∧ n = nI x ∧ x ≤ Z 2 t) ∨ ot_tt Z v n = 2 ∨ ot_tt Z v n = 3 ∨ ot_tt Z v n = 4 := by
  unfold ot_tt
  by_cases h : 0 ≤ n.toInt ∧ n.toInt ≤ 40
  · obtain ⟨x, hx, rfl⟩ := ot_of (n := 41) (show 0 ≤ n.toInt ∧ n.toInt < ((41 : Nat) : Int) by omega) (by decide)
    rw [if_pos h, ot_n_nI (show x < 2 ^ 30 by omega)]
    rcases ot_rt_cases hZ v with ⟨e, t, ht, rfl, h1⟩ | ⟨e, _⟩ | ⟨e, _⟩ | ⟨e, _⟩
    · rw [e, if_pos rfl, ot_n_nI (show t < 2 ^ 30 by omega)]
      by_cases hl : Z 2 t < x
      · rw [if_pos hl]; exact .inr (.inl rfl)
      · rw [if_neg hl]; exact .inl ⟨rfl, t, x, ht, rfl, h1, rfl, by omega⟩
    · rw [e]; exact .inr (.inl rfl)
    · rw [e]; exact .inr (.inr (.inl rfl))
    · rw [e]; exact .inr (.inr (.inr rfl))
  · rw [if_neg h]; exact .inr (.inl rfl)
end OTS
