/-! ===== the whole state: Z 0 tag of a shelf (0 nothing, 1 row, 2 count), 1 sort, 2 size, 3 shown; Z 4 0 the tape's size; Z 5 its bytes; Z 6 refusals (-2 .. -6); E the rows' elements ===== -/
abbrev ot_E : Type := Nat → Nat → Int64
def ot_thing (Z : ot_Y) (s : Nat) : Int32 := if Z 0 s = 0 then -1 else if Z 0 s = 1 then nI (Z 1 s) else nI (10 + Z 3 s)
def ot_slen (Z : ot_Y) (s : Nat) : Nat := if Z 0 s = 1 then Z 2 s else 0
def ot_ZW (Y Z : ot_Y) : Prop := (∀ s, s < 8 → Z 0 s ≤ 2 ∧ (Z 0 s = 1 → Z 1 s ≤ 4 ∧ Z 2 s ≤ 40) ∧ (Z 0 s = 2 → Z 3 s < Y 10 1)) ∧ Z 4 0 ≤ 250 ∧ ∀ i, i < Z 4 0 → Z 5 i ≤ 255
/-- the component's cells -/
def ot_CG (G : jv_Gr) : Prop :=
  (jv_k G 1 = (14, 0) ∧ jv_r G 1 0 = 2 ∧ jv_r G 1 1 = 14 ∧ jv_r G 1 2 = 26 ∧ jv_r G 1 3 = 38 ∧ jv_r G 1 4 = 44 ∧ jv_r G 1 5 = 46 ∧ jv_r G 1 6 = 47) ∧
  (ot_YG G 2 ∧ ot_YG G 14 ∧ ot_YG G 26) ∧
  (jv_k G 38 = (10, 0) ∧ jv_r G 38 0 = 2 ∧ jv_r G 38 1 = 39 ∧ jv_r G 38 2 = 40 ∧ jv_r G 38 3 = 41 ∧ jv_r G 38 4 = 42 ∧ jv_r G 38 5 = 43) ∧
  (jv_k G 39 = (0, 14) ∧ jv_k G 40 = (0, 5) ∧ jv_k G 41 = (0, 5) ∧ jv_k G 42 = (0, 14) ∧ jv_k G 43 = (0, 14)) ∧
  (jv_k G 44 = (12, 0) ∧ jv_r G 44 0 = 45 ∧ jv_k G 45 = (0, 250) ∧ jv_k G 46 = (2, 8) ∧ jv_k G 47 = (0, 5)) ∧
  (∀ s, s < 8 → jv_r G 46 s = 48 + 2 * s ∧ jv_k G (48 + 2 * s) = (11, 0) ∧ jv_r G (48 + 2 * s) 2 = 49 + 2 * s ∧ jv_k G (49 + 2 * s) = (1, 40))
/-- shelves, tape and refusals, the component's -/
def ot_CR (I : jv_I) (J : jv_J) (Z : ot_Y) (E : ot_E) : Prop :=
  (∀ s, s < 8 → I (48 + 2 * s) 0 = ot_thing Z s ∧ I (48 + 2 * s) 1 = nI (ot_slen Z s) ∧ (Z 0 s = 1 → ∀ i, i < 40 → J (49 + 2 * s) i = E s i)) ∧
  (I 44 1 = nI (Z 4 0) ∧ ∀ i, i < Z 4 0 → I 45 i = nI (Z 5 i)) ∧ ∀ j, j < 5 → I 47 j = nI (Z 6 j)
def ot_KC (I : jv_I) (K : Option ot_Y) : Prop := match K with
  | none => I 1 7 = nI 0
  | some YK => I 1 7 = nI 1 ∧ ot_YR I 14 YK ∧ ot_YW YK
def ot_C (G : jv_Gr) (I : jv_I) (J : jv_J) (Y Z : ot_Y) (E : ot_E) (K : Option ot_Y) : Prop := ot_CG G ∧ ot_YR I 2 Y ∧ ot_YW Y ∧ ot_CR I J Z E ∧ ot_ZW Y Z ∧ ot_KC I K
/-- shelves, tape and refusals, the reference's (at 64) -/
def ot_NR (I : jv_I) (J : jv_J) (Z : ot_Y) (E : ot_E) : Prop :=
  (∀ s, s < 8 → I 65 s = nI (Z 0 s) ∧ (Z 0 s = 1 → I 66 s = nI (Z 1 s) ∧ I 67 s = nI (Z 2 s) ∧ ∀ i, i < 40 → J (64 + (5 + s)) i = E s i) ∧ (Z 0 s = 2 → I 78 s = nI (Z 3 s))) ∧
  (I 64 7 = nI (Z 4 0) ∧ ∀ i, i < Z 4 0 → I 79 i = nI (Z 5 i)) ∧ ∀ j, j < 5 → I 80 (j + 2) = nI (Z 6 j)
def ot_KM (G : jv_Gr) (I : jv_I) (K : Option ot_Y) : Prop := match K with
  | none => jv_r G 64 23 = 0
  | some YK => (jv_r G 64 23 = 94 ∨ jv_r G 64 23 = 124) ∧ ot_MG G (jv_r G 64 23) ∧ ot_MR I (jv_r G 64 23) YK ∧ ot_YW YK
/-- the reference's draft: not there yet, or another of its kind, apart from the kept one -/
def ot_TM (G : jv_Gr) : Prop := jv_r G 64 24 = 0 ∨ ((jv_r G 64 24 = 94 ∨ jv_r G 64 24 = 124) ∧ ot_MG G (jv_r G 64 24) ∧ jv_r G 64 24 ≠ jv_r G 64 23)
/-- how many cells there are -/
def ot_NM (G : jv_Gr) : Prop := ((jv_r G 64 23 = 0 ∧ jv_r G 64 24 = 0 ∧ jv_n G = 93) ∨ (jv_r G 64 23 = 94 ∧ jv_r G 64 24 = 0 ∧ jv_n G = 123) ∨ (jv_r G 64 23 = 0 ∧ jv_r G 64 24 = 94 ∧ jv_n G = 123) ∨ (jv_r G 64 23 ≠ 0 ∧ jv_r G 64 24 ≠ 0 ∧ jv_n G = 153)) ∧ jv_s G ≤ 29 * jv_n G
def ot_M (G : jv_Gr) (I : jv_I) (J : jv_J) (Y Z : ot_Y) (E : ot_E) (K : Option ot_Y) : Prop := ot_MG G 64 ∧ ot_MR I 64 Y ∧ ot_YW Y ∧ ot_NR I J Z E ∧ ot_ZW Y Z ∧ ot_KM G I K ∧ ot_TM G ∧ ot_NM G
/-- answers that may be refusals: rc 0 fine, 2 .. 6 why not -/
def ot_neg (rc : Nat) : Int32 := match rc with
  | 2 => -2
  | 3 => -3
  | 4 => -4
  | 5 => -5
  | _ => -6
def ot_ans (rc : Nat) (v : Int32) : Int32 := if rc = 0 then v else ot_neg rc
def ot_rc (P : Prop) [Decidable P] : Nat := if P then 0 else 2
def ot_ref (Z : ot_Y) (j : Nat) : ot_Y := ot_put Z 6 (ot_set (Z 6) j (Z 6 j + 1))
def ot_zr (Z : ot_Y) (rc : Nat) : ot_Y := if rc = 0 then Z else ot_ref Z (rc - 2)
theorem ot_case {P : Prop} [Decidable P] {v : Int32} {Z : ot_Y} {motive : Int32 → ot_Y → Prop} (h1 : P → motive v Z) (h2 : ¬ P → motive (-2) (ot_ref Z 0)) : motive (ot_ans (ot_rc P) v) (ot_zr Z (ot_rc P)) := by
  unfold ot_ans ot_zr ot_rc
  by_cases h : P
  · rw [if_pos h, if_pos rfl, if_pos rfl]; exact h1 h
  · rw [if_neg h, if_neg (by decide), if_neg (by decide)]; exact h2 h
/-- what is the component's, and what the reference's: the other's cells stay -/
def ot_hi (I I2 : jv_I) (J J2 : jv_J) : Prop := ∀ q, 64 ≤ q → I2 q = I q ∧ J2 q = J q
def ot_lo (I I2 : jv_I) (J J2 : jv_J) : Prop := ∀ q, q < 64 → I2 q = I q ∧ J2 q = J q
theorem ot_hi.rf {I : jv_I} {J : jv_J} : ot_hi I I J J := fun _ _ => ⟨rfl, rfl⟩
theorem ot_lo.rf {I : jv_I} {J : jv_J} : ot_lo I I J J := fun _ _ => ⟨rfl, rfl⟩
theorem ot_hi.tr {I I1 I2 : jv_I} {J J1 J2 : jv_J} (h : ot_hi I I1 J J1) (h2 : ot_hi I1 I2 J1 J2) : ot_hi I I2 J J2 := fun q hq => ⟨(h2 q hq).1.trans (h q hq).1, (h2 q hq).2.trans (h q hq).2⟩
theorem ot_lo.tr {I I1 I2 : jv_I} {J J1 J2 : jv_J} (h : ot_lo I I1 J J1) (h2 : ot_lo I1 I2 J1 J2) : ot_lo I I2 J J2 := fun q hq => ⟨(h2 q hq).1.trans (h q hq).1, (h2 q hq).2.trans (h q hq).2⟩
theorem ot_hi.fr {I I2 : jv_I} {J : jv_J} {lo hi : Nat} (h : ot_fr I I2 lo hi) (hh : hi < 64) : ot_hi I I2 J J := fun q hq => ⟨h q (by omega), rfl⟩
theorem ot_lo.fr {I I2 : jv_I} {J : jv_J} {lo hi : Nat} (h : ot_fr I I2 lo hi) (hh : 64 ≤ lo) : ot_lo I I2 J J := fun q hq => ⟨h q (by omega), rfl⟩
section OTC
variable {G : jv_Gr} {I I2 : jv_I} {J J2 : jv_J} {Y Z : ot_Y} {E : ot_E} {K : Option ot_Y}
theorem ot_C.g (h : ot_C G I J Y Z E K) : ot_CG G := h.1
theorem ot_C.r (h : ot_C G I J Y Z E K) : ot_YR I 2 Y := h.2.1
theorem ot_C.w (h : ot_C G I J Y Z E K) : ot_YW Y := h.2.2.1
theorem ot_C.s (h : ot_C G I J Y Z E K) : ot_CR I J Z E := h.2.2.2.1
theorem ot_C.z (h : ot_C G I J Y Z E K) : ot_ZW Y Z := h.2.2.2.2.1
theorem ot_C.k (h : ot_C G I J Y Z E K) : ot_KC I K := h.2.2.2.2.2
theorem ck (h : ot_CG G) : jv_k G 1 = (4 + 10, 0) := h.1.1
theorem cr_now (h : ot_CG G) : jv_r G 1 0 = 2 := h.1.2.1
theorem cr_kept (h : ot_CG G) : jv_r G 1 1 = 14 := h.1.2.2.1
theorem cr_draft (h : ot_CG G) : jv_r G 1 2 = 26 := h.1.2.2.2.1
theorem cr_finder (h : ot_CG G) : jv_r G 1 3 = 38 := h.1.2.2.2.2.1
theorem cr_tape (h : ot_CG G) : jv_r G 1 4 = 44 := h.1.2.2.2.2.2.1
theorem cr_shelves (h : ot_CG G) : jv_r G 1 5 = 46 := h.1.2.2.2.2.2.2.1
theorem cr_refusals (h : ot_CG G) : jv_r G 1 6 = 47 := h.1.2.2.2.2.2.2.2
theorem cg_now (h : ot_CG G) : ot_YG G 2 := h.2.1.1
theorem cg_kept (h : ot_CG G) : ot_YG G 14 := h.2.1.2.1
theorem cg_draft (h : ot_CG G) : ot_YG G 26 := h.2.1.2.2
theorem fk (h : ot_CG G) : jv_k G 38 = (0 + 10, 0) := h.2.2.1.1
theorem fr_yard (h : ot_CG G) : jv_r G 38 0 = 2 := h.2.2.1.2.1
theorem fr_sides (h : ot_CG G) : jv_r G 38 1 = 39 := h.2.2.1.2.2.1
theorem fr_room (h : ot_CG G) : jv_r G 38 2 = 40 := h.2.2.1.2.2.2.1
theorem fr_taken (h : ot_CG G) : jv_r G 38 3 = 41 := h.2.2.1.2.2.2.2.1
theorem fr_ring (h : ot_CG G) : jv_r G 38 4 = 42 := h.2.2.1.2.2.2.2.2.1
theorem fr_leaving (h : ot_CG G) : jv_r G 38 5 = 43 := h.2.2.1.2.2.2.2.2.2
theorem fk_sides (h : ot_CG G) : jv_k G 39 = (0, 14) := h.2.2.2.1.1
theorem fk_room (h : ot_CG G) : jv_k G 40 = (0, 5) := h.2.2.2.1.2.1
theorem fk_taken (h : ot_CG G) : jv_k G 41 = (0, 5) := h.2.2.2.1.2.2.1
theorem fk_ring (h : ot_CG G) : jv_k G 42 = (0, 14) := h.2.2.2.1.2.2.2.1
theorem fk_leaving (h : ot_CG G) : jv_k G 43 = (0, 14) := h.2.2.2.1.2.2.2.2
theorem tk (h : ot_CG G) : jv_k G 44 = (2 + 10, 0) := h.2.2.2.2.1.1
theorem tr_bytes (h : ot_CG G) : jv_r G 44 0 = 45 := h.2.2.2.2.1.2.1
theorem tk_bytes (h : ot_CG G) : jv_k G 45 = (0, 250) := h.2.2.2.2.1.2.2.1
theorem ck_shelves (h : ot_CG G) : jv_k G 46 = (2, 8) := h.2.2.2.2.1.2.2.2.1
theorem ck_refusals (h : ot_CG G) : jv_k G 47 = (0, 5) := h.2.2.2.2.1.2.2.2.2
theorem cr_shelf (h : ot_CG G) {s : Nat} (hs : s < 8) : jv_r G 46 s = 48 + 2 * s := (h.2.2.2.2.2 s hs).1
theorem sk (h : ot_CG G) {s : Nat} (hs : s < 8) : jv_k G (48 + 2 * s) = (1 + 10, 0) := (h.2.2.2.2.2 s hs).2.1
theorem sr_elements (h : ot_CG G) {s : Nat} (hs : s < 8) : jv_r G (48 + 2 * s) 2 = 49 + 2 * s := (h.2.2.2.2.2 s hs).2.2.1
theorem sk_elements (h : ot_CG G) {s : Nat} (hs : s < 8) : jv_k G (49 + 2 * s) = (1, 40) := (h.2.2.2.2.2 s hs).2.2.2
theorem si_thing (h : ot_CR I J Z E) {s : Nat} (hs : s < 8) : I (48 + 2 * s) 0 = ot_thing Z s := (h.1 s hs).1
theorem si_length (h : ot_CR I J Z E) {s : Nat} (hs : s < 8) : I (48 + 2 * s) 1 = nI (ot_slen Z s) := (h.1 s hs).2.1
theorem ti_size (h : ot_CR I J Z E) : I 44 1 = nI (Z 4 0) := h.2.1.1
theorem te_bytes (h : ot_CR I J Z E) {i : Nat} (hi : i < Z 4 0) : I 45 i = nI (Z 5 i) := h.2.1.2 i hi
theorem ce_refusals (h : ot_CR I J Z E) {j : Nat} (hj : j < 5) : I 47 j = nI (Z 6 j) := h.2.2 j hj
/-- what the draft and the finder hold doesn't count, nor what the tape has read last -/
theorem ot_C_scratch (h : ot_C G I J Y Z E K) (hf : ∀ q, (q < 26 ∨ 43 < q) → q ≠ 44 → I2 q = I q) (h44 : I2 44 1 = I 44 1) : ot_C G I2 J Y Z E K := by
  obtain ⟨a, b, c, d, e, f⟩ := h
  refine ⟨a, ?_, c, ?_, e, ?_⟩
  · exact ot_YR_fr (lo := 26) (hi := 44) b (fun q hq => hf q (by omega) (by omega)) (by omega)
  · obtain ⟨d1, ⟨d2, d3⟩, d4⟩ := d
    refine ⟨fun s hs => ?_, ⟨by rw [h44]; exact d2, fun i hi => ?_⟩, fun j hj => ?_⟩
    · rw [hf (48 + 2 * s) (by omega) (by omega)]; exact d1 s hs
    · rw [hf 45 (by omega) (by omega)]; exact d3 i hi
    · rw [hf 47 (by omega) (by omega)]; exact d4 j hj
  · cases K with
    | none =>
      show I2 1 7 = nI 0
      rw [hf 1 (by omega) (by omega)]; exact f
    | some YK =>
      obtain ⟨f1, f2, f3⟩ := f
      refine ⟨?_, ?_, f3⟩
      · rw [hf 1 (by omega) (by omega)]; exact f1
      · exact ot_YR_fr (lo := 26) (hi := 44) f2 (fun q hq => hf q (by omega) (by omega)) (by omega)
theorem ot_ZW_ref {j : Nat} (h : ot_ZW Y Z) : ot_ZW Y (ot_ref Z j) := h
/-- a refusal is counted -/
theorem ot_C_ref (h : ot_C G I J Y Z E K) {j : Nat} (hj : j < 5) : ot_C G (jv_up I 47 j (nI (Z 6 j + 1))) J Y (ot_ref Z j) E K := by
  obtain ⟨a, b, c, d, e, f⟩ := h
  have hf : ∀ q, q ≠ 47 → jv_up I 47 j (nI (Z 6 j + 1)) q = I q := fun q hq => jv_up_ne _ _ _ hq
  refine ⟨a, ?_, c, ?_, e, ?_⟩
  · exact ot_YR_fr (lo := 47) (hi := 47) b (fun q hq => hf q (by omega)) (by omega)
  · obtain ⟨d1, ⟨d2, d3⟩, d4⟩ := d
    refine ⟨fun s hs => ?_, ⟨?_, fun i hi => ?_⟩, fun k hk => ?_⟩
    · rw [hf (48 + 2 * s) (by omega)]; exact d1 s hs
    · rw [hf 44 (by omega)]; exact d2
    · rw [hf 45 (by omega)]; exact d3 i hi
    · rw [jv_up_def, if_pos rfl]
      show _ = nI (ot_put Z 6 (ot_set (Z 6) j (Z 6 j + 1)) 6 k)
      rw [ot_put_at]
      unfold ot_set
      by_cases hkj : k = j
      · rw [if_pos hkj, if_pos hkj]
      · rw [if_neg hkj, if_neg hkj]; exact d4 k hk
  · cases K with
    | none => exact (congrFun (hf 1 (by omega)) 7).trans f
    | some YK =>
      obtain ⟨f1, f2, f3⟩ := f
      exact ⟨(congrFun (hf 1 (by omega)) 7).trans f1, ot_YR_fr (lo := 47) (hi := 47) f2 (fun q hq => hf q (by omega)) (by omega), f3⟩
theorem ot_M.g (h : ot_M G I J Y Z E K) : ot_MG G 64 := h.1
theorem ot_M.r (h : ot_M G I J Y Z E K) : ot_MR I 64 Y := h.2.1
theorem ot_M.w (h : ot_M G I J Y Z E K) : ot_YW Y := h.2.2.1
theorem ot_M.s (h : ot_M G I J Y Z E K) : ot_NR I J Z E := h.2.2.2.1
theorem ot_M.z (h : ot_M G I J Y Z E K) : ot_ZW Y Z := h.2.2.2.2.1
theorem ot_M.k (h : ot_M G I J Y Z E K) : ot_KM G I K := h.2.2.2.2.2.1
theorem ot_M.t (h : ot_M G I J Y Z E K) : ot_TM G := h.2.2.2.2.2.2.1
theorem ot_M.n (h : ot_M G I J Y Z E K) : ot_NM G := h.2.2.2.2.2.2.2
theorem ot_KM_fr {lo hi : Nat} (h : ot_KM G I K) (hf : ot_fr I I2 lo hi) (hh : hi < 94) : ot_KM G I2 K := by
  cases K with
  | none => exact h
  | some YK =>
    obtain ⟨h1, h2, h3, h4⟩ := h
    exact ⟨h1, h2, ot_MR_fr (lo := lo) (hi := hi) h3 hf (by omega), h4⟩
theorem ot_M_ref (h : ot_M G I J Y Z E K) {j : Nat} (hj : j < 5) : ot_M G (jv_up I 80 (j + 2) (nI (Z 6 j + 1))) J Y (ot_ref Z j) E K := by
  obtain ⟨a, b, c, d, e, f, g, n⟩ := h
  have hf : ∀ q, q ≠ 80 → jv_up I 80 (j + 2) (nI (Z 6 j + 1)) q = I q := fun q hq => jv_up_ne _ _ _ hq
  refine ⟨a, ?_, c, ?_, e, ot_KM_fr (lo := 80) (hi := 80) f (fun q hq => hf q (by omega)) (by omega), g, n⟩
  · obtain ⟨b1, b2, b3, b4⟩ := b
    unfold ot_MR
    rw [hf 64 (by omega), hf (64 + 17) (by omega), hf (64 + 18) (by omega), hf (64 + 19) (by omega), hf (64 + 20) (by omega), hf (64 + 21) (by omega), hf (64 + 22) (by omega), hf (64 + 23) (by omega), hf (64 + 24) (by omega), hf (64 + 25) (by omega), hf (64 + 26) (by omega)]
    exact ⟨b1, b2, b3, b4⟩
  · obtain ⟨d1, ⟨d2, d3⟩, d4⟩ := d
    refine ⟨fun s hs => ?_, ⟨?_, fun i hi => ?_⟩, fun k hk => ?_⟩
    · rw [hf 65 (by omega), hf 66 (by omega), hf 67 (by omega), hf 78 (by omega)]; exact d1 s hs
    · rw [hf 64 (by omega)]; exact d2
    · rw [hf 79 (by omega)]; exact d3 i hi
    · rw [jv_up_def, if_pos rfl]
      show _ = nI (ot_put Z 6 (ot_set (Z 6) j (Z 6 j + 1)) 6 k)
      rw [ot_put_at]
      unfold ot_set
      by_cases hkj : k = j
      · rw [if_pos (by omega), if_pos hkj]
      · rw [if_neg (by omega), if_neg hkj]; exact d4 k hk
end OTC
