/-! ===== the start ===== -/
theorem ot_overA {args : Array Value} {s : State} (h : (Cond.arrayOver (.array .long)).before args s = true) : ∃ comp c k, s.vm.classes[c]? = some k ∧ k.kind = .array comp (.array .long) ∧ s.vm.findClass ("[" ++ (FieldType.array .long).toString) = some c := by
  unfold Cond.before at h
  simp only [Cond.holds, Cond.value, beq_iff_eq] at h
  cases hc : s.vm.findClass (FieldType.array .long).toString with
  | none => simp [hc] at h
  | some comp =>
    simp only [hc, Option.bind_some, Option.bind_eq_some_iff, Option.map_eq_some_iff] at h
    obtain ⟨c, hi, k, hk, hb⟩ := h
    obtain ⟨hlt, hp, -⟩ := Array.findIdx?_eq_some_iff_getElem.mp hi
    have hkk : s.vm.classes[c] = k := (Array.getElem?_eq_some_iff.mp hk).2
    rw [hkk] at hp
    cases hkind : k.kind with
    | array component ty =>
      rw [hkind] at hb hp
      simp at hb hp
      exact ⟨component, c, k, hk, by rw [hkind, hb.1], hb.2⟩
    | _ => rw [hkind] at hb; simp at hb
theorem ot_arrT {s : State} {c comp : ClassId} {k : Class} {ty : FieldType} (h1 : s.vm.classes[c]? = some k) (h2 : k.kind = .array comp ty) : ArrOfT s c ty := fun _ _ => ⟨fun _ h => (by cases h), k, h1, comp, h2⟩
/-- the classes -/
theorem ot_known {args : Array Value} {s : State} (htg : ∀ w ∈ lw_tg, w.before args s = true) (hts : ∀ w ∈ lw_tbl, w.before args s = true) : ∃ (D : va_G) (cA : Nat → ClassId), va_K D vwCl (jv_tys cA) s := by
  obtain ⟨c0, i0, k0⟩ := u_known (C := RX0) (T := TX0) (N := 6) (n := 6) htg clX0.2.2.1 (htg _ clX0.2.2.2.2.2.2.1)
  obtain ⟨c1, i1, k1⟩ := u_known (C := RX1) (T := TX1) (N := 3) (n := 3) htg clX1.2.2.1 (htg _ clX1.2.2.2.2.2.2.1)
  obtain ⟨c2, i2, k2⟩ := u_known (C := RX2) (T := TX2) (N := 5) (n := 5) htg clX2.2.2.1 (htg _ clX2.2.2.2.2.2.2.1)
  obtain ⟨c3, i3, k3⟩ := u_known (C := RX3) (T := TX3) (N := 15) (n := 15) htg clX3.2.2.1 (htg _ clX3.2.2.2.2.2.2.1)
  obtain ⟨c4, i4, k4⟩ := u_known (C := RX4) (T := TX4) (N := 8) (n := 8) htg clX4.2.2.1 (htg _ clX4.2.2.2.2.2.2.1)
  obtain ⟨c5, i5, k5⟩ := u_known (C := RX5) (T := TX5) (N := 35) (n := 35) htg clX5.2.2.1 (htg _ clX5.2.2.2.2.2.2.1)
  obtain ⟨a0, q0, p0, f0, g0, h0⟩ := Cond.arrayClass_spec (htg _ ac_int)
  obtain ⟨a1, q1, p1, f1, g1, h1⟩ := Cond.arrayClass_spec (htg _ ac_long)
  obtain ⟨p2, a2, q2, e2, -, g2, h2, f2⟩ := Cond.arrayOver_spec (n := RX1) (hts _ (tb_1 (List.mem_of_getElem? (i := 150) rfl)))
  obtain ⟨p3, a3, q3, g3, h3, f3⟩ := ot_overA (hts _ (tb_4 (List.mem_of_getElem? (i := 152) rfl)))
  refine ⟨(fun k => match k with
    | 0 => c0
    | 1 => c1
    | 2 => c2
    | 3 => c3
    | 4 => c4
    | _ => c5, fun k => match k with
    | 0 => i0
    | 1 => i1
    | 2 => i2
    | 3 => i3
    | 4 => i4
    | _ => i5), fun k => match k with
    | 0 => a0
    | 1 => a1
    | 2 => a2
    | _ => a3, fun k q hq => ?_, fun k q hq => ?_⟩
  · match k, hq with
    | 0, hq => cases hq; exact k0
    | 1, hq => cases hq; exact k1
    | 2, hq => cases hq; exact k2
    | 3, hq => cases hq; exact k3
    | 4, hq => cases hq; exact k4
    | 5, hq => cases hq; exact k5
    | k + 6, hq => cases hq
  · match k, hq with
    | 0, hq => cases hq; exact ⟨ot_arrT g0 h0, f0⟩
    | 1, hq => cases hq; exact ⟨ot_arrT g1 h1, f1⟩
    | 2, hq => cases hq; exact ⟨ot_arrT g2 h2, q2, p2, g2, h2, e2, f2⟩
    | 3, hq => cases hq; exact ⟨ot_arrT g3 h3, f3⟩
    | k + 4, hq => cases hq
def ot_tm (i : Nat) : Term := Term.string "OneTwoOneTwo$Tape" (match i with
  | 0 => 53
  | 1 => 67
  | 2 => 75
  | 3 => 84
  | 4 => 86
  | _ => 91)
/-- what was there before the law began -/
theorem ot_env {b : Nat} {s : State} (hts : ∀ w ∈ lw_tbl, w.before #[Value.ref b] s = true) (hgv : (Jvm.Cond.and given_1 narrow_1).before #[Value.ref b] s = true) : ∃ adS : Nat → Nat, adS 400 = b ∧ jv_env s.heap.size adS s := by
  have hs := flat_of_before _ hgv
  have hA : ∀ a : Nat, a < s.heap.size → ¬ (fun q : Nat => s.heap.size ≤ q) a := fun a ha => Nat.not_le.mpr ha
  have hel : ∀ j : Nat, j < 6 → (Term.elem (Term.static "OneTwoOneTwo" "UNDER" "[I") (.int (Int32.ofNat j))).eval #[Value.ref b] s none [] s = some (.int (jv_under j)) := fun j hj => by
    match j, hj with
    | 0, _ => exact va_eqt (hs (Cond.eq (Term.elem (Term.static "OneTwoOneTwo" "UNDER" "[I") (Term.int 0)) (Term.int (-1))) (by decide +kernel))
    | 1, _ => exact va_eqt (hs (Cond.eq (Term.elem (Term.static "OneTwoOneTwo" "UNDER" "[I") (Term.int 1)) (Term.int (0))) (by decide +kernel))
    | 2, _ => exact va_eqt (hs (Cond.eq (Term.elem (Term.static "OneTwoOneTwo" "UNDER" "[I") (Term.int 2)) (Term.int (0))) (by decide +kernel))
    | 3, _ => exact va_eqt (hs (Cond.eq (Term.elem (Term.static "OneTwoOneTwo" "UNDER" "[I") (Term.int 3)) (Term.int (0))) (by decide +kernel))
    | 4, _ => exact va_eqt (hs (Cond.eq (Term.elem (Term.static "OneTwoOneTwo" "UNDER" "[I") (Term.int 4)) (Term.int (1))) (by decide +kernel))
    | 5, _ => exact va_eqt (hs (Cond.eq (Term.elem (Term.static "OneTwoOneTwo" "UNDER" "[I") (Term.int 5)) (Term.int (3))) (by decide +kernel))
  obtain ⟨tU, hU, hUT⟩ := va_Tof (tm := (Term.static "OneTwoOneTwo" "UNDER" "[I")) (ty := .int) (N := 6) (f := fun j => .int (jv_under j)) (A := fun q : Nat => s.heap.size ≤ q) (by decide) (hs (Cond.arrayOf (Term.static "OneTwoOneTwo" "UNDER" "[I") .int) (by decide +kernel)) (va_eqt (hs (Cond.eq (Term.length (Term.static "OneTwoOneTwo" "UNDER" "[I")) (Term.int 6)) (by decide +kernel))) hel hA
  have zU := va_Zof (A := fun q : Nat => s.heap.size ≤ q) (hts _ (tb_2 (List.mem_of_getElem? (i := 51) rfl))) (hts _ (tb_1 (List.mem_of_getElem? (i := 1) rfl))) hU hA
  have zC := va_Zof (A := fun q : Nat => s.heap.size ≤ q) (hts _ (tb_2 (List.mem_of_getElem? (i := 155) rfl))) (hts _ (tb_1 (List.mem_of_getElem? (i := 8) rfl))) (va_eqt (hs (Cond.eq (Term.static "java/lang/String" "COMPACT_STRINGS" "Z") (Term.int 1)) (by decide +kernel))) hA
  have zF := va_Zqof (A := fun q : Nat => s.heap.size ≤ q) (hts _ (tb_2 (List.mem_of_getElem? (i := 171) rfl))) (hts _ (tb_1 (List.mem_of_getElem? (i := 10) rfl))) (hs (Cond.isRef (Term.static "jdk/internal/util/Preconditions" "SIOOBE_FORMATTER" "Ljava/util/function/BiFunction;")) (by decide +kernel)) hA
  obtain ⟨tF, hF⟩ : ∃ tF : Nat, va_Z RJ3 "SIOOBE_FORMATTER" "Ljava/util/function/BiFunction;" .null (fun q : Nat => s.heap.size ≤ q) s s.heap ∨ va_Z RJ3 "SIOOBE_FORMATTER" "Ljava/util/function/BiFunction;" (.ref tF) (fun q : Nat => s.heap.size ≤ q) s s.heap := by
    rcases zF with z | ⟨tF, z⟩
    · exact ⟨0, .inl z⟩
    · exact ⟨tF, .inr z⟩
  have hel2 : ∀ i : Nat, i < 6 → ∀ j : Nat, j < jv_len.getD i 0 → (Cond.eq (.elem (.field (ot_tm i) "java/lang/String" "value" "[B") (.int (Int32.ofNat j))) (.int ((jv_byt.getD i []).getD j 0))).before #[Value.ref b] s = true := fun i hi j hj => by
    match i, hi with
    | 0, _ =>
      have hj : j < 5 := hj
      match j, hj with
      | 0, _ => exact hs (Cond.eq (Term.elem (Term.field (Term.string "OneTwoOneTwo$Tape" 53) "java/lang/String" "value" "[B") (Term.int 0)) (Term.int 99)) (by decide +kernel)
      | 1, _ => exact hs (Cond.eq (Term.elem (Term.field (Term.string "OneTwoOneTwo$Tape" 53) "java/lang/String" "value" "[B") (Term.int 1)) (Term.int 104)) (by decide +kernel)
      | 2, _ => exact hs (Cond.eq (Term.elem (Term.field (Term.string "OneTwoOneTwo$Tape" 53) "java/lang/String" "value" "[B") (Term.int 2)) (Term.int 105)) (by decide +kernel)
      | 3, _ => exact hs (Cond.eq (Term.elem (Term.field (Term.string "OneTwoOneTwo$Tape" 53) "java/lang/String" "value" "[B") (Term.int 3)) (Term.int 108)) (by decide +kernel)
      | 4, _ => exact hs (Cond.eq (Term.elem (Term.field (Term.string "OneTwoOneTwo$Tape" 53) "java/lang/String" "value" "[B") (Term.int 4)) (Term.int 100)) (by decide +kernel)
    | 1, _ =>
      have hj : j < 5 := hj
      match j, hj with
      | 0, _ => exact hs (Cond.eq (Term.elem (Term.field (Term.string "OneTwoOneTwo$Tape" 67) "java/lang/String" "value" "[B") (Term.int 0)) (Term.int 99)) (by decide +kernel)
      | 1, _ => exact hs (Cond.eq (Term.elem (Term.field (Term.string "OneTwoOneTwo$Tape" 67) "java/lang/String" "value" "[B") (Term.int 1)) (Term.int 111)) (by decide +kernel)
      | 2, _ => exact hs (Cond.eq (Term.elem (Term.field (Term.string "OneTwoOneTwo$Tape" 67) "java/lang/String" "value" "[B") (Term.int 2)) (Term.int 117)) (by decide +kernel)
      | 3, _ => exact hs (Cond.eq (Term.elem (Term.field (Term.string "OneTwoOneTwo$Tape" 67) "java/lang/String" "value" "[B") (Term.int 3)) (Term.int 110)) (by decide +kernel)
      | 4, _ => exact hs (Cond.eq (Term.elem (Term.field (Term.string "OneTwoOneTwo$Tape" 67) "java/lang/String" "value" "[B") (Term.int 4)) (Term.int 116)) (by decide +kernel)
    | 2, _ =>
      have hj : j < 4 := hj
      match j, hj with
      | 0, _ => exact hs (Cond.eq (Term.elem (Term.field (Term.string "OneTwoOneTwo$Tape" 75) "java/lang/String" "value" "[B") (Term.int 0)) (Term.int 119)) (by decide +kernel)
      | 1, _ => exact hs (Cond.eq (Term.elem (Term.field (Term.string "OneTwoOneTwo$Tape" 75) "java/lang/String" "value" "[B") (Term.int 1)) (Term.int 105)) (by decide +kernel)
      | 2, _ => exact hs (Cond.eq (Term.elem (Term.field (Term.string "OneTwoOneTwo$Tape" 75) "java/lang/String" "value" "[B") (Term.int 2)) (Term.int 116)) (by decide +kernel)
      | 3, _ => exact hs (Cond.eq (Term.elem (Term.field (Term.string "OneTwoOneTwo$Tape" 75) "java/lang/String" "value" "[B") (Term.int 3)) (Term.int 104)) (by decide +kernel)
    | 3, _ =>
      have hj : j < 7 := hj
      match j, hj with
      | 0, _ => exact hs (Cond.eq (Term.elem (Term.field (Term.string "OneTwoOneTwo$Tape" 84) "java/lang/String" "value" "[B") (Term.int 0)) (Term.int 119)) (by decide +kernel)
      | 1, _ => exact hs (Cond.eq (Term.elem (Term.field (Term.string "OneTwoOneTwo$Tape" 84) "java/lang/String" "value" "[B") (Term.int 1)) (Term.int 105)) (by decide +kernel)
      | 2, _ => exact hs (Cond.eq (Term.elem (Term.field (Term.string "OneTwoOneTwo$Tape" 84) "java/lang/String" "value" "[B") (Term.int 2)) (Term.int 116)) (by decide +kernel)
      | 3, _ => exact hs (Cond.eq (Term.elem (Term.field (Term.string "OneTwoOneTwo$Tape" 84) "java/lang/String" "value" "[B") (Term.int 3)) (Term.int 104)) (by decide +kernel)
      | 4, _ => exact hs (Cond.eq (Term.elem (Term.field (Term.string "OneTwoOneTwo$Tape" 84) "java/lang/String" "value" "[B") (Term.int 4)) (Term.int 111)) (by decide +kernel)
      | 5, _ => exact hs (Cond.eq (Term.elem (Term.field (Term.string "OneTwoOneTwo$Tape" 84) "java/lang/String" "value" "[B") (Term.int 5)) (Term.int 117)) (by decide +kernel)
      | 6, _ => exact hs (Cond.eq (Term.elem (Term.field (Term.string "OneTwoOneTwo$Tape" 84) "java/lang/String" "value" "[B") (Term.int 6)) (Term.int 116)) (by decide +kernel)
    | 4, _ =>
      have hj : j < 4 := hj
      match j, hj with
      | 0, _ => exact hs (Cond.eq (Term.elem (Term.field (Term.string "OneTwoOneTwo$Tape" 86) "java/lang/String" "value" "[B") (Term.int 0)) (Term.int 115)) (by decide +kernel)
      | 1, _ => exact hs (Cond.eq (Term.elem (Term.field (Term.string "OneTwoOneTwo$Tape" 86) "java/lang/String" "value" "[B") (Term.int 1)) (Term.int 119)) (by decide +kernel)
      | 2, _ => exact hs (Cond.eq (Term.elem (Term.field (Term.string "OneTwoOneTwo$Tape" 86) "java/lang/String" "value" "[B") (Term.int 2)) (Term.int 97)) (by decide +kernel)
      | 3, _ => exact hs (Cond.eq (Term.elem (Term.field (Term.string "OneTwoOneTwo$Tape" 86) "java/lang/String" "value" "[B") (Term.int 3)) (Term.int 112)) (by decide +kernel)
    | 5, _ =>
      have hj : j < 4 := hj
      match j, hj with
      | 0, _ => exact hs (Cond.eq (Term.elem (Term.field (Term.string "OneTwoOneTwo$Tape" 91) "java/lang/String" "value" "[B") (Term.int 0)) (Term.int 109)) (by decide +kernel)
      | 1, _ => exact hs (Cond.eq (Term.elem (Term.field (Term.string "OneTwoOneTwo$Tape" 91) "java/lang/String" "value" "[B") (Term.int 1)) (Term.int 111)) (by decide +kernel)
      | 2, _ => exact hs (Cond.eq (Term.elem (Term.field (Term.string "OneTwoOneTwo$Tape" 91) "java/lang/String" "value" "[B") (Term.int 2)) (Term.int 118)) (by decide +kernel)
      | 3, _ => exact hs (Cond.eq (Term.elem (Term.field (Term.string "OneTwoOneTwo$Tape" 91) "java/lang/String" "value" "[B") (Term.int 3)) (Term.int 101)) (by decide +kernel)
  have hne : ∀ i j : Nat, i < 6 → j < 6 → i ≠ j → (Cond.not (Cond.eq (ot_tm i) (ot_tm j))).before #[Value.ref b] s = true ∨ (Cond.not (Cond.eq (ot_tm j) (ot_tm i))).before #[Value.ref b] s = true := fun i j hi hj hij => by
    match i, hi, j, hj with
    | 0, _, 0, _ => exact absurd rfl hij
    | 0, _, 1, _ => exact .inl (hs (Cond.not (Cond.eq (Term.string "OneTwoOneTwo$Tape" 53) (Term.string "OneTwoOneTwo$Tape" 67))) (by decide +kernel))
    | 0, _, 2, _ => exact .inl (hs (Cond.not (Cond.eq (Term.string "OneTwoOneTwo$Tape" 53) (Term.string "OneTwoOneTwo$Tape" 75))) (by decide +kernel))
    | 0, _, 3, _ => exact .inl (hs (Cond.not (Cond.eq (Term.string "OneTwoOneTwo$Tape" 53) (Term.string "OneTwoOneTwo$Tape" 84))) (by decide +kernel))
    | 0, _, 4, _ => exact .inl (hs (Cond.not (Cond.eq (Term.string "OneTwoOneTwo$Tape" 53) (Term.string "OneTwoOneTwo$Tape" 86))) (by decide +kernel))
    | 0, _, 5, _ => exact .inl (hs (Cond.not (Cond.eq (Term.string "OneTwoOneTwo$Tape" 53) (Term.string "OneTwoOneTwo$Tape" 91))) (by decide +kernel))
    | 1, _, 0, _ => exact .inr (hs (Cond.not (Cond.eq (Term.string "OneTwoOneTwo$Tape" 53) (Term.string "OneTwoOneTwo$Tape" 67))) (by decide +kernel))
    | 1, _, 1, _ => exact absurd rfl hij
    | 1, _, 2, _ => exact .inl (hs (Cond.not (Cond.eq (Term.string "OneTwoOneTwo$Tape" 67) (Term.string "OneTwoOneTwo$Tape" 75))) (by decide +kernel))
    | 1, _, 3, _ => exact .inl (hs (Cond.not (Cond.eq (Term.string "OneTwoOneTwo$Tape" 67) (Term.string "OneTwoOneTwo$Tape" 84))) (by decide +kernel))
    | 1, _, 4, _ => exact .inl (hs (Cond.not (Cond.eq (Term.string "OneTwoOneTwo$Tape" 67) (Term.string "OneTwoOneTwo$Tape" 86))) (by decide +kernel))
    | 1, _, 5, _ => exact .inl (hs (Cond.not (Cond.eq (Term.string "OneTwoOneTwo$Tape" 67) (Term.string "OneTwoOneTwo$Tape" 91))) (by decide +kernel))
    | 2, _, 0, _ => exact .inr (hs (Cond.not (Cond.eq (Term.string "OneTwoOneTwo$Tape" 53) (Term.string "OneTwoOneTwo$Tape" 75))) (by decide +kernel))
    | 2, _, 1, _ => exact .inr (hs (Cond.not (Cond.eq (Term.string "OneTwoOneTwo$Tape" 67) (Term.string "OneTwoOneTwo$Tape" 75))) (by decide +kernel))
    | 2, _, 2, _ => exact absurd rfl hij
    | 2, _, 3, _ => exact .inl (hs (Cond.not (Cond.eq (Term.string "OneTwoOneTwo$Tape" 75) (Term.string "OneTwoOneTwo$Tape" 84))) (by decide +kernel))
    | 2, _, 4, _ => exact .inl (hs (Cond.not (Cond.eq (Term.string "OneTwoOneTwo$Tape" 75) (Term.string "OneTwoOneTwo$Tape" 86))) (by decide +kernel))
    | 2, _, 5, _ => exact .inl (hs (Cond.not (Cond.eq (Term.string "OneTwoOneTwo$Tape" 75) (Term.string "OneTwoOneTwo$Tape" 91))) (by decide +kernel))
    | 3, _, 0, _ => exact .inr (hs (Cond.not (Cond.eq (Term.string "OneTwoOneTwo$Tape" 53) (Term.string "OneTwoOneTwo$Tape" 84))) (by decide +kernel))
    | 3, _, 1, _ => exact .inr (hs (Cond.not (Cond.eq (Term.string "OneTwoOneTwo$Tape" 67) (Term.string "OneTwoOneTwo$Tape" 84))) (by decide +kernel))
    | 3, _, 2, _ => exact .inr (hs (Cond.not (Cond.eq (Term.string "OneTwoOneTwo$Tape" 75) (Term.string "OneTwoOneTwo$Tape" 84))) (by decide +kernel))
    | 3, _, 3, _ => exact absurd rfl hij
    | 3, _, 4, _ => exact .inl (hs (Cond.not (Cond.eq (Term.string "OneTwoOneTwo$Tape" 84) (Term.string "OneTwoOneTwo$Tape" 86))) (by decide +kernel))
    | 3, _, 5, _ => exact .inl (hs (Cond.not (Cond.eq (Term.string "OneTwoOneTwo$Tape" 84) (Term.string "OneTwoOneTwo$Tape" 91))) (by decide +kernel))
    | 4, _, 0, _ => exact .inr (hs (Cond.not (Cond.eq (Term.string "OneTwoOneTwo$Tape" 53) (Term.string "OneTwoOneTwo$Tape" 86))) (by decide +kernel))
    | 4, _, 1, _ => exact .inr (hs (Cond.not (Cond.eq (Term.string "OneTwoOneTwo$Tape" 67) (Term.string "OneTwoOneTwo$Tape" 86))) (by decide +kernel))
    | 4, _, 2, _ => exact .inr (hs (Cond.not (Cond.eq (Term.string "OneTwoOneTwo$Tape" 75) (Term.string "OneTwoOneTwo$Tape" 86))) (by decide +kernel))
    | 4, _, 3, _ => exact .inr (hs (Cond.not (Cond.eq (Term.string "OneTwoOneTwo$Tape" 84) (Term.string "OneTwoOneTwo$Tape" 86))) (by decide +kernel))
    | 4, _, 4, _ => exact absurd rfl hij
    | 4, _, 5, _ => exact .inl (hs (Cond.not (Cond.eq (Term.string "OneTwoOneTwo$Tape" 86) (Term.string "OneTwoOneTwo$Tape" 91))) (by decide +kernel))
    | 5, _, 0, _ => exact .inr (hs (Cond.not (Cond.eq (Term.string "OneTwoOneTwo$Tape" 53) (Term.string "OneTwoOneTwo$Tape" 91))) (by decide +kernel))
    | 5, _, 1, _ => exact .inr (hs (Cond.not (Cond.eq (Term.string "OneTwoOneTwo$Tape" 67) (Term.string "OneTwoOneTwo$Tape" 91))) (by decide +kernel))
    | 5, _, 2, _ => exact .inr (hs (Cond.not (Cond.eq (Term.string "OneTwoOneTwo$Tape" 75) (Term.string "OneTwoOneTwo$Tape" 91))) (by decide +kernel))
    | 5, _, 3, _ => exact .inr (hs (Cond.not (Cond.eq (Term.string "OneTwoOneTwo$Tape" 84) (Term.string "OneTwoOneTwo$Tape" 91))) (by decide +kernel))
    | 5, _, 4, _ => exact .inr (hs (Cond.not (Cond.eq (Term.string "OneTwoOneTwo$Tape" 86) (Term.string "OneTwoOneTwo$Tape" 91))) (by decide +kernel))
    | 5, _, 5, _ => exact absurd rfl hij
  have hex : ∀ i : Nat, i < 6 → (Cond.exactly (ot_tm i) "java/lang/String").before #[Value.ref b] s = true := fun i hi => by
    match i, hi with
    | 0, _ => exact hs (Cond.exactly (Term.string "OneTwoOneTwo$Tape" 53) "java/lang/String") (by decide +kernel)
    | 1, _ => exact hs (Cond.exactly (Term.string "OneTwoOneTwo$Tape" 67) "java/lang/String") (by decide +kernel)
    | 2, _ => exact hs (Cond.exactly (Term.string "OneTwoOneTwo$Tape" 75) "java/lang/String") (by decide +kernel)
    | 3, _ => exact hs (Cond.exactly (Term.string "OneTwoOneTwo$Tape" 84) "java/lang/String") (by decide +kernel)
    | 4, _ => exact hs (Cond.exactly (Term.string "OneTwoOneTwo$Tape" 86) "java/lang/String") (by decide +kernel)
    | 5, _ => exact hs (Cond.exactly (Term.string "OneTwoOneTwo$Tape" 91) "java/lang/String") (by decide +kernel)
  have hco : ∀ i : Nat, i < 6 → (Cond.eq (.field (ot_tm i) "java/lang/String" "coder" "B") (.int 0)).before #[Value.ref b] s = true := fun i hi => by
    match i, hi with
    | 0, _ => exact hs (Cond.eq (Term.field (Term.string "OneTwoOneTwo$Tape" 53) "java/lang/String" "coder" "B") (Term.int 0)) (by decide +kernel)
    | 1, _ => exact hs (Cond.eq (Term.field (Term.string "OneTwoOneTwo$Tape" 67) "java/lang/String" "coder" "B") (Term.int 0)) (by decide +kernel)
    | 2, _ => exact hs (Cond.eq (Term.field (Term.string "OneTwoOneTwo$Tape" 75) "java/lang/String" "coder" "B") (Term.int 0)) (by decide +kernel)
    | 3, _ => exact hs (Cond.eq (Term.field (Term.string "OneTwoOneTwo$Tape" 84) "java/lang/String" "coder" "B") (Term.int 0)) (by decide +kernel)
    | 4, _ => exact hs (Cond.eq (Term.field (Term.string "OneTwoOneTwo$Tape" 86) "java/lang/String" "coder" "B") (Term.int 0)) (by decide +kernel)
    | 5, _ => exact hs (Cond.eq (Term.field (Term.string "OneTwoOneTwo$Tape" 91) "java/lang/String" "coder" "B") (Term.int 0)) (by decide +kernel)
  have har : ∀ i : Nat, i < 6 → (Cond.arrayOf (.field (ot_tm i) "java/lang/String" "value" "[B") .byte).before #[Value.ref b] s = true := fun i hi => by
    match i, hi with
    | 0, _ => exact hs (Cond.arrayOf (Term.field (Term.string "OneTwoOneTwo$Tape" 53) "java/lang/String" "value" "[B") .byte) (by decide +kernel)
    | 1, _ => exact hs (Cond.arrayOf (Term.field (Term.string "OneTwoOneTwo$Tape" 67) "java/lang/String" "value" "[B") .byte) (by decide +kernel)
    | 2, _ => exact hs (Cond.arrayOf (Term.field (Term.string "OneTwoOneTwo$Tape" 75) "java/lang/String" "value" "[B") .byte) (by decide +kernel)
    | 3, _ => exact hs (Cond.arrayOf (Term.field (Term.string "OneTwoOneTwo$Tape" 84) "java/lang/String" "value" "[B") .byte) (by decide +kernel)
    | 4, _ => exact hs (Cond.arrayOf (Term.field (Term.string "OneTwoOneTwo$Tape" 86) "java/lang/String" "value" "[B") .byte) (by decide +kernel)
    | 5, _ => exact hs (Cond.arrayOf (Term.field (Term.string "OneTwoOneTwo$Tape" 91) "java/lang/String" "value" "[B") .byte) (by decide +kernel)
  have hle : ∀ i : Nat, i < 6 → (Cond.eq (.length (.field (ot_tm i) "java/lang/String" "value" "[B")) (.int (Int32.ofNat (jv_len.getD i 0)))).before #[Value.ref b] s = true := fun i hi => by
    match i, hi with
    | 0, _ => exact hs (Cond.eq (Term.length (Term.field (Term.string "OneTwoOneTwo$Tape" 53) "java/lang/String" "value" "[B")) (Term.int 5)) (by decide +kernel)
    | 1, _ => exact hs (Cond.eq (Term.length (Term.field (Term.string "OneTwoOneTwo$Tape" 67) "java/lang/String" "value" "[B")) (Term.int 5)) (by decide +kernel)
    | 2, _ => exact hs (Cond.eq (Term.length (Term.field (Term.string "OneTwoOneTwo$Tape" 75) "java/lang/String" "value" "[B")) (Term.int 4)) (by decide +kernel)
    | 3, _ => exact hs (Cond.eq (Term.length (Term.field (Term.string "OneTwoOneTwo$Tape" 84) "java/lang/String" "value" "[B")) (Term.int 7)) (by decide +kernel)
    | 4, _ => exact hs (Cond.eq (Term.length (Term.field (Term.string "OneTwoOneTwo$Tape" 86) "java/lang/String" "value" "[B")) (Term.int 4)) (by decide +kernel)
    | 5, _ => exact hs (Cond.eq (Term.length (Term.field (Term.string "OneTwoOneTwo$Tape" 91) "java/lang/String" "value" "[B")) (Term.int 4)) (by decide +kernel)
  obtain ⟨adK, adV, hS, hev⟩ := vk_Sof (tm := ot_tm) (len := jv_len) (byt := jv_byt) (N := 6) (A := fun q : Nat => s.heap.size ≤ q) (fun i hi => Nat.lt_trans (jv_len_ok i hi) (by decide)) hex hco har hle hel2 hne hA
  refine ⟨fun k => if k < 6 then adK k else if k = 100 then tU else if k = 300 then tF else if k = 400 then b else adV (k - 200), rfl, ?_⟩
  have e1 : ∀ i, i < 6 → (if i < 6 then adK i else if i = 100 then tU else if i = 300 then tF else if i = 400 then b else adV (i - 200)) = adK i := fun i hi => if_pos hi
  have e2 : ∀ i, i < 6 → (if 200 + i < 6 then adK (200 + i) else if 200 + i = 100 then tU else if 200 + i = 300 then tF else if 200 + i = 400 then b else adV (200 + i - 200)) = adV i := fun i hi => by
    rw [if_neg (by omega), if_neg (by omega), if_neg (by omega), if_neg (by omega), show 200 + i - 200 = i by omega]
  have hS2 : vk_S 6 jv_len jv_byt (fun k => if k < 6 then adK k else if k = 100 then tU else if k = 300 then tF else if k = 400 then b else adV (k - 200)) (fun i => if 200 + i < 6 then adK (200 + i) else if 200 + i = 100 then tU else if 200 + i = 300 then tF else if 200 + i = 400 then b else adV (200 + i - 200)) (fun q : Nat => s.heap.size ≤ q) s s.heap := by
    refine ⟨fun i hi => ?_, fun i j hi hj hij => ?_⟩
    · have q := hS.1 i hi
      dsimp only
      rw [e1 i hi, e2 i hi]
      exact q
    · dsimp only at hij
      rw [e1 i hi, e1 j hj] at hij
      exact hS.2 i j hi hj hij
  have hR : ∀ q ∈ jv_strs, vk_R q.1 q.2.1 q.2.2.1 (adK q.2.2.2) s := List.forall_mem_cons.mpr ⟨vk_R.of (hts _ (tb_2 (List.mem_of_getElem? (i := 141) rfl))) (hev 0 (by decide)), List.forall_mem_cons.mpr ⟨vk_R.of (hts _ (tb_2 (List.mem_of_getElem? (i := 204) rfl))) (hev 1 (by decide)), List.forall_mem_cons.mpr ⟨vk_R.of (hts _ (tb_2 (List.mem_of_getElem? (i := 210) rfl))) (hev 2 (by decide)), List.forall_mem_cons.mpr ⟨vk_R.of (hts _ (tb_2 (List.mem_of_getElem? (i := 216) rfl))) (hev 3 (by decide)), List.forall_mem_cons.mpr ⟨vk_R.of (hts _ (tb_2 (List.mem_of_getElem? (i := 217) rfl))) (hev 4 (by decide)), List.forall_mem_cons.mpr ⟨vk_R.of (hts _ (tb_2 (List.mem_of_getElem? (i := 230) rfl))) (hev 5 (by decide)), List.forall_mem_cons.mpr ⟨vk_R.of (hts _ (tb_5 (List.mem_of_getElem? (i := 164) rfl))) (va_eqR (hs (Cond.eq (Term.string "OneTwoOneTwo$Tape" 53) (Term.string "OneTwoOneTwoModel" 205)) (by decide +kernel)) (hev 0 (by decide))), List.forall_mem_cons.mpr ⟨vk_R.of (hts _ (tb_5 (List.mem_of_getElem? (i := 183) rfl))) (va_eqR (hs (Cond.eq (Term.string "OneTwoOneTwo$Tape" 67) (Term.string "OneTwoOneTwoModel" 211)) (by decide +kernel)) (hev 1 (by decide))), List.forall_mem_cons.mpr ⟨vk_R.of (hts _ (tb_5 (List.mem_of_getElem? (i := 184) rfl))) (va_eqR (hs (Cond.eq (Term.string "OneTwoOneTwo$Tape" 75) (Term.string "OneTwoOneTwoModel" 213)) (by decide +kernel)) (hev 2 (by decide))), List.forall_mem_cons.mpr ⟨vk_R.of (hts _ (tb_5 (List.mem_of_getElem? (i := 193) rfl))) (va_eqR (hs (Cond.eq (Term.string "OneTwoOneTwo$Tape" 84) (Term.string "OneTwoOneTwoModel" 218)) (by decide +kernel)) (hev 3 (by decide))), List.forall_mem_cons.mpr ⟨vk_R.of (hts _ (tb_5 (List.mem_of_getElem? (i := 194) rfl))) (va_eqR (hs (Cond.eq (Term.string "OneTwoOneTwo$Tape" 86) (Term.string "OneTwoOneTwoModel" 220)) (by decide +kernel)) (hev 4 (by decide))), List.forall_mem_cons.mpr ⟨vk_R.of (hts _ (tb_5 (List.mem_of_getElem? (i := 199) rfl))) (va_eqR (hs (Cond.eq (Term.string "OneTwoOneTwo$Tape" 91) (Term.string "OneTwoOneTwoModel" 225)) (by decide +kernel)) (hev 5 (by decide))), fun _ h => absurd h List.not_mem_nil⟩⟩⟩⟩⟩⟩⟩⟩⟩⟩⟩⟩
  have hk6 : ∀ q ∈ jv_strs, q.2.2.2 < 6 := by decide
  have hNs : ∀ q ∈ jv_nests, va_Nw (.methodLinkNest q.1 q.2.1 q.2.2.1 q.2.2.2) s := List.forall_mem_cons.mpr ⟨va_Nw.of rfl (hts _ (tb_1 (List.mem_of_getElem? (i := 23) rfl))), List.forall_mem_cons.mpr ⟨va_Nw.of rfl (hts _ (tb_1 (List.mem_of_getElem? (i := 128) rfl))), List.forall_mem_cons.mpr ⟨va_Nw.of rfl (hts _ (tb_1 (List.mem_of_getElem? (i := 152) rfl))), List.forall_mem_cons.mpr ⟨va_Nw.of rfl (hts _ (tb_1 (List.mem_of_getElem? (i := 229) rfl))), List.forall_mem_cons.mpr ⟨va_Nw.of rfl (hts _ (tb_2 (List.mem_of_getElem? (i := 29) rfl))), List.forall_mem_cons.mpr ⟨va_Nw.of rfl (hts _ (tb_2 (List.mem_of_getElem? (i := 202) rfl))), fun _ h => absurd h List.not_mem_nil⟩⟩⟩⟩⟩⟩
  refine ⟨zU, hUT, zC, hS2, fun q hq => ?_, hNs, va_AO.of (hts _ (tb_1 (List.mem_of_getElem? (i := 150) rfl))), hts _ (tb_4 (List.mem_of_getElem? (i := 152) rfl)), hF⟩
  dsimp only
  rw [e1 _ (hk6 q hq)]
  exact hR q hq
